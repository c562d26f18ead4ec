/-! THE CLASS: next, first, run, either, gather, keep -/
theorem nm_ok {cl vs lk hd so sz : Nat → Int32} {it : Nat → Int64} {lim : Int32} : ∀ (d a : Nat) (bg : Int32), (nm cl vs lk hd so sz it lim d a bg).1 = 0 → (nm cl vs lk hd so sz it lim d a bg).2.2.2.1 = 0 := by
  intro d
  induction d with
  | zero =>
    intro a bg
    by_cases h : bg = lim
    · simp [nm, h]
    · simp [nm, h]
  | succ d ih =>
    intro a bg
    rw [nm]
    split
    · simp
    · split
      · split
        · dsimp only
          intro z
          rw [if_pos z]
        · exact ih _ _
      · rename_i h1
        dsimp only
        intro z
        exact absurd z h1
theorem nm_bg {cl vs lk hd so sz : Nat → Int32} {it : Nat → Int64} {lim : Int32} : ∀ (d a : Nat) (bg : Int32), bg ≤ lim → (nm cl vs lk hd so sz it lim d a bg).2.2.1 ≤ lim := by
  intro d
  induction d with
  | zero => intro a bg h; exact h
  | succ d ih =>
    intro a bg h
    rw [nm]
    split
    · exact h
    · rename_i h0
      split
      · split
        · exact (bg_lt h h0).1
        · exact ih _ _ (bg_lt h h0).1
      · exact (bg_lt h h0).1
theorem pl_o {cl vs hd so sz : Nat → Int32} {it : Nat → Int64} {a : Nat} : ∃ j, j < 10 ∧ (pl cl vs hd so sz it a).1 = nI j := by
  unfold pl
  repeat' split
  all_goals first | exact ⟨0, by omega, rfl⟩ | exact ⟨1, by omega, rfl⟩ | exact ⟨2, by omega, rfl⟩ | exact ⟨6, by omega, rfl⟩ | exact ⟨7, by omega, rfl⟩
theorem tk_o {cl lk hd so sz : Nat → Int32} {it : Nat → Int64} {a : Nat} : ∃ j, j < 10 ∧ (tk cl lk hd so sz it a).1 = nI j := by
  unfold tk
  repeat' split
  all_goals first | exact ⟨0, by omega, rfl⟩ | exact ⟨1, by omega, rfl⟩ | exact ⟨3, by omega, rfl⟩ | (dsimp only; split <;> first | exact ⟨0, by omega, rfl⟩ | exact ⟨1, by omega, rfl⟩)
theorem nm_o {cl vs lk hd so sz : Nat → Int32} {it : Nat → Int64} {lim : Int32} : ∀ (d a : Nat) (bg : Int32), ∃ j, j < 10 ∧ (nm cl vs lk hd so sz it lim d a bg).1 = nI j := by
  intro d
  induction d with
  | zero =>
    intro a bg
    by_cases h : bg = lim
    · exact ⟨9, by omega, by simp [nm, h]; rfl⟩
    · exact ⟨8, by omega, by simp [nm, h]; rfl⟩
  | succ d ih =>
    intro a bg
    rw [nm]
    split
    · exact ⟨9, by omega, rfl⟩
    · split
      · split
        · exact pl_o
        · exact ih _ _
      · exact tk_o
theorem ow_eq (o t th ow : Int32) : (if o = 7 then (if o = 7 then t else th) else ow) = if o = 7 then t else ow := by
  by_cases h : o = 7 <;> simp [h]
theorem lin_pos {c : Int32} (h : lin c = true) : 0 ≤ c := by
  have h1 := ((linc c).mp h).1
  exact Int32.le_trans (by decide) (Int32.not_lt.mp h1)
set_option maxHeartbeats 4000000 in
set_option maxRecDepth 100000 in
theorem c_X3_next_n (l : Launch) {E : EV} {w : wo} {x st wk tl ta : Nat} {tf : Nat → Option Nat} {T Rw Ia : Nat → Nat} {F : Nat → Nat → Int64} {n : Nat} {cl vs lk hd : Nat → Int32} {nr : Nat} {so sz : Nat → Int32} {it : Nat → Int64} {oc ow bg dp : Int32} {td : Nat → Int32} {lim wou th : Int32} (R : Rc E w (x, st, wk, tl, ta, tf, T, Rw, Ia, F) (n, cl, vs, lk, hd, nr, so, sz, it, oc, ow, bg, dp, td) (lim, wou, th)) : ct_i l E yX3_next wsX3_next 94 0 0 [.ref wk, .null] w (fun r w' => r = 0 ∧ Rc E w' (x, st, wk, tl, ta, tf, T, Rw, Ia, F) (n, cl, vs, lk, hd, nr, so, sz, it, oc, ow, bg, 0, td) (lim, 1, th)) := by
  intro zz
  refine wo_body (Qc := fun A => va_Qi _ (wo_B E A) A) (ret := (some .int)) (by decide) rfl (Nat.le_of_ble_eq_true rfl) ?_
  intro p_ e_ s_ m_ args_ below_ meth_ code_ A_ ls S hret hlk hnm G hl
  have hl : lv_has ls 2 [(0, .ref wk), (1, .null)] := hl
  have hx := S.1
  have hb := S.2.1
  refine lv_aload_n hx hb dX3_next_0 rfl (lv_at hl 0 rfl) ?_
  refine lv_iconst (v := 0) hx hb dX3_next_1 (by decide) ?_
  refine g_put (fs' := [.ref st, .int lim, .int bg, .int 0, .int dp, .int th]) (ty := .int) (v := .int 0) S G (Rc_wk R) rfl tyX3 tyX3_ok nmX3 (by decide +kernel) 3 (by decide) (by decide +kernel) rfl (by decide +kernel) rfl rfl (Nat.le_of_ble_eq_true rfl) rfl dX3_next_2 (fun H locs G => ?_)
  obtain ⟨w, R, G⟩ := Rc_ex (Rc_p_wou R 0) G
  refine lv_aload_n hx hb dX3_next_5 rfl (lv_at hl 0 rfl) ?_
  refine lv_iconst (v := 0) hx hb dX3_next_6 (by decide) ?_
  refine g_put (fs' := [.ref st, .int lim, .int bg, .int 0, .int 0, .int th]) (ty := .int) (v := .int 0) S G (Rc_wk R) rfl tyX3 tyX3_ok nmX3 (by decide +kernel) 4 (by decide) (by decide +kernel) rfl (by decide +kernel) rfl rfl (Nat.le_of_ble_eq_true rfl) rfl dX3_next_7 (fun H locs G => ?_)
  obtain ⟨w, R, G⟩ := Rc_ex (Rc_p_dp R 0) G
  refine lv_aload_n hx hb dX3_next_10 rfl (lv_at hl 0 rfl) ?_
  refine lv_aload_nN hx hb dX3_next_11 rfl (lv_at hl 1 rfl) ?_
  refine lv_iconst (v := 0) hx hb dX3_next_12 (by decide) ?_
  refine g_Vi (n := 2) (rest := []) S G hl (c_X3_begin_n l 30 R 0) gX3_next_X3_begin rfl (by decide +kernel) (Rc_wk R) rfl rfl rfl (Nat.le_of_ble_eq_true rfl) ⟨Nat.le_of_ble_eq_true rfl, Nat.le_of_ble_eq_true rfl⟩ ⟨Nat.le_of_ble_eq_true rfl, Nat.le_of_ble_eq_true rfl⟩ dX3_next_13 ?_
  clear G; intro r_ w1 H locs hp G
  refine r_int S hret hlk G rfl (Nat.le_of_ble_eq_true rfl) (Nat.le_of_ble_eq_true rfl) dX3_next_16 ?_
  exact hp

set_option maxHeartbeats 4000000 in
set_option maxRecDepth 100000 in
theorem c_X3_next (l : Launch) {E : EV} {w : wo} {x st wk tl ta : Nat} {tf : Nat → Option Nat} {T Rw Ia : Nat → Nat} {F : Nat → Nat → Int64} {n : Nat} {cl vs lk hd : Nat → Int32} {nr : Nat} {so sz : Nat → Int32} {it : Nat → Int64} {oc ow bg dp : Int32} {td : Nat → Int32} {lim wou th : Int32} (R : Rc E w (x, st, wk, tl, ta, tf, T, Rw, Ia, F) (n, cl, vs, lk, hd, nr, so, sz, it, oc, ow, bg, dp, td) (lim, wou, th)) (K : Gd (n, cl, vs, lk, hd, nr, so, sz, it, oc, ow, bg, dp, td)) (hbl : bg ≤ lim) {a : Nat} (ha : a < n) : ct_i l E yX3_next wsX3_next 94 0 0 [.ref wk, .ref (T a)] w (fun r w' => ((nm cl vs lk hd so sz it lim 30 a bg).1 = 0 → r = (nm cl vs lk hd so sz it lim 30 a bg).2.1) ∧ Rc E w' (x, st, wk, tl, ta, tf, T, Rw, Ia, F) (n, cl, vs, lk, hd, nr, so, sz, it, oc, ow, (nm cl vs lk hd so sz it lim 30 a bg).2.2.1, (nm cl vs lk hd so sz it lim 30 a bg).2.2.2.1, td) (lim, (nm cl vs lk hd so sz it lim 30 a bg).1, if (nm cl vs lk hd so sz it lim 30 a bg).1 = 7 then (nm cl vs lk hd so sz it lim 30 a bg).2.2.2.2 else th)) := by
  intro zz
  refine wo_body (Qc := fun A => va_Qi _ (wo_B E A) A) (ret := (some .int)) (by decide) rfl (Nat.le_of_ble_eq_true rfl) ?_
  intro p_ e_ s_ m_ args_ below_ meth_ code_ A_ ls S hret hlk hnm G hl
  have hl : lv_has ls 2 [(0, .ref wk), (1, .ref (T a))] := hl
  have hx := S.1
  have hb := S.2.1
  refine lv_aload_n hx hb dX3_next_0 rfl (lv_at hl 0 rfl) ?_
  refine lv_iconst (v := 0) hx hb dX3_next_1 (by decide) ?_
  refine g_put (fs' := [.ref st, .int lim, .int bg, .int 0, .int dp, .int th]) (ty := .int) (v := .int 0) S G (Rc_wk R) rfl tyX3 tyX3_ok nmX3 (by decide +kernel) 3 (by decide) (by decide +kernel) rfl (by decide +kernel) rfl rfl (Nat.le_of_ble_eq_true rfl) rfl dX3_next_2 (fun H locs G => ?_)
  obtain ⟨w, R, G⟩ := Rc_ex (Rc_p_wou R 0) G
  refine lv_aload_n hx hb dX3_next_5 rfl (lv_at hl 0 rfl) ?_
  refine lv_iconst (v := 0) hx hb dX3_next_6 (by decide) ?_
  refine g_put (fs' := [.ref st, .int lim, .int bg, .int 0, .int 0, .int th]) (ty := .int) (v := .int 0) S G (Rc_wk R) rfl tyX3 tyX3_ok nmX3 (by decide +kernel) 4 (by decide) (by decide +kernel) rfl (by decide +kernel) rfl rfl (Nat.le_of_ble_eq_true rfl) rfl dX3_next_7 (fun H locs G => ?_)
  obtain ⟨w, R, G⟩ := Rc_ex (Rc_p_dp R 0) G
  refine lv_aload_n hx hb dX3_next_10 rfl (lv_at hl 0 rfl) ?_
  refine lv_aload_n hx hb dX3_next_11 rfl (lv_at hl 1 rfl) ?_
  refine lv_iconst (v := 0) hx hb dX3_next_12 (by decide) ?_
  refine g_Vi (n := 2) (rest := []) S G hl (c_X3_begin l E 30 R K hbl ha (show 0 + 30 = 30 by omega) (uv := 0) rfl) gX3_next_X3_begin rfl (by decide +kernel) (Rc_wk R) rfl rfl rfl (Nat.le_of_ble_eq_true rfl) ⟨Nat.le_of_ble_eq_true rfl, Nat.le_of_ble_eq_true rfl⟩ ⟨Nat.le_of_ble_eq_true rfl, Nat.le_of_ble_eq_true rfl⟩ dX3_next_13 ?_
  clear G; intro r_ w1 H locs hp G
  refine r_int S hret hlk G rfl (Nat.le_of_ble_eq_true rfl) (Nat.le_of_ble_eq_true rfl) dX3_next_16 ?_
  obtain ⟨h1, R⟩ := hp
  refine ⟨h1, ?_⟩
  by_cases q : (nm cl vs lk hd so sz it lim 30 a bg).1 = 0
  · have q2 := nm_ok 30 a bg q
    rw [if_pos q, if_pos q] at R
    rw [q2]
    rw [q] at R ⊢
    exact R
  · rw [if_neg q, if_neg q] at R
    exact R

set_option maxHeartbeats 4000000 in
set_option maxRecDepth 100000 in
theorem c_X3_first_n (l : Launch) {E : EV} {w : wo} {x st wk tl ta : Nat} {tf : Nat → Option Nat} {T Rw Ia : Nat → Nat} {F : Nat → Nat → Int64} {n : Nat} {cl vs lk hd : Nat → Int32} {nr : Nat} {so sz : Nat → Int32} {it : Nat → Int64} {oc ow bg dp : Int32} {td : Nat → Int32} {lim wou th : Int32} (R : Rc E w (x, st, wk, tl, ta, tf, T, Rw, Ia, F) (n, cl, vs, lk, hd, nr, so, sz, it, oc, ow, bg, dp, td) (lim, wou, th)) (mo : Int32) : ct_i l E yX3_first wsX3_first 95 0 0 [.ref wk, .null, .int mo] w (fun r w' => r = 0 ∧ Rc E w' (x, st, wk, tl, ta, tf, T, Rw, Ia, F) (n, cl, vs, lk, hd, nr, so, sz, it, oc, ow, 0, 0, td) (mo, 1, th)) := by
  intro zz
  refine wo_body (Qc := fun A => va_Qi _ (wo_B E A) A) (ret := (some .int)) (by decide) rfl (Nat.le_of_ble_eq_true rfl) ?_
  intro p_ e_ s_ m_ args_ below_ meth_ code_ A_ ls S hret hlk hnm G hl
  have hl : lv_has ls 3 [(0, .ref wk), (1, .null), (2, .int mo)] := hl
  have hx := S.1
  have hb := S.2.1
  refine lv_aload_n hx hb dX3_first_0 rfl (lv_at hl 0 rfl) ?_
  refine lv_iload_n hx hb dX3_first_1 rfl (lv_at hl 2 rfl) ?_
  refine g_put (fs' := [.ref st, .int mo, .int bg, .int wou, .int dp, .int th]) (ty := .int) (v := .int mo) S G (Rc_wk R) rfl tyX3 tyX3_ok nmX3 (by decide +kernel) 1 (by decide) (by decide +kernel) rfl (by decide +kernel) rfl rfl (Nat.le_of_ble_eq_true rfl) rfl dX3_first_2 (fun H locs G => ?_)
  obtain ⟨w, R, G⟩ := Rc_ex (Rc_p_lim R mo) G
  refine lv_aload_n hx hb dX3_first_5 rfl (lv_at hl 0 rfl) ?_
  refine lv_iconst (v := 0) hx hb dX3_first_6 (by decide) ?_
  refine g_put (fs' := [.ref st, .int mo, .int 0, .int wou, .int dp, .int th]) (ty := .int) (v := .int 0) S G (Rc_wk R) rfl tyX3 tyX3_ok nmX3 (by decide +kernel) 2 (by decide) (by decide +kernel) rfl (by decide +kernel) rfl rfl (Nat.le_of_ble_eq_true rfl) rfl dX3_first_7 (fun H locs G => ?_)
  obtain ⟨w, R, G⟩ := Rc_ex (Rc_p_bg R 0) G
  refine lv_aload_n hx hb dX3_first_10 rfl (lv_at hl 0 rfl) ?_
  refine lv_aload_nN hx hb dX3_first_11 rfl (lv_at hl 1 rfl) ?_
  refine g_Vi (n := 1) (rest := []) S G hl (c_X3_next_n l R) gX3_first_X3_next rfl (by decide +kernel) (Rc_wk R) rfl rfl rfl (Nat.le_of_ble_eq_true rfl) ⟨Nat.le_of_ble_eq_true rfl, Nat.le_of_ble_eq_true rfl⟩ ⟨Nat.le_of_ble_eq_true rfl, Nat.le_of_ble_eq_true rfl⟩ dX3_first_12 ?_
  clear G; intro r_ w1 H locs hp G
  refine r_int S hret hlk G rfl (Nat.le_of_ble_eq_true rfl) (Nat.le_of_ble_eq_true rfl) dX3_first_15 ?_
  exact hp

set_option maxHeartbeats 4000000 in
set_option maxRecDepth 100000 in
theorem c_X3_first (l : Launch) {E : EV} {w : wo} {x st wk tl ta : Nat} {tf : Nat → Option Nat} {T Rw Ia : Nat → Nat} {F : Nat → Nat → Int64} {n : Nat} {cl vs lk hd : Nat → Int32} {nr : Nat} {so sz : Nat → Int32} {it : Nat → Int64} {oc ow bg dp : Int32} {td : Nat → Int32} {lim wou th : Int32} (R : Rc E w (x, st, wk, tl, ta, tf, T, Rw, Ia, F) (n, cl, vs, lk, hd, nr, so, sz, it, oc, ow, bg, dp, td) (lim, wou, th)) (K : Gd (n, cl, vs, lk, hd, nr, so, sz, it, oc, ow, bg, dp, td)) {a : Nat} (ha : a < n) {mo : Int32} (hbl : 0 ≤ mo) : ct_i l E yX3_first wsX3_first 95 0 0 [.ref wk, .ref (T a), .int mo] w (fun r w' => ((nm cl vs lk hd so sz it mo 30 a 0).1 = 0 → r = (nm cl vs lk hd so sz it mo 30 a 0).2.1) ∧ Rc E w' (x, st, wk, tl, ta, tf, T, Rw, Ia, F) (n, cl, vs, lk, hd, nr, so, sz, it, oc, ow, (nm cl vs lk hd so sz it mo 30 a 0).2.2.1, (nm cl vs lk hd so sz it mo 30 a 0).2.2.2.1, td) (mo, (nm cl vs lk hd so sz it mo 30 a 0).1, if (nm cl vs lk hd so sz it mo 30 a 0).1 = 7 then (nm cl vs lk hd so sz it mo 30 a 0).2.2.2.2 else th)) := by
  intro zz
  refine wo_body (Qc := fun A => va_Qi _ (wo_B E A) A) (ret := (some .int)) (by decide) rfl (Nat.le_of_ble_eq_true rfl) ?_
  intro p_ e_ s_ m_ args_ below_ meth_ code_ A_ ls S hret hlk hnm G hl
  have hl : lv_has ls 3 [(0, .ref wk), (1, .ref (T a)), (2, .int mo)] := hl
  have hx := S.1
  have hb := S.2.1
  refine lv_aload_n hx hb dX3_first_0 rfl (lv_at hl 0 rfl) ?_
  refine lv_iload_n hx hb dX3_first_1 rfl (lv_at hl 2 rfl) ?_
  refine g_put (fs' := [.ref st, .int mo, .int bg, .int wou, .int dp, .int th]) (ty := .int) (v := .int mo) S G (Rc_wk R) rfl tyX3 tyX3_ok nmX3 (by decide +kernel) 1 (by decide) (by decide +kernel) rfl (by decide +kernel) rfl rfl (Nat.le_of_ble_eq_true rfl) rfl dX3_first_2 (fun H locs G => ?_)
  obtain ⟨w, R, G⟩ := Rc_ex (Rc_p_lim R mo) G
  refine lv_aload_n hx hb dX3_first_5 rfl (lv_at hl 0 rfl) ?_
  refine lv_iconst (v := 0) hx hb dX3_first_6 (by decide) ?_
  refine g_put (fs' := [.ref st, .int mo, .int 0, .int wou, .int dp, .int th]) (ty := .int) (v := .int 0) S G (Rc_wk R) rfl tyX3 tyX3_ok nmX3 (by decide +kernel) 2 (by decide) (by decide +kernel) rfl (by decide +kernel) rfl rfl (Nat.le_of_ble_eq_true rfl) rfl dX3_first_7 (fun H locs G => ?_)
  obtain ⟨w, R, G⟩ := Rc_ex (Rc_p_bg R 0) G
  refine lv_aload_n hx hb dX3_first_10 rfl (lv_at hl 0 rfl) ?_
  refine lv_aload_n hx hb dX3_first_11 rfl (lv_at hl 1 rfl) ?_
  refine g_Vi (n := 1) (rest := []) S G hl (c_X3_next l R K hbl ha) gX3_first_X3_next rfl (by decide +kernel) (Rc_wk R) rfl rfl rfl (Nat.le_of_ble_eq_true rfl) ⟨Nat.le_of_ble_eq_true rfl, Nat.le_of_ble_eq_true rfl⟩ ⟨Nat.le_of_ble_eq_true rfl, Nat.le_of_ble_eq_true rfl⟩ dX3_first_12 ?_
  clear G; intro r_ w1 H locs hp G
  refine r_int S hret hlk G rfl (Nat.le_of_ble_eq_true rfl) (Nat.le_of_ble_eq_true rfl) dX3_first_15 ?_
  exact hp

set_option maxHeartbeats 4000000 in
set_option maxRecDepth 100000 in
theorem C_run (l : Launch) {E : EV} {w : wo} {x : Nat} {σ : ST} (X : RcX E w x σ) (K : Gd σ) (t : Int32) (li : Int32) : ct_i l E yX4_run wsX4_run 96 0 0 [.ref x, .int t, .int li] w (fun r w' => r = (S_run t li σ).1 ∧ RcX E w' x (S_run t li σ).2) := by
  obtain ⟨st, wk, tl, ta, tf, T, Rw, Ia, F, ⟨lim, wou, th⟩, R⟩ := X
  obtain ⟨n, cl, vs, lk, hd, nr, so, sz, it, oc, ow, bg, dp, td⟩ := σ
  have K9 := K
  obtain ⟨Kn, Kr, Kc, Kl, Kh, Ks, Kz, Ki⟩ := K9
  intro zz
  refine wo_body (Qc := fun A => va_Qi _ (wo_B E A) A) (ret := (some .int)) (by decide) rfl (Nat.le_of_ble_eq_true rfl) ?_
  intro p_ e_ s_ m_ args_ below_ meth_ code_ A_ ls S hret hlk hnm G hl
  have hl : lv_has ls 5 [(0, .ref x), (1, .int t), (2, .int li)] := hl
  have hx := S.1
  have hb := S.2.1
  refine lv_aload_n hx hb dX4_run_0 rfl (lv_at hl 0 rfl) ?_
  refine g_get S G (Rc_x R) rfl (by decide +kernel) 0 (by decide) (by decide +kernel) rfl dX4_run_1 ?_
  refine lv_iload_n hx hb dX4_run_4 rfl (lv_at hl 1 rfl) ?_
  rcases tin_c n t (by omega) with ⟨tk1, ok1⟩ | ⟨k1, hk1, ek1⟩
  · skip
    refine g_Vq (n := 1) (rest := []) S G hl (c_X1_find_n l R Kn ok1) gX4_run_X1_find rfl (by decide +kernel) (Rc_st R) rfl rfl rfl (Nat.le_of_ble_eq_true rfl) ⟨Nat.le_of_ble_eq_true rfl, Nat.le_of_ble_eq_true rfl⟩ ⟨Nat.le_of_ble_eq_true rfl, Nat.le_of_ble_eq_true rfl⟩ dX4_run_5 ?_
    clear G; intro r_ w1 H locs hp G
    obtain ⟨rfl, rfl⟩ := hp
    refine W.eq (g2 := F0 m_ 8 ls [.null]) rfl ?_
    refine lv_astore_nN (lv' := [(3, .null), (0, .ref x), (1, .int t), (2, .int li)]) hx hb dX4_run_8 rfl hl (by decide) rfl (fun ls hl => ?_)
    refine lv_aload_nN hx hb dX4_run_9 rfl (lv_at hl 0 rfl) ?_
    refine lv_ifnullN (tgt := 20) hx hb dX4_run_10 (by decide) ?_
    refine lv_ldc hx hb S.2.2.2.1 (S.2.2.2.2 (.constant RX4 33 (-2000000001)) (by decide +kernel)) dX4_run_20 ?_
    refine r_int S hret hlk G rfl (Nat.le_of_ble_eq_true rfl) (Nat.le_of_ble_eq_true rfl) dX4_run_22 ?_
    refine ⟨by simp only [S_run, tk1, n_of, lk_of, vs_of, hd_of, nmS, s_end, put_vs, put_it, ↓reduceIte, Bool.false_eq_true, pk_us, and_self], ?_⟩
    simp only [S_run, tk1, n_of, lk_of, vs_of, hd_of, nmS, s_end, put_vs, put_it, ↓reduceIte, Bool.false_eq_true, pk_us, and_self]
    exact ⟨_, _, _, _, _, _, _, _, _, _, R⟩
  · skip
    refine g_Vq (n := 1) (rest := []) S G hl (c_X1_find_y l R Kn ek1 hk1) gX4_run_X1_find rfl (by decide +kernel) (Rc_st R) rfl rfl rfl (Nat.le_of_ble_eq_true rfl) ⟨Nat.le_of_ble_eq_true rfl, Nat.le_of_ble_eq_true rfl⟩ ⟨Nat.le_of_ble_eq_true rfl, Nat.le_of_ble_eq_true rfl⟩ dX4_run_5 ?_
    clear G; intro r_ w1 H locs hp G
    obtain ⟨rfl, rfl⟩ := hp
    refine W.eq (g2 := F0 m_ 8 ls [.ref (T k1)]) rfl ?_
    refine lv_astore_n (lv' := [(3, .ref (T k1)), (0, .ref x), (1, .int t), (2, .int li)]) hx hb dX4_run_8 rfl hl (by decide) rfl (fun ls hl => ?_)
    refine lv_aload_n hx hb dX4_run_9 rfl (lv_at hl 0 rfl) ?_
    refine lv_ifnull hx hb dX4_run_10 ?_
    refine lv_iload_n hx hb dX4_run_13 rfl (lv_at hl 3 rfl) ?_
    by_cases ql : lin li = true
    · skip
      refine g_Si (n := 1) (rest := []) S G hl (c_X4_isLimit l li) gX4_run_X4_isLimit rfl (by decide +kernel) rfl rfl (Nat.le_of_ble_eq_true rfl) ⟨Nat.le_of_ble_eq_true rfl, Nat.le_of_ble_eq_true rfl⟩ ⟨Nat.le_of_ble_eq_true rfl, Nat.le_of_ble_eq_true rfl⟩ dX4_run_14 ?_
      clear G; intro r_ w1 H locs hp G
      obtain ⟨rfl, hq_⟩ := hp
      rw [if_pos ql] at hq_
      subst hq_
      refine lv_if_ne (tgt := 23) hx hb dX4_run_17 (by decide) (fun c2 => ?_) (fun c2 => absurd c2 (by decide))
      refine lv_aload_n hx hb dX4_run_23 rfl (lv_at hl 1 rfl) ?_
      refine g_get S G (Rc_x R) rfl (by decide +kernel) 1 (by decide) (by decide +kernel) rfl dX4_run_24 ?_
      refine lv_aload_n hx hb dX4_run_27 rfl (lv_at hl 0 rfl) ?_
      refine lv_iload_n hx hb dX4_run_28 rfl (lv_at hl 3 rfl) ?_
      refine g_Vi (n := 2) (rest := []) S G hl (c_X3_first l R K hk1 (lin_pos ql)) gX4_run_X3_first rfl (by decide +kernel) (Rc_wk R) rfl rfl rfl (Nat.le_of_ble_eq_true rfl) ⟨Nat.le_of_ble_eq_true rfl, Nat.le_of_ble_eq_true rfl⟩ ⟨Nat.le_of_ble_eq_true rfl, Nat.le_of_ble_eq_true rfl⟩ dX4_run_29 ?_
      clear G; intro v3 w1 H locs hp G
      have hoq4 := nm_o (cl := cl) (vs := vs) (lk := lk) (hd := hd) (so := so) (sz := sz) (it := it) (lim := li) 30 k1 0
      have hbq4 := nm_bg (cl := cl) (vs := vs) (lk := lk) (hd := hd) (so := so) (sz := sz) (it := it) (lim := li) 30 k1 0 (lin_pos ql)
      generalize hQq4 : nm cl vs lk hd so sz it li 30 k1 0 = q4 at hp hoq4 hbq4
      obtain ⟨oq4, rq4, bq4, dq4, tq4⟩ := q4
      obtain ⟨hv3, R⟩ := hp
      dsimp only at hv3 R hoq4 hbq4
      obtain ⟨jq4, hjq4, ejq4⟩ := hoq4
      refine lv_istore (lv' := [(4, .int v3), (3, .ref (T k1)), (0, .ref x), (1, .int t), (2, .int li)]) hx hb dX4_run_32 hl (by decide) rfl (fun ls hl => ?_)
      refine lv_aload_n hx hb dX4_run_34 rfl (lv_at hl 2 rfl) ?_
      refine lv_aload_n hx hb dX4_run_35 rfl (lv_at hl 2 rfl) ?_
      refine g_get S G (Rc_x R) rfl (by decide +kernel) 1 (by decide) (by decide +kernel) rfl dX4_run_36 ?_
      refine g_get S G (Rc_wk R) rfl (by decide +kernel) 3 (by decide) (by decide +kernel) rfl dX4_run_39 ?_
      refine g_Vi (n := 1) (rest := []) S G hl (c_X4_tell l R (o := oq4) ejq4 hjq4) gX4_run_X4_tell rfl (by decide +kernel) (Rc_x R) rfl rfl rfl (Nat.le_of_ble_eq_true rfl) ⟨Nat.le_of_ble_eq_true rfl, Nat.le_of_ble_eq_true rfl⟩ ⟨Nat.le_of_ble_eq_true rfl, Nat.le_of_ble_eq_true rfl⟩ dX4_run_42 ?_
      clear G; intro r_ w1 H locs hp G
      obtain ⟨hr_, R⟩ := hp
      subst r_
      refine lv_if_ne (tgt := 53) hx hb dX4_run_45 (by decide) (fun c5 => ?_) (fun c5 => ?_)
      · skip
        refine lv_iconst (v := 0) hx hb dX4_run_53 (by decide) ?_
        refine r_int S hret hlk G rfl (Nat.le_of_ble_eq_true rfl) (Nat.le_of_ble_eq_true rfl) dX4_run_54 ?_
        have yk1 := tin_e ek1 hk1 (show n ≤ 1000 by omega)
        have zk1 := cn_e ek1 (show k1 < 1000 by omega)
        rw [ow_eq] at R
        refine ⟨by simp only [S_run, yk1, zk1, ql, hQq4, n_of, lk_of, vs_of, hd_of, nmS, s_end, put_vs, put_it, ↓reduceIte, Bool.false_eq_true, pk_us, and_self, c5], ?_⟩
        simp only [S_run, yk1, zk1, ql, hQq4, n_of, lk_of, vs_of, hd_of, nmS, s_end, put_vs, put_it, ↓reduceIte, Bool.false_eq_true, pk_us, and_self]
        exact ⟨_, _, _, _, _, _, _, _, _, _, R⟩
      · skip
        refine lv_iload hx hb dX4_run_48 (lv_at hl 0 rfl) ?_
        refine lv_goto (tgt := 54) hx hb dX4_run_50 (by decide) ?_
        refine r_int S hret hlk G rfl (Nat.le_of_ble_eq_true rfl) (Nat.le_of_ble_eq_true rfl) dX4_run_54 ?_
        have yk1 := tin_e ek1 hk1 (show n ≤ 1000 by omega)
        have zk1 := cn_e ek1 (show k1 < 1000 by omega)
        rw [ow_eq] at R
        refine ⟨by simp only [S_run, yk1, zk1, ql, hQq4, n_of, lk_of, vs_of, hd_of, nmS, s_end, put_vs, put_it, ↓reduceIte, Bool.false_eq_true, pk_us, and_self]; rw [if_pos c5]; exact hv3 c5, ?_⟩
        simp only [S_run, yk1, zk1, ql, hQq4, n_of, lk_of, vs_of, hd_of, nmS, s_end, put_vs, put_it, ↓reduceIte, Bool.false_eq_true, pk_us, and_self]
        exact ⟨_, _, _, _, _, _, _, _, _, _, R⟩
    · skip
      refine g_Si (n := 1) (rest := []) S G hl (c_X4_isLimit l li) gX4_run_X4_isLimit rfl (by decide +kernel) rfl rfl (Nat.le_of_ble_eq_true rfl) ⟨Nat.le_of_ble_eq_true rfl, Nat.le_of_ble_eq_true rfl⟩ ⟨Nat.le_of_ble_eq_true rfl, Nat.le_of_ble_eq_true rfl⟩ dX4_run_14 ?_
      clear G; intro r_ w1 H locs hp G
      obtain ⟨rfl, hq_⟩ := hp
      rw [if_neg ql] at hq_
      subst hq_
      refine lv_if_ne (tgt := 23) hx hb dX4_run_17 (by decide) (fun c6 => absurd (by decide) c6) (fun c6 => ?_)
      refine lv_ldc hx hb S.2.2.2.1 (S.2.2.2.2 (.constant RX4 33 (-2000000001)) (by decide +kernel)) dX4_run_20 ?_
      refine r_int S hret hlk G rfl (Nat.le_of_ble_eq_true rfl) (Nat.le_of_ble_eq_true rfl) dX4_run_22 ?_
      have yk1 := tin_e ek1 hk1 (show n ≤ 1000 by omega)
      have zk1 := cn_e ek1 (show k1 < 1000 by omega)
      refine ⟨by simp only [S_run, yk1, zk1, ql, n_of, lk_of, vs_of, hd_of, nmS, s_end, put_vs, put_it, ↓reduceIte, Bool.false_eq_true, pk_us, and_self], ?_⟩
      simp only [S_run, yk1, zk1, ql, n_of, lk_of, vs_of, hd_of, nmS, s_end, put_vs, put_it, ↓reduceIte, Bool.false_eq_true, pk_us, and_self]
      exact ⟨_, _, _, _, _, _, _, _, _, _, R⟩

set_option maxHeartbeats 4000000 in
set_option maxRecDepth 100000 in
theorem C_either (l : Launch) {E : EV} {w : wo} {x : Nat} {σ : ST} (X : RcX E w x σ) (K : Gd σ) (t : Int32) (o : Int32) (li : Int32) : ct_i l E yX4_either wsX4_either 96 0 0 [.ref x, .int t, .int o, .int li] w (fun r w' => r = (S_either t o li σ).1 ∧ RcX E w' x (S_either t o li σ).2) := by
  obtain ⟨st, wk, tl, ta, tf, T, Rw, Ia, F, ⟨lim, wou, th⟩, R⟩ := X
  obtain ⟨n, cl, vs, lk, hd, nr, so, sz, it, oc, ow, bg, dp, td⟩ := σ
  have K9 := K
  obtain ⟨Kn, Kr, Kc, Kl, Kh, Ks, Kz, Ki⟩ := K9
  intro zz
  refine wo_body (Qc := fun A => va_Qi _ (wo_B E A) A) (ret := (some .int)) (by decide) rfl (Nat.le_of_ble_eq_true rfl) ?_
  intro p_ e_ s_ m_ args_ below_ meth_ code_ A_ ls S hret hlk hnm G hl
  have hl : lv_has ls 7 [(0, .ref x), (1, .int t), (2, .int o), (3, .int li)] := hl
  have hx := S.1
  have hb := S.2.1
  refine lv_aload_n hx hb dX4_either_0 rfl (lv_at hl 0 rfl) ?_
  refine g_get S G (Rc_x R) rfl (by decide +kernel) 0 (by decide) (by decide +kernel) rfl dX4_either_1 ?_
  refine lv_iload_n hx hb dX4_either_4 rfl (lv_at hl 1 rfl) ?_
  rcases tin_c n t (by omega) with ⟨tk1, ok1⟩ | ⟨k1, hk1, ek1⟩
  · skip
    refine g_Vq (n := 1) (rest := []) S G hl (c_X1_find_n l R Kn ok1) gX4_either_X1_find rfl (by decide +kernel) (Rc_st R) rfl rfl rfl (Nat.le_of_ble_eq_true rfl) ⟨Nat.le_of_ble_eq_true rfl, Nat.le_of_ble_eq_true rfl⟩ ⟨Nat.le_of_ble_eq_true rfl, Nat.le_of_ble_eq_true rfl⟩ dX4_either_5 ?_
    clear G; intro r_ w1 H locs hp G
    obtain ⟨rfl, rfl⟩ := hp
    refine W.eq (g2 := F0 m_ 8 ls [.null]) rfl ?_
    refine lv_astoreN (lv' := [(4, .null), (0, .ref x), (1, .int t), (2, .int o), (3, .int li)]) hx hb dX4_either_8 hl (by decide) rfl (fun ls hl => ?_)
    refine lv_aload_n hx hb dX4_either_10 rfl (lv_at hl 1 rfl) ?_
    refine g_get S G (Rc_x R) rfl (by decide +kernel) 0 (by decide) (by decide +kernel) rfl dX4_either_11 ?_
    refine lv_iload_n hx hb dX4_either_14 rfl (lv_at hl 3 rfl) ?_
    rcases tin_c n o (by omega) with ⟨tk2, ok2⟩ | ⟨k2, hk2, ek2⟩
    · skip
      refine g_Vq (n := 1) (rest := []) S G hl (c_X1_find_n l R Kn ok2) gX4_either_X1_find rfl (by decide +kernel) (Rc_st R) rfl rfl rfl (Nat.le_of_ble_eq_true rfl) ⟨Nat.le_of_ble_eq_true rfl, Nat.le_of_ble_eq_true rfl⟩ ⟨Nat.le_of_ble_eq_true rfl, Nat.le_of_ble_eq_true rfl⟩ dX4_either_15 ?_
      clear G; intro r_ w1 H locs hp G
      obtain ⟨rfl, rfl⟩ := hp
      refine W.eq (g2 := F0 m_ 18 ls [.null]) rfl ?_
      refine lv_astoreN (lv' := [(5, .null), (4, .null), (0, .ref x), (1, .int t), (2, .int o), (3, .int li)]) hx hb dX4_either_18 hl (by decide) rfl (fun ls hl => ?_)
      refine lv_aloadN hx hb dX4_either_20 (lv_at hl 1 rfl) ?_
      refine lv_ifnullN (tgt := 37) hx hb dX4_either_22 (by decide) ?_
      refine lv_ldc hx hb S.2.2.2.1 (S.2.2.2.2 (.constant RX4 33 (-2000000001)) (by decide +kernel)) dX4_either_37 ?_
      refine r_int S hret hlk G rfl (Nat.le_of_ble_eq_true rfl) (Nat.le_of_ble_eq_true rfl) dX4_either_39 ?_
      refine ⟨by simp only [S_either, tk1, tk2, n_of, lk_of, vs_of, hd_of, nmS, s_end, put_vs, put_it, ↓reduceIte, Bool.false_eq_true, pk_us, and_self], ?_⟩
      simp only [S_either, tk1, tk2, n_of, lk_of, vs_of, hd_of, nmS, s_end, put_vs, put_it, ↓reduceIte, Bool.false_eq_true, pk_us, and_self]
      exact ⟨_, _, _, _, _, _, _, _, _, _, R⟩
    · skip
      refine g_Vq (n := 1) (rest := []) S G hl (c_X1_find_y l R Kn ek2 hk2) gX4_either_X1_find rfl (by decide +kernel) (Rc_st R) rfl rfl rfl (Nat.le_of_ble_eq_true rfl) ⟨Nat.le_of_ble_eq_true rfl, Nat.le_of_ble_eq_true rfl⟩ ⟨Nat.le_of_ble_eq_true rfl, Nat.le_of_ble_eq_true rfl⟩ dX4_either_15 ?_
      clear G; intro r_ w1 H locs hp G
      obtain ⟨rfl, rfl⟩ := hp
      refine W.eq (g2 := F0 m_ 18 ls [.ref (T k2)]) rfl ?_
      refine lv_astore (lv' := [(5, .ref (T k2)), (4, .null), (0, .ref x), (1, .int t), (2, .int o), (3, .int li)]) hx hb dX4_either_18 hl (by decide) rfl (fun ls hl => ?_)
      refine lv_aloadN hx hb dX4_either_20 (lv_at hl 1 rfl) ?_
      refine lv_ifnullN (tgt := 37) hx hb dX4_either_22 (by decide) ?_
      refine lv_ldc hx hb S.2.2.2.1 (S.2.2.2.2 (.constant RX4 33 (-2000000001)) (by decide +kernel)) dX4_either_37 ?_
      refine r_int S hret hlk G rfl (Nat.le_of_ble_eq_true rfl) (Nat.le_of_ble_eq_true rfl) dX4_either_39 ?_
      have yk2 := tin_e ek2 hk2 (show n ≤ 1000 by omega)
      have zk2 := cn_e ek2 (show k2 < 1000 by omega)
      refine ⟨by simp only [S_either, tk1, yk2, zk2, n_of, lk_of, vs_of, hd_of, nmS, s_end, put_vs, put_it, ↓reduceIte, Bool.false_eq_true, pk_us, and_self], ?_⟩
      simp only [S_either, tk1, yk2, zk2, n_of, lk_of, vs_of, hd_of, nmS, s_end, put_vs, put_it, ↓reduceIte, Bool.false_eq_true, pk_us, and_self]
      exact ⟨_, _, _, _, _, _, _, _, _, _, R⟩
  · skip
    refine g_Vq (n := 1) (rest := []) S G hl (c_X1_find_y l R Kn ek1 hk1) gX4_either_X1_find rfl (by decide +kernel) (Rc_st R) rfl rfl rfl (Nat.le_of_ble_eq_true rfl) ⟨Nat.le_of_ble_eq_true rfl, Nat.le_of_ble_eq_true rfl⟩ ⟨Nat.le_of_ble_eq_true rfl, Nat.le_of_ble_eq_true rfl⟩ dX4_either_5 ?_
    clear G; intro r_ w1 H locs hp G
    obtain ⟨rfl, rfl⟩ := hp
    refine W.eq (g2 := F0 m_ 8 ls [.ref (T k1)]) rfl ?_
    refine lv_astore (lv' := [(4, .ref (T k1)), (0, .ref x), (1, .int t), (2, .int o), (3, .int li)]) hx hb dX4_either_8 hl (by decide) rfl (fun ls hl => ?_)
    refine lv_aload_n hx hb dX4_either_10 rfl (lv_at hl 1 rfl) ?_
    refine g_get S G (Rc_x R) rfl (by decide +kernel) 0 (by decide) (by decide +kernel) rfl dX4_either_11 ?_
    refine lv_iload_n hx hb dX4_either_14 rfl (lv_at hl 3 rfl) ?_
    rcases tin_c n o (by omega) with ⟨tk3, ok3⟩ | ⟨k3, hk3, ek3⟩
    · skip
      refine g_Vq (n := 1) (rest := []) S G hl (c_X1_find_n l R Kn ok3) gX4_either_X1_find rfl (by decide +kernel) (Rc_st R) rfl rfl rfl (Nat.le_of_ble_eq_true rfl) ⟨Nat.le_of_ble_eq_true rfl, Nat.le_of_ble_eq_true rfl⟩ ⟨Nat.le_of_ble_eq_true rfl, Nat.le_of_ble_eq_true rfl⟩ dX4_either_15 ?_
      clear G; intro r_ w1 H locs hp G
      obtain ⟨rfl, rfl⟩ := hp
      refine W.eq (g2 := F0 m_ 18 ls [.null]) rfl ?_
      refine lv_astoreN (lv' := [(5, .null), (4, .ref (T k1)), (0, .ref x), (1, .int t), (2, .int o), (3, .int li)]) hx hb dX4_either_18 hl (by decide) rfl (fun ls hl => ?_)
      refine lv_aload hx hb dX4_either_20 (lv_at hl 1 rfl) ?_
      refine lv_ifnull hx hb dX4_either_22 ?_
      refine lv_aloadN hx hb dX4_either_25 (lv_at hl 0 rfl) ?_
      refine lv_ifnullN (tgt := 37) hx hb dX4_either_27 (by decide) ?_
      refine lv_ldc hx hb S.2.2.2.1 (S.2.2.2.2 (.constant RX4 33 (-2000000001)) (by decide +kernel)) dX4_either_37 ?_
      refine r_int S hret hlk G rfl (Nat.le_of_ble_eq_true rfl) (Nat.le_of_ble_eq_true rfl) dX4_either_39 ?_
      have yk1 := tin_e ek1 hk1 (show n ≤ 1000 by omega)
      have zk1 := cn_e ek1 (show k1 < 1000 by omega)
      refine ⟨by simp only [S_either, yk1, zk1, tk3, n_of, lk_of, vs_of, hd_of, nmS, s_end, put_vs, put_it, ↓reduceIte, Bool.false_eq_true, pk_us, and_self], ?_⟩
      simp only [S_either, yk1, zk1, tk3, n_of, lk_of, vs_of, hd_of, nmS, s_end, put_vs, put_it, ↓reduceIte, Bool.false_eq_true, pk_us, and_self]
      exact ⟨_, _, _, _, _, _, _, _, _, _, R⟩
    · skip
      refine g_Vq (n := 1) (rest := []) S G hl (c_X1_find_y l R Kn ek3 hk3) gX4_either_X1_find rfl (by decide +kernel) (Rc_st R) rfl rfl rfl (Nat.le_of_ble_eq_true rfl) ⟨Nat.le_of_ble_eq_true rfl, Nat.le_of_ble_eq_true rfl⟩ ⟨Nat.le_of_ble_eq_true rfl, Nat.le_of_ble_eq_true rfl⟩ dX4_either_15 ?_
      clear G; intro r_ w1 H locs hp G
      obtain ⟨rfl, rfl⟩ := hp
      refine W.eq (g2 := F0 m_ 18 ls [.ref (T k3)]) rfl ?_
      refine lv_astore (lv' := [(5, .ref (T k3)), (4, .ref (T k1)), (0, .ref x), (1, .int t), (2, .int o), (3, .int li)]) hx hb dX4_either_18 hl (by decide) rfl (fun ls hl => ?_)
      refine lv_aload hx hb dX4_either_20 (lv_at hl 1 rfl) ?_
      refine lv_ifnull hx hb dX4_either_22 ?_
      refine lv_aload hx hb dX4_either_25 (lv_at hl 0 rfl) ?_
      refine lv_ifnull hx hb dX4_either_27 ?_
      refine lv_iload_n hx hb dX4_either_30 rfl (lv_at hl 5 rfl) ?_
      by_cases ql : lin li = true
      · skip
        refine g_Si (n := 1) (rest := []) S G hl (c_X4_isLimit l li) gX4_either_X4_isLimit rfl (by decide +kernel) rfl rfl (Nat.le_of_ble_eq_true rfl) ⟨Nat.le_of_ble_eq_true rfl, Nat.le_of_ble_eq_true rfl⟩ ⟨Nat.le_of_ble_eq_true rfl, Nat.le_of_ble_eq_true rfl⟩ dX4_either_31 ?_
        clear G; intro r_ w1 H locs hp G
        obtain ⟨rfl, hq_⟩ := hp
        rw [if_pos ql] at hq_
        subst hq_
        refine lv_if_ne (tgt := 40) hx hb dX4_either_34 (by decide) (fun c4 => ?_) (fun c4 => absurd c4 (by decide))
        refine lv_aload_n hx hb dX4_either_40 rfl (lv_at hl 2 rfl) ?_
        refine g_get S G (Rc_x R) rfl (by decide +kernel) 1 (by decide) (by decide +kernel) rfl dX4_either_41 ?_
        refine lv_aload hx hb dX4_either_44 (lv_at hl 1 rfl) ?_
        refine lv_iload_n hx hb dX4_either_46 rfl (lv_at hl 5 rfl) ?_
        refine g_Vi (n := 2) (rest := []) S G hl (c_X3_first l R K hk1 (lin_pos ql)) gX4_either_X3_first rfl (by decide +kernel) (Rc_wk R) rfl rfl rfl (Nat.le_of_ble_eq_true rfl) ⟨Nat.le_of_ble_eq_true rfl, Nat.le_of_ble_eq_true rfl⟩ ⟨Nat.le_of_ble_eq_true rfl, Nat.le_of_ble_eq_true rfl⟩ dX4_either_47 ?_
        clear G; intro v5 w1 H locs hp G
        have hoq6 := nm_o (cl := cl) (vs := vs) (lk := lk) (hd := hd) (so := so) (sz := sz) (it := it) (lim := li) 30 k1 0
        have hbq6 := nm_bg (cl := cl) (vs := vs) (lk := lk) (hd := hd) (so := so) (sz := sz) (it := it) (lim := li) 30 k1 0 (lin_pos ql)
        generalize hQq6 : nm cl vs lk hd so sz it li 30 k1 0 = q6 at hp hoq6 hbq6
        obtain ⟨oq6, rq6, bq6, dq6, tq6⟩ := q6
        obtain ⟨hv5, R⟩ := hp
        dsimp only at hv5 R hoq6 hbq6
        obtain ⟨jq6, hjq6, ejq6⟩ := hoq6
        refine lv_istore (lv' := [(6, .int v5), (5, .ref (T k3)), (4, .ref (T k1)), (0, .ref x), (1, .int t), (2, .int o), (3, .int li)]) hx hb dX4_either_50 hl (by decide) rfl (fun ls hl => ?_)
        refine lv_aload_n hx hb dX4_either_52 rfl (lv_at hl 3 rfl) ?_
        refine g_get S G (Rc_x R) rfl (by decide +kernel) 1 (by decide) (by decide +kernel) rfl dX4_either_53 ?_
        refine g_get S G (Rc_wk R) rfl (by decide +kernel) 3 (by decide) (by decide +kernel) rfl dX4_either_56 ?_
        refine lv_iconst (v := 1) hx hb dX4_either_59 (by decide) ?_
        refine lv_icmp_lt (tgt := 86) hx hb dX4_either_60 (by decide) (fun c7 => ?_) (fun c7 => ?_)
        · skip
          refine lv_aload_n hx hb dX4_either_86 rfl (lv_at hl 3 rfl) ?_
          refine lv_aload_n hx hb dX4_either_87 rfl (lv_at hl 3 rfl) ?_
          refine g_get S G (Rc_x R) rfl (by decide +kernel) 1 (by decide) (by decide +kernel) rfl dX4_either_88 ?_
          refine g_get S G (Rc_wk R) rfl (by decide +kernel) 3 (by decide) (by decide +kernel) rfl dX4_either_91 ?_
          refine g_Vi (n := 1) (rest := []) S G hl (c_X4_tell l R (o := oq6) ejq6 hjq6) gX4_either_X4_tell rfl (by decide +kernel) (Rc_x R) rfl rfl rfl (Nat.le_of_ble_eq_true rfl) ⟨Nat.le_of_ble_eq_true rfl, Nat.le_of_ble_eq_true rfl⟩ ⟨Nat.le_of_ble_eq_true rfl, Nat.le_of_ble_eq_true rfl⟩ dX4_either_94 ?_
          clear G; intro r_ w1 H locs hp G
          obtain ⟨hr_, R⟩ := hp
          subst r_
          refine lv_if_ne (tgt := 105) hx hb dX4_either_97 (by decide) (fun c8 => ?_) (fun c8 => ?_)
          · skip
            refine lv_iconst (v := 0) hx hb dX4_either_105 (by decide) ?_
            refine r_int S hret hlk G rfl (Nat.le_of_ble_eq_true rfl) (Nat.le_of_ble_eq_true rfl) dX4_either_106 ?_
            have yk1 := tin_e ek1 hk1 (show n ≤ 1000 by omega)
            have zk1 := cn_e ek1 (show k1 < 1000 by omega)
            have yk3 := tin_e ek3 hk3 (show n ≤ 1000 by omega)
            have zk3 := cn_e ek3 (show k3 < 1000 by omega)
            have e9 : ¬ (1 ≤ oq6 ∧ oq6 ≤ 7) := fun z => Int32.not_lt.mpr z.1 c7
            rw [ow_eq] at R
            refine ⟨by simp only [S_either, yk1, zk1, yk3, zk3, ql, hQq6, e9, n_of, lk_of, vs_of, hd_of, nmS, s_end, put_vs, put_it, ↓reduceIte, Bool.false_eq_true, pk_us, and_self, c8], ?_⟩
            simp only [S_either, yk1, zk1, yk3, zk3, ql, hQq6, e9, n_of, lk_of, vs_of, hd_of, nmS, s_end, put_vs, put_it, ↓reduceIte, Bool.false_eq_true, pk_us, and_self]
            exact ⟨_, _, _, _, _, _, _, _, _, _, R⟩
          · skip
            refine lv_iload hx hb dX4_either_100 (lv_at hl 0 rfl) ?_
            refine lv_goto (tgt := 106) hx hb dX4_either_102 (by decide) ?_
            refine r_int S hret hlk G rfl (Nat.le_of_ble_eq_true rfl) (Nat.le_of_ble_eq_true rfl) dX4_either_106 ?_
            have yk1 := tin_e ek1 hk1 (show n ≤ 1000 by omega)
            have zk1 := cn_e ek1 (show k1 < 1000 by omega)
            have yk3 := tin_e ek3 hk3 (show n ≤ 1000 by omega)
            have zk3 := cn_e ek3 (show k3 < 1000 by omega)
            have e9 : ¬ (1 ≤ oq6 ∧ oq6 ≤ 7) := fun z => Int32.not_lt.mpr z.1 c7
            rw [ow_eq] at R
            refine ⟨by simp only [S_either, yk1, zk1, yk3, zk3, ql, hQq6, e9, n_of, lk_of, vs_of, hd_of, nmS, s_end, put_vs, put_it, ↓reduceIte, Bool.false_eq_true, pk_us, and_self]; rw [if_pos c8]; exact hv5 c8, ?_⟩
            simp only [S_either, yk1, zk1, yk3, zk3, ql, hQq6, e9, n_of, lk_of, vs_of, hd_of, nmS, s_end, put_vs, put_it, ↓reduceIte, Bool.false_eq_true, pk_us, and_self]
            exact ⟨_, _, _, _, _, _, _, _, _, _, R⟩
        · skip
          refine lv_aload_n hx hb dX4_either_63 rfl (lv_at hl 3 rfl) ?_
          refine g_get S G (Rc_x R) rfl (by decide +kernel) 1 (by decide) (by decide +kernel) rfl dX4_either_64 ?_
          refine g_get S G (Rc_wk R) rfl (by decide +kernel) 3 (by decide) (by decide +kernel) rfl dX4_either_67 ?_
          refine lv_bipush (v := 7) hx hb dX4_either_70 (by decide) ?_
          refine lv_icmp_gt (tgt := 86) hx hb dX4_either_72 (by decide) (fun c9 => ?_) (fun c9 => ?_)
          · skip
            refine lv_aload_n hx hb dX4_either_86 rfl (lv_at hl 3 rfl) ?_
            refine lv_aload_n hx hb dX4_either_87 rfl (lv_at hl 3 rfl) ?_
            refine g_get S G (Rc_x R) rfl (by decide +kernel) 1 (by decide) (by decide +kernel) rfl dX4_either_88 ?_
            refine g_get S G (Rc_wk R) rfl (by decide +kernel) 3 (by decide) (by decide +kernel) rfl dX4_either_91 ?_
            refine g_Vi (n := 1) (rest := []) S G hl (c_X4_tell l R (o := oq6) ejq6 hjq6) gX4_either_X4_tell rfl (by decide +kernel) (Rc_x R) rfl rfl rfl (Nat.le_of_ble_eq_true rfl) ⟨Nat.le_of_ble_eq_true rfl, Nat.le_of_ble_eq_true rfl⟩ ⟨Nat.le_of_ble_eq_true rfl, Nat.le_of_ble_eq_true rfl⟩ dX4_either_94 ?_
            clear G; intro r_ w1 H locs hp G
            obtain ⟨hr_, R⟩ := hp
            subst r_
            refine lv_if_ne (tgt := 105) hx hb dX4_either_97 (by decide) (fun c10 => ?_) (fun c10 => ?_)
            · skip
              refine lv_iconst (v := 0) hx hb dX4_either_105 (by decide) ?_
              refine r_int S hret hlk G rfl (Nat.le_of_ble_eq_true rfl) (Nat.le_of_ble_eq_true rfl) dX4_either_106 ?_
              have yk1 := tin_e ek1 hk1 (show n ≤ 1000 by omega)
              have zk1 := cn_e ek1 (show k1 < 1000 by omega)
              have yk3 := tin_e ek3 hk3 (show n ≤ 1000 by omega)
              have zk3 := cn_e ek3 (show k3 < 1000 by omega)
              have e9 : ¬ (1 ≤ oq6 ∧ oq6 ≤ 7) := fun z => Int32.not_lt.mpr z.2 c9
              rw [ow_eq] at R
              refine ⟨by simp only [S_either, yk1, zk1, yk3, zk3, ql, hQq6, e9, n_of, lk_of, vs_of, hd_of, nmS, s_end, put_vs, put_it, ↓reduceIte, Bool.false_eq_true, pk_us, and_self, c10], ?_⟩
              simp only [S_either, yk1, zk1, yk3, zk3, ql, hQq6, e9, n_of, lk_of, vs_of, hd_of, nmS, s_end, put_vs, put_it, ↓reduceIte, Bool.false_eq_true, pk_us, and_self]
              exact ⟨_, _, _, _, _, _, _, _, _, _, R⟩
            · skip
              refine lv_iload hx hb dX4_either_100 (lv_at hl 0 rfl) ?_
              refine lv_goto (tgt := 106) hx hb dX4_either_102 (by decide) ?_
              refine r_int S hret hlk G rfl (Nat.le_of_ble_eq_true rfl) (Nat.le_of_ble_eq_true rfl) dX4_either_106 ?_
              have yk1 := tin_e ek1 hk1 (show n ≤ 1000 by omega)
              have zk1 := cn_e ek1 (show k1 < 1000 by omega)
              have yk3 := tin_e ek3 hk3 (show n ≤ 1000 by omega)
              have zk3 := cn_e ek3 (show k3 < 1000 by omega)
              have e9 : ¬ (1 ≤ oq6 ∧ oq6 ≤ 7) := fun z => Int32.not_lt.mpr z.2 c9
              rw [ow_eq] at R
              refine ⟨by simp only [S_either, yk1, zk1, yk3, zk3, ql, hQq6, e9, n_of, lk_of, vs_of, hd_of, nmS, s_end, put_vs, put_it, ↓reduceIte, Bool.false_eq_true, pk_us, and_self]; rw [if_pos c10]; exact hv5 c10, ?_⟩
              simp only [S_either, yk1, zk1, yk3, zk3, ql, hQq6, e9, n_of, lk_of, vs_of, hd_of, nmS, s_end, put_vs, put_it, ↓reduceIte, Bool.false_eq_true, pk_us, and_self]
              exact ⟨_, _, _, _, _, _, _, _, _, _, R⟩
          · skip
            refine lv_aload_n hx hb dX4_either_75 rfl (lv_at hl 3 rfl) ?_
            refine g_get S G (Rc_x R) rfl (by decide +kernel) 1 (by decide) (by decide +kernel) rfl dX4_either_76 ?_
            refine lv_aload hx hb dX4_either_79 (lv_at hl 1 rfl) ?_
            refine g_Vi (n := 1) (rest := []) S G hl (c_X3_next l R K hbq6 hk3) gX4_either_X3_next rfl (by decide +kernel) (Rc_wk R) rfl rfl rfl (Nat.le_of_ble_eq_true rfl) ⟨Nat.le_of_ble_eq_true rfl, Nat.le_of_ble_eq_true rfl⟩ ⟨Nat.le_of_ble_eq_true rfl, Nat.le_of_ble_eq_true rfl⟩ dX4_either_81 ?_
            clear G; intro v11 w1 H locs hp G
            have hoq12 := nm_o (cl := cl) (vs := vs) (lk := lk) (hd := hd) (so := so) (sz := sz) (it := it) (lim := li) 30 k3 bq6
            have hbq12 := nm_bg (cl := cl) (vs := vs) (lk := lk) (hd := hd) (so := so) (sz := sz) (it := it) (lim := li) 30 k3 bq6 hbq6
            generalize hQq12 : nm cl vs lk hd so sz it li 30 k3 bq6 = q12 at hp hoq12 hbq12
            obtain ⟨oq12, rq12, bq12, dq12, tq12⟩ := q12
            obtain ⟨hv11, R⟩ := hp
            dsimp only at hv11 R hoq12 hbq12
            obtain ⟨jq12, hjq12, ejq12⟩ := hoq12
            refine lv_istore (lv' := [(6, .int v11), (5, .ref (T k3)), (4, .ref (T k1)), (0, .ref x), (1, .int t), (2, .int o), (3, .int li)]) hx hb dX4_either_84 hl (by decide) rfl (fun ls hl => ?_)
            refine lv_aload_n hx hb dX4_either_86 rfl (lv_at hl 3 rfl) ?_
            refine lv_aload_n hx hb dX4_either_87 rfl (lv_at hl 3 rfl) ?_
            refine g_get S G (Rc_x R) rfl (by decide +kernel) 1 (by decide) (by decide +kernel) rfl dX4_either_88 ?_
            refine g_get S G (Rc_wk R) rfl (by decide +kernel) 3 (by decide) (by decide +kernel) rfl dX4_either_91 ?_
            refine g_Vi (n := 1) (rest := []) S G hl (c_X4_tell l R (o := oq12) ejq12 hjq12) gX4_either_X4_tell rfl (by decide +kernel) (Rc_x R) rfl rfl rfl (Nat.le_of_ble_eq_true rfl) ⟨Nat.le_of_ble_eq_true rfl, Nat.le_of_ble_eq_true rfl⟩ ⟨Nat.le_of_ble_eq_true rfl, Nat.le_of_ble_eq_true rfl⟩ dX4_either_94 ?_
            clear G; intro r_ w1 H locs hp G
            obtain ⟨hr_, R⟩ := hp
            subst r_
            refine lv_if_ne (tgt := 105) hx hb dX4_either_97 (by decide) (fun c13 => ?_) (fun c13 => ?_)
            · skip
              refine lv_iconst (v := 0) hx hb dX4_either_105 (by decide) ?_
              refine r_int S hret hlk G rfl (Nat.le_of_ble_eq_true rfl) (Nat.le_of_ble_eq_true rfl) dX4_either_106 ?_
              have yk1 := tin_e ek1 hk1 (show n ≤ 1000 by omega)
              have zk1 := cn_e ek1 (show k1 < 1000 by omega)
              have yk3 := tin_e ek3 hk3 (show n ≤ 1000 by omega)
              have zk3 := cn_e ek3 (show k3 < 1000 by omega)
              have e9 : 1 ≤ oq6 ∧ oq6 ≤ 7 := ⟨Int32.not_lt.mp c7, Int32.not_lt.mp c9⟩
              rw [ow_eq] at R
              refine ⟨by simp only [S_either, yk1, zk1, yk3, zk3, ql, hQq6, hQq12, e9, n_of, lk_of, vs_of, hd_of, nmS, s_end, put_vs, put_it, ↓reduceIte, Bool.false_eq_true, pk_us, and_self, c13], ?_⟩
              simp only [S_either, yk1, zk1, yk3, zk3, ql, hQq6, hQq12, e9, n_of, lk_of, vs_of, hd_of, nmS, s_end, put_vs, put_it, ↓reduceIte, Bool.false_eq_true, pk_us, and_self]
              exact ⟨_, _, _, _, _, _, _, _, _, _, R⟩
            · skip
              refine lv_iload hx hb dX4_either_100 (lv_at hl 0 rfl) ?_
              refine lv_goto (tgt := 106) hx hb dX4_either_102 (by decide) ?_
              refine r_int S hret hlk G rfl (Nat.le_of_ble_eq_true rfl) (Nat.le_of_ble_eq_true rfl) dX4_either_106 ?_
              have yk1 := tin_e ek1 hk1 (show n ≤ 1000 by omega)
              have zk1 := cn_e ek1 (show k1 < 1000 by omega)
              have yk3 := tin_e ek3 hk3 (show n ≤ 1000 by omega)
              have zk3 := cn_e ek3 (show k3 < 1000 by omega)
              have e9 : 1 ≤ oq6 ∧ oq6 ≤ 7 := ⟨Int32.not_lt.mp c7, Int32.not_lt.mp c9⟩
              rw [ow_eq] at R
              refine ⟨by simp only [S_either, yk1, zk1, yk3, zk3, ql, hQq6, hQq12, e9, n_of, lk_of, vs_of, hd_of, nmS, s_end, put_vs, put_it, ↓reduceIte, Bool.false_eq_true, pk_us, and_self]; rw [if_pos c13]; exact hv11 c13, ?_⟩
              simp only [S_either, yk1, zk1, yk3, zk3, ql, hQq6, hQq12, e9, n_of, lk_of, vs_of, hd_of, nmS, s_end, put_vs, put_it, ↓reduceIte, Bool.false_eq_true, pk_us, and_self]
              exact ⟨_, _, _, _, _, _, _, _, _, _, R⟩
      · skip
        refine g_Si (n := 1) (rest := []) S G hl (c_X4_isLimit l li) gX4_either_X4_isLimit rfl (by decide +kernel) rfl rfl (Nat.le_of_ble_eq_true rfl) ⟨Nat.le_of_ble_eq_true rfl, Nat.le_of_ble_eq_true rfl⟩ ⟨Nat.le_of_ble_eq_true rfl, Nat.le_of_ble_eq_true rfl⟩ dX4_either_31 ?_
        clear G; intro r_ w1 H locs hp G
        obtain ⟨rfl, hq_⟩ := hp
        rw [if_neg ql] at hq_
        subst hq_
        refine lv_if_ne (tgt := 40) hx hb dX4_either_34 (by decide) (fun c14 => absurd (by decide) c14) (fun c14 => ?_)
        refine lv_ldc hx hb S.2.2.2.1 (S.2.2.2.2 (.constant RX4 33 (-2000000001)) (by decide +kernel)) dX4_either_37 ?_
        refine r_int S hret hlk G rfl (Nat.le_of_ble_eq_true rfl) (Nat.le_of_ble_eq_true rfl) dX4_either_39 ?_
        have yk1 := tin_e ek1 hk1 (show n ≤ 1000 by omega)
        have zk1 := cn_e ek1 (show k1 < 1000 by omega)
        have yk3 := tin_e ek3 hk3 (show n ≤ 1000 by omega)
        have zk3 := cn_e ek3 (show k3 < 1000 by omega)
        refine ⟨by simp only [S_either, yk1, zk1, yk3, zk3, ql, n_of, lk_of, vs_of, hd_of, nmS, s_end, put_vs, put_it, ↓reduceIte, Bool.false_eq_true, pk_us, and_self], ?_⟩
        simp only [S_either, yk1, zk1, yk3, zk3, ql, n_of, lk_of, vs_of, hd_of, nmS, s_end, put_vs, put_it, ↓reduceIte, Bool.false_eq_true, pk_us, and_self]
        exact ⟨_, _, _, _, _, _, _, _, _, _, R⟩

set_option maxHeartbeats 4000000 in
set_option maxRecDepth 100000 in
theorem C_gather (l : Launch) {E : EV} {w : wo} {x : Nat} {σ : ST} (X : RcX E w x σ) (K : Gd σ) (t : Int32) (li : Int32) : ct_i l E yX4_gather wsX4_gather 96 0 0 [.ref x, .int t, .int li] w (fun r w' => r = (S_gather t li σ).1 ∧ RcX E w' x (S_gather t li σ).2) := by
  obtain ⟨st, wk, tl, ta, tf, T, Rw, Ia, F, ⟨lim, wou, th⟩, R⟩ := X
  obtain ⟨n, cl, vs, lk, hd, nr, so, sz, it, oc, ow, bg, dp, td⟩ := σ
  have K9 := K
  obtain ⟨Kn, Kr, Kc, Kl, Kh, Ks, Kz, Ki⟩ := K9
  intro zz
  refine wo_body (Qc := fun A => va_Qi _ (wo_B E A) A) (ret := (some .int)) (by decide) rfl (Nat.le_of_ble_eq_true rfl) ?_
  intro p_ e_ s_ m_ args_ below_ meth_ code_ A_ ls S hret hlk hnm G hl
  have hl : lv_has ls 5 [(0, .ref x), (1, .int t), (2, .int li)] := hl
  have hx := S.1
  have hb := S.2.1
  refine lv_aload_n hx hb dX4_gather_0 rfl (lv_at hl 0 rfl) ?_
  refine g_get S G (Rc_x R) rfl (by decide +kernel) 0 (by decide) (by decide +kernel) rfl dX4_gather_1 ?_
  refine lv_iload_n hx hb dX4_gather_4 rfl (lv_at hl 1 rfl) ?_
  rcases tin_c n t (by omega) with ⟨tk1, ok1⟩ | ⟨k1, hk1, ek1⟩
  · skip
    refine g_Vq (n := 1) (rest := []) S G hl (c_X1_find_n l R Kn ok1) gX4_gather_X1_find rfl (by decide +kernel) (Rc_st R) rfl rfl rfl (Nat.le_of_ble_eq_true rfl) ⟨Nat.le_of_ble_eq_true rfl, Nat.le_of_ble_eq_true rfl⟩ ⟨Nat.le_of_ble_eq_true rfl, Nat.le_of_ble_eq_true rfl⟩ dX4_gather_5 ?_
    clear G; intro r_ w1 H locs hp G
    obtain ⟨rfl, rfl⟩ := hp
    refine W.eq (g2 := F0 m_ 8 ls [.null]) rfl ?_
    refine lv_astore_nN (lv' := [(3, .null), (0, .ref x), (1, .int t), (2, .int li)]) hx hb dX4_gather_8 rfl hl (by decide) rfl (fun ls hl => ?_)
    refine lv_aload_nN hx hb dX4_gather_9 rfl (lv_at hl 0 rfl) ?_
    refine lv_ifnullN (tgt := 20) hx hb dX4_gather_10 (by decide) ?_
    refine lv_ldc hx hb S.2.2.2.1 (S.2.2.2.2 (.constant RX4 33 (-2000000001)) (by decide +kernel)) dX4_gather_20 ?_
    refine r_int S hret hlk G rfl (Nat.le_of_ble_eq_true rfl) (Nat.le_of_ble_eq_true rfl) dX4_gather_22 ?_
    refine ⟨by simp only [S_gather, tk1, n_of, lk_of, vs_of, hd_of, nmS, s_end, put_vs, put_it, ↓reduceIte, Bool.false_eq_true, pk_us, and_self], ?_⟩
    simp only [S_gather, tk1, n_of, lk_of, vs_of, hd_of, nmS, s_end, put_vs, put_it, ↓reduceIte, Bool.false_eq_true, pk_us, and_self]
    exact ⟨_, _, _, _, _, _, _, _, _, _, R⟩
  · skip
    refine g_Vq (n := 1) (rest := []) S G hl (c_X1_find_y l R Kn ek1 hk1) gX4_gather_X1_find rfl (by decide +kernel) (Rc_st R) rfl rfl rfl (Nat.le_of_ble_eq_true rfl) ⟨Nat.le_of_ble_eq_true rfl, Nat.le_of_ble_eq_true rfl⟩ ⟨Nat.le_of_ble_eq_true rfl, Nat.le_of_ble_eq_true rfl⟩ dX4_gather_5 ?_
    clear G; intro r_ w1 H locs hp G
    obtain ⟨rfl, rfl⟩ := hp
    refine W.eq (g2 := F0 m_ 8 ls [.ref (T k1)]) rfl ?_
    refine lv_astore_n (lv' := [(3, .ref (T k1)), (0, .ref x), (1, .int t), (2, .int li)]) hx hb dX4_gather_8 rfl hl (by decide) rfl (fun ls hl => ?_)
    refine lv_aload_n hx hb dX4_gather_9 rfl (lv_at hl 0 rfl) ?_
    refine lv_ifnull hx hb dX4_gather_10 ?_
    refine lv_iload_n hx hb dX4_gather_13 rfl (lv_at hl 3 rfl) ?_
    by_cases ql : lin li = true
    · skip
      refine g_Si (n := 1) (rest := []) S G hl (c_X4_isLimit l li) gX4_gather_X4_isLimit rfl (by decide +kernel) rfl rfl (Nat.le_of_ble_eq_true rfl) ⟨Nat.le_of_ble_eq_true rfl, Nat.le_of_ble_eq_true rfl⟩ ⟨Nat.le_of_ble_eq_true rfl, Nat.le_of_ble_eq_true rfl⟩ dX4_gather_14 ?_
      clear G; intro r_ w1 H locs hp G
      obtain ⟨rfl, hq_⟩ := hp
      rw [if_pos ql] at hq_
      subst hq_
      refine lv_if_ne (tgt := 23) hx hb dX4_gather_17 (by decide) (fun c2 => ?_) (fun c2 => absurd c2 (by decide))
      refine lv_aload_n hx hb dX4_gather_23 rfl (lv_at hl 1 rfl) ?_
      refine g_get S G (Rc_x R) rfl (by decide +kernel) 1 (by decide) (by decide +kernel) rfl dX4_gather_24 ?_
      refine lv_aload_n hx hb dX4_gather_27 rfl (lv_at hl 1 rfl) ?_
      refine g_get S G (Rc_x R) rfl (by decide +kernel) 0 (by decide) (by decide +kernel) rfl dX4_gather_28 ?_
      refine lv_aload_n hx hb dX4_gather_31 rfl (lv_at hl 0 rfl) ?_
      refine g_get S G (Rc_T R k1 hk1) rfl (by decide +kernel) 2 (by decide) (by decide +kernel) rfl dX4_gather_32 ?_
      rcases Kl k1 hk1 with ek3 | ⟨k3, hk3, ek3⟩
      · skip
        refine g_Vq (n := 1) (rest := [.ref wk]) S G hl (c_X1_find_n l R Kn (Or.inl (by rw [ek3]; decide))) gX4_gather_X1_find rfl (by decide +kernel) (Rc_st R) rfl rfl rfl (Nat.le_of_ble_eq_true rfl) ⟨Nat.le_of_ble_eq_true rfl, Nat.le_of_ble_eq_true rfl⟩ ⟨Nat.le_of_ble_eq_true rfl, Nat.le_of_ble_eq_true rfl⟩ dX4_gather_35 ?_
        clear G; intro r_ w1 H locs hp G
        obtain ⟨rfl, rfl⟩ := hp
        refine W.eq (g2 := F0 m_ 38 ls [.null, .ref wk]) rfl ?_
        refine lv_iload_n hx hb dX4_gather_38 rfl (lv_at hl 3 rfl) ?_
        refine g_Vi (n := 2) (rest := []) S G hl (c_X3_first_n l R li) gX4_gather_X3_first rfl (by decide +kernel) (Rc_wk R) rfl rfl rfl (Nat.le_of_ble_eq_true rfl) ⟨Nat.le_of_ble_eq_true rfl, Nat.le_of_ble_eq_true rfl⟩ ⟨Nat.le_of_ble_eq_true rfl, Nat.le_of_ble_eq_true rfl⟩ dX4_gather_39 ?_
        clear G; intro r_ w1 H locs hp G
        obtain ⟨rfl, R⟩ := hp
        refine lv_istore (lv' := [(4, .int 0), (3, .ref (T k1)), (0, .ref x), (1, .int t), (2, .int li)]) hx hb dX4_gather_42 hl (by decide) rfl (fun ls hl => ?_)
        refine lv_aload_n hx hb dX4_gather_44 rfl (lv_at hl 2 rfl) ?_
        refine g_get S G (Rc_x R) rfl (by decide +kernel) 1 (by decide) (by decide +kernel) rfl dX4_gather_45 ?_
        refine g_get S G (Rc_wk R) rfl (by decide +kernel) 3 (by decide) (by decide +kernel) rfl dX4_gather_48 ?_
        refine lv_if_eq (tgt := 66) hx hb dX4_gather_51 (by decide) (fun c5 => absurd c5 (by decide)) (fun c5 => ?_)
        refine lv_aload_n hx hb dX4_gather_54 rfl (lv_at hl 2 rfl) ?_
        refine lv_aload_n hx hb dX4_gather_55 rfl (lv_at hl 2 rfl) ?_
        refine g_get S G (Rc_x R) rfl (by decide +kernel) 1 (by decide) (by decide +kernel) rfl dX4_gather_56 ?_
        refine g_get S G (Rc_wk R) rfl (by decide +kernel) 3 (by decide) (by decide +kernel) rfl dX4_gather_59 ?_
        refine g_Vi (n := 1) (rest := []) S G hl (c_X4_refuse l R (j := 1) (o := 1) rfl (by decide)) gX4_gather_X4_refuse rfl (by decide +kernel) (Rc_x R) rfl rfl rfl (Nat.le_of_ble_eq_true rfl) ⟨Nat.le_of_ble_eq_true rfl, Nat.le_of_ble_eq_true rfl⟩ ⟨Nat.le_of_ble_eq_true rfl, Nat.le_of_ble_eq_true rfl⟩ dX4_gather_62 ?_
        clear G; intro r_ w1 H locs hp G
        obtain ⟨hr_, R⟩ := hp
        subst r_
        rw [if_neg (show ¬ ((1 : Int32) = 7) by decide)] at R
        refine r_int S hret hlk G rfl (Nat.le_of_ble_eq_true rfl) (Nat.le_of_ble_eq_true rfl) dX4_gather_65 ?_
        have yk1 := tin_e ek1 hk1 (show n ≤ 1000 by omega)
        have zk1 := cn_e ek1 (show k1 < 1000 by omega)
        refine ⟨by simp only [S_gather, yk1, zk1, ek3, ql, n_of, lk_of, vs_of, hd_of, nmS, s_end, put_vs, put_it, ↓reduceIte, Bool.false_eq_true, pk_us, and_self, show ¬ ((1 : Int32) = 7) by decide], ?_⟩
        simp only [S_gather, yk1, zk1, ek3, ql, n_of, lk_of, vs_of, hd_of, nmS, s_end, put_vs, put_it, ↓reduceIte, Bool.false_eq_true, pk_us, and_self, show ¬ ((1 : Int32) = 7) by decide]
        exact ⟨_, _, _, _, _, _, _, _, _, _, R⟩
      · skip
        refine g_Vq (n := 1) (rest := [.ref wk]) S G hl (c_X1_find_y l R Kn ek3 hk3) gX4_gather_X1_find rfl (by decide +kernel) (Rc_st R) rfl rfl rfl (Nat.le_of_ble_eq_true rfl) ⟨Nat.le_of_ble_eq_true rfl, Nat.le_of_ble_eq_true rfl⟩ ⟨Nat.le_of_ble_eq_true rfl, Nat.le_of_ble_eq_true rfl⟩ dX4_gather_35 ?_
        clear G; intro r_ w1 H locs hp G
        obtain ⟨rfl, rfl⟩ := hp
        refine W.eq (g2 := F0 m_ 38 ls [.ref (T k3), .ref wk]) rfl ?_
        refine lv_iload_n hx hb dX4_gather_38 rfl (lv_at hl 3 rfl) ?_
        refine g_Vi (n := 2) (rest := []) S G hl (c_X3_first l R K hk3 (lin_pos ql)) gX4_gather_X3_first rfl (by decide +kernel) (Rc_wk R) rfl rfl rfl (Nat.le_of_ble_eq_true rfl) ⟨Nat.le_of_ble_eq_true rfl, Nat.le_of_ble_eq_true rfl⟩ ⟨Nat.le_of_ble_eq_true rfl, Nat.le_of_ble_eq_true rfl⟩ dX4_gather_39 ?_
        clear G; intro v6 w1 H locs hp G
        have hoq7 := nm_o (cl := cl) (vs := vs) (lk := lk) (hd := hd) (so := so) (sz := sz) (it := it) (lim := li) 30 k3 0
        have hbq7 := nm_bg (cl := cl) (vs := vs) (lk := lk) (hd := hd) (so := so) (sz := sz) (it := it) (lim := li) 30 k3 0 (lin_pos ql)
        generalize hQq7 : nm cl vs lk hd so sz it li 30 k3 0 = q7 at hp hoq7 hbq7
        obtain ⟨oq7, rq7, bq7, dq7, tq7⟩ := q7
        obtain ⟨hv6, R⟩ := hp
        dsimp only at hv6 R hoq7 hbq7
        obtain ⟨jq7, hjq7, ejq7⟩ := hoq7
        refine lv_istore (lv' := [(4, .int v6), (3, .ref (T k1)), (0, .ref x), (1, .int t), (2, .int li)]) hx hb dX4_gather_42 hl (by decide) rfl (fun ls hl => ?_)
        refine lv_aload_n hx hb dX4_gather_44 rfl (lv_at hl 2 rfl) ?_
        refine g_get S G (Rc_x R) rfl (by decide +kernel) 1 (by decide) (by decide +kernel) rfl dX4_gather_45 ?_
        refine g_get S G (Rc_wk R) rfl (by decide +kernel) 3 (by decide) (by decide +kernel) rfl dX4_gather_48 ?_
        refine lv_if_eq (tgt := 66) hx hb dX4_gather_51 (by decide) (fun c8 => ?_) (fun c8 => ?_)
        · skip
          refine lv_aload_n hx hb dX4_gather_66 rfl (lv_at hl 2 rfl) ?_
          refine lv_iconst (v := 0) hx hb dX4_gather_67 (by decide) ?_
          refine g_Vi (n := 1) (rest := []) S G hl (c_X4_tell l R (j := 0) (o := 0) rfl (by decide)) gX4_gather_X4_tell rfl (by decide +kernel) (Rc_x R) rfl rfl rfl (Nat.le_of_ble_eq_true rfl) ⟨Nat.le_of_ble_eq_true rfl, Nat.le_of_ble_eq_true rfl⟩ ⟨Nat.le_of_ble_eq_true rfl, Nat.le_of_ble_eq_true rfl⟩ dX4_gather_68 ?_
          clear G; intro r_ w1 H locs hp G
          obtain ⟨hr_, R⟩ := hp
          subst r_
          rw [if_neg (show ¬ ((0 : Int32) = 7) by decide)] at R
          refine lv_pop hx hb dX4_gather_71 rfl ?_
          refine lv_aload_n hx hb dX4_gather_72 rfl (lv_at hl 1 rfl) ?_
          refine lv_dup hx hb dX4_gather_73 rfl ?_
          refine g_get S G (Rc_T R k1 hk1) rfl (by decide +kernel) 1 (by decide) (by decide +kernel) rfl dX4_gather_74 ?_
          refine lv_iload hx hb dX4_gather_77 (lv_at hl 0 rfl) ?_
          refine lv_iadd hx hb dX4_gather_79 ?_
          refine lv_topi (fun a9 ea9 => ?_)
          refine g_put (fs' := [.int (cl k1), .int a9, .int (lk k1), va_rf (ro Rw (hd k1))]) (ty := .int) (v := .int a9) S G (Rc_T R k1 hk1) rfl tyX2 tyX2_ok nmX2 (by decide +kernel) 1 (by decide) (by decide +kernel) rfl (by decide +kernel) rfl rfl (Nat.le_of_ble_eq_true rfl) rfl dX4_gather_80 (fun H locs G => ?_)
          obtain ⟨w, R, G⟩ := Rc_ex (Rc_p_vs R hk1 a9) G
          refine lv_aload_n hx hb dX4_gather_83 rfl (lv_at hl 1 rfl) ?_
          refine g_get S G (Rc_T R k1 hk1) rfl (by decide +kernel) 1 (by decide) (by decide +kernel) rfl dX4_gather_84 ?_
          refine r_int S hret hlk G rfl (Nat.le_of_ble_eq_true rfl) (Nat.le_of_ble_eq_true rfl) dX4_gather_87 ?_
          have yk1 := tin_e ek1 hk1 (show n ≤ 1000 by omega)
          have zk1 := cn_e ek1 (show k1 < 1000 by omega)
          have qk3 := nm1 (show k3 < 100000 by omega)
          have hv := hv6 c8
          rw [ea9, hv] at R ⊢
          rw [c8] at hQq7
          refine ⟨by simp only [S_gather, yk1, zk1, ek3, qk3, cn_nI (show k3 < 2 ^ 31 by omega), ql, hQq7, n_of, lk_of, vs_of, hd_of, nmS, s_end, put_vs, put_it, ↓reduceIte, Bool.false_eq_true, pk_us, and_self, show ¬ ((0 : Int32) = 7) by decide], ?_⟩
          simp only [S_gather, yk1, zk1, ek3, qk3, cn_nI (show k3 < 2 ^ 31 by omega), ql, hQq7, n_of, lk_of, vs_of, hd_of, nmS, s_end, put_vs, put_it, ↓reduceIte, Bool.false_eq_true, pk_us, and_self, show ¬ ((0 : Int32) = 7) by decide]
          exact ⟨_, _, _, _, _, _, _, _, _, _, R⟩
        · skip
          refine lv_aload_n hx hb dX4_gather_54 rfl (lv_at hl 2 rfl) ?_
          refine lv_aload_n hx hb dX4_gather_55 rfl (lv_at hl 2 rfl) ?_
          refine g_get S G (Rc_x R) rfl (by decide +kernel) 1 (by decide) (by decide +kernel) rfl dX4_gather_56 ?_
          refine g_get S G (Rc_wk R) rfl (by decide +kernel) 3 (by decide) (by decide +kernel) rfl dX4_gather_59 ?_
          refine g_Vi (n := 1) (rest := []) S G hl (c_X4_refuse l R (o := oq7) ejq7 hjq7) gX4_gather_X4_refuse rfl (by decide +kernel) (Rc_x R) rfl rfl rfl (Nat.le_of_ble_eq_true rfl) ⟨Nat.le_of_ble_eq_true rfl, Nat.le_of_ble_eq_true rfl⟩ ⟨Nat.le_of_ble_eq_true rfl, Nat.le_of_ble_eq_true rfl⟩ dX4_gather_62 ?_
          clear G; intro r_ w1 H locs hp G
          obtain ⟨hr_, R⟩ := hp
          subst r_
          refine r_int S hret hlk G rfl (Nat.le_of_ble_eq_true rfl) (Nat.le_of_ble_eq_true rfl) dX4_gather_65 ?_
          have yk1 := tin_e ek1 hk1 (show n ≤ 1000 by omega)
          have zk1 := cn_e ek1 (show k1 < 1000 by omega)
          have qk3 := nm1 (show k3 < 100000 by omega)
          rw [ow_eq] at R
          refine ⟨by simp only [S_gather, yk1, zk1, ek3, qk3, cn_nI (show k3 < 2 ^ 31 by omega), ql, hQq7, n_of, lk_of, vs_of, hd_of, nmS, s_end, put_vs, put_it, ↓reduceIte, Bool.false_eq_true, pk_us, and_self, c8], ?_⟩
          simp only [S_gather, yk1, zk1, ek3, qk3, cn_nI (show k3 < 2 ^ 31 by omega), ql, hQq7, n_of, lk_of, vs_of, hd_of, nmS, s_end, put_vs, put_it, ↓reduceIte, Bool.false_eq_true, pk_us, and_self, c8]
          exact ⟨_, _, _, _, _, _, _, _, _, _, R⟩
    · skip
      refine g_Si (n := 1) (rest := []) S G hl (c_X4_isLimit l li) gX4_gather_X4_isLimit rfl (by decide +kernel) rfl rfl (Nat.le_of_ble_eq_true rfl) ⟨Nat.le_of_ble_eq_true rfl, Nat.le_of_ble_eq_true rfl⟩ ⟨Nat.le_of_ble_eq_true rfl, Nat.le_of_ble_eq_true rfl⟩ dX4_gather_14 ?_
      clear G; intro r_ w1 H locs hp G
      obtain ⟨rfl, hq_⟩ := hp
      rw [if_neg ql] at hq_
      subst hq_
      refine lv_if_ne (tgt := 23) hx hb dX4_gather_17 (by decide) (fun c10 => absurd (by decide) c10) (fun c10 => ?_)
      refine lv_ldc hx hb S.2.2.2.1 (S.2.2.2.2 (.constant RX4 33 (-2000000001)) (by decide +kernel)) dX4_gather_20 ?_
      refine r_int S hret hlk G rfl (Nat.le_of_ble_eq_true rfl) (Nat.le_of_ble_eq_true rfl) dX4_gather_22 ?_
      have yk1 := tin_e ek1 hk1 (show n ≤ 1000 by omega)
      have zk1 := cn_e ek1 (show k1 < 1000 by omega)
      refine ⟨by simp only [S_gather, yk1, zk1, ql, n_of, lk_of, vs_of, hd_of, nmS, s_end, put_vs, put_it, ↓reduceIte, Bool.false_eq_true, pk_us, and_self], ?_⟩
      simp only [S_gather, yk1, zk1, ql, n_of, lk_of, vs_of, hd_of, nmS, s_end, put_vs, put_it, ↓reduceIte, Bool.false_eq_true, pk_us, and_self]
      exact ⟨_, _, _, _, _, _, _, _, _, _, R⟩

set_option maxHeartbeats 4000000 in
set_option maxRecDepth 100000 in
theorem C_keep (l : Launch) {E : EV} {w : wo} {x : Nat} {σ : ST} (X : RcX E w x σ) (K : Gd σ) (t : Int32) (o : Int32) (k : Int32) (li : Int32) : ct_i l E yX4_keep wsX4_keep 96 0 0 [.ref x, .int t, .int o, .int k, .int li] w (fun r w' => r = (S_keep t o k li σ).1 ∧ RcX E w' x (S_keep t o k li σ).2) := by
  obtain ⟨st, wk, tl, ta, tf, T, Rw, Ia, F, ⟨lim, wou, th⟩, R⟩ := X
  obtain ⟨n, cl, vs, lk, hd, nr, so, sz, it, oc, ow, bg, dp, td⟩ := σ
  have K9 := K
  obtain ⟨Kn, Kr, Kc, Kl, Kh, Ks, Kz, Ki⟩ := K9
  intro zz
  refine wo_body (Qc := fun A => va_Qi _ (wo_B E A) A) (ret := (some .int)) (by decide) rfl (Nat.le_of_ble_eq_true rfl) ?_
  intro p_ e_ s_ m_ args_ below_ meth_ code_ A_ ls S hret hlk hnm G hl
  have hl : lv_has ls 10 [(0, .ref x), (1, .int t), (2, .int o), (3, .int k), (4, .int li)] := hl
  have hx := S.1
  have hb := S.2.1
  refine lv_aload_n hx hb dX4_keep_0 rfl (lv_at hl 0 rfl) ?_
  refine g_get S G (Rc_x R) rfl (by decide +kernel) 0 (by decide) (by decide +kernel) rfl dX4_keep_1 ?_
  refine lv_iload_n hx hb dX4_keep_4 rfl (lv_at hl 1 rfl) ?_
  rcases tin_c n t (by omega) with ⟨tk1, ok1⟩ | ⟨k1, hk1, ek1⟩
  · skip
    refine g_Vq (n := 1) (rest := []) S G hl (c_X1_find_n l R Kn ok1) gX4_keep_X1_find rfl (by decide +kernel) (Rc_st R) rfl rfl rfl (Nat.le_of_ble_eq_true rfl) ⟨Nat.le_of_ble_eq_true rfl, Nat.le_of_ble_eq_true rfl⟩ ⟨Nat.le_of_ble_eq_true rfl, Nat.le_of_ble_eq_true rfl⟩ dX4_keep_5 ?_
    clear G; intro r_ w1 H locs hp G
    obtain ⟨rfl, rfl⟩ := hp
    refine W.eq (g2 := F0 m_ 8 ls [.null]) rfl ?_
    refine lv_astoreN (lv' := [(5, .null), (0, .ref x), (1, .int t), (2, .int o), (3, .int k), (4, .int li)]) hx hb dX4_keep_8 hl (by decide) rfl (fun ls hl => ?_)
    refine lv_aload_n hx hb dX4_keep_10 rfl (lv_at hl 1 rfl) ?_
    refine g_get S G (Rc_x R) rfl (by decide +kernel) 0 (by decide) (by decide +kernel) rfl dX4_keep_11 ?_
    refine lv_iload_n hx hb dX4_keep_14 rfl (lv_at hl 3 rfl) ?_
    rcases tin_c n o (by omega) with ⟨tk2, ok2⟩ | ⟨k2, hk2, ek2⟩
    · skip
      refine g_Vq (n := 1) (rest := []) S G hl (c_X1_find_n l R Kn ok2) gX4_keep_X1_find rfl (by decide +kernel) (Rc_st R) rfl rfl rfl (Nat.le_of_ble_eq_true rfl) ⟨Nat.le_of_ble_eq_true rfl, Nat.le_of_ble_eq_true rfl⟩ ⟨Nat.le_of_ble_eq_true rfl, Nat.le_of_ble_eq_true rfl⟩ dX4_keep_15 ?_
      clear G; intro r_ w1 H locs hp G
      obtain ⟨rfl, rfl⟩ := hp
      refine W.eq (g2 := F0 m_ 18 ls [.null]) rfl ?_
      refine lv_astoreN (lv' := [(6, .null), (5, .null), (0, .ref x), (1, .int t), (2, .int o), (3, .int k), (4, .int li)]) hx hb dX4_keep_18 hl (by decide) rfl (fun ls hl => ?_)
      refine lv_aloadN hx hb dX4_keep_20 (lv_at hl 1 rfl) ?_
      refine lv_ifnullN (tgt := 38) hx hb dX4_keep_22 (by decide) ?_
      refine lv_ldc hx hb S.2.2.2.1 (S.2.2.2.2 (.constant RX4 33 (-2000000001)) (by decide +kernel)) dX4_keep_38 ?_
      refine r_int S hret hlk G rfl (Nat.le_of_ble_eq_true rfl) (Nat.le_of_ble_eq_true rfl) dX4_keep_40 ?_
      refine ⟨by simp only [S_keep, tk1, tk2, n_of, lk_of, vs_of, hd_of, nmS, s_end, put_vs, put_it, ↓reduceIte, Bool.false_eq_true, pk_us, and_self], ?_⟩
      simp only [S_keep, tk1, tk2, n_of, lk_of, vs_of, hd_of, nmS, s_end, put_vs, put_it, ↓reduceIte, Bool.false_eq_true, pk_us, and_self]
      exact ⟨_, _, _, _, _, _, _, _, _, _, R⟩
    · skip
      refine g_Vq (n := 1) (rest := []) S G hl (c_X1_find_y l R Kn ek2 hk2) gX4_keep_X1_find rfl (by decide +kernel) (Rc_st R) rfl rfl rfl (Nat.le_of_ble_eq_true rfl) ⟨Nat.le_of_ble_eq_true rfl, Nat.le_of_ble_eq_true rfl⟩ ⟨Nat.le_of_ble_eq_true rfl, Nat.le_of_ble_eq_true rfl⟩ dX4_keep_15 ?_
      clear G; intro r_ w1 H locs hp G
      obtain ⟨rfl, rfl⟩ := hp
      refine W.eq (g2 := F0 m_ 18 ls [.ref (T k2)]) rfl ?_
      refine lv_astore (lv' := [(6, .ref (T k2)), (5, .null), (0, .ref x), (1, .int t), (2, .int o), (3, .int k), (4, .int li)]) hx hb dX4_keep_18 hl (by decide) rfl (fun ls hl => ?_)
      refine lv_aloadN hx hb dX4_keep_20 (lv_at hl 1 rfl) ?_
      refine lv_ifnullN (tgt := 38) hx hb dX4_keep_22 (by decide) ?_
      refine lv_ldc hx hb S.2.2.2.1 (S.2.2.2.2 (.constant RX4 33 (-2000000001)) (by decide +kernel)) dX4_keep_38 ?_
      refine r_int S hret hlk G rfl (Nat.le_of_ble_eq_true rfl) (Nat.le_of_ble_eq_true rfl) dX4_keep_40 ?_
      have yk2 := tin_e ek2 hk2 (show n ≤ 1000 by omega)
      have zk2 := cn_e ek2 (show k2 < 1000 by omega)
      refine ⟨by simp only [S_keep, tk1, yk2, zk2, n_of, lk_of, vs_of, hd_of, nmS, s_end, put_vs, put_it, ↓reduceIte, Bool.false_eq_true, pk_us, and_self], ?_⟩
      simp only [S_keep, tk1, yk2, zk2, n_of, lk_of, vs_of, hd_of, nmS, s_end, put_vs, put_it, ↓reduceIte, Bool.false_eq_true, pk_us, and_self]
      exact ⟨_, _, _, _, _, _, _, _, _, _, R⟩
  · skip
    refine g_Vq (n := 1) (rest := []) S G hl (c_X1_find_y l R Kn ek1 hk1) gX4_keep_X1_find rfl (by decide +kernel) (Rc_st R) rfl rfl rfl (Nat.le_of_ble_eq_true rfl) ⟨Nat.le_of_ble_eq_true rfl, Nat.le_of_ble_eq_true rfl⟩ ⟨Nat.le_of_ble_eq_true rfl, Nat.le_of_ble_eq_true rfl⟩ dX4_keep_5 ?_
    clear G; intro r_ w1 H locs hp G
    obtain ⟨rfl, rfl⟩ := hp
    refine W.eq (g2 := F0 m_ 8 ls [.ref (T k1)]) rfl ?_
    refine lv_astore (lv' := [(5, .ref (T k1)), (0, .ref x), (1, .int t), (2, .int o), (3, .int k), (4, .int li)]) hx hb dX4_keep_8 hl (by decide) rfl (fun ls hl => ?_)
    refine lv_aload_n hx hb dX4_keep_10 rfl (lv_at hl 1 rfl) ?_
    refine g_get S G (Rc_x R) rfl (by decide +kernel) 0 (by decide) (by decide +kernel) rfl dX4_keep_11 ?_
    refine lv_iload_n hx hb dX4_keep_14 rfl (lv_at hl 3 rfl) ?_
    rcases tin_c n o (by omega) with ⟨tk3, ok3⟩ | ⟨k3, hk3, ek3⟩
    · skip
      refine g_Vq (n := 1) (rest := []) S G hl (c_X1_find_n l R Kn ok3) gX4_keep_X1_find rfl (by decide +kernel) (Rc_st R) rfl rfl rfl (Nat.le_of_ble_eq_true rfl) ⟨Nat.le_of_ble_eq_true rfl, Nat.le_of_ble_eq_true rfl⟩ ⟨Nat.le_of_ble_eq_true rfl, Nat.le_of_ble_eq_true rfl⟩ dX4_keep_15 ?_
      clear G; intro r_ w1 H locs hp G
      obtain ⟨rfl, rfl⟩ := hp
      refine W.eq (g2 := F0 m_ 18 ls [.null]) rfl ?_
      refine lv_astoreN (lv' := [(6, .null), (5, .ref (T k1)), (0, .ref x), (1, .int t), (2, .int o), (3, .int k), (4, .int li)]) hx hb dX4_keep_18 hl (by decide) rfl (fun ls hl => ?_)
      refine lv_aload hx hb dX4_keep_20 (lv_at hl 1 rfl) ?_
      refine lv_ifnull hx hb dX4_keep_22 ?_
      refine lv_aloadN hx hb dX4_keep_25 (lv_at hl 0 rfl) ?_
      refine lv_ifnullN (tgt := 38) hx hb dX4_keep_27 (by decide) ?_
      refine lv_ldc hx hb S.2.2.2.1 (S.2.2.2.2 (.constant RX4 33 (-2000000001)) (by decide +kernel)) dX4_keep_38 ?_
      refine r_int S hret hlk G rfl (Nat.le_of_ble_eq_true rfl) (Nat.le_of_ble_eq_true rfl) dX4_keep_40 ?_
      have yk1 := tin_e ek1 hk1 (show n ≤ 1000 by omega)
      have zk1 := cn_e ek1 (show k1 < 1000 by omega)
      refine ⟨by simp only [S_keep, yk1, zk1, tk3, n_of, lk_of, vs_of, hd_of, nmS, s_end, put_vs, put_it, ↓reduceIte, Bool.false_eq_true, pk_us, and_self], ?_⟩
      simp only [S_keep, yk1, zk1, tk3, n_of, lk_of, vs_of, hd_of, nmS, s_end, put_vs, put_it, ↓reduceIte, Bool.false_eq_true, pk_us, and_self]
      exact ⟨_, _, _, _, _, _, _, _, _, _, R⟩
    · skip
      refine g_Vq (n := 1) (rest := []) S G hl (c_X1_find_y l R Kn ek3 hk3) gX4_keep_X1_find rfl (by decide +kernel) (Rc_st R) rfl rfl rfl (Nat.le_of_ble_eq_true rfl) ⟨Nat.le_of_ble_eq_true rfl, Nat.le_of_ble_eq_true rfl⟩ ⟨Nat.le_of_ble_eq_true rfl, Nat.le_of_ble_eq_true rfl⟩ dX4_keep_15 ?_
      clear G; intro r_ w1 H locs hp G
      obtain ⟨rfl, rfl⟩ := hp
      refine W.eq (g2 := F0 m_ 18 ls [.ref (T k3)]) rfl ?_
      refine lv_astore (lv' := [(6, .ref (T k3)), (5, .ref (T k1)), (0, .ref x), (1, .int t), (2, .int o), (3, .int k), (4, .int li)]) hx hb dX4_keep_18 hl (by decide) rfl (fun ls hl => ?_)
      refine lv_aload hx hb dX4_keep_20 (lv_at hl 1 rfl) ?_
      refine lv_ifnull hx hb dX4_keep_22 ?_
      refine lv_aload hx hb dX4_keep_25 (lv_at hl 0 rfl) ?_
      refine lv_ifnull hx hb dX4_keep_27 ?_
      refine lv_iload hx hb dX4_keep_30 (lv_at hl 6 rfl) ?_
      by_cases ql : lin li = true
      · skip
        refine g_Si (n := 1) (rest := []) S G hl (c_X4_isLimit l li) gX4_keep_X4_isLimit rfl (by decide +kernel) rfl rfl (Nat.le_of_ble_eq_true rfl) ⟨Nat.le_of_ble_eq_true rfl, Nat.le_of_ble_eq_true rfl⟩ ⟨Nat.le_of_ble_eq_true rfl, Nat.le_of_ble_eq_true rfl⟩ dX4_keep_32 ?_
        clear G; intro r_ w1 H locs hp G
        obtain ⟨rfl, hq_⟩ := hp
        rw [if_pos ql] at hq_
        subst hq_
        refine lv_if_ne (tgt := 41) hx hb dX4_keep_35 (by decide) (fun c4 => ?_) (fun c4 => absurd c4 (by decide))
        refine lv_aload_n hx hb dX4_keep_41 rfl (lv_at hl 2 rfl) ?_
        refine g_get S G (Rc_x R) rfl (by decide +kernel) 1 (by decide) (by decide +kernel) rfl dX4_keep_42 ?_
        refine lv_aload hx hb dX4_keep_45 (lv_at hl 1 rfl) ?_
        refine lv_iload hx hb dX4_keep_47 (lv_at hl 6 rfl) ?_
        refine g_Vi (n := 2) (rest := []) S G hl (c_X3_first l R K hk1 (lin_pos ql)) gX4_keep_X3_first rfl (by decide +kernel) (Rc_wk R) rfl rfl rfl (Nat.le_of_ble_eq_true rfl) ⟨Nat.le_of_ble_eq_true rfl, Nat.le_of_ble_eq_true rfl⟩ ⟨Nat.le_of_ble_eq_true rfl, Nat.le_of_ble_eq_true rfl⟩ dX4_keep_49 ?_
        clear G; intro v5 w1 H locs hp G
        have hoq6 := nm_o (cl := cl) (vs := vs) (lk := lk) (hd := hd) (so := so) (sz := sz) (it := it) (lim := li) 30 k1 0
        have hbq6 := nm_bg (cl := cl) (vs := vs) (lk := lk) (hd := hd) (so := so) (sz := sz) (it := it) (lim := li) 30 k1 0 (lin_pos ql)
        generalize hQq6 : nm cl vs lk hd so sz it li 30 k1 0 = q6 at hp hoq6 hbq6
        obtain ⟨oq6, rq6, bq6, dq6, tq6⟩ := q6
        obtain ⟨hv5, R⟩ := hp
        dsimp only at hv5 R hoq6 hbq6
        obtain ⟨jq6, hjq6, ejq6⟩ := hoq6
        refine lv_istore (lv' := [(7, .int v5), (6, .ref (T k3)), (5, .ref (T k1)), (0, .ref x), (1, .int t), (2, .int o), (3, .int k), (4, .int li)]) hx hb dX4_keep_52 hl (by decide) rfl (fun ls hl => ?_)
        refine lv_aload_n hx hb dX4_keep_54 rfl (lv_at hl 3 rfl) ?_
        refine g_get S G (Rc_x R) rfl (by decide +kernel) 1 (by decide) (by decide +kernel) rfl dX4_keep_55 ?_
        refine g_get S G (Rc_wk R) rfl (by decide +kernel) 3 (by decide) (by decide +kernel) rfl dX4_keep_58 ?_
        refine lv_if_eq (tgt := 76) hx hb dX4_keep_61 (by decide) (fun c7 => ?_) (fun c7 => ?_)
        · skip
          refine lv_aload hx hb dX4_keep_76 (lv_at hl 1 rfl) ?_
          rcases Kh k3 hk3 with er8 | ⟨r8, hr8, er8⟩
          · skip
            refine g_get S G (Rc_Tn R hk3 er8) rfl (by decide +kernel) 3 (by decide) (by decide +kernel) rfl dX4_keep_78 ?_
            refine lv_astoreN (lv' := [(8, .null), (7, .int v5), (6, .ref (T k3)), (5, .ref (T k1)), (0, .ref x), (1, .int t), (2, .int o), (3, .int k), (4, .int li)]) hx hb dX4_keep_81 hl (by decide) rfl (fun ls hl => ?_)
            refine lv_aloadN hx hb dX4_keep_83 (lv_at hl 0 rfl) ?_
            refine lv_iconst (v := 0) hx hb dX4_keep_85 (by decide) ?_
            refine lv_iconst (v := 0) hx hb dX4_keep_86 (by decide) ?_
            refine lv_iload_n hx hb dX4_keep_87 rfl (lv_at hl 7 rfl) ?_
            refine g_Si (n := 4) (rest := []) S G hl (c_X4_againstItem_n l 0 0 k) gX4_keep_X4_againstItem rfl (by decide +kernel) rfl rfl (Nat.le_of_ble_eq_true rfl) ⟨Nat.le_of_ble_eq_true rfl, Nat.le_of_ble_eq_true rfl⟩ ⟨Nat.le_of_ble_eq_true rfl, Nat.le_of_ble_eq_true rfl⟩ dX4_keep_88 ?_
            clear G; intro r_ w1 H locs hp G
            obtain ⟨rfl, rfl⟩ := hp
            refine lv_istore (lv' := [(9, .int 1), (8, .null), (7, .int v5), (6, .ref (T k3)), (5, .ref (T k1)), (0, .ref x), (1, .int t), (2, .int o), (3, .int k), (4, .int li)]) hx hb dX4_keep_91 hl (by decide) rfl (fun ls hl => ?_)
            refine lv_iload hx hb dX4_keep_93 (lv_at hl 0 rfl) ?_
            refine lv_if_eq (tgt := 105) hx hb dX4_keep_95 (by decide) (fun c9 => absurd c9 (by decide)) (fun c9 => ?_)
            refine lv_aload_n hx hb dX4_keep_98 rfl (lv_at hl 5 rfl) ?_
            refine lv_iload hx hb dX4_keep_99 (lv_at hl 0 rfl) ?_
            refine g_Vi (n := 1) (rest := []) S G hl (c_X4_refuse l R (j := 1) (o := 1) rfl (by decide)) gX4_keep_X4_refuse rfl (by decide +kernel) (Rc_x R) rfl rfl rfl (Nat.le_of_ble_eq_true rfl) ⟨Nat.le_of_ble_eq_true rfl, Nat.le_of_ble_eq_true rfl⟩ ⟨Nat.le_of_ble_eq_true rfl, Nat.le_of_ble_eq_true rfl⟩ dX4_keep_101 ?_
            clear G; intro r_ w1 H locs hp G
            obtain ⟨hr_, R⟩ := hp
            subst r_
            rw [if_neg (show ¬ ((1 : Int32) = 7) by decide)] at R
            refine r_int S hret hlk G rfl (Nat.le_of_ble_eq_true rfl) (Nat.le_of_ble_eq_true rfl) dX4_keep_104 ?_
            have yk1 := tin_e ek1 hk1 (show n ≤ 1000 by omega)
            have zk1 := cn_e ek1 (show k1 < 1000 by omega)
            have yk3 := tin_e ek3 hk3 (show n ≤ 1000 by omega)
            have zk3 := cn_e ek3 (show k3 < 1000 by omega)
            have hv := hv5 c7
            rw [c7] at hQq6
            refine ⟨by simp only [S_keep, agi, yk1, zk1, yk3, zk3, er8, ql, hQq6, n_of, lk_of, vs_of, hd_of, nmS, s_end, put_vs, put_it, ↓reduceIte, Bool.false_eq_true, pk_us, and_self, show ¬ ((0 : Int32) = 7) by decide, show ¬ ((1 : Int32) = 7) by decide, show ¬ ((2 : Int32) = 7) by decide, show ¬ ((3 : Int32) = 7) by decide, show ¬ ((1 : Int32) = 0) by decide, show ¬ ((2 : Int32) = 0) by decide, show ¬ ((3 : Int32) = 0) by decide], ?_⟩
            simp only [S_keep, agi, yk1, zk1, yk3, zk3, er8, ql, hQq6, n_of, lk_of, vs_of, hd_of, nmS, s_end, put_vs, put_it, ↓reduceIte, Bool.false_eq_true, pk_us, and_self, show ¬ ((0 : Int32) = 7) by decide, show ¬ ((1 : Int32) = 7) by decide, show ¬ ((2 : Int32) = 7) by decide, show ¬ ((3 : Int32) = 7) by decide, show ¬ ((1 : Int32) = 0) by decide, show ¬ ((2 : Int32) = 0) by decide, show ¬ ((3 : Int32) = 0) by decide]
            exact ⟨_, _, _, _, _, _, _, _, _, _, R⟩
          · skip
            refine g_get S G (Rc_Ty R hk3 er8 hr8 Kr) rfl (by decide +kernel) 3 (by decide) (by decide +kernel) rfl dX4_keep_78 ?_
            refine lv_astore (lv' := [(8, .ref (Rw r8)), (7, .int v5), (6, .ref (T k3)), (5, .ref (T k1)), (0, .ref x), (1, .int t), (2, .int o), (3, .int k), (4, .int li)]) hx hb dX4_keep_81 hl (by decide) rfl (fun ls hl => ?_)
            refine lv_aload hx hb dX4_keep_83 (lv_at hl 0 rfl) ?_
            refine lv_iconst (v := 0) hx hb dX4_keep_85 (by decide) ?_
            refine lv_iconst (v := 0) hx hb dX4_keep_86 (by decide) ?_
            refine lv_iload_n hx hb dX4_keep_87 rfl (lv_at hl 7 rfl) ?_
            by_cases q10 : so r8 < 0 ∨ 0 < so r8
            · skip
              refine g_Si (n := 4) (rest := []) S G hl (c_X4_againstItem_y l R hr8 (sz_le (Kz r8 hr8)) 0 0 k) gX4_keep_X4_againstItem rfl (by decide +kernel) rfl rfl (Nat.le_of_ble_eq_true rfl) ⟨Nat.le_of_ble_eq_true rfl, Nat.le_of_ble_eq_true rfl⟩ ⟨Nat.le_of_ble_eq_true rfl, Nat.le_of_ble_eq_true rfl⟩ dX4_keep_88 ?_
              clear G; intro r_ w1 H locs hp G
              obtain ⟨rfl, hq_⟩ := hp
              simp only [q10, ↓reduceIte, Bool.false_eq_true] at hq_
              subst hq_
              refine lv_istore (lv' := [(9, .int 2), (8, .ref (Rw r8)), (7, .int v5), (6, .ref (T k3)), (5, .ref (T k1)), (0, .ref x), (1, .int t), (2, .int o), (3, .int k), (4, .int li)]) hx hb dX4_keep_91 hl (by decide) rfl (fun ls hl => ?_)
              refine lv_iload hx hb dX4_keep_93 (lv_at hl 0 rfl) ?_
              refine lv_if_eq (tgt := 105) hx hb dX4_keep_95 (by decide) (fun c12 => absurd c12 (by decide)) (fun c12 => ?_)
              refine lv_aload_n hx hb dX4_keep_98 rfl (lv_at hl 5 rfl) ?_
              refine lv_iload hx hb dX4_keep_99 (lv_at hl 0 rfl) ?_
              refine g_Vi (n := 1) (rest := []) S G hl (c_X4_refuse l R (j := 2) (o := 2) rfl (by decide)) gX4_keep_X4_refuse rfl (by decide +kernel) (Rc_x R) rfl rfl rfl (Nat.le_of_ble_eq_true rfl) ⟨Nat.le_of_ble_eq_true rfl, Nat.le_of_ble_eq_true rfl⟩ ⟨Nat.le_of_ble_eq_true rfl, Nat.le_of_ble_eq_true rfl⟩ dX4_keep_101 ?_
              clear G; intro r_ w1 H locs hp G
              obtain ⟨hr_, R⟩ := hp
              subst r_
              rw [if_neg (show ¬ ((2 : Int32) = 7) by decide)] at R
              refine r_int S hret hlk G rfl (Nat.le_of_ble_eq_true rfl) (Nat.le_of_ble_eq_true rfl) dX4_keep_104 ?_
              have yk1 := tin_e ek1 hk1 (show n ≤ 1000 by omega)
              have zk1 := cn_e ek1 (show k1 < 1000 by omega)
              have yk3 := tin_e ek3 hk3 (show n ≤ 1000 by omega)
              have zk3 := cn_e ek3 (show k3 < 1000 by omega)
              have qr8 := nm1 (show r8 < 100000 by omega)
              have hv := hv5 c7
              rw [c7] at hQq6
              have g9 : ¬ so r8 = 0 := fun z => q10.elim (fun y => by rw [z] at y; exact absurd y (by decide)) (fun y => by rw [z] at y; exact absurd y (by decide))
              refine ⟨by simp only [S_keep, agi, yk1, zk1, yk3, zk3, er8, qr8, cn_nI (show r8 < 2 ^ 31 by omega), ql, hQq6, g9, n_of, lk_of, vs_of, hd_of, nmS, s_end, put_vs, put_it, ↓reduceIte, Bool.false_eq_true, pk_us, and_self, show ¬ ((0 : Int32) = 7) by decide, show ¬ ((1 : Int32) = 7) by decide, show ¬ ((2 : Int32) = 7) by decide, show ¬ ((3 : Int32) = 7) by decide, show ¬ ((1 : Int32) = 0) by decide, show ¬ ((2 : Int32) = 0) by decide, show ¬ ((3 : Int32) = 0) by decide], ?_⟩
              simp only [S_keep, agi, yk1, zk1, yk3, zk3, er8, qr8, cn_nI (show r8 < 2 ^ 31 by omega), ql, hQq6, g9, n_of, lk_of, vs_of, hd_of, nmS, s_end, put_vs, put_it, ↓reduceIte, Bool.false_eq_true, pk_us, and_self, show ¬ ((0 : Int32) = 7) by decide, show ¬ ((1 : Int32) = 7) by decide, show ¬ ((2 : Int32) = 7) by decide, show ¬ ((3 : Int32) = 7) by decide, show ¬ ((1 : Int32) = 0) by decide, show ¬ ((2 : Int32) = 0) by decide, show ¬ ((3 : Int32) = 0) by decide]
              exact ⟨_, _, _, _, _, _, _, _, _, _, R⟩
            rcases tin_c (cn (sz r8)) k (Nat.le_trans (sz_le (Kz r8 hr8)) (by decide)) with ⟨tk11, ok11⟩ | ⟨k11, hk11, ek11⟩
            · skip
              refine g_Si (n := 4) (rest := []) S G hl (c_X4_againstItem_y l R hr8 (sz_le (Kz r8 hr8)) 0 0 k) gX4_keep_X4_againstItem rfl (by decide +kernel) rfl rfl (Nat.le_of_ble_eq_true rfl) ⟨Nat.le_of_ble_eq_true rfl, Nat.le_of_ble_eq_true rfl⟩ ⟨Nat.le_of_ble_eq_true rfl, Nat.le_of_ble_eq_true rfl⟩ dX4_keep_88 ?_
              clear G; intro r_ w1 H locs hp G
              obtain ⟨rfl, hq_⟩ := hp
              simp only [q10, tk11, ↓reduceIte, Bool.false_eq_true] at hq_
              subst hq_
              refine lv_istore (lv' := [(9, .int 3), (8, .ref (Rw r8)), (7, .int v5), (6, .ref (T k3)), (5, .ref (T k1)), (0, .ref x), (1, .int t), (2, .int o), (3, .int k), (4, .int li)]) hx hb dX4_keep_91 hl (by decide) rfl (fun ls hl => ?_)
              refine lv_iload hx hb dX4_keep_93 (lv_at hl 0 rfl) ?_
              refine lv_if_eq (tgt := 105) hx hb dX4_keep_95 (by decide) (fun c13 => absurd c13 (by decide)) (fun c13 => ?_)
              refine lv_aload_n hx hb dX4_keep_98 rfl (lv_at hl 5 rfl) ?_
              refine lv_iload hx hb dX4_keep_99 (lv_at hl 0 rfl) ?_
              refine g_Vi (n := 1) (rest := []) S G hl (c_X4_refuse l R (j := 3) (o := 3) rfl (by decide)) gX4_keep_X4_refuse rfl (by decide +kernel) (Rc_x R) rfl rfl rfl (Nat.le_of_ble_eq_true rfl) ⟨Nat.le_of_ble_eq_true rfl, Nat.le_of_ble_eq_true rfl⟩ ⟨Nat.le_of_ble_eq_true rfl, Nat.le_of_ble_eq_true rfl⟩ dX4_keep_101 ?_
              clear G; intro r_ w1 H locs hp G
              obtain ⟨hr_, R⟩ := hp
              subst r_
              rw [if_neg (show ¬ ((3 : Int32) = 7) by decide)] at R
              refine r_int S hret hlk G rfl (Nat.le_of_ble_eq_true rfl) (Nat.le_of_ble_eq_true rfl) dX4_keep_104 ?_
              have yk1 := tin_e ek1 hk1 (show n ≤ 1000 by omega)
              have zk1 := cn_e ek1 (show k1 < 1000 by omega)
              have yk3 := tin_e ek3 hk3 (show n ≤ 1000 by omega)
              have zk3 := cn_e ek3 (show k3 < 1000 by omega)
              have qr8 := nm1 (show r8 < 100000 by omega)
              have hv := hv5 c7
              rw [c7] at hQq6
              have g9 : so r8 = 0 := Int32.le_antisymm (Int32.not_lt.mp (fun z => q10 (Or.inr z))) (Int32.not_lt.mp (fun z => q10 (Or.inl z)))
              refine ⟨by simp only [S_keep, agi, yk1, zk1, yk3, zk3, er8, qr8, cn_nI (show r8 < 2 ^ 31 by omega), ql, tk11, hQq6, g9, n_of, lk_of, vs_of, hd_of, nmS, s_end, put_vs, put_it, ↓reduceIte, Bool.false_eq_true, pk_us, and_self, show ¬ ((0 : Int32) = 7) by decide, show ¬ ((1 : Int32) = 7) by decide, show ¬ ((2 : Int32) = 7) by decide, show ¬ ((3 : Int32) = 7) by decide, show ¬ ((1 : Int32) = 0) by decide, show ¬ ((2 : Int32) = 0) by decide, show ¬ ((3 : Int32) = 0) by decide], ?_⟩
              simp only [S_keep, agi, yk1, zk1, yk3, zk3, er8, qr8, cn_nI (show r8 < 2 ^ 31 by omega), ql, tk11, hQq6, g9, n_of, lk_of, vs_of, hd_of, nmS, s_end, put_vs, put_it, ↓reduceIte, Bool.false_eq_true, pk_us, and_self, show ¬ ((0 : Int32) = 7) by decide, show ¬ ((1 : Int32) = 7) by decide, show ¬ ((2 : Int32) = 7) by decide, show ¬ ((3 : Int32) = 7) by decide, show ¬ ((1 : Int32) = 0) by decide, show ¬ ((2 : Int32) = 0) by decide, show ¬ ((3 : Int32) = 0) by decide]
              exact ⟨_, _, _, _, _, _, _, _, _, _, R⟩
            · skip
              refine g_Si (n := 4) (rest := []) S G hl (c_X4_againstItem_y l R hr8 (sz_le (Kz r8 hr8)) 0 0 k) gX4_keep_X4_againstItem rfl (by decide +kernel) rfl rfl (Nat.le_of_ble_eq_true rfl) ⟨Nat.le_of_ble_eq_true rfl, Nat.le_of_ble_eq_true rfl⟩ ⟨Nat.le_of_ble_eq_true rfl, Nat.le_of_ble_eq_true rfl⟩ dX4_keep_88 ?_
              clear G; intro r_ w1 H locs hp G
              obtain ⟨rfl, hq_⟩ := hp
              have yk11 := tin_e ek11 hk11 (Nat.le_trans (sz_le (Kz r8 hr8)) (by decide))
              have zk11 := cn_e ek11 (Nat.lt_of_lt_of_le hk11 (Nat.le_trans (sz_le (Kz r8 hr8)) (by decide)))
              simp only [q10, yk11, ↓reduceIte, Bool.false_eq_true] at hq_
              subst hq_
              refine lv_istore (lv' := [(9, .int 0), (8, .ref (Rw r8)), (7, .int v5), (6, .ref (T k3)), (5, .ref (T k1)), (0, .ref x), (1, .int t), (2, .int o), (3, .int k), (4, .int li)]) hx hb dX4_keep_91 hl (by decide) rfl (fun ls hl => ?_)
              refine lv_iload hx hb dX4_keep_93 (lv_at hl 0 rfl) ?_
              refine lv_if_eq (tgt := 105) hx hb dX4_keep_95 (by decide) (fun c14 => ?_) (fun c14 => absurd (by decide) c14)
              refine lv_aload_n hx hb dX4_keep_105 rfl (lv_at hl 5 rfl) ?_
              refine lv_iconst (v := 0) hx hb dX4_keep_106 (by decide) ?_
              refine g_Vi (n := 1) (rest := []) S G hl (c_X4_tell l R (j := 0) (o := 0) rfl (by decide)) gX4_keep_X4_tell rfl (by decide +kernel) (Rc_x R) rfl rfl rfl (Nat.le_of_ble_eq_true rfl) ⟨Nat.le_of_ble_eq_true rfl, Nat.le_of_ble_eq_true rfl⟩ ⟨Nat.le_of_ble_eq_true rfl, Nat.le_of_ble_eq_true rfl⟩ dX4_keep_107 ?_
              clear G; intro r_ w1 H locs hp G
              obtain ⟨hr_, R⟩ := hp
              subst r_
              rw [if_neg (show ¬ ((0 : Int32) = 7) by decide)] at R
              refine lv_pop hx hb dX4_keep_110 rfl ?_
              refine lv_aload hx hb dX4_keep_111 (lv_at hl 1 rfl) ?_
              refine lv_iload_n hx hb dX4_keep_113 rfl (lv_at hl 8 rfl) ?_
              refine lv_iload hx hb dX4_keep_114 (lv_at hl 2 rfl) ?_
              refine lv_i2l (v := (Int32.toInt64 v5)) hx hb dX4_keep_116 rfl ?_
              refine g_Vl (n := 2) (rest := []) S G hl (c_X0_put l (Rc_Rw R r8 hr8) (Rc_Ia R r8 hr8) ek11 hk11 (Nat.le_trans (sz_le (Kz r8 hr8)) (by decide)) (Int32.toInt64 v5)) gX4_keep_X0_put rfl (by decide +kernel) (Rc_Rw R r8 hr8) rfl rfl rfl (Nat.le_of_ble_eq_true rfl) ⟨Nat.le_of_ble_eq_true rfl, Nat.le_of_ble_eq_true rfl⟩ ⟨Nat.le_of_ble_eq_true rfl, Nat.le_of_ble_eq_true rfl⟩ dX4_keep_117 ?_
              clear G; intro r_ w1 H locs hp G
              obtain ⟨rfl, rfl⟩ := hp
              have fj := Rc_F R r8 hr8 k11 hk11
              obtain ⟨w, R, G⟩ := Rc_ex (Rc_p_put R hr8 Kz hk11 (Int32.toInt64 v5)) G
              refine lv_pop2_2 hx hb dX4_keep_120 rfl ?_
              refine lv_iload hx hb dX4_keep_121 (lv_at hl 2 rfl) ?_
              refine r_int S hret hlk G rfl (Nat.le_of_ble_eq_true rfl) (Nat.le_of_ble_eq_true rfl) dX4_keep_123 ?_
              have yk1 := tin_e ek1 hk1 (show n ≤ 1000 by omega)
              have zk1 := cn_e ek1 (show k1 < 1000 by omega)
              have yk3 := tin_e ek3 hk3 (show n ≤ 1000 by omega)
              have zk3 := cn_e ek3 (show k3 < 1000 by omega)
              have qr8 := nm1 (show r8 < 100000 by omega)
              have hv := hv5 c7
              rw [c7] at hQq6
              have g9 : so r8 = 0 := Int32.le_antisymm (Int32.not_lt.mp (fun z => q10 (Or.inr z))) (Int32.not_lt.mp (fun z => q10 (Or.inl z)))
              rw [hv] at R ⊢
              refine ⟨by simp only [S_keep, agi, yk1, zk1, yk3, zk3, er8, qr8, cn_nI (show r8 < 2 ^ 31 by omega), ql, yk11, zk11, fj, hQq6, g9, n_of, lk_of, vs_of, hd_of, nmS, s_end, put_vs, put_it, ↓reduceIte, Bool.false_eq_true, pk_us, and_self, show ¬ ((0 : Int32) = 7) by decide, show ¬ ((1 : Int32) = 7) by decide, show ¬ ((2 : Int32) = 7) by decide, show ¬ ((3 : Int32) = 7) by decide, show ¬ ((1 : Int32) = 0) by decide, show ¬ ((2 : Int32) = 0) by decide, show ¬ ((3 : Int32) = 0) by decide], ?_⟩
              simp only [S_keep, agi, yk1, zk1, yk3, zk3, er8, qr8, cn_nI (show r8 < 2 ^ 31 by omega), ql, yk11, zk11, fj, hQq6, g9, n_of, lk_of, vs_of, hd_of, nmS, s_end, put_vs, put_it, ↓reduceIte, Bool.false_eq_true, pk_us, and_self, show ¬ ((0 : Int32) = 7) by decide, show ¬ ((1 : Int32) = 7) by decide, show ¬ ((2 : Int32) = 7) by decide, show ¬ ((3 : Int32) = 7) by decide, show ¬ ((1 : Int32) = 0) by decide, show ¬ ((2 : Int32) = 0) by decide, show ¬ ((3 : Int32) = 0) by decide]
              exact ⟨_, _, _, _, _, _, _, _, _, _, R⟩
        · skip
          refine lv_aload_n hx hb dX4_keep_64 rfl (lv_at hl 3 rfl) ?_
          refine lv_aload_n hx hb dX4_keep_65 rfl (lv_at hl 3 rfl) ?_
          refine g_get S G (Rc_x R) rfl (by decide +kernel) 1 (by decide) (by decide +kernel) rfl dX4_keep_66 ?_
          refine g_get S G (Rc_wk R) rfl (by decide +kernel) 3 (by decide) (by decide +kernel) rfl dX4_keep_69 ?_
          refine g_Vi (n := 1) (rest := []) S G hl (c_X4_refuse l R (o := oq6) ejq6 hjq6) gX4_keep_X4_refuse rfl (by decide +kernel) (Rc_x R) rfl rfl rfl (Nat.le_of_ble_eq_true rfl) ⟨Nat.le_of_ble_eq_true rfl, Nat.le_of_ble_eq_true rfl⟩ ⟨Nat.le_of_ble_eq_true rfl, Nat.le_of_ble_eq_true rfl⟩ dX4_keep_72 ?_
          clear G; intro r_ w1 H locs hp G
          obtain ⟨hr_, R⟩ := hp
          subst r_
          refine r_int S hret hlk G rfl (Nat.le_of_ble_eq_true rfl) (Nat.le_of_ble_eq_true rfl) dX4_keep_75 ?_
          have yk1 := tin_e ek1 hk1 (show n ≤ 1000 by omega)
          have zk1 := cn_e ek1 (show k1 < 1000 by omega)
          have yk3 := tin_e ek3 hk3 (show n ≤ 1000 by omega)
          have zk3 := cn_e ek3 (show k3 < 1000 by omega)
          rw [ow_eq] at R
          refine ⟨by simp only [S_keep, yk1, zk1, yk3, zk3, ql, hQq6, n_of, lk_of, vs_of, hd_of, nmS, s_end, put_vs, put_it, ↓reduceIte, Bool.false_eq_true, pk_us, and_self, c7], ?_⟩
          simp only [S_keep, yk1, zk1, yk3, zk3, ql, hQq6, n_of, lk_of, vs_of, hd_of, nmS, s_end, put_vs, put_it, ↓reduceIte, Bool.false_eq_true, pk_us, and_self, c7]
          exact ⟨_, _, _, _, _, _, _, _, _, _, R⟩
      · skip
        refine g_Si (n := 1) (rest := []) S G hl (c_X4_isLimit l li) gX4_keep_X4_isLimit rfl (by decide +kernel) rfl rfl (Nat.le_of_ble_eq_true rfl) ⟨Nat.le_of_ble_eq_true rfl, Nat.le_of_ble_eq_true rfl⟩ ⟨Nat.le_of_ble_eq_true rfl, Nat.le_of_ble_eq_true rfl⟩ dX4_keep_32 ?_
        clear G; intro r_ w1 H locs hp G
        obtain ⟨rfl, hq_⟩ := hp
        rw [if_neg ql] at hq_
        subst hq_
        refine lv_if_ne (tgt := 41) hx hb dX4_keep_35 (by decide) (fun c15 => absurd (by decide) c15) (fun c15 => ?_)
        refine lv_ldc hx hb S.2.2.2.1 (S.2.2.2.2 (.constant RX4 33 (-2000000001)) (by decide +kernel)) dX4_keep_38 ?_
        refine r_int S hret hlk G rfl (Nat.le_of_ble_eq_true rfl) (Nat.le_of_ble_eq_true rfl) dX4_keep_40 ?_
        have yk1 := tin_e ek1 hk1 (show n ≤ 1000 by omega)
        have zk1 := cn_e ek1 (show k1 < 1000 by omega)
        have yk3 := tin_e ek3 hk3 (show n ≤ 1000 by omega)
        have zk3 := cn_e ek3 (show k3 < 1000 by omega)
        refine ⟨by simp only [S_keep, yk1, zk1, yk3, zk3, ql, n_of, lk_of, vs_of, hd_of, nmS, s_end, put_vs, put_it, ↓reduceIte, Bool.false_eq_true, pk_us, and_self], ?_⟩
        simp only [S_keep, yk1, zk1, yk3, zk3, ql, n_of, lk_of, vs_of, hd_of, nmS, s_end, put_vs, put_it, ↓reduceIte, Bool.false_eq_true, pk_us, and_self]
        exact ⟨_, _, _, _, _, _, _, _, _, _, R⟩
