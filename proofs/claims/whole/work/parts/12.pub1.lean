/-! THE CLASS: what the public methods answer, the simple ones -/
theorem nm1 {j : Nat} (h : j < 100000) : ¬ nI j = -1 := fun z => by
  have h1 := congrArg Int32.toInt z
  rw [nI_toInt (show j < 2 ^ 31 by omega)] at h1
  have h2 : (-1 : Int32).toInt = -1 := by decide
  omega
theorem m1_lt : (-1 : Int32) < 0 := by decide
def oc_of : ST → Int32
  | (n, cl, vs, lk, hd, nr, so, sz, it, oc, ow, bg, dp, td) => oc
set_option maxHeartbeats 4000000 in
set_option maxRecDepth 100000 in
theorem C_outcome (l : Launch) {E : EV} {w : wo} {x : Nat} {σ : ST} (X : RcX E w x σ) (K : Gd σ)  : ct_i l E yX4_outcome wsX4_outcome 2 0 0 [.ref x] w (fun r w' => r = oc_of σ ∧ RcX E w' x σ) := by
  obtain ⟨st, wk, tl, ta, tf, T, Rw, Ia, F, ⟨lim, wou, th⟩, R⟩ := X
  obtain ⟨n, cl, vs, lk, hd, nr, so, sz, it, oc, ow, bg, dp, td⟩ := σ
  obtain ⟨Kn, Kr, Kc, Kl, Kh, Ks, Kz, Ki⟩ := K
  intro zz
  refine wo_body (Qc := fun A => va_Qi _ (wo_B E A) A) (ret := (some .int)) (by decide) rfl (Nat.le_of_ble_eq_true rfl) ?_
  intro p_ e_ s_ m_ args_ below_ meth_ code_ A_ ls S hret hlk hnm G hl
  have hl : lv_has ls 1 [(0, .ref x)] := hl
  have hx := S.1
  have hb := S.2.1
  refine lv_aload_n hx hb dX4_outcome_0 rfl (lv_at hl 0 rfl) ?_
  refine g_get S G (Rc_x R) rfl (by decide +kernel) 3 (by decide) (by decide +kernel) rfl dX4_outcome_1 ?_
  refine r_int S hret hlk G rfl (Nat.le_of_ble_eq_true rfl) (Nat.le_of_ble_eq_true rfl) dX4_outcome_4 ?_
  exact ⟨rfl, ⟨_, _, _, _, _, _, _, _, _, _, R⟩⟩

def ow_of : ST → Int32
  | (n, cl, vs, lk, hd, nr, so, sz, it, oc, ow, bg, dp, td) => ow
set_option maxHeartbeats 4000000 in
set_option maxRecDepth 100000 in
theorem C_own (l : Launch) {E : EV} {w : wo} {x : Nat} {σ : ST} (X : RcX E w x σ) (K : Gd σ)  : ct_i l E yX4_own wsX4_own 2 0 0 [.ref x] w (fun r w' => r = ow_of σ ∧ RcX E w' x σ) := by
  obtain ⟨st, wk, tl, ta, tf, T, Rw, Ia, F, ⟨lim, wou, th⟩, R⟩ := X
  obtain ⟨n, cl, vs, lk, hd, nr, so, sz, it, oc, ow, bg, dp, td⟩ := σ
  obtain ⟨Kn, Kr, Kc, Kl, Kh, Ks, Kz, Ki⟩ := K
  intro zz
  refine wo_body (Qc := fun A => va_Qi _ (wo_B E A) A) (ret := (some .int)) (by decide) rfl (Nat.le_of_ble_eq_true rfl) ?_
  intro p_ e_ s_ m_ args_ below_ meth_ code_ A_ ls S hret hlk hnm G hl
  have hl : lv_has ls 1 [(0, .ref x)] := hl
  have hx := S.1
  have hb := S.2.1
  refine lv_aload_n hx hb dX4_own_0 rfl (lv_at hl 0 rfl) ?_
  refine g_get S G (Rc_x R) rfl (by decide +kernel) 4 (by decide) (by decide +kernel) rfl dX4_own_1 ?_
  refine r_int S hret hlk G rfl (Nat.le_of_ble_eq_true rfl) (Nat.le_of_ble_eq_true rfl) dX4_own_4 ?_
  exact ⟨rfl, ⟨_, _, _, _, _, _, _, _, _, _, R⟩⟩

def bg_of : ST → Int32
  | (n, cl, vs, lk, hd, nr, so, sz, it, oc, ow, bg, dp, td) => bg
set_option maxHeartbeats 4000000 in
set_option maxRecDepth 100000 in
theorem C_begun (l : Launch) {E : EV} {w : wo} {x : Nat} {σ : ST} (X : RcX E w x σ) (K : Gd σ)  : ct_i l E yX4_begun wsX4_begun 2 0 0 [.ref x] w (fun r w' => r = bg_of σ ∧ RcX E w' x σ) := by
  obtain ⟨st, wk, tl, ta, tf, T, Rw, Ia, F, ⟨lim, wou, th⟩, R⟩ := X
  obtain ⟨n, cl, vs, lk, hd, nr, so, sz, it, oc, ow, bg, dp, td⟩ := σ
  obtain ⟨Kn, Kr, Kc, Kl, Kh, Ks, Kz, Ki⟩ := K
  intro zz
  refine wo_body (Qc := fun A => va_Qi _ (wo_B E A) A) (ret := (some .int)) (by decide) rfl (Nat.le_of_ble_eq_true rfl) ?_
  intro p_ e_ s_ m_ args_ below_ meth_ code_ A_ ls S hret hlk hnm G hl
  have hl : lv_has ls 1 [(0, .ref x)] := hl
  have hx := S.1
  have hb := S.2.1
  refine lv_aload_n hx hb dX4_begun_0 rfl (lv_at hl 0 rfl) ?_
  refine g_get S G (Rc_x R) rfl (by decide +kernel) 1 (by decide) (by decide +kernel) rfl dX4_begun_1 ?_
  refine g_get S G (Rc_wk R) rfl (by decide +kernel) 2 (by decide) (by decide +kernel) rfl dX4_begun_4 ?_
  refine r_int S hret hlk G rfl (Nat.le_of_ble_eq_true rfl) (Nat.le_of_ble_eq_true rfl) dX4_begun_7 ?_
  exact ⟨rfl, ⟨_, _, _, _, _, _, _, _, _, _, R⟩⟩

def dp_of : ST → Int32
  | (n, cl, vs, lk, hd, nr, so, sz, it, oc, ow, bg, dp, td) => dp
set_option maxHeartbeats 4000000 in
set_option maxRecDepth 100000 in
theorem C_deep (l : Launch) {E : EV} {w : wo} {x : Nat} {σ : ST} (X : RcX E w x σ) (K : Gd σ)  : ct_i l E yX4_deep wsX4_deep 2 0 0 [.ref x] w (fun r w' => r = dp_of σ ∧ RcX E w' x σ) := by
  obtain ⟨st, wk, tl, ta, tf, T, Rw, Ia, F, ⟨lim, wou, th⟩, R⟩ := X
  obtain ⟨n, cl, vs, lk, hd, nr, so, sz, it, oc, ow, bg, dp, td⟩ := σ
  obtain ⟨Kn, Kr, Kc, Kl, Kh, Ks, Kz, Ki⟩ := K
  intro zz
  refine wo_body (Qc := fun A => va_Qi _ (wo_B E A) A) (ret := (some .int)) (by decide) rfl (Nat.le_of_ble_eq_true rfl) ?_
  intro p_ e_ s_ m_ args_ below_ meth_ code_ A_ ls S hret hlk hnm G hl
  have hl : lv_has ls 1 [(0, .ref x)] := hl
  have hx := S.1
  have hb := S.2.1
  refine lv_aload_n hx hb dX4_deep_0 rfl (lv_at hl 0 rfl) ?_
  refine g_get S G (Rc_x R) rfl (by decide +kernel) 1 (by decide) (by decide +kernel) rfl dX4_deep_1 ?_
  refine g_get S G (Rc_wk R) rfl (by decide +kernel) 4 (by decide) (by decide +kernel) rfl dX4_deep_4 ?_
  refine r_int S hret hlk G rfl (Nat.le_of_ble_eq_true rfl) (Nat.le_of_ble_eq_true rfl) dX4_deep_7 ?_
  exact ⟨rfl, ⟨_, _, _, _, _, _, _, _, _, _, R⟩⟩

def nn_of : ST → Int32
  | (n, _) => nI n
set_option maxHeartbeats 4000000 in
set_option maxRecDepth 100000 in
theorem C_things (l : Launch) {E : EV} {w : wo} {x : Nat} {σ : ST} (X : RcX E w x σ) (K : Gd σ)  : ct_i l E yX4_things wsX4_things 2 0 0 [.ref x] w (fun r w' => r = nn_of σ ∧ RcX E w' x σ) := by
  obtain ⟨st, wk, tl, ta, tf, T, Rw, Ia, F, ⟨lim, wou, th⟩, R⟩ := X
  obtain ⟨n, cl, vs, lk, hd, nr, so, sz, it, oc, ow, bg, dp, td⟩ := σ
  obtain ⟨Kn, Kr, Kc, Kl, Kh, Ks, Kz, Ki⟩ := K
  intro zz
  refine wo_body (Qc := fun A => va_Qi _ (wo_B E A) A) (ret := (some .int)) (by decide) rfl (Nat.le_of_ble_eq_true rfl) ?_
  intro p_ e_ s_ m_ args_ below_ meth_ code_ A_ ls S hret hlk hnm G hl
  have hl : lv_has ls 1 [(0, .ref x)] := hl
  have hx := S.1
  have hb := S.2.1
  refine lv_aload_n hx hb dX4_things_0 rfl (lv_at hl 0 rfl) ?_
  refine g_get S G (Rc_x R) rfl (by decide +kernel) 0 (by decide) (by decide +kernel) rfl dX4_things_1 ?_
  refine g_get S G (Rc_st R) rfl (by decide +kernel) 1 (by decide) (by decide +kernel) rfl dX4_things_4 ?_
  refine r_int S hret hlk G rfl (Nat.le_of_ble_eq_true rfl) (Nat.le_of_ble_eq_true rfl) dX4_things_7 ?_
  exact ⟨rfl, ⟨_, _, _, _, _, _, _, _, _, _, R⟩⟩

set_option maxHeartbeats 4000000 in
set_option maxRecDepth 100000 in
theorem C_told (l : Launch) {E : EV} {w : wo} {x : Nat} {σ : ST} (X : RcX E w x σ) (K : Gd σ) (o : Int32) : ct_i l E yX4_told wsX4_told 2 0 0 [.ref x, .int o] w (fun r w' => r = S_told o σ ∧ RcX E w' x σ) := by
  obtain ⟨st, wk, tl, ta, tf, T, Rw, Ia, F, ⟨lim, wou, th⟩, R⟩ := X
  obtain ⟨n, cl, vs, lk, hd, nr, so, sz, it, oc, ow, bg, dp, td⟩ := σ
  obtain ⟨Kn, Kr, Kc, Kl, Kh, Ks, Kz, Ki⟩ := K
  intro zz
  refine wo_body (Qc := fun A => va_Qi _ (wo_B E A) A) (ret := (some .int)) (by decide) rfl (Nat.le_of_ble_eq_true rfl) ?_
  intro p_ e_ s_ m_ args_ below_ meth_ code_ A_ ls S hret hlk hnm G hl
  have hl : lv_has ls 2 [(0, .ref x), (1, .int o)] := hl
  have hx := S.1
  have hb := S.2.1
  refine lv_iload_n hx hb dX4_told_0 rfl (lv_at hl 1 rfl) ?_
  refine lv_if_lt (tgt := 10) hx hb dX4_told_1 (by decide) (fun c1 => ?_) (fun c1 => ?_)
  · skip
    refine lv_ldc hx hb S.2.2.2.1 (S.2.2.2.2 (.constant RX4 33 (-2000000001)) (by decide +kernel)) dX4_told_10 ?_
    refine r_int S hret hlk G rfl (Nat.le_of_ble_eq_true rfl) (Nat.le_of_ble_eq_true rfl) dX4_told_12 ?_
    rcases tin_c 10 o (by omega) with ⟨q1, q2⟩ | ⟨k, hk, ek⟩
    · exact ⟨by simp only [S_told, q1, ↓reduceIte, Bool.false_eq_true], ⟨_, _, _, _, _, _, _, _, _, _, R⟩⟩
    · exact absurd c1 (by rw [ek]; exact nI_pos (by omega))
  · skip
    refine lv_iload_n hx hb dX4_told_4 rfl (lv_at hl 1 rfl) ?_
    refine lv_bipush (v := 9) hx hb dX4_told_5 (by decide) ?_
    refine lv_icmp_le (tgt := 13) hx hb dX4_told_7 (by decide) (fun c2 => ?_) (fun c2 => ?_)
    · skip
      refine lv_aload_n hx hb dX4_told_13 rfl (lv_at hl 0 rfl) ?_
      refine g_get S G (Rc_x R) rfl (by decide +kernel) 2 (by decide) (by decide +kernel) rfl dX4_told_14 ?_
      refine lv_iload_n hx hb dX4_told_17 rfl (lv_at hl 1 rfl) ?_
      rcases tin_c 10 o (by omega) with ⟨q1, q2⟩ | ⟨k, hk, ek⟩
      · exact (q2.elim (fun q => absurd q c1) (fun q => absurd (Int32.lt_of_lt_of_le (show (9 : Int32) < nI 10 by decide) q) (Int32.not_lt.mpr c2)))
      refine g_iald S G (Rc_tl R) (vin_e ek hk (by omega)) dX4_told_18 ?_
      refine r_int S hret hlk G rfl (Nat.le_of_ble_eq_true rfl) (Nat.le_of_ble_eq_true rfl) dX4_told_19 ?_
      have y := tin_e ek hk (show 10 ≤ 1000 by omega)
      refine ⟨by simp only [S_told, y, ↓reduceIte, cn], ?_⟩
      exact ⟨_, _, _, _, _, _, _, _, _, _, R⟩
    · skip
      refine lv_ldc hx hb S.2.2.2.1 (S.2.2.2.2 (.constant RX4 33 (-2000000001)) (by decide +kernel)) dX4_told_10 ?_
      refine r_int S hret hlk G rfl (Nat.le_of_ble_eq_true rfl) (Nat.le_of_ble_eq_true rfl) dX4_told_12 ?_
      rcases tin_c 10 o (by omega) with ⟨q1, q2⟩ | ⟨k, hk, ek⟩
      · exact ⟨by simp only [S_told, q1, ↓reduceIte, Bool.false_eq_true], ⟨_, _, _, _, _, _, _, _, _, _, R⟩⟩
      · exact absurd (show o ≤ 9 by rw [ek]; exact nI_le (b := 9) (by omega) (by omega)) c2

set_option maxHeartbeats 4000000 in
set_option maxRecDepth 100000 in
theorem C_cls (l : Launch) {E : EV} {w : wo} {x : Nat} {σ : ST} (X : RcX E w x σ) (K : Gd σ) (t : Int32) : ct_i l E yX4_cls wsX4_cls 2 0 0 [.ref x, .int t] w (fun r w' => r = S_cls t σ ∧ RcX E w' x σ) := by
  obtain ⟨st, wk, tl, ta, tf, T, Rw, Ia, F, ⟨lim, wou, th⟩, R⟩ := X
  obtain ⟨n, cl, vs, lk, hd, nr, so, sz, it, oc, ow, bg, dp, td⟩ := σ
  obtain ⟨Kn, Kr, Kc, Kl, Kh, Ks, Kz, Ki⟩ := K
  intro zz
  refine wo_body (Qc := fun A => va_Qi _ (wo_B E A) A) (ret := (some .int)) (by decide) rfl (Nat.le_of_ble_eq_true rfl) ?_
  intro p_ e_ s_ m_ args_ below_ meth_ code_ A_ ls S hret hlk hnm G hl
  have hl : lv_has ls 3 [(0, .ref x), (1, .int t)] := hl
  have hx := S.1
  have hb := S.2.1
  refine lv_aload_n hx hb dX4_cls_0 rfl (lv_at hl 0 rfl) ?_
  refine g_get S G (Rc_x R) rfl (by decide +kernel) 0 (by decide) (by decide +kernel) rfl dX4_cls_1 ?_
  refine lv_iload_n hx hb dX4_cls_4 rfl (lv_at hl 1 rfl) ?_
  rcases tin_c n t (by omega) with ⟨tk1, ok1⟩ | ⟨k1, hk1, ek1⟩
  · skip
    refine g_Vq (n := 1) (rest := []) S G hl (c_X1_find_n l R Kn ok1) gX4_cls_X1_find rfl (by decide +kernel) (Rc_st R) rfl rfl rfl (Nat.le_of_ble_eq_true rfl) ⟨Nat.le_of_ble_eq_true rfl, Nat.le_of_ble_eq_true rfl⟩ ⟨Nat.le_of_ble_eq_true rfl, Nat.le_of_ble_eq_true rfl⟩ dX4_cls_5 ?_
    clear G; intro r_ w1 H locs hp G
    obtain ⟨rfl, rfl⟩ := hp
    refine W.eq (g2 := F0 m_ 8 ls [.null]) rfl ?_
    refine lv_astore_nN (lv' := [(2, .null), (0, .ref x), (1, .int t)]) hx hb dX4_cls_8 rfl hl (by decide) rfl (fun ls hl => ?_)
    refine lv_aload_nN hx hb dX4_cls_9 rfl (lv_at hl 0 rfl) ?_
    refine lv_ifnonnullN hx hb dX4_cls_10 ?_
    refine lv_ldc hx hb S.2.2.2.1 (S.2.2.2.2 (.constant RX4 33 (-2000000001)) (by decide +kernel)) dX4_cls_13 ?_
    refine lv_goto (tgt := 22) hx hb dX4_cls_15 (by decide) ?_
    refine r_int S hret hlk G rfl (Nat.le_of_ble_eq_true rfl) (Nat.le_of_ble_eq_true rfl) dX4_cls_22 ?_
    refine ⟨by simp only [S_cls, tk1, s_tell, put_lk, put_vs, put_hd, ↓reduceIte, Bool.false_eq_true, pk_us], ?_⟩
    exact ⟨_, _, _, _, _, _, _, _, _, _, R⟩
  · skip
    refine g_Vq (n := 1) (rest := []) S G hl (c_X1_find_y l R Kn ek1 hk1) gX4_cls_X1_find rfl (by decide +kernel) (Rc_st R) rfl rfl rfl (Nat.le_of_ble_eq_true rfl) ⟨Nat.le_of_ble_eq_true rfl, Nat.le_of_ble_eq_true rfl⟩ ⟨Nat.le_of_ble_eq_true rfl, Nat.le_of_ble_eq_true rfl⟩ dX4_cls_5 ?_
    clear G; intro r_ w1 H locs hp G
    obtain ⟨rfl, rfl⟩ := hp
    refine W.eq (g2 := F0 m_ 8 ls [.ref (T k1)]) rfl ?_
    refine lv_astore_n (lv' := [(2, .ref (T k1)), (0, .ref x), (1, .int t)]) hx hb dX4_cls_8 rfl hl (by decide) rfl (fun ls hl => ?_)
    refine lv_aload_n hx hb dX4_cls_9 rfl (lv_at hl 0 rfl) ?_
    refine lv_ifnonnull (tgt := 18) hx hb dX4_cls_10 (by decide) ?_
    refine lv_aload_n hx hb dX4_cls_18 rfl (lv_at hl 0 rfl) ?_
    refine g_get S G (Rc_T R k1 hk1) rfl (by decide +kernel) 0 (by decide) (by decide +kernel) rfl dX4_cls_19 ?_
    refine r_int S hret hlk G rfl (Nat.le_of_ble_eq_true rfl) (Nat.le_of_ble_eq_true rfl) dX4_cls_22 ?_
    have yk1 := tin_e ek1 hk1 (show n ≤ 1000 by omega)
    have zk1 := cn_e ek1 (show k1 < 1000 by omega)
    refine ⟨by simp only [S_cls, yk1, zk1, s_tell, put_lk, put_vs, put_hd, ↓reduceIte, Bool.false_eq_true, pk_us], ?_⟩
    exact ⟨_, _, _, _, _, _, _, _, _, _, R⟩

set_option maxHeartbeats 4000000 in
set_option maxRecDepth 100000 in
theorem C_v (l : Launch) {E : EV} {w : wo} {x : Nat} {σ : ST} (X : RcX E w x σ) (K : Gd σ) (t : Int32) : ct_i l E yX4_v wsX4_v 2 0 0 [.ref x, .int t] w (fun r w' => r = S_v t σ ∧ RcX E w' x σ) := by
  obtain ⟨st, wk, tl, ta, tf, T, Rw, Ia, F, ⟨lim, wou, th⟩, R⟩ := X
  obtain ⟨n, cl, vs, lk, hd, nr, so, sz, it, oc, ow, bg, dp, td⟩ := σ
  obtain ⟨Kn, Kr, Kc, Kl, Kh, Ks, Kz, Ki⟩ := K
  intro zz
  refine wo_body (Qc := fun A => va_Qi _ (wo_B E A) A) (ret := (some .int)) (by decide) rfl (Nat.le_of_ble_eq_true rfl) ?_
  intro p_ e_ s_ m_ args_ below_ meth_ code_ A_ ls S hret hlk hnm G hl
  have hl : lv_has ls 3 [(0, .ref x), (1, .int t)] := hl
  have hx := S.1
  have hb := S.2.1
  refine lv_aload_n hx hb dX4_v_0 rfl (lv_at hl 0 rfl) ?_
  refine g_get S G (Rc_x R) rfl (by decide +kernel) 0 (by decide) (by decide +kernel) rfl dX4_v_1 ?_
  refine lv_iload_n hx hb dX4_v_4 rfl (lv_at hl 1 rfl) ?_
  rcases tin_c n t (by omega) with ⟨tk1, ok1⟩ | ⟨k1, hk1, ek1⟩
  · skip
    refine g_Vq (n := 1) (rest := []) S G hl (c_X1_find_n l R Kn ok1) gX4_v_X1_find rfl (by decide +kernel) (Rc_st R) rfl rfl rfl (Nat.le_of_ble_eq_true rfl) ⟨Nat.le_of_ble_eq_true rfl, Nat.le_of_ble_eq_true rfl⟩ ⟨Nat.le_of_ble_eq_true rfl, Nat.le_of_ble_eq_true rfl⟩ dX4_v_5 ?_
    clear G; intro r_ w1 H locs hp G
    obtain ⟨rfl, rfl⟩ := hp
    refine W.eq (g2 := F0 m_ 8 ls [.null]) rfl ?_
    refine lv_astore_nN (lv' := [(2, .null), (0, .ref x), (1, .int t)]) hx hb dX4_v_8 rfl hl (by decide) rfl (fun ls hl => ?_)
    refine lv_aload_nN hx hb dX4_v_9 rfl (lv_at hl 0 rfl) ?_
    refine lv_ifnonnullN hx hb dX4_v_10 ?_
    refine lv_ldc hx hb S.2.2.2.1 (S.2.2.2.2 (.constant RX4 33 (-2000000001)) (by decide +kernel)) dX4_v_13 ?_
    refine lv_goto (tgt := 22) hx hb dX4_v_15 (by decide) ?_
    refine r_int S hret hlk G rfl (Nat.le_of_ble_eq_true rfl) (Nat.le_of_ble_eq_true rfl) dX4_v_22 ?_
    refine ⟨by simp only [S_v, tk1, s_tell, put_lk, put_vs, put_hd, ↓reduceIte, Bool.false_eq_true, pk_us], ?_⟩
    exact ⟨_, _, _, _, _, _, _, _, _, _, R⟩
  · skip
    refine g_Vq (n := 1) (rest := []) S G hl (c_X1_find_y l R Kn ek1 hk1) gX4_v_X1_find rfl (by decide +kernel) (Rc_st R) rfl rfl rfl (Nat.le_of_ble_eq_true rfl) ⟨Nat.le_of_ble_eq_true rfl, Nat.le_of_ble_eq_true rfl⟩ ⟨Nat.le_of_ble_eq_true rfl, Nat.le_of_ble_eq_true rfl⟩ dX4_v_5 ?_
    clear G; intro r_ w1 H locs hp G
    obtain ⟨rfl, rfl⟩ := hp
    refine W.eq (g2 := F0 m_ 8 ls [.ref (T k1)]) rfl ?_
    refine lv_astore_n (lv' := [(2, .ref (T k1)), (0, .ref x), (1, .int t)]) hx hb dX4_v_8 rfl hl (by decide) rfl (fun ls hl => ?_)
    refine lv_aload_n hx hb dX4_v_9 rfl (lv_at hl 0 rfl) ?_
    refine lv_ifnonnull (tgt := 18) hx hb dX4_v_10 (by decide) ?_
    refine lv_aload_n hx hb dX4_v_18 rfl (lv_at hl 0 rfl) ?_
    refine g_get S G (Rc_T R k1 hk1) rfl (by decide +kernel) 1 (by decide) (by decide +kernel) rfl dX4_v_19 ?_
    refine r_int S hret hlk G rfl (Nat.le_of_ble_eq_true rfl) (Nat.le_of_ble_eq_true rfl) dX4_v_22 ?_
    have yk1 := tin_e ek1 hk1 (show n ≤ 1000 by omega)
    have zk1 := cn_e ek1 (show k1 < 1000 by omega)
    refine ⟨by simp only [S_v, yk1, zk1, s_tell, put_lk, put_vs, put_hd, ↓reduceIte, Bool.false_eq_true, pk_us], ?_⟩
    exact ⟨_, _, _, _, _, _, _, _, _, _, R⟩

set_option maxHeartbeats 4000000 in
set_option maxRecDepth 100000 in
theorem C_linked (l : Launch) {E : EV} {w : wo} {x : Nat} {σ : ST} (X : RcX E w x σ) (K : Gd σ) (t : Int32) : ct_i l E yX4_linked wsX4_linked 2 0 0 [.ref x, .int t] w (fun r w' => r = S_linked t σ ∧ RcX E w' x σ) := by
  obtain ⟨st, wk, tl, ta, tf, T, Rw, Ia, F, ⟨lim, wou, th⟩, R⟩ := X
  obtain ⟨n, cl, vs, lk, hd, nr, so, sz, it, oc, ow, bg, dp, td⟩ := σ
  obtain ⟨Kn, Kr, Kc, Kl, Kh, Ks, Kz, Ki⟩ := K
  intro zz
  refine wo_body (Qc := fun A => va_Qi _ (wo_B E A) A) (ret := (some .int)) (by decide) rfl (Nat.le_of_ble_eq_true rfl) ?_
  intro p_ e_ s_ m_ args_ below_ meth_ code_ A_ ls S hret hlk hnm G hl
  have hl : lv_has ls 3 [(0, .ref x), (1, .int t)] := hl
  have hx := S.1
  have hb := S.2.1
  refine lv_aload_n hx hb dX4_linked_0 rfl (lv_at hl 0 rfl) ?_
  refine g_get S G (Rc_x R) rfl (by decide +kernel) 0 (by decide) (by decide +kernel) rfl dX4_linked_1 ?_
  refine lv_iload_n hx hb dX4_linked_4 rfl (lv_at hl 1 rfl) ?_
  rcases tin_c n t (by omega) with ⟨tk1, ok1⟩ | ⟨k1, hk1, ek1⟩
  · skip
    refine g_Vq (n := 1) (rest := []) S G hl (c_X1_find_n l R Kn ok1) gX4_linked_X1_find rfl (by decide +kernel) (Rc_st R) rfl rfl rfl (Nat.le_of_ble_eq_true rfl) ⟨Nat.le_of_ble_eq_true rfl, Nat.le_of_ble_eq_true rfl⟩ ⟨Nat.le_of_ble_eq_true rfl, Nat.le_of_ble_eq_true rfl⟩ dX4_linked_5 ?_
    clear G; intro r_ w1 H locs hp G
    obtain ⟨rfl, rfl⟩ := hp
    refine W.eq (g2 := F0 m_ 8 ls [.null]) rfl ?_
    refine lv_astore_nN (lv' := [(2, .null), (0, .ref x), (1, .int t)]) hx hb dX4_linked_8 rfl hl (by decide) rfl (fun ls hl => ?_)
    refine lv_aload_nN hx hb dX4_linked_9 rfl (lv_at hl 0 rfl) ?_
    refine lv_ifnonnullN hx hb dX4_linked_10 ?_
    refine lv_ldc hx hb S.2.2.2.1 (S.2.2.2.2 (.constant RX4 33 (-2000000001)) (by decide +kernel)) dX4_linked_13 ?_
    refine lv_goto (tgt := 22) hx hb dX4_linked_15 (by decide) ?_
    refine r_int S hret hlk G rfl (Nat.le_of_ble_eq_true rfl) (Nat.le_of_ble_eq_true rfl) dX4_linked_22 ?_
    refine ⟨by simp only [S_linked, tk1, s_tell, put_lk, put_vs, put_hd, ↓reduceIte, Bool.false_eq_true, pk_us], ?_⟩
    exact ⟨_, _, _, _, _, _, _, _, _, _, R⟩
  · skip
    refine g_Vq (n := 1) (rest := []) S G hl (c_X1_find_y l R Kn ek1 hk1) gX4_linked_X1_find rfl (by decide +kernel) (Rc_st R) rfl rfl rfl (Nat.le_of_ble_eq_true rfl) ⟨Nat.le_of_ble_eq_true rfl, Nat.le_of_ble_eq_true rfl⟩ ⟨Nat.le_of_ble_eq_true rfl, Nat.le_of_ble_eq_true rfl⟩ dX4_linked_5 ?_
    clear G; intro r_ w1 H locs hp G
    obtain ⟨rfl, rfl⟩ := hp
    refine W.eq (g2 := F0 m_ 8 ls [.ref (T k1)]) rfl ?_
    refine lv_astore_n (lv' := [(2, .ref (T k1)), (0, .ref x), (1, .int t)]) hx hb dX4_linked_8 rfl hl (by decide) rfl (fun ls hl => ?_)
    refine lv_aload_n hx hb dX4_linked_9 rfl (lv_at hl 0 rfl) ?_
    refine lv_ifnonnull (tgt := 18) hx hb dX4_linked_10 (by decide) ?_
    refine lv_aload_n hx hb dX4_linked_18 rfl (lv_at hl 0 rfl) ?_
    refine g_get S G (Rc_T R k1 hk1) rfl (by decide +kernel) 2 (by decide) (by decide +kernel) rfl dX4_linked_19 ?_
    refine r_int S hret hlk G rfl (Nat.le_of_ble_eq_true rfl) (Nat.le_of_ble_eq_true rfl) dX4_linked_22 ?_
    have yk1 := tin_e ek1 hk1 (show n ≤ 1000 by omega)
    have zk1 := cn_e ek1 (show k1 < 1000 by omega)
    refine ⟨by simp only [S_linked, yk1, zk1, s_tell, put_lk, put_vs, put_hd, ↓reduceIte, Bool.false_eq_true, pk_us], ?_⟩
    exact ⟨_, _, _, _, _, _, _, _, _, _, R⟩

set_option maxHeartbeats 4000000 in
set_option maxRecDepth 100000 in
theorem C_become (l : Launch) {E : EV} {w : wo} {x : Nat} {σ : ST} (X : RcX E w x σ) (K : Gd σ) (t : Int32) (v : Int32) : ct_i l E yX4_become wsX4_become 2 0 0 [.ref x, .int t, .int v] w (fun r w' => r = (S_become t v σ).1 ∧ RcX E w' x (S_become t v σ).2) := by
  obtain ⟨st, wk, tl, ta, tf, T, Rw, Ia, F, ⟨lim, wou, th⟩, R⟩ := X
  obtain ⟨n, cl, vs, lk, hd, nr, so, sz, it, oc, ow, bg, dp, td⟩ := σ
  obtain ⟨Kn, Kr, Kc, Kl, Kh, Ks, Kz, Ki⟩ := K
  intro zz
  refine wo_body (Qc := fun A => va_Qi _ (wo_B E A) A) (ret := (some .int)) (by decide) rfl (Nat.le_of_ble_eq_true rfl) ?_
  intro p_ e_ s_ m_ args_ below_ meth_ code_ A_ ls S hret hlk hnm G hl
  have hl : lv_has ls 5 [(0, .ref x), (1, .int t), (2, .int v)] := hl
  have hx := S.1
  have hb := S.2.1
  refine lv_aload_n hx hb dX4_become_0 rfl (lv_at hl 0 rfl) ?_
  refine g_get S G (Rc_x R) rfl (by decide +kernel) 0 (by decide) (by decide +kernel) rfl dX4_become_1 ?_
  refine lv_iload_n hx hb dX4_become_4 rfl (lv_at hl 1 rfl) ?_
  rcases tin_c n t (by omega) with ⟨tk1, ok1⟩ | ⟨k1, hk1, ek1⟩
  · skip
    refine g_Vq (n := 1) (rest := []) S G hl (c_X1_find_n l R Kn ok1) gX4_become_X1_find rfl (by decide +kernel) (Rc_st R) rfl rfl rfl (Nat.le_of_ble_eq_true rfl) ⟨Nat.le_of_ble_eq_true rfl, Nat.le_of_ble_eq_true rfl⟩ ⟨Nat.le_of_ble_eq_true rfl, Nat.le_of_ble_eq_true rfl⟩ dX4_become_5 ?_
    clear G; intro r_ w1 H locs hp G
    obtain ⟨rfl, rfl⟩ := hp
    refine W.eq (g2 := F0 m_ 8 ls [.null]) rfl ?_
    refine lv_astore_nN (lv' := [(3, .null), (0, .ref x), (1, .int t), (2, .int v)]) hx hb dX4_become_8 rfl hl (by decide) rfl (fun ls hl => ?_)
    refine lv_aload_nN hx hb dX4_become_9 rfl (lv_at hl 0 rfl) ?_
    refine lv_ifnonnullN hx hb dX4_become_10 ?_
    refine lv_ldc hx hb S.2.2.2.1 (S.2.2.2.2 (.constant RX4 33 (-2000000001)) (by decide +kernel)) dX4_become_13 ?_
    refine r_int S hret hlk G rfl (Nat.le_of_ble_eq_true rfl) (Nat.le_of_ble_eq_true rfl) dX4_become_15 ?_
    refine ⟨by simp only [S_become, tk1, s_tell, put_lk, put_vs, put_hd, ↓reduceIte, Bool.false_eq_true, pk_us], ?_⟩
    simp only [S_become, tk1, s_tell, put_lk, put_vs, put_hd, ↓reduceIte, Bool.false_eq_true, pk_us]
    exact ⟨_, _, _, _, _, _, _, _, _, _, R⟩
  · skip
    refine g_Vq (n := 1) (rest := []) S G hl (c_X1_find_y l R Kn ek1 hk1) gX4_become_X1_find rfl (by decide +kernel) (Rc_st R) rfl rfl rfl (Nat.le_of_ble_eq_true rfl) ⟨Nat.le_of_ble_eq_true rfl, Nat.le_of_ble_eq_true rfl⟩ ⟨Nat.le_of_ble_eq_true rfl, Nat.le_of_ble_eq_true rfl⟩ dX4_become_5 ?_
    clear G; intro r_ w1 H locs hp G
    obtain ⟨rfl, rfl⟩ := hp
    refine W.eq (g2 := F0 m_ 8 ls [.ref (T k1)]) rfl ?_
    refine lv_astore_n (lv' := [(3, .ref (T k1)), (0, .ref x), (1, .int t), (2, .int v)]) hx hb dX4_become_8 rfl hl (by decide) rfl (fun ls hl => ?_)
    refine lv_aload_n hx hb dX4_become_9 rfl (lv_at hl 0 rfl) ?_
    refine lv_ifnonnull (tgt := 16) hx hb dX4_become_10 (by decide) ?_
    refine lv_aload_n hx hb dX4_become_16 rfl (lv_at hl 0 rfl) ?_
    refine g_get S G (Rc_T R k1 hk1) rfl (by decide +kernel) 1 (by decide) (by decide +kernel) rfl dX4_become_17 ?_
    refine lv_istore (lv' := [(4, .int (vs k1)), (3, .ref (T k1)), (0, .ref x), (1, .int t), (2, .int v)]) hx hb dX4_become_20 hl (by decide) rfl (fun ls hl => ?_)
    refine lv_aload_n hx hb dX4_become_22 rfl (lv_at hl 1 rfl) ?_
    refine lv_iload_n hx hb dX4_become_23 rfl (lv_at hl 4 rfl) ?_
    refine g_put (fs' := [.int (cl k1), .int v, .int (lk k1), va_rf (ro Rw (hd k1))]) (ty := .int) (v := .int v) S G (Rc_T R k1 hk1) rfl tyX2 tyX2_ok nmX2 (by decide +kernel) 1 (by decide) (by decide +kernel) rfl (by decide +kernel) rfl rfl (Nat.le_of_ble_eq_true rfl) rfl dX4_become_24 (fun H locs G => ?_)
    obtain ⟨w, R, G⟩ := Rc_ex (Rc_p_vs R hk1 v) G
    refine lv_iload hx hb dX4_become_27 (lv_at hl 0 rfl) ?_
    refine r_int S hret hlk G rfl (Nat.le_of_ble_eq_true rfl) (Nat.le_of_ble_eq_true rfl) dX4_become_29 ?_
    have yk1 := tin_e ek1 hk1 (show n ≤ 1000 by omega)
    have zk1 := cn_e ek1 (show k1 < 1000 by omega)
    refine ⟨by simp only [S_become, yk1, zk1, s_tell, put_lk, put_vs, put_hd, ↓reduceIte, Bool.false_eq_true, pk_us], ?_⟩
    simp only [S_become, yk1, zk1, s_tell, put_lk, put_vs, put_hd, ↓reduceIte, Bool.false_eq_true, pk_us]
    exact ⟨_, _, _, _, _, _, _, _, _, _, R⟩

set_option maxHeartbeats 4000000 in
set_option maxRecDepth 100000 in
theorem c_X1_hasOrNone (l : Launch) {E : EV} {w : wo} {x st wk tl ta : Nat} {tf : Nat → Option Nat} {T Rw Ia : Nat → Nat} {F : Nat → Nat → Int64} {n : Nat} {cl vs lk hd : Nat → Int32} {nr : Nat} {so sz : Nat → Int32} {it : Nat → Int64} {oc ow bg dp : Int32} {td : Nat → Int32} {lim wou th : Int32} (R : Rc E w (x, st, wk, tl, ta, tf, T, Rw, Ia, F) (n, cl, vs, lk, hd, nr, so, sz, it, oc, ow, bg, dp, td) (lim, wou, th)) (Kn : n ≤ 40) (o : Int32) : ct_i l E yX1_hasOrNone wsX1_hasOrNone 1 0 0 [.ref st, .int o] w (fun r w' => w' = w ∧ r = if o = -1 ∨ tin n o = true then 1 else 0) := by
  intro zz
  refine wo_body (Qc := fun A => va_Qi _ (wo_B E A) A) (ret := (some .boolean)) (by decide) rfl (Nat.le_of_ble_eq_true rfl) ?_
  intro p_ e_ s_ m_ args_ below_ meth_ code_ A_ ls S hret hlk hnm G hl
  have hl : lv_has ls 2 [(0, .ref st), (1, .int o)] := hl
  have hx := S.1
  have hb := S.2.1
  refine lv_iload_n hx hb dX1_hasOrNone_0 rfl (lv_at hl 1 rfl) ?_
  refine lv_iconst (v := (-1)) hx hb dX1_hasOrNone_1 (by decide) ?_
  refine lv_icmp_eq (tgt := 13) hx hb dX1_hasOrNone_2 (by decide) (fun c1 => ?_) (fun c1 => ?_)
  · skip
    refine lv_iconst (v := 1) hx hb dX1_hasOrNone_13 (by decide) ?_
    refine lv_goto (tgt := 18) hx hb dX1_hasOrNone_14 (by decide) ?_
    refine r_int S hret hlk G rfl (Nat.le_of_ble_eq_true rfl) (Nat.le_of_ble_eq_true rfl) dX1_hasOrNone_18 ?_
    exact ⟨rfl, by simp [c1]⟩
  · skip
    refine lv_aload_n hx hb dX1_hasOrNone_5 rfl (lv_at hl 0 rfl) ?_
    refine lv_iload_n hx hb dX1_hasOrNone_6 rfl (lv_at hl 1 rfl) ?_
    rcases tin_c n o (by omega) with ⟨tk2, ok2⟩ | ⟨k2, hk2, ek2⟩
    · skip
      refine g_Vq (n := 1) (rest := []) S G hl (c_X1_find_n l R Kn ok2) gX1_hasOrNone_X1_find rfl (by decide +kernel) (Rc_st R) rfl rfl rfl (Nat.le_of_ble_eq_true rfl) ⟨Nat.le_of_ble_eq_true rfl, Nat.le_of_ble_eq_true rfl⟩ ⟨Nat.le_of_ble_eq_true rfl, Nat.le_of_ble_eq_true rfl⟩ dX1_hasOrNone_7 ?_
      clear G; intro r_ w1 H locs hp G
      obtain ⟨rfl, rfl⟩ := hp
      refine W.eq (g2 := F0 m_ 10 ls [.null]) rfl ?_
      refine lv_ifnullN (tgt := 17) hx hb dX1_hasOrNone_10 (by decide) ?_
      refine lv_iconst (v := 0) hx hb dX1_hasOrNone_17 (by decide) ?_
      refine r_int S hret hlk G rfl (Nat.le_of_ble_eq_true rfl) (Nat.le_of_ble_eq_true rfl) dX1_hasOrNone_18 ?_
      exact ⟨rfl, by simp [c1, tk2]⟩
    · skip
      refine g_Vq (n := 1) (rest := []) S G hl (c_X1_find_y l R Kn ek2 hk2) gX1_hasOrNone_X1_find rfl (by decide +kernel) (Rc_st R) rfl rfl rfl (Nat.le_of_ble_eq_true rfl) ⟨Nat.le_of_ble_eq_true rfl, Nat.le_of_ble_eq_true rfl⟩ ⟨Nat.le_of_ble_eq_true rfl, Nat.le_of_ble_eq_true rfl⟩ dX1_hasOrNone_7 ?_
      clear G; intro r_ w1 H locs hp G
      obtain ⟨rfl, rfl⟩ := hp
      refine W.eq (g2 := F0 m_ 10 ls [.ref (T k2)]) rfl ?_
      refine lv_ifnull hx hb dX1_hasOrNone_10 ?_
      refine lv_iconst (v := 1) hx hb dX1_hasOrNone_13 (by decide) ?_
      refine lv_goto (tgt := 18) hx hb dX1_hasOrNone_14 (by decide) ?_
      refine r_int S hret hlk G rfl (Nat.le_of_ble_eq_true rfl) (Nat.le_of_ble_eq_true rfl) dX1_hasOrNone_18 ?_
      have yk2 := tin_e ek2 hk2 (show n ≤ 1000 by omega)
      have zk2 := cn_e ek2 (show k2 < 1000 by omega)
      exact ⟨rfl, by simp [c1, yk2, zk2]⟩

set_option maxHeartbeats 4000000 in
set_option maxRecDepth 100000 in
theorem c_X1_isLeafOrNone (l : Launch) {E : EV} {w : wo} {x st wk tl ta : Nat} {tf : Nat → Option Nat} {T Rw Ia : Nat → Nat} {F : Nat → Nat → Int64} {n : Nat} {cl vs lk hd : Nat → Int32} {nr : Nat} {so sz : Nat → Int32} {it : Nat → Int64} {oc ow bg dp : Int32} {td : Nat → Int32} {lim wou th : Int32} (R : Rc E w (x, st, wk, tl, ta, tf, T, Rw, Ia, F) (n, cl, vs, lk, hd, nr, so, sz, it, oc, ow, bg, dp, td) (lim, wou, th)) (Kn : n ≤ 40) (o : Int32) : ct_i l E yX1_isLeafOrNone wsX1_isLeafOrNone 1 0 0 [.ref st, .int o] w (fun r w' => w' = w ∧ r = if tin n o = true then (if isof (cl (cn o)) 0 = true then 1 else 0) else 1) := by
  intro zz
  refine wo_body (Qc := fun A => va_Qi _ (wo_B E A) A) (ret := (some .boolean)) (by decide) rfl (Nat.le_of_ble_eq_true rfl) ?_
  intro p_ e_ s_ m_ args_ below_ meth_ code_ A_ ls S hret hlk hnm G hl
  have hl : lv_has ls 3 [(0, .ref st), (1, .int o)] := hl
  have hx := S.1
  have hb := S.2.1
  refine lv_aload_n hx hb dX1_isLeafOrNone_0 rfl (lv_at hl 0 rfl) ?_
  refine lv_iload_n hx hb dX1_isLeafOrNone_1 rfl (lv_at hl 1 rfl) ?_
  rcases tin_c n o (by omega) with ⟨tk1, ok1⟩ | ⟨k1, hk1, ek1⟩
  · skip
    refine g_Vq (n := 1) (rest := []) S G hl (c_X1_find_n l R Kn ok1) gX1_isLeafOrNone_X1_find rfl (by decide +kernel) (Rc_st R) rfl rfl rfl (Nat.le_of_ble_eq_true rfl) ⟨Nat.le_of_ble_eq_true rfl, Nat.le_of_ble_eq_true rfl⟩ ⟨Nat.le_of_ble_eq_true rfl, Nat.le_of_ble_eq_true rfl⟩ dX1_isLeafOrNone_2 ?_
    clear G; intro r_ w1 H locs hp G
    obtain ⟨rfl, rfl⟩ := hp
    refine W.eq (g2 := F0 m_ 5 ls [.null]) rfl ?_
    refine lv_astore_nN (lv' := [(2, .null), (0, .ref st), (1, .int o)]) hx hb dX1_isLeafOrNone_5 rfl hl (by decide) rfl (fun ls hl => ?_)
    refine lv_aload_nN hx hb dX1_isLeafOrNone_6 rfl (lv_at hl 0 rfl) ?_
    refine lv_ifnullN (tgt := 18) hx hb dX1_isLeafOrNone_7 (by decide) ?_
    refine lv_iconst (v := 1) hx hb dX1_isLeafOrNone_18 (by decide) ?_
    refine lv_goto (tgt := 23) hx hb dX1_isLeafOrNone_19 (by decide) ?_
    refine r_int S hret hlk G rfl (Nat.le_of_ble_eq_true rfl) (Nat.le_of_ble_eq_true rfl) dX1_isLeafOrNone_23 ?_
    exact ⟨rfl, by simp only [tk1, ↓reduceIte, Bool.false_eq_true]⟩
  · skip
    refine g_Vq (n := 1) (rest := []) S G hl (c_X1_find_y l R Kn ek1 hk1) gX1_isLeafOrNone_X1_find rfl (by decide +kernel) (Rc_st R) rfl rfl rfl (Nat.le_of_ble_eq_true rfl) ⟨Nat.le_of_ble_eq_true rfl, Nat.le_of_ble_eq_true rfl⟩ ⟨Nat.le_of_ble_eq_true rfl, Nat.le_of_ble_eq_true rfl⟩ dX1_isLeafOrNone_2 ?_
    clear G; intro r_ w1 H locs hp G
    obtain ⟨rfl, rfl⟩ := hp
    refine W.eq (g2 := F0 m_ 5 ls [.ref (T k1)]) rfl ?_
    refine lv_astore_n (lv' := [(2, .ref (T k1)), (0, .ref st), (1, .int o)]) hx hb dX1_isLeafOrNone_5 rfl hl (by decide) rfl (fun ls hl => ?_)
    refine lv_aload_n hx hb dX1_isLeafOrNone_6 rfl (lv_at hl 0 rfl) ?_
    refine lv_ifnull hx hb dX1_isLeafOrNone_7 ?_
    refine lv_aload_n hx hb dX1_isLeafOrNone_10 rfl (lv_at hl 0 rfl) ?_
    refine lv_iconst (v := 0) hx hb dX1_isLeafOrNone_11 (by decide) ?_
    refine g_Vi (n := 1) (rest := []) S G hl (c_X2_isOf l (Rc_T R k1 hk1) 0) gX1_isLeafOrNone_X2_isOf rfl (by decide +kernel) (Rc_T R k1 hk1) rfl rfl rfl (Nat.le_of_ble_eq_true rfl) ⟨Nat.le_of_ble_eq_true rfl, Nat.le_of_ble_eq_true rfl⟩ ⟨Nat.le_of_ble_eq_true rfl, Nat.le_of_ble_eq_true rfl⟩ dX1_isLeafOrNone_12 ?_
    clear G; intro r_ w1 H locs hp G
    obtain ⟨rfl, rfl⟩ := hp
    refine lv_if_eq (tgt := 22) hx hb dX1_isLeafOrNone_15 (by decide) (fun c2 => ?_) (fun c2 => ?_)
    · skip
      refine lv_iconst (v := 0) hx hb dX1_isLeafOrNone_22 (by decide) ?_
      refine r_int S hret hlk G rfl (Nat.le_of_ble_eq_true rfl) (Nat.le_of_ble_eq_true rfl) dX1_isLeafOrNone_23 ?_
      have yk1 := tin_e ek1 hk1 (show n ≤ 1000 by omega)
      have zk1 := cn_e ek1 (show k1 < 1000 by omega)
      exact ⟨rfl, by
        simp only [yk1, zk1, ↓reduceIte, Bool.false_eq_true]
        by_cases q : isof (cl k1) 0 = true
        · simp [q] at c2 ⊢
        · simp [q] at c2 ⊢⟩
    · skip
      refine lv_iconst (v := 1) hx hb dX1_isLeafOrNone_18 (by decide) ?_
      refine lv_goto (tgt := 23) hx hb dX1_isLeafOrNone_19 (by decide) ?_
      refine r_int S hret hlk G rfl (Nat.le_of_ble_eq_true rfl) (Nat.le_of_ble_eq_true rfl) dX1_isLeafOrNone_23 ?_
      have yk1 := tin_e ek1 hk1 (show n ≤ 1000 by omega)
      have zk1 := cn_e ek1 (show k1 < 1000 by omega)
      exact ⟨rfl, by
        simp only [yk1, zk1, ↓reduceIte, Bool.false_eq_true]
        by_cases q : isof (cl k1) 0 = true
        · simp [q] at c2 ⊢
        · simp [q] at c2 ⊢⟩

set_option maxHeartbeats 4000000 in
set_option maxRecDepth 100000 in
theorem C_link (l : Launch) {E : EV} {w : wo} {x : Nat} {σ : ST} (X : RcX E w x σ) (K : Gd σ) (t : Int32) (o : Int32) : ct_i l E yX4_link wsX4_link 2 0 0 [.ref x, .int t, .int o] w (fun r w' => r = (S_link t o σ).1 ∧ RcX E w' x (S_link t o σ).2) := by
  obtain ⟨st, wk, tl, ta, tf, T, Rw, Ia, F, ⟨lim, wou, th⟩, R⟩ := X
  obtain ⟨n, cl, vs, lk, hd, nr, so, sz, it, oc, ow, bg, dp, td⟩ := σ
  obtain ⟨Kn, Kr, Kc, Kl, Kh, Ks, Kz, Ki⟩ := K
  intro zz
  refine wo_body (Qc := fun A => va_Qi _ (wo_B E A) A) (ret := (some .int)) (by decide) rfl (Nat.le_of_ble_eq_true rfl) ?_
  intro p_ e_ s_ m_ args_ below_ meth_ code_ A_ ls S hret hlk hnm G hl
  have hl : lv_has ls 5 [(0, .ref x), (1, .int t), (2, .int o)] := hl
  have hx := S.1
  have hb := S.2.1
  refine lv_aload_n hx hb dX4_link_0 rfl (lv_at hl 0 rfl) ?_
  refine g_get S G (Rc_x R) rfl (by decide +kernel) 0 (by decide) (by decide +kernel) rfl dX4_link_1 ?_
  refine lv_iload_n hx hb dX4_link_4 rfl (lv_at hl 1 rfl) ?_
  rcases tin_c n t (by omega) with ⟨tk1, ok1⟩ | ⟨k1, hk1, ek1⟩
  · skip
    refine g_Vq (n := 1) (rest := []) S G hl (c_X1_find_n l R Kn ok1) gX4_link_X1_find rfl (by decide +kernel) (Rc_st R) rfl rfl rfl (Nat.le_of_ble_eq_true rfl) ⟨Nat.le_of_ble_eq_true rfl, Nat.le_of_ble_eq_true rfl⟩ ⟨Nat.le_of_ble_eq_true rfl, Nat.le_of_ble_eq_true rfl⟩ dX4_link_5 ?_
    clear G; intro r_ w1 H locs hp G
    obtain ⟨rfl, rfl⟩ := hp
    refine W.eq (g2 := F0 m_ 8 ls [.null]) rfl ?_
    refine lv_astore_nN (lv' := [(3, .null), (0, .ref x), (1, .int t), (2, .int o)]) hx hb dX4_link_8 rfl hl (by decide) rfl (fun ls hl => ?_)
    refine lv_aload_nN hx hb dX4_link_9 rfl (lv_at hl 0 rfl) ?_
    refine lv_ifnullN (tgt := 24) hx hb dX4_link_10 (by decide) ?_
    refine lv_ldc hx hb S.2.2.2.1 (S.2.2.2.2 (.constant RX4 33 (-2000000001)) (by decide +kernel)) dX4_link_24 ?_
    refine r_int S hret hlk G rfl (Nat.le_of_ble_eq_true rfl) (Nat.le_of_ble_eq_true rfl) dX4_link_26 ?_
    refine ⟨by simp only [S_link, tk1, ↓reduceIte, Bool.false_eq_true], ?_⟩
    simp only [S_link, tk1, ↓reduceIte, Bool.false_eq_true]
    exact ⟨_, _, _, _, _, _, _, _, _, _, R⟩
  · skip
    refine g_Vq (n := 1) (rest := []) S G hl (c_X1_find_y l R Kn ek1 hk1) gX4_link_X1_find rfl (by decide +kernel) (Rc_st R) rfl rfl rfl (Nat.le_of_ble_eq_true rfl) ⟨Nat.le_of_ble_eq_true rfl, Nat.le_of_ble_eq_true rfl⟩ ⟨Nat.le_of_ble_eq_true rfl, Nat.le_of_ble_eq_true rfl⟩ dX4_link_5 ?_
    clear G; intro r_ w1 H locs hp G
    obtain ⟨rfl, rfl⟩ := hp
    refine W.eq (g2 := F0 m_ 8 ls [.ref (T k1)]) rfl ?_
    refine lv_astore_n (lv' := [(3, .ref (T k1)), (0, .ref x), (1, .int t), (2, .int o)]) hx hb dX4_link_8 rfl hl (by decide) rfl (fun ls hl => ?_)
    refine lv_aload_n hx hb dX4_link_9 rfl (lv_at hl 0 rfl) ?_
    refine lv_ifnull hx hb dX4_link_10 ?_
    refine lv_aload_n hx hb dX4_link_13 rfl (lv_at hl 1 rfl) ?_
    refine g_get S G (Rc_x R) rfl (by decide +kernel) 0 (by decide) (by decide +kernel) rfl dX4_link_14 ?_
    refine lv_iload_n hx hb dX4_link_17 rfl (lv_at hl 3 rfl) ?_
    refine g_Vi (n := 1) (rest := []) S G hl (c_X1_hasOrNone l R Kn o) gX4_link_X1_hasOrNone rfl (by decide +kernel) (Rc_st R) rfl rfl rfl (Nat.le_of_ble_eq_true rfl) ⟨Nat.le_of_ble_eq_true rfl, Nat.le_of_ble_eq_true rfl⟩ ⟨Nat.le_of_ble_eq_true rfl, Nat.le_of_ble_eq_true rfl⟩ dX4_link_18 ?_
    clear G; intro r_ w1 H locs hp G
    obtain ⟨rfl, rfl⟩ := hp
    refine lv_if_ne (tgt := 27) hx hb dX4_link_21 (by decide) (fun c2 => ?_) (fun c2 => ?_)
    · skip
      refine lv_aload_n hx hb dX4_link_27 rfl (lv_at hl 0 rfl) ?_
      refine g_get S G (Rc_T R k1 hk1) rfl (by decide +kernel) 2 (by decide) (by decide +kernel) rfl dX4_link_28 ?_
      refine lv_istore (lv' := [(4, .int (lk k1)), (3, .ref (T k1)), (0, .ref x), (1, .int t), (2, .int o)]) hx hb dX4_link_31 hl (by decide) rfl (fun ls hl => ?_)
      refine lv_aload_n hx hb dX4_link_33 rfl (lv_at hl 1 rfl) ?_
      refine lv_iload_n hx hb dX4_link_34 rfl (lv_at hl 4 rfl) ?_
      refine g_put (fs' := [.int (cl k1), .int (vs k1), .int o, va_rf (ro Rw (hd k1))]) (ty := .int) (v := .int o) S G (Rc_T R k1 hk1) rfl tyX2 tyX2_ok nmX2 (by decide +kernel) 2 (by decide) (by decide +kernel) rfl (by decide +kernel) rfl rfl (Nat.le_of_ble_eq_true rfl) rfl dX4_link_35 (fun H locs G => ?_)
      obtain ⟨w, R, G⟩ := Rc_ex (Rc_p_lk R hk1 o) G
      refine lv_iload hx hb dX4_link_38 (lv_at hl 0 rfl) ?_
      refine r_int S hret hlk G rfl (Nat.le_of_ble_eq_true rfl) (Nat.le_of_ble_eq_true rfl) dX4_link_40 ?_
      have yk1 := tin_e ek1 hk1 (show n ≤ 1000 by omega)
      have zk1 := cn_e ek1 (show k1 < 1000 by omega)
      by_cases q : o = -1 ∨ tin n o = true
      · simp only [q, ↓reduceIte] at c2
        refine ⟨by simp only [S_link, yk1, zk1, ↓reduceIte, Bool.false_eq_true, q], ?_⟩
        simp only [S_link, yk1, zk1, ↓reduceIte, Bool.false_eq_true, q]
        exact ⟨_, _, _, _, _, _, _, _, _, _, R⟩
      · simp [q] at c2
    · skip
      refine lv_ldc hx hb S.2.2.2.1 (S.2.2.2.2 (.constant RX4 33 (-2000000001)) (by decide +kernel)) dX4_link_24 ?_
      refine r_int S hret hlk G rfl (Nat.le_of_ble_eq_true rfl) (Nat.le_of_ble_eq_true rfl) dX4_link_26 ?_
      have yk1 := tin_e ek1 hk1 (show n ≤ 1000 by omega)
      have zk1 := cn_e ek1 (show k1 < 1000 by omega)
      by_cases q : o = -1 ∨ tin n o = true
      · simp only [q, ↓reduceIte] at c2
        exact absurd c2 (by decide)
      · refine ⟨by simp only [S_link, yk1, zk1, ↓reduceIte, Bool.false_eq_true, q], ?_⟩
        simp only [S_link, yk1, zk1, ↓reduceIte, Bool.false_eq_true, q]
        exact ⟨_, _, _, _, _, _, _, _, _, _, R⟩

set_option maxHeartbeats 4000000 in
set_option maxRecDepth 100000 in
theorem C_follow (l : Launch) {E : EV} {w : wo} {x : Nat} {σ : ST} (X : RcX E w x σ) (K : Gd σ) (t : Int32) : ct_i l E yX4_follow wsX4_follow 2 0 0 [.ref x, .int t] w (fun r w' => r = (S_follow t σ).1 ∧ RcX E w' x (S_follow t σ).2) := by
  obtain ⟨st, wk, tl, ta, tf, T, Rw, Ia, F, ⟨lim, wou, th⟩, R⟩ := X
  obtain ⟨n, cl, vs, lk, hd, nr, so, sz, it, oc, ow, bg, dp, td⟩ := σ
  obtain ⟨Kn, Kr, Kc, Kl, Kh, Ks, Kz, Ki⟩ := K
  intro zz
  refine wo_body (Qc := fun A => va_Qi _ (wo_B E A) A) (ret := (some .int)) (by decide) rfl (Nat.le_of_ble_eq_true rfl) ?_
  intro p_ e_ s_ m_ args_ below_ meth_ code_ A_ ls S hret hlk hnm G hl
  have hl : lv_has ls 4 [(0, .ref x), (1, .int t)] := hl
  have hx := S.1
  have hb := S.2.1
  refine lv_aload_n hx hb dX4_follow_0 rfl (lv_at hl 0 rfl) ?_
  refine g_get S G (Rc_x R) rfl (by decide +kernel) 0 (by decide) (by decide +kernel) rfl dX4_follow_1 ?_
  refine lv_iload_n hx hb dX4_follow_4 rfl (lv_at hl 1 rfl) ?_
  rcases tin_c n t (by omega) with ⟨tk1, ok1⟩ | ⟨k1, hk1, ek1⟩
  · skip
    refine g_Vq (n := 1) (rest := []) S G hl (c_X1_find_n l R Kn ok1) gX4_follow_X1_find rfl (by decide +kernel) (Rc_st R) rfl rfl rfl (Nat.le_of_ble_eq_true rfl) ⟨Nat.le_of_ble_eq_true rfl, Nat.le_of_ble_eq_true rfl⟩ ⟨Nat.le_of_ble_eq_true rfl, Nat.le_of_ble_eq_true rfl⟩ dX4_follow_5 ?_
    clear G; intro r_ w1 H locs hp G
    obtain ⟨rfl, rfl⟩ := hp
    refine W.eq (g2 := F0 m_ 8 ls [.null]) rfl ?_
    refine lv_astore_nN (lv' := [(2, .null), (0, .ref x), (1, .int t)]) hx hb dX4_follow_8 rfl hl (by decide) rfl (fun ls hl => ?_)
    refine lv_aload_nN hx hb dX4_follow_9 rfl (lv_at hl 0 rfl) ?_
    refine lv_ifnonnullN hx hb dX4_follow_10 ?_
    refine lv_ldc hx hb S.2.2.2.1 (S.2.2.2.2 (.constant RX4 33 (-2000000001)) (by decide +kernel)) dX4_follow_13 ?_
    refine r_int S hret hlk G rfl (Nat.le_of_ble_eq_true rfl) (Nat.le_of_ble_eq_true rfl) dX4_follow_15 ?_
    refine ⟨by simp only [S_follow, tk1, s_tell, put_lk, put_vs, put_hd, ↓reduceIte, Bool.false_eq_true, pk_us], ?_⟩
    simp only [S_follow, tk1, s_tell, put_lk, put_vs, put_hd, ↓reduceIte, Bool.false_eq_true, pk_us]
    exact ⟨_, _, _, _, _, _, _, _, _, _, R⟩
  · skip
    refine g_Vq (n := 1) (rest := []) S G hl (c_X1_find_y l R Kn ek1 hk1) gX4_follow_X1_find rfl (by decide +kernel) (Rc_st R) rfl rfl rfl (Nat.le_of_ble_eq_true rfl) ⟨Nat.le_of_ble_eq_true rfl, Nat.le_of_ble_eq_true rfl⟩ ⟨Nat.le_of_ble_eq_true rfl, Nat.le_of_ble_eq_true rfl⟩ dX4_follow_5 ?_
    clear G; intro r_ w1 H locs hp G
    obtain ⟨rfl, rfl⟩ := hp
    refine W.eq (g2 := F0 m_ 8 ls [.ref (T k1)]) rfl ?_
    refine lv_astore_n (lv' := [(2, .ref (T k1)), (0, .ref x), (1, .int t)]) hx hb dX4_follow_8 rfl hl (by decide) rfl (fun ls hl => ?_)
    refine lv_aload_n hx hb dX4_follow_9 rfl (lv_at hl 0 rfl) ?_
    refine lv_ifnonnull (tgt := 16) hx hb dX4_follow_10 (by decide) ?_
    refine lv_aload_n hx hb dX4_follow_16 rfl (lv_at hl 1 rfl) ?_
    refine g_get S G (Rc_x R) rfl (by decide +kernel) 0 (by decide) (by decide +kernel) rfl dX4_follow_17 ?_
    refine lv_aload_n hx hb dX4_follow_20 rfl (lv_at hl 0 rfl) ?_
    refine g_get S G (Rc_T R k1 hk1) rfl (by decide +kernel) 2 (by decide) (by decide +kernel) rfl dX4_follow_21 ?_
    rcases Kl k1 hk1 with ek2 | ⟨k2, hk2, ek2⟩
    · skip
      refine g_Vq (n := 1) (rest := []) S G hl (c_X1_find_n l R Kn (Or.inl (by rw [ek2]; decide))) gX4_follow_X1_find rfl (by decide +kernel) (Rc_st R) rfl rfl rfl (Nat.le_of_ble_eq_true rfl) ⟨Nat.le_of_ble_eq_true rfl, Nat.le_of_ble_eq_true rfl⟩ ⟨Nat.le_of_ble_eq_true rfl, Nat.le_of_ble_eq_true rfl⟩ dX4_follow_24 ?_
      clear G; intro r_ w1 H locs hp G
      obtain ⟨rfl, rfl⟩ := hp
      refine W.eq (g2 := F0 m_ 27 ls [.null]) rfl ?_
      refine lv_astore_nN (lv' := [(3, .null), (2, .ref (T k1)), (0, .ref x), (1, .int t)]) hx hb dX4_follow_27 rfl hl (by decide) rfl (fun ls hl => ?_)
      refine lv_aload_nN hx hb dX4_follow_28 rfl (lv_at hl 0 rfl) ?_
      refine lv_ifnonnullN hx hb dX4_follow_29 ?_
      refine lv_aload_n hx hb dX4_follow_32 rfl (lv_at hl 2 rfl) ?_
      refine lv_iconst (v := 1) hx hb dX4_follow_33 (by decide) ?_
      refine g_Vi (n := 1) (rest := []) S G hl (c_X4_refuse l R (j := 1) (o := 1) rfl (by decide)) gX4_follow_X4_refuse rfl (by decide +kernel) (Rc_x R) rfl rfl rfl (Nat.le_of_ble_eq_true rfl) ⟨Nat.le_of_ble_eq_true rfl, Nat.le_of_ble_eq_true rfl⟩ ⟨Nat.le_of_ble_eq_true rfl, Nat.le_of_ble_eq_true rfl⟩ dX4_follow_34 ?_
      clear G; intro r_ w1 H locs hp G
      obtain ⟨hr_, R⟩ := hp
      subst r_
      rw [if_neg (show ¬ ((1 : Int32) = 7) by decide)] at R
      refine r_int S hret hlk G rfl (Nat.le_of_ble_eq_true rfl) (Nat.le_of_ble_eq_true rfl) dX4_follow_37 ?_
      have yk1 := tin_e ek1 hk1 (show n ≤ 1000 by omega)
      have zk1 := cn_e ek1 (show k1 < 1000 by omega)
      refine ⟨by simp only [S_follow, yk1, zk1, ek2, s_tell, put_lk, put_vs, put_hd, ↓reduceIte, Bool.false_eq_true, pk_us], ?_⟩
      simp only [S_follow, yk1, zk1, ek2, s_tell, put_lk, put_vs, put_hd, ↓reduceIte, Bool.false_eq_true, pk_us]
      exact ⟨_, _, _, _, _, _, _, _, _, _, R⟩
    · skip
      refine g_Vq (n := 1) (rest := []) S G hl (c_X1_find_y l R Kn ek2 hk2) gX4_follow_X1_find rfl (by decide +kernel) (Rc_st R) rfl rfl rfl (Nat.le_of_ble_eq_true rfl) ⟨Nat.le_of_ble_eq_true rfl, Nat.le_of_ble_eq_true rfl⟩ ⟨Nat.le_of_ble_eq_true rfl, Nat.le_of_ble_eq_true rfl⟩ dX4_follow_24 ?_
      clear G; intro r_ w1 H locs hp G
      obtain ⟨rfl, rfl⟩ := hp
      refine W.eq (g2 := F0 m_ 27 ls [.ref (T k2)]) rfl ?_
      refine lv_astore_n (lv' := [(3, .ref (T k2)), (2, .ref (T k1)), (0, .ref x), (1, .int t)]) hx hb dX4_follow_27 rfl hl (by decide) rfl (fun ls hl => ?_)
      refine lv_aload_n hx hb dX4_follow_28 rfl (lv_at hl 0 rfl) ?_
      refine lv_ifnonnull (tgt := 38) hx hb dX4_follow_29 (by decide) ?_
      refine lv_aload_n hx hb dX4_follow_38 rfl (lv_at hl 2 rfl) ?_
      refine lv_iconst (v := 0) hx hb dX4_follow_39 (by decide) ?_
      refine g_Vi (n := 1) (rest := []) S G hl (c_X4_tell l R (j := 0) (o := 0) rfl (by decide)) gX4_follow_X4_tell rfl (by decide +kernel) (Rc_x R) rfl rfl rfl (Nat.le_of_ble_eq_true rfl) ⟨Nat.le_of_ble_eq_true rfl, Nat.le_of_ble_eq_true rfl⟩ ⟨Nat.le_of_ble_eq_true rfl, Nat.le_of_ble_eq_true rfl⟩ dX4_follow_40 ?_
      clear G; intro r_ w1 H locs hp G
      obtain ⟨hr_, R⟩ := hp
      subst r_
      rw [if_neg (show ¬ ((0 : Int32) = 7) by decide)] at R
      refine lv_pop hx hb dX4_follow_43 rfl ?_
      refine lv_aload_n hx hb dX4_follow_44 rfl (lv_at hl 1 rfl) ?_
      refine lv_aload_n hx hb dX4_follow_45 rfl (lv_at hl 0 rfl) ?_
      refine g_get S G (Rc_T R k2 hk2) rfl (by decide +kernel) 2 (by decide) (by decide +kernel) rfl dX4_follow_46 ?_
      refine g_put (fs' := [.int (cl k1), .int (vs k1), .int (lk k2), va_rf (ro Rw (hd k1))]) (ty := .int) (v := .int (lk k2)) S G (Rc_T R k1 hk1) rfl tyX2 tyX2_ok nmX2 (by decide +kernel) 2 (by decide) (by decide +kernel) rfl (by decide +kernel) rfl rfl (Nat.le_of_ble_eq_true rfl) rfl dX4_follow_49 (fun H locs G => ?_)
      obtain ⟨w, R, G⟩ := Rc_ex (Rc_p_lk R hk1 (lk k2)) G
      refine lv_aload_n hx hb dX4_follow_52 rfl (lv_at hl 1 rfl) ?_
      refine g_get S G (Rc_T R k1 hk1) rfl (by decide +kernel) 2 (by decide) (by decide +kernel) rfl dX4_follow_53 ?_
      refine r_int S hret hlk G rfl (Nat.le_of_ble_eq_true rfl) (Nat.le_of_ble_eq_true rfl) dX4_follow_56 ?_
      have yk1 := tin_e ek1 hk1 (show n ≤ 1000 by omega)
      have zk1 := cn_e ek1 (show k1 < 1000 by omega)
      have qk2 := nm1 (show k2 < 100000 by omega)
      refine ⟨by simp only [S_follow, yk1, zk1, ek2, qk2, cn_nI (show k2 < 2 ^ 31 by omega), s_tell, put_lk, put_vs, put_hd, ↓reduceIte, Bool.false_eq_true, pk_us], ?_⟩
      simp only [S_follow, yk1, zk1, ek2, qk2, cn_nI (show k2 < 2 ^ 31 by omega), s_tell, put_lk, put_vs, put_hd, ↓reduceIte, Bool.false_eq_true, pk_us]
      exact ⟨_, _, _, _, _, _, _, _, _, _, R⟩

set_option maxHeartbeats 4000000 in
set_option maxRecDepth 100000 in
theorem C_trade (l : Launch) {E : EV} {w : wo} {x : Nat} {σ : ST} (X : RcX E w x σ) (K : Gd σ) (t : Int32) : ct_i l E yX4_trade wsX4_trade 2 0 0 [.ref x, .int t] w (fun r w' => r = (S_trade t σ).1 ∧ RcX E w' x (S_trade t σ).2) := by
  obtain ⟨st, wk, tl, ta, tf, T, Rw, Ia, F, ⟨lim, wou, th⟩, R⟩ := X
  obtain ⟨n, cl, vs, lk, hd, nr, so, sz, it, oc, ow, bg, dp, td⟩ := σ
  obtain ⟨Kn, Kr, Kc, Kl, Kh, Ks, Kz, Ki⟩ := K
  intro zz
  refine wo_body (Qc := fun A => va_Qi _ (wo_B E A) A) (ret := (some .int)) (by decide) rfl (Nat.le_of_ble_eq_true rfl) ?_
  intro p_ e_ s_ m_ args_ below_ meth_ code_ A_ ls S hret hlk hnm G hl
  have hl : lv_has ls 5 [(0, .ref x), (1, .int t)] := hl
  have hx := S.1
  have hb := S.2.1
  refine lv_aload_n hx hb dX4_trade_0 rfl (lv_at hl 0 rfl) ?_
  refine g_get S G (Rc_x R) rfl (by decide +kernel) 0 (by decide) (by decide +kernel) rfl dX4_trade_1 ?_
  refine lv_iload_n hx hb dX4_trade_4 rfl (lv_at hl 1 rfl) ?_
  rcases tin_c n t (by omega) with ⟨tk1, ok1⟩ | ⟨k1, hk1, ek1⟩
  · skip
    refine g_Vq (n := 1) (rest := []) S G hl (c_X1_find_n l R Kn ok1) gX4_trade_X1_find rfl (by decide +kernel) (Rc_st R) rfl rfl rfl (Nat.le_of_ble_eq_true rfl) ⟨Nat.le_of_ble_eq_true rfl, Nat.le_of_ble_eq_true rfl⟩ ⟨Nat.le_of_ble_eq_true rfl, Nat.le_of_ble_eq_true rfl⟩ dX4_trade_5 ?_
    clear G; intro r_ w1 H locs hp G
    obtain ⟨rfl, rfl⟩ := hp
    refine W.eq (g2 := F0 m_ 8 ls [.null]) rfl ?_
    refine lv_astore_nN (lv' := [(2, .null), (0, .ref x), (1, .int t)]) hx hb dX4_trade_8 rfl hl (by decide) rfl (fun ls hl => ?_)
    refine lv_aload_nN hx hb dX4_trade_9 rfl (lv_at hl 0 rfl) ?_
    refine lv_ifnonnullN hx hb dX4_trade_10 ?_
    refine lv_ldc hx hb S.2.2.2.1 (S.2.2.2.2 (.constant RX4 33 (-2000000001)) (by decide +kernel)) dX4_trade_13 ?_
    refine r_int S hret hlk G rfl (Nat.le_of_ble_eq_true rfl) (Nat.le_of_ble_eq_true rfl) dX4_trade_15 ?_
    refine ⟨by simp only [S_trade, tk1, s_tell, put_lk, put_vs, put_hd, ↓reduceIte, Bool.false_eq_true, pk_us], ?_⟩
    simp only [S_trade, tk1, s_tell, put_lk, put_vs, put_hd, ↓reduceIte, Bool.false_eq_true, pk_us]
    exact ⟨_, _, _, _, _, _, _, _, _, _, R⟩
  · skip
    refine g_Vq (n := 1) (rest := []) S G hl (c_X1_find_y l R Kn ek1 hk1) gX4_trade_X1_find rfl (by decide +kernel) (Rc_st R) rfl rfl rfl (Nat.le_of_ble_eq_true rfl) ⟨Nat.le_of_ble_eq_true rfl, Nat.le_of_ble_eq_true rfl⟩ ⟨Nat.le_of_ble_eq_true rfl, Nat.le_of_ble_eq_true rfl⟩ dX4_trade_5 ?_
    clear G; intro r_ w1 H locs hp G
    obtain ⟨rfl, rfl⟩ := hp
    refine W.eq (g2 := F0 m_ 8 ls [.ref (T k1)]) rfl ?_
    refine lv_astore_n (lv' := [(2, .ref (T k1)), (0, .ref x), (1, .int t)]) hx hb dX4_trade_8 rfl hl (by decide) rfl (fun ls hl => ?_)
    refine lv_aload_n hx hb dX4_trade_9 rfl (lv_at hl 0 rfl) ?_
    refine lv_ifnonnull (tgt := 16) hx hb dX4_trade_10 (by decide) ?_
    refine lv_aload_n hx hb dX4_trade_16 rfl (lv_at hl 1 rfl) ?_
    refine g_get S G (Rc_x R) rfl (by decide +kernel) 0 (by decide) (by decide +kernel) rfl dX4_trade_17 ?_
    refine lv_aload_n hx hb dX4_trade_20 rfl (lv_at hl 0 rfl) ?_
    refine g_get S G (Rc_T R k1 hk1) rfl (by decide +kernel) 2 (by decide) (by decide +kernel) rfl dX4_trade_21 ?_
    rcases Kl k1 hk1 with ek2 | ⟨k2, hk2, ek2⟩
    · skip
      refine g_Vq (n := 1) (rest := []) S G hl (c_X1_find_n l R Kn (Or.inl (by rw [ek2]; decide))) gX4_trade_X1_find rfl (by decide +kernel) (Rc_st R) rfl rfl rfl (Nat.le_of_ble_eq_true rfl) ⟨Nat.le_of_ble_eq_true rfl, Nat.le_of_ble_eq_true rfl⟩ ⟨Nat.le_of_ble_eq_true rfl, Nat.le_of_ble_eq_true rfl⟩ dX4_trade_24 ?_
      clear G; intro r_ w1 H locs hp G
      obtain ⟨rfl, rfl⟩ := hp
      refine W.eq (g2 := F0 m_ 27 ls [.null]) rfl ?_
      refine lv_astore_nN (lv' := [(3, .null), (2, .ref (T k1)), (0, .ref x), (1, .int t)]) hx hb dX4_trade_27 rfl hl (by decide) rfl (fun ls hl => ?_)
      refine lv_aload_nN hx hb dX4_trade_28 rfl (lv_at hl 0 rfl) ?_
      refine lv_ifnonnullN hx hb dX4_trade_29 ?_
      refine lv_aload_n hx hb dX4_trade_32 rfl (lv_at hl 2 rfl) ?_
      refine lv_iconst (v := 1) hx hb dX4_trade_33 (by decide) ?_
      refine g_Vi (n := 1) (rest := []) S G hl (c_X4_refuse l R (j := 1) (o := 1) rfl (by decide)) gX4_trade_X4_refuse rfl (by decide +kernel) (Rc_x R) rfl rfl rfl (Nat.le_of_ble_eq_true rfl) ⟨Nat.le_of_ble_eq_true rfl, Nat.le_of_ble_eq_true rfl⟩ ⟨Nat.le_of_ble_eq_true rfl, Nat.le_of_ble_eq_true rfl⟩ dX4_trade_34 ?_
      clear G; intro r_ w1 H locs hp G
      obtain ⟨hr_, R⟩ := hp
      subst r_
      rw [if_neg (show ¬ ((1 : Int32) = 7) by decide)] at R
      refine r_int S hret hlk G rfl (Nat.le_of_ble_eq_true rfl) (Nat.le_of_ble_eq_true rfl) dX4_trade_37 ?_
      have yk1 := tin_e ek1 hk1 (show n ≤ 1000 by omega)
      have zk1 := cn_e ek1 (show k1 < 1000 by omega)
      refine ⟨by simp only [S_trade, yk1, zk1, ek2, s_tell, put_lk, put_vs, put_hd, ↓reduceIte, Bool.false_eq_true, pk_us], ?_⟩
      simp only [S_trade, yk1, zk1, ek2, s_tell, put_lk, put_vs, put_hd, ↓reduceIte, Bool.false_eq_true, pk_us]
      exact ⟨_, _, _, _, _, _, _, _, _, _, R⟩
    · skip
      refine g_Vq (n := 1) (rest := []) S G hl (c_X1_find_y l R Kn ek2 hk2) gX4_trade_X1_find rfl (by decide +kernel) (Rc_st R) rfl rfl rfl (Nat.le_of_ble_eq_true rfl) ⟨Nat.le_of_ble_eq_true rfl, Nat.le_of_ble_eq_true rfl⟩ ⟨Nat.le_of_ble_eq_true rfl, Nat.le_of_ble_eq_true rfl⟩ dX4_trade_24 ?_
      clear G; intro r_ w1 H locs hp G
      obtain ⟨rfl, rfl⟩ := hp
      refine W.eq (g2 := F0 m_ 27 ls [.ref (T k2)]) rfl ?_
      refine lv_astore_n (lv' := [(3, .ref (T k2)), (2, .ref (T k1)), (0, .ref x), (1, .int t)]) hx hb dX4_trade_27 rfl hl (by decide) rfl (fun ls hl => ?_)
      refine lv_aload_n hx hb dX4_trade_28 rfl (lv_at hl 0 rfl) ?_
      refine lv_ifnonnull (tgt := 38) hx hb dX4_trade_29 (by decide) ?_
      refine lv_aload_n hx hb dX4_trade_38 rfl (lv_at hl 2 rfl) ?_
      refine lv_iconst (v := 0) hx hb dX4_trade_39 (by decide) ?_
      refine g_Vi (n := 1) (rest := []) S G hl (c_X4_tell l R (j := 0) (o := 0) rfl (by decide)) gX4_trade_X4_tell rfl (by decide +kernel) (Rc_x R) rfl rfl rfl (Nat.le_of_ble_eq_true rfl) ⟨Nat.le_of_ble_eq_true rfl, Nat.le_of_ble_eq_true rfl⟩ ⟨Nat.le_of_ble_eq_true rfl, Nat.le_of_ble_eq_true rfl⟩ dX4_trade_40 ?_
      clear G; intro r_ w1 H locs hp G
      obtain ⟨hr_, R⟩ := hp
      subst r_
      rw [if_neg (show ¬ ((0 : Int32) = 7) by decide)] at R
      refine lv_pop hx hb dX4_trade_43 rfl ?_
      refine lv_aload_n hx hb dX4_trade_44 rfl (lv_at hl 1 rfl) ?_
      refine g_get S G (Rc_T R k1 hk1) rfl (by decide +kernel) 1 (by decide) (by decide +kernel) rfl dX4_trade_45 ?_
      refine lv_istore (lv' := [(4, .int (vs k1)), (3, .ref (T k2)), (2, .ref (T k1)), (0, .ref x), (1, .int t)]) hx hb dX4_trade_48 hl (by decide) rfl (fun ls hl => ?_)
      refine lv_aload_n hx hb dX4_trade_50 rfl (lv_at hl 2 rfl) ?_
      refine lv_aload_n hx hb dX4_trade_51 rfl (lv_at hl 1 rfl) ?_
      refine g_get S G (Rc_T R k2 hk2) rfl (by decide +kernel) 1 (by decide) (by decide +kernel) rfl dX4_trade_52 ?_
      refine g_put (fs' := [.int (cl k1), .int (vs k2), .int (lk k1), va_rf (ro Rw (hd k1))]) (ty := .int) (v := .int (vs k2)) S G (Rc_T R k1 hk1) rfl tyX2 tyX2_ok nmX2 (by decide +kernel) 1 (by decide) (by decide +kernel) rfl (by decide +kernel) rfl rfl (Nat.le_of_ble_eq_true rfl) rfl dX4_trade_55 (fun H locs G => ?_)
      obtain ⟨w, R, G⟩ := Rc_ex (Rc_p_vs R hk1 (vs k2)) G
      refine lv_aload_n hx hb dX4_trade_58 rfl (lv_at hl 1 rfl) ?_
      refine lv_iload hx hb dX4_trade_59 (lv_at hl 0 rfl) ?_
      refine g_put (fs' := [.int (cl k2), .int (vs k1), .int (lk k2), va_rf (ro Rw (hd k2))]) (ty := .int) (v := .int (vs k1)) S G (Rc_T R k2 hk2) rfl tyX2 tyX2_ok nmX2 (by decide +kernel) 1 (by decide) (by decide +kernel) rfl (by decide +kernel) rfl rfl (Nat.le_of_ble_eq_true rfl) rfl dX4_trade_61 (fun H locs G => ?_)
      obtain ⟨w, R, G⟩ := Rc_ex (Rc_p_vs R hk2 (vs k1)) G
      refine lv_aload_n hx hb dX4_trade_64 rfl (lv_at hl 2 rfl) ?_
      refine g_get S G (Rc_T R k1 hk1) rfl (by decide +kernel) 1 (by decide) (by decide +kernel) rfl dX4_trade_65 ?_
      refine r_int S hret hlk G rfl (Nat.le_of_ble_eq_true rfl) (Nat.le_of_ble_eq_true rfl) dX4_trade_68 ?_
      have yk1 := tin_e ek1 hk1 (show n ≤ 1000 by omega)
      have zk1 := cn_e ek1 (show k1 < 1000 by omega)
      have qk2 := nm1 (show k2 < 100000 by omega)
      refine ⟨by simp only [S_trade, yk1, zk1, ek2, qk2, cn_nI (show k2 < 2 ^ 31 by omega), s_tell, put_lk, put_vs, put_hd, ↓reduceIte, Bool.false_eq_true, pk_us], ?_⟩
      simp only [S_trade, yk1, zk1, ek2, qk2, cn_nI (show k2 < 2 ^ 31 by omega), s_tell, put_lk, put_vs, put_hd, ↓reduceIte, Bool.false_eq_true, pk_us]
      exact ⟨_, _, _, _, _, _, _, _, _, _, R⟩
