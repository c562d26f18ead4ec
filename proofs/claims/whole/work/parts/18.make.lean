/-! THE CLASS: what makes objects: Thing, Row, Store, Work, ClassRunner; thing, hold -/
theorem wo_uu {w : wo} {a : Nat} {x y : va_E} : wo_up (wo_up w a x) a y = wo_up w a y := by
  funext q
  by_cases h : q = a <;> simp [wo_up, h]
theorem wo_cm {w : wo} {a b : Nat} {x y : va_E} (h : a ≠ b) : wo_up (wo_up w a x) b y = wo_up (wo_up w b y) a x := by
  funext q
  by_cases h1 : q = a
  · subst h1; simp [wo_up, h]
  · simp [wo_up, h1]
theorem wo_self {w : wo} {a : Nat} {x : va_E} (h : w a = some x) : wo_up w a x = w := by
  funext q
  by_cases h1 : q = a
  · subst h1; simp [wo_up, h]
  · simp [wo_up, h1]
set_option maxHeartbeats 4000000 in
set_option maxRecDepth 100000 in
theorem c_X2_init (l : Launch) {E : EV} {w : wo} {q : Nat} (hw : w q = some (.inr (2, [.int 0, .int 0, .int 0, .null]))) (cx v : Int32) : ct_v l E yX2_init wsX2_init 1 0 0 [.ref q, .int cx, .int v] w (fun w' => w' = wo_up w q (.inr (2, [.int cx, .int v, .int (-1), .null]))) := by
  intro zz
  refine wo_body (Qc := fun A => va_Qv _ (wo_B E A) A) (ret := none) (by decide) rfl (Nat.le_of_ble_eq_true rfl) ?_
  intro p_ e_ s_ m_ args_ below_ meth_ code_ A_ ls S hret hlk hnm G hl
  have hl : lv_has ls 3 [(0, .ref q), (1, .int cx), (2, .int v)] := hl
  have hx := S.1
  have hb := S.2.1
  refine lv_aload_n hx hb dX2_init_0 rfl (lv_at hl 0 rfl) ?_
  refine g_obj S hl (by decide +kernel) (by decide +kernel) (by decide +kernel) (Nat.le_of_ble_eq_true rfl) ⟨Nat.le_of_ble_eq_true rfl, Nat.le_of_ble_eq_true rfl⟩ dX2_init_1 ?_
  refine lv_aload_n hx hb dX2_init_4 rfl (lv_at hl 0 rfl) ?_
  refine lv_iload_n hx hb dX2_init_5 rfl (lv_at hl 1 rfl) ?_
  refine g_putF (fs' := [.int cx, .int 0, .int 0, .null]) (ty := .int) (v := .int cx) S G hw rfl tyX2 tyX2_ok nmX2 (by decide +kernel) 0 (by decide) (by decide +kernel) rfl hnm rfl (by decide +kernel) rfl rfl (Nat.le_of_ble_eq_true rfl) rfl dX2_init_6 (fun H locs G => ?_)
  have hw := wo_up_s (w := w) (a := q) (e := .inr (2, [.int cx, .int 0, .int 0, .null]))
  refine lv_aload_n hx hb dX2_init_9 rfl (lv_at hl 0 rfl) ?_
  refine lv_iload_n hx hb dX2_init_10 rfl (lv_at hl 2 rfl) ?_
  refine g_put (fs' := [.int cx, .int v, .int 0, .null]) (ty := .int) (v := .int v) S G hw rfl tyX2 tyX2_ok nmX2 (by decide +kernel) 1 (by decide) (by decide +kernel) rfl (by decide +kernel) rfl rfl (Nat.le_of_ble_eq_true rfl) rfl dX2_init_11 (fun H locs G => ?_)
  have hw := wo_up_s (w := (wo_up w q (.inr (2, [.int cx, .int 0, .int 0, .null])))) (a := q) (e := .inr (2, [.int cx, .int v, .int 0, .null]))
  refine lv_aload_n hx hb dX2_init_14 rfl (lv_at hl 0 rfl) ?_
  refine lv_iconst (v := (-1)) hx hb dX2_init_15 (by decide) ?_
  refine g_put (fs' := [.int cx, .int v, .int (-1), .null]) (ty := .int) (v := .int (-1)) S G hw rfl tyX2 tyX2_ok nmX2 (by decide +kernel) 2 (by decide) (by decide +kernel) rfl (by decide +kernel) rfl rfl (Nat.le_of_ble_eq_true rfl) rfl dX2_init_16 (fun H locs G => ?_)
  have hw := wo_up_s (w := (wo_up (wo_up w q (.inr (2, [.int cx, .int 0, .int 0, .null]))) q (.inr (2, [.int cx, .int v, .int 0, .null])))) (a := q) (e := .inr (2, [.int cx, .int v, .int (-1), .null]))
  refine r_void S hret hlk G (Nat.le_of_ble_eq_true rfl) (Nat.le_of_ble_eq_true rfl) dX2_init_19 ?_
  rw [wo_uu, wo_uu]

set_option maxHeartbeats 4000000 in
set_option maxRecDepth 100000 in
theorem c_X1_add (l : Launch) {E : EV} {w : wo} {x st wk tl ta : Nat} {tf : Nat → Option Nat} {T Rw Ia : Nat → Nat} {F : Nat → Nat → Int64} {n : Nat} {cl vs lk hd : Nat → Int32} {nr : Nat} {so sz : Nat → Int32} {it : Nat → Int64} {oc ow bg dp : Int32} {td : Nat → Int32} {lim wou th : Int32} (R : Rc E w (x, st, wk, tl, ta, tf, T, Rw, Ia, F) (n, cl, vs, lk, hd, nr, so, sz, it, oc, ow, bg, dp, td) (lim, wou, th)) (hn : n < 40) (cx v : Int32) : ct_i l E yX1_add wsX1_add 2 1 4 [.ref st, .int cx, .int v] w (fun r w' => r = nI n ∧ ∃ q : Nat, Rc E w' (x, st, wk, tl, ta, va_up tf n (some q), va_up T n q, Rw, Ia, F) (n + 1, upd cl n cx, upd vs n v, upd lk n (-1), upd hd n (-1), nr, so, sz, it, oc, ow, bg, dp, td) (lim, wou, th)) := by
  intro zz
  refine wo_body (Qc := fun A => va_Qi _ (wo_B E A) A) (ret := (some .int)) (by decide) rfl (Nat.le_of_ble_eq_true rfl) ?_
  intro p_ e_ s_ m_ args_ below_ meth_ code_ A_ ls S hret hlk hnm G hl
  have hl : lv_has ls 3 [(0, .ref st), (1, .int cx), (2, .int v)] := hl
  have hx := S.1
  have hb := S.2.1
  refine lv_aload_n hx hb dX1_add_0 rfl (lv_at hl 0 rfl) ?_
  refine g_get S G (Rc_st R) rfl (by decide +kernel) 1 (by decide) (by decide +kernel) rfl dX1_add_1 ?_
  refine lv_bipush (v := 40) hx hb dX1_add_4 (by decide) ?_
  refine lv_icmp_lt (tgt := 12) hx hb dX1_add_6 (by decide) (fun c1 => ?_) (fun c1 => absurd (nI_lt (b := 40) hn (by omega)) c1)
  refine lv_aload_n hx hb dX1_add_12 rfl (lv_at hl 0 rfl) ?_
  refine g_get S G (Rc_st R) rfl (by decide +kernel) 0 (by decide) (by decide +kernel) rfl dX1_add_13 ?_
  refine lv_aload_n hx hb dX1_add_16 rfl (lv_at hl 0 rfl) ?_
  refine g_get S G (Rc_st R) rfl (by decide +kernel) 1 (by decide) (by decide +kernel) rfl dX1_add_17 ?_
  refine g_new (fs := [.int 0, .int 0, .int 0, .null]) S G (ci := 2) rfl tyX2 tyX2_ok (by decide +kernel) (by decide +kernel) (by decide +kernel) (by decide +kernel) (fun j hj => by rcases (show j = 0 ∨ j = 1 ∨ j = 2 ∨ j = 3 by omega) with rfl | rfl | rfl | rfl <;> rfl) (Nat.le_of_ble_eq_true rfl) (Nat.le_of_ble_eq_true rfl) dX1_add_20 (fun q H hq G => ?_)
  refine lv_dup hx hb dX1_add_23 rfl ?_
  refine lv_iload_n hx hb dX1_add_24 rfl (lv_at hl 1 rfl) ?_
  refine lv_iload_n hx hb dX1_add_25 rfl (lv_at hl 2 rfl) ?_
  refine g_Iv (n := 2) (rest := [.ref q, .int (nI n), .ref ta]) S G hl (c_X2_init l wo_up_s cx v) gX1_add_X2_init (by decide +kernel) (by decide +kernel) (by decide +kernel) rfl rfl (by decide +kernel) rfl rfl (Nat.le_of_ble_eq_true rfl) ⟨Nat.le_of_ble_eq_true rfl, Nat.le_of_ble_eq_true rfl⟩ ⟨Nat.le_of_ble_eq_true rfl, Nat.le_of_ble_eq_true rfl⟩ dX1_add_26 ?_
  clear G; intro w1 H locs hp G
  subst hp
  rw [wo_uu] at G
  have nq : ∀ {a : Nat} {y : va_E}, w a = some y → a ≠ q := fun {a y} h e => by rw [e, hq] at h; cases h
  refine g_aast S G (by rw [wo_up_n (nq (Rc_ta R))]; exact Rc_ta R) wo_up_s (vin_e rfl (show n < 40 by omega) (by omega)) dX1_add_29 (fun H locs G => ?_)
  rw [show Int32.toNatClampNeg (nI n) = n from cn_nI (by omega)] at G
  have tast : st ≠ ta := wo_ap (Rc_st R) (Rc_ta R) (by simp)
  have hst : wo_up (wo_up w q (.inr (2, [.int cx, .int v, .int (-1), .null]))) ta (.inl (E.2.2.2, 40, .inr (.inr (.inr (.inr (va_up tf n (some q))))))) st = some (.inr (1, [.ref ta, .int (nI n)])) := by rw [wo_up_n tast, wo_up_n (nq (Rc_st R))]; exact Rc_st R
  refine lv_aload_n hx hb dX1_add_30 rfl (lv_at hl 0 rfl) ?_
  refine lv_dup hx hb dX1_add_31 rfl ?_
  refine g_get S G hst rfl (by decide +kernel) 1 (by decide) (by decide +kernel) rfl dX1_add_32 ?_
  refine lv_dup_x1 hx hb dX1_add_35 rfl rfl ?_
  refine lv_iconst (v := 1) hx hb dX1_add_36 (by decide) ?_
  refine lv_iadd hx hb dX1_add_37 ?_
  refine lv_topi (fun a2 ea2 => ?_)
  refine g_put (fs' := [.ref ta, .int a2]) (ty := .int) (v := .int a2) S G hst rfl tyX1 tyX1_ok nmX1 (by decide +kernel) 1 (by decide) (by decide +kernel) rfl (by decide +kernel) rfl rfl (Nat.le_of_ble_eq_true rfl) rfl dX1_add_38 (fun H locs G => ?_)
  rw [show a2 = nI (n + 1) by rw [ea2]; exact nI_1 n] at G
  have R := Rc_addT R hq cx v (-1)
  refine r_int S hret hlk G rfl (Nat.le_of_ble_eq_true rfl) (Nat.le_of_ble_eq_true rfl) dX1_add_41 ?_
  exact ⟨rfl, q, R⟩

set_option maxHeartbeats 4000000 in
set_option maxRecDepth 100000 in
theorem c_X1_add_full (l : Launch) {E : EV} {w : wo} {x st wk tl ta : Nat} {tf : Nat → Option Nat} {T Rw Ia : Nat → Nat} {F : Nat → Nat → Int64} {n : Nat} {cl vs lk hd : Nat → Int32} {nr : Nat} {so sz : Nat → Int32} {it : Nat → Int64} {oc ow bg dp : Int32} {td : Nat → Int32} {lim wou th : Int32} (R : Rc E w (x, st, wk, tl, ta, tf, T, Rw, Ia, F) (n, cl, vs, lk, hd, nr, so, sz, it, oc, ow, bg, dp, td) (lim, wou, th)) (hn : n = 40) (cx v : Int32) : ct_i l E yX1_add wsX1_add 2 1 4 [.ref st, .int cx, .int v] w (fun r w' => r = -2 ∧ w' = w) := by
  intro zz
  refine wo_body (Qc := fun A => va_Qi _ (wo_B E A) A) (ret := (some .int)) (by decide) rfl (Nat.le_of_ble_eq_true rfl) ?_
  intro p_ e_ s_ m_ args_ below_ meth_ code_ A_ ls S hret hlk hnm G hl
  have hl : lv_has ls 3 [(0, .ref st), (1, .int cx), (2, .int v)] := hl
  have hx := S.1
  have hb := S.2.1
  refine lv_aload_n hx hb dX1_add_0 rfl (lv_at hl 0 rfl) ?_
  refine g_get S G (Rc_st R) rfl (by decide +kernel) 1 (by decide) (by decide +kernel) rfl dX1_add_1 ?_
  refine lv_bipush (v := 40) hx hb dX1_add_4 (by decide) ?_
  refine lv_icmp_lt (tgt := 12) hx hb dX1_add_6 (by decide) (fun c1 => absurd c1 (by rw [hn]; decide)) (fun c1 => ?_)
  refine lv_bipush (v := (-2)) hx hb dX1_add_9 (by decide) ?_
  refine r_int S hret hlk G rfl (Nat.le_of_ble_eq_true rfl) (Nat.le_of_ble_eq_true rfl) dX1_add_11 ?_
  exact ⟨rfl, rfl⟩

set_option maxHeartbeats 4000000 in
set_option maxRecDepth 100000 in
theorem C_thing (l : Launch) {E : EV} {w : wo} {x : Nat} {σ : ST} (X : RcX E w x σ) (K : Gd σ) (c : Int32) (v : Int32) : ct_i l E yX4_thing wsX4_thing 3 1 4 [.ref x, .int c, .int v] w (fun r w' => r = (S_thing c v σ).1 ∧ RcX E w' x (S_thing c v σ).2) := by
  obtain ⟨st, wk, tl, ta, tf, T, Rw, Ia, F, ⟨lim, wou, th⟩, R⟩ := X
  obtain ⟨n, cl, vs, lk, hd, nr, so, sz, it, oc, ow, bg, dp, td⟩ := σ
  obtain ⟨Kn, Kr, Kc, Kl, Kh, Ks, Kz, Ki⟩ := K
  intro zz
  refine wo_body (Qc := fun A => va_Qi _ (wo_B E A) A) (ret := (some .int)) (by decide) rfl (Nat.le_of_ble_eq_true rfl) ?_
  intro p_ e_ s_ m_ args_ below_ meth_ code_ A_ ls S hret hlk hnm G hl
  have hl : lv_has ls 3 [(0, .ref x), (1, .int c), (2, .int v)] := hl
  have hx := S.1
  have hb := S.2.1
  refine lv_iload_n hx hb dX4_thing_0 rfl (lv_at hl 1 rfl) ?_
  refine g_Si (n := 1) (rest := []) S G hl (c_X4_isClass l c) gX4_thing_X4_isClass rfl (by decide +kernel) rfl rfl (Nat.le_of_ble_eq_true rfl) ⟨Nat.le_of_ble_eq_true rfl, Nat.le_of_ble_eq_true rfl⟩ ⟨Nat.le_of_ble_eq_true rfl, Nat.le_of_ble_eq_true rfl⟩ dX4_thing_1 ?_
  clear G; intro r_ w1 H locs hp G
  obtain ⟨rfl, rfl⟩ := hp
  refine lv_if_ne (tgt := 10) hx hb dX4_thing_4 (by decide) (fun c1 => ?_) (fun c1 => ?_)
  · skip
    refine lv_aload_n hx hb dX4_thing_10 rfl (lv_at hl 0 rfl) ?_
    refine g_get S G (Rc_x R) rfl (by decide +kernel) 0 (by decide) (by decide +kernel) rfl dX4_thing_11 ?_
    refine lv_iload_n hx hb dX4_thing_14 rfl (lv_at hl 1 rfl) ?_
    refine lv_iload_n hx hb dX4_thing_15 rfl (lv_at hl 2 rfl) ?_
    by_cases hf : n = 40
    · skip
      refine g_Vi (n := 2) (rest := []) S G hl (c_X1_add_full l R hf c v) gX4_thing_X1_add rfl (by decide +kernel) (Rc_st R) rfl rfl rfl (Nat.le_of_ble_eq_true rfl) ⟨Nat.le_of_ble_eq_true rfl, Nat.le_of_ble_eq_true rfl⟩ ⟨Nat.le_of_ble_eq_true rfl, Nat.le_of_ble_eq_true rfl⟩ dX4_thing_16 ?_
      clear G; intro r_ w1 H locs hp G
      obtain ⟨rfl, rfl⟩ := hp
      refine r_int S hret hlk G rfl (Nat.le_of_ble_eq_true rfl) (Nat.le_of_ble_eq_true rfl) dX4_thing_19 ?_
      by_cases qc : tin 8 c = true
      · refine ⟨by simp only [S_thing, qc, hf, ↓reduceIte], ?_⟩
        simp only [S_thing, qc, hf, ↓reduceIte]
        exact ⟨_, _, _, _, _, _, _, _, _, _, by rw [← hf]; exact R⟩
      · rw [if_neg qc] at c1
        exact absurd rfl c1
    · skip
      refine g_Vi (n := 2) (rest := []) S G hl (c_X1_add l R (by omega) c v) gX4_thing_X1_add rfl (by decide +kernel) (Rc_st R) rfl rfl rfl (Nat.le_of_ble_eq_true rfl) ⟨Nat.le_of_ble_eq_true rfl, Nat.le_of_ble_eq_true rfl⟩ ⟨Nat.le_of_ble_eq_true rfl, Nat.le_of_ble_eq_true rfl⟩ dX4_thing_16 ?_
      clear G; intro r_ w1 H locs hp G
      obtain ⟨rfl, q, R⟩ := hp
      refine r_int S hret hlk G rfl (Nat.le_of_ble_eq_true rfl) (Nat.le_of_ble_eq_true rfl) dX4_thing_19 ?_
      by_cases qc : tin 8 c = true
      · refine ⟨by simp only [S_thing, qc, hf, ↓reduceIte], ?_⟩
        simp only [S_thing, qc, hf, ↓reduceIte]
        exact ⟨_, _, _, _, _, _, _, _, _, _, R⟩
      · rw [if_neg qc] at c1
        exact absurd rfl c1
  · skip
    refine lv_ldc hx hb S.2.2.2.1 (S.2.2.2.2 (.constant RX4 33 (-2000000001)) (by decide +kernel)) dX4_thing_7 ?_
    refine r_int S hret hlk G rfl (Nat.le_of_ble_eq_true rfl) (Nat.le_of_ble_eq_true rfl) dX4_thing_9 ?_
    by_cases qc : tin 8 c = true
    · rw [if_pos qc] at c1
      exact absurd c1 (by decide)
    · refine ⟨by simp only [S_thing, qc, ↓reduceIte, Bool.false_eq_true], ?_⟩
      simp only [S_thing, qc, ↓reduceIte, Bool.false_eq_true]
      exact ⟨_, _, _, _, _, _, _, _, _, _, R⟩

set_option maxHeartbeats 4000000 in
set_option maxRecDepth 100000 in
theorem lp_fill {p_ : Program} {l : Launch} {e_ : Env} {R_ : Room} {s_ : State} {m_ : MethodId} {args_ : Array Value} {below_ : List Frame} {meth_ : Method} {code_ : Code} {cells slots : Nat} {Q_ : State → Prop} {E : EV} {A_ : Nat → Prop} (S : CallFix p_ m_ code_ cJ7_fill_d0a16 5 s_ args_ wsJ7_fill_d0a16 yJ7_fill_d0a16.cls) {b N : Nat} {v : Int64} {w : wo} (hN : N ≤ 1000) (kx : ∀ (g : Nat → Int64) (H : Heap) (locs : List Loc) (ls : Array Slot), (∀ i, i < N → g i = v) → wo_G E A_ s_ (wo_up w b (.inl (E.2.2.1, N, .inr (.inl g)))) H locs → W p_ l e_ R_ s_ m_ args_ below_ meth_ code_ H locs cells slots Q_ (F0 m_ 22 ls [])) : ∀ (mm j : Nat) (jv : Int32) (g : Nat → Int64) (H : Heap) (locs : List Loc), j + mm = N → (∀ i, i < j → g i = v) → jv = nI j → wo_G E A_ s_ (wo_up w b (.inl (E.2.2.1, N, .inr (.inl g)))) H locs → ∀ ls : Array Slot, lv_has ls 5 [(0, .ref b), (1, .long v), (3, .int jv), (4, .int (nI N))] → W p_ l e_ R_ s_ m_ args_ below_ meth_ code_ H locs cells slots Q_ (F0 m_ 6 ls []) := by
  have hx := S.1
  have hb := S.2.1
  intro mm
  induction mm with
  | zero =>
    intro j jv g H locs hj eg ej G ls hl
    refine lv_iload_n hx hb dJ7_fill_d0a16_6 rfl (lv_at hl 2 rfl) ?_
    refine lv_iload hx hb dJ7_fill_d0a16_7 (lv_at hl 3 rfl) ?_
    refine lv_icmp_ge (tgt := 22) hx hb dJ7_fill_d0a16_9 (by decide) (fun c1 => ?_) (fun c1 => absurd (by rw [ej]; exact nI_le (by omega) (by omega)) c1)
    exact kx g H locs ls (fun i hi => eg i (by omega)) G
  | succ mm ih =>
    intro j jv g H locs hj eg ej G ls hl
    refine lv_iload_n hx hb dJ7_fill_d0a16_6 rfl (lv_at hl 2 rfl) ?_
    refine lv_iload hx hb dJ7_fill_d0a16_7 (lv_at hl 3 rfl) ?_
    refine lv_icmp_ge (tgt := 22) hx hb dJ7_fill_d0a16_9 (by decide) (fun c1 => absurd c1 (by rw [ej]; exact nI_ge (by omega) (by omega))) (fun c1 => ?_)
    refine lv_aload_n hx hb dJ7_fill_d0a16_12 rfl (lv_at hl 0 rfl) ?_
    refine lv_iload_n hx hb dJ7_fill_d0a16_13 rfl (lv_at hl 2 rfl) ?_
    refine lv_lload_n hx hb dJ7_fill_d0a16_14 rfl (lv_at hl 1 rfl) ?_
    refine g_last S G wo_up_s (vin_e ej (show j < N by omega) (by omega)) dJ7_fill_d0a16_15 (fun H locs G => ?_)
    rw [wo_uu, show Int32.toNatClampNeg jv = j from cn_e ej (by omega)] at G
    obtain ⟨a2, ea2⟩ : ∃ y : Int32, y = jv + 1 := ⟨_, rfl⟩
    refine lv_iinc (v := a2) (lv' := [(3, .int a2), (0, .ref b), (1, .long v), (4, .int (nI N))]) hx hb dJ7_fill_d0a16_16 hl (k := 2) rfl (by rw [ea2]; rfl) (by decide) rfl (fun ls hl => ?_)
    refine lv_goto (tgt := 6) hx hb dJ7_fill_d0a16_19 (by decide) ?_
    exact ih (j + 1) a2 (vp_updL g j v) H locs (by omega) (fun i hi => by
      by_cases q : i = j
      · rw [q, pk_uLs]
      · rw [pk_uLn q]; exact eg i (by omega)) (by rw [ea2, ej]; exact nI_1 j) G ls (lv_sub hl [1, 2, 0, 3] rfl)
set_option maxHeartbeats 4000000 in
set_option maxRecDepth 100000 in
theorem c_fill (l : Launch) {E : EV} {w : wo} {b N : Nat} {f : Nat → Int64} (ha : w b = some (.inl (E.2.2.1, N, .inr (.inl f)))) (hN : N ≤ 1000) (v : Int64) : ct_v l E yJ7_fill_d0a16 wsJ7_fill_d0a16 0 0 0 [.ref b, .long v] w (fun w' => ∃ g : Nat → Int64, w' = wo_up w b (.inl (E.2.2.1, N, .inr (.inl g))) ∧ ∀ j, j < N → g j = v) := by
  intro zz
  refine wo_body (Qc := fun A => va_Qv _ (wo_B E A) A) (ret := none) (by decide) rfl (Nat.le_of_ble_eq_true rfl) ?_
  intro p_ e_ s_ m_ args_ below_ meth_ code_ A_ ls S hret hlk hnm G hl
  have hl : lv_has ls 5 [(0, .ref b), (1, .long v)] := hl
  have hx := S.1
  have hb := S.2.1
  refine lv_iconst (v := 0) hx hb dJ7_fill_d0a16_0 (by decide) ?_
  refine lv_istore_n (lv' := [(3, .int 0), (0, .ref b), (1, .long v)]) hx hb dJ7_fill_d0a16_1 rfl hl (by decide) rfl (fun ls hl => ?_)
  refine lv_aload_n hx hb dJ7_fill_d0a16_2 rfl (lv_at hl 1 rfl) ?_
  refine g_llen S G ha dJ7_fill_d0a16_3 ?_
  refine lv_istore (lv' := [(4, .int (nI N)), (3, .int 0), (0, .ref b), (1, .long v)]) hx hb dJ7_fill_d0a16_4 hl (by decide) rfl (fun ls hl => ?_)
  rw [← wo_self ha] at G
  refine lp_fill S hN (fun g H locs ls hg G => ?_) N 0 0 f _ _ (by omega) (fun i hi => absurd hi (by omega)) rfl G ls (lv_sub hl [2, 3, 1, 0] rfl)
  refine r_void S hret hlk G (Nat.le_of_ble_eq_true rfl) (Nat.le_of_ble_eq_true rfl) dJ7_fill_d0a16_22 ?_
  exact ⟨g, rfl, hg⟩
