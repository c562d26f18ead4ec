/-! THE CLASS: Store(), Work(), ClassRunner() -/
theorem wo_kn {w : wo} {a q : Nat} {y e : va_E} (h : w a = some y) (hq : w q = none) : wo_up w q e a = some y := by
  rw [wo_up_n (fun z => by rw [z, hq] at h; cases h)]; exact h
set_option maxHeartbeats 4000000 in
set_option maxRecDepth 100000 in
theorem c_X1_init (l : Launch) {E : EV} {w : wo} {b : Nat} (hw : w b = some (.inr (1, [.null, .int 0]))) : ct_v l E yX1_init wsX1_init 1 1 40 [.ref b] w (fun w' => ∃ q2 : Nat, w' = wo_up (wo_up w b (.inr (1, [.ref q2, .int 0]))) q2 (.inl (E.2.2.2, 40, .inr (.inr (.inr (.inr (fun _ => none)))))) ∧ w q2 = none ∧ q2 ≠ b) := by
  intro zz
  refine wo_body (Qc := fun A => va_Qv _ (wo_B E A) A) (ret := none) (by decide) rfl (Nat.le_of_ble_eq_true rfl) ?_
  intro p_ e_ s_ m_ args_ below_ meth_ code_ A_ ls S hret hlk hnm G hl
  have hl : lv_has ls 1 [(0, .ref b)] := hl
  have hx := S.1
  have hb := S.2.1
  refine lv_aload_n hx hb dX1_init_0 rfl (lv_at hl 0 rfl) ?_
  refine g_obj S hl (by decide +kernel) (by decide +kernel) (by decide +kernel) (Nat.le_of_ble_eq_true rfl) ⟨Nat.le_of_ble_eq_true rfl, Nat.le_of_ble_eq_true rfl⟩ dX1_init_1 ?_
  refine lv_aload_n hx hb dX1_init_4 rfl (lv_at hl 0 rfl) ?_
  refine lv_bipush (v := 40) hx hb dX1_init_5 (by decide) ?_
  refine g_newq (N' := 40) S G (by decide +kernel) (by decide) rfl (by omega) (Nat.le_of_ble_eq_true rfl) (Nat.le_of_ble_eq_true rfl) dX1_init_7 (fun q2 H hq2 G => ?_)
  have hne : q2 ≠ b := fun e => by rw [e, hw] at hq2; cases hq2
  have hw := wo_kn (e := (.inl (E.2.2.2, 40, .inr (.inr (.inr (.inr (fun _ => none))))))) hw hq2
  refine g_putF (fs' := [.ref q2, .int 0]) (ty := .array (.object "ClassRunner$Thing")) (v := .ref q2) S G hw rfl tyX1 tyX1_ok nmX1 (by decide +kernel) 0 (by decide) (by decide +kernel) rfl hnm rfl (by decide +kernel) rfl rfl (Nat.le_of_ble_eq_true rfl) rfl dX1_init_10 (fun H locs G => ?_)
  rw [wo_cm hne] at G
  refine r_void S hret hlk G (Nat.le_of_ble_eq_true rfl) (Nat.le_of_ble_eq_true rfl) dX1_init_13 ?_
  exact ⟨q2, rfl, hq2, hne⟩

set_option maxHeartbeats 4000000 in
set_option maxRecDepth 100000 in
theorem c_X3_init (l : Launch) {E : EV} {w : wo} {b st : Nat} (hw : w b = some (.inr (3, [.null, .int 0, .int 0, .int 0, .int 0, .int 0]))) : ct_v l E yX3_init wsX3_init 1 0 0 [.ref b, .ref st] w (fun w' => w' = wo_up w b (.inr (3, [.ref st, .int 0, .int 0, .int 0, .int 0, .int 0]))) := by
  intro zz
  refine wo_body (Qc := fun A => va_Qv _ (wo_B E A) A) (ret := none) (by decide) rfl (Nat.le_of_ble_eq_true rfl) ?_
  intro p_ e_ s_ m_ args_ below_ meth_ code_ A_ ls S hret hlk hnm G hl
  have hl : lv_has ls 2 [(0, .ref b), (1, .ref st)] := hl
  have hx := S.1
  have hb := S.2.1
  refine lv_aload_n hx hb dX3_init_0 rfl (lv_at hl 0 rfl) ?_
  refine g_obj S hl (by decide +kernel) (by decide +kernel) (by decide +kernel) (Nat.le_of_ble_eq_true rfl) ⟨Nat.le_of_ble_eq_true rfl, Nat.le_of_ble_eq_true rfl⟩ dX3_init_1 ?_
  refine lv_aload_n hx hb dX3_init_4 rfl (lv_at hl 0 rfl) ?_
  refine lv_aload_n hx hb dX3_init_5 rfl (lv_at hl 1 rfl) ?_
  refine g_putF (fs' := [.ref st, .int 0, .int 0, .int 0, .int 0, .int 0]) (ty := .object "ClassRunner$Store") (v := .ref st) S G hw rfl tyX3 tyX3_ok nmX3 (by decide +kernel) 0 (by decide) (by decide +kernel) rfl hnm rfl (by decide +kernel) rfl rfl (Nat.le_of_ble_eq_true rfl) rfl dX3_init_6 (fun H locs G => ?_)
  have hw := wo_up_s (w := w) (a := b) (e := .inr (3, [.ref st, .int 0, .int 0, .int 0, .int 0, .int 0]))
  refine r_void S hret hlk G (Nat.le_of_ble_eq_true rfl) (Nat.le_of_ble_eq_true rfl) dX3_init_9 ?_
  rfl

def st0 : ST := (0, fun _ => 0, fun _ => 0, fun _ => 0, fun _ => 0, 0, fun _ => 0, fun _ => 0, fun _ => 0, 0, 0, 0, 0, fun _ => 0)
set_option maxHeartbeats 4000000 in
set_option maxRecDepth 100000 in
theorem C_init (l : Launch) {E : EV} {w : wo} {x : Nat} (hw : w x = some (.inr (4, [.null, .null, .null, .int 0, .int 0]))) : ct_v l E yX4_init wsX4_init 2 4 58 [.ref x] w (fun w' => RcX E w' x st0) := by
  intro zz
  refine wo_body (Qc := fun A => va_Qv _ (wo_B E A) A) (ret := none) (by decide) rfl (Nat.le_of_ble_eq_true rfl) ?_
  intro p_ e_ s_ m_ args_ below_ meth_ code_ A_ ls S hret hlk hnm G hl
  have hl : lv_has ls 1 [(0, .ref x)] := hl
  have hx := S.1
  have hb := S.2.1
  refine lv_aload_n hx hb dX4_init_0 rfl (lv_at hl 0 rfl) ?_
  refine g_obj S hl (by decide +kernel) (by decide +kernel) (by decide +kernel) (Nat.le_of_ble_eq_true rfl) ⟨Nat.le_of_ble_eq_true rfl, Nat.le_of_ble_eq_true rfl⟩ dX4_init_1 ?_
  refine lv_aload_n hx hb dX4_init_4 rfl (lv_at hl 0 rfl) ?_
  refine g_new (fs := [.null, .int 0]) S G (ci := 1) rfl tyX1 tyX1_ok (by decide +kernel) (by decide +kernel) (by decide +kernel) (by decide +kernel) (fun j hj => by rcases (show j = 0 ∨ j = 1 by omega) with rfl | rfl <;> rfl) (Nat.le_of_ble_eq_true rfl) (Nat.le_of_ble_eq_true rfl) dX4_init_5 (fun st H hq G => ?_)
  have hw := wo_kn (e := .inr (1, [.null, .int 0])) hw hq
  have h_st := wo_up_s (w := w) (a := st) (e := .inr (1, [.null, .int 0]))
  generalize wo_up w st (.inr (1, [.null, .int 0])) = w1 at G hw h_st
  refine lv_dup hx hb dX4_init_8 rfl ?_
  refine g_Iv (n := 0) (rest := [.ref st, .ref x]) S G hl (c_X1_init l h_st) gX4_init_X1_init (by decide +kernel) (by decide +kernel) (by decide +kernel) rfl rfl (by decide +kernel) rfl rfl (Nat.le_of_ble_eq_true rfl) ⟨Nat.le_of_ble_eq_true rfl, Nat.le_of_ble_eq_true rfl⟩ ⟨Nat.le_of_ble_eq_true rfl, Nat.le_of_ble_eq_true rfl⟩ dX4_init_9 ?_
  clear G; intro w1 H locs hp G
  obtain ⟨ta, rfl, hq2, hne⟩ := hp
  have hne2 : ta ≠ x := fun e => by rw [e, hw] at hq2; cases hq2
  have hw := (wo_up_n (w := wo_up w1 st (.inr (1, [.ref ta, .int 0]))) (e := (.inl (E.2.2.2, 40, .inr (.inr (.inr (.inr (fun _ => none))))))) (Ne.symm hne2)).trans (wo_kp (e := .inr (1, [.ref ta, .int 0])) hw h_st (by simp))
  have h_st := (wo_up_n (w := wo_up w1 st (.inr (1, [.ref ta, .int 0]))) (e := (.inl (E.2.2.2, 40, .inr (.inr (.inr (.inr (fun _ => none))))))) (Ne.symm hne)).trans wo_up_s
  have h_ta := wo_up_s (w := wo_up w1 st (.inr (1, [.ref ta, .int 0]))) (a := ta) (e := (.inl (E.2.2.2, 40, .inr (.inr (.inr (.inr (fun _ => none)))))))
  generalize wo_up (wo_up w1 st (.inr (1, [.ref ta, .int 0]))) ta (.inl (E.2.2.2, 40, .inr (.inr (.inr (.inr (fun _ => none)))))) = w2 at G hw h_st h_ta
  refine g_putF (fs' := [.ref st, .null, .null, .int 0, .int 0]) (ty := .object "ClassRunner$Store") (v := .ref st) S G hw rfl tyX4 tyX4_ok nmX4 (by decide +kernel) 0 (by decide) (by decide +kernel) rfl hnm rfl (by decide +kernel) rfl rfl (Nat.le_of_ble_eq_true rfl) rfl dX4_init_12 (fun H locs G => ?_)
  have h_st := wo_kp (e := .inr (4, [.ref st, .null, .null, .int 0, .int 0])) h_st hw (by simp)
  have h_ta := wo_kp (e := .inr (4, [.ref st, .null, .null, .int 0, .int 0])) h_ta hw (by simp)
  have h_x := wo_up_s (w := w2) (a := x) (e := .inr (4, [.ref st, .null, .null, .int 0, .int 0]))
  generalize wo_up w2 x (.inr (4, [.ref st, .null, .null, .int 0, .int 0])) = w3 at G h_st h_ta h_x
  refine lv_aload_n hx hb dX4_init_15 rfl (lv_at hl 0 rfl) ?_
  refine g_new (fs := [.null, .int 0, .int 0, .int 0, .int 0, .int 0]) S G (ci := 3) rfl tyX3 tyX3_ok (by decide +kernel) (by decide +kernel) (by decide +kernel) (by decide +kernel) (fun j hj => by rcases (show j = 0 ∨ j = 1 ∨ j = 2 ∨ j = 3 ∨ j = 4 ∨ j = 5 by omega) with rfl | rfl | rfl | rfl | rfl | rfl <;> rfl) (Nat.le_of_ble_eq_true rfl) (Nat.le_of_ble_eq_true rfl) dX4_init_16 (fun wk H hq G => ?_)
  have h_x := wo_kn (e := .inr (3, [.null, .int 0, .int 0, .int 0, .int 0, .int 0])) h_x hq
  have h_st := wo_kn (e := .inr (3, [.null, .int 0, .int 0, .int 0, .int 0, .int 0])) h_st hq
  have h_ta := wo_kn (e := .inr (3, [.null, .int 0, .int 0, .int 0, .int 0, .int 0])) h_ta hq
  have h_wk := wo_up_s (w := w3) (a := wk) (e := .inr (3, [.null, .int 0, .int 0, .int 0, .int 0, .int 0]))
  generalize wo_up w3 wk (.inr (3, [.null, .int 0, .int 0, .int 0, .int 0, .int 0])) = w4 at G h_x h_st h_ta h_wk
  refine lv_dup hx hb dX4_init_19 rfl ?_
  refine lv_aload_n hx hb dX4_init_20 rfl (lv_at hl 0 rfl) ?_
  refine g_get S G h_x rfl (by decide +kernel) 0 (by decide) (by decide +kernel) rfl dX4_init_21 ?_
  refine g_Iv (n := 1) (rest := [.ref wk, .ref x]) S G hl (c_X3_init l h_wk) gX4_init_X3_init (by decide +kernel) (by decide +kernel) (by decide +kernel) rfl rfl (by decide +kernel) rfl rfl (Nat.le_of_ble_eq_true rfl) ⟨Nat.le_of_ble_eq_true rfl, Nat.le_of_ble_eq_true rfl⟩ ⟨Nat.le_of_ble_eq_true rfl, Nat.le_of_ble_eq_true rfl⟩ dX4_init_24 ?_
  clear G; intro w1 H locs hp G
  subst hp
  have h_x := wo_kp (e := .inr (3, [.ref st, .int 0, .int 0, .int 0, .int 0, .int 0])) h_x h_wk (by simp)
  have h_st := wo_kp (e := .inr (3, [.ref st, .int 0, .int 0, .int 0, .int 0, .int 0])) h_st h_wk (by simp)
  have h_ta := wo_kp (e := .inr (3, [.ref st, .int 0, .int 0, .int 0, .int 0, .int 0])) h_ta h_wk (by simp)
  have h_wk := wo_up_s (w := w4) (a := wk) (e := .inr (3, [.ref st, .int 0, .int 0, .int 0, .int 0, .int 0]))
  generalize wo_up w4 wk (.inr (3, [.ref st, .int 0, .int 0, .int 0, .int 0, .int 0])) = w5 at G h_x h_st h_ta h_wk
  refine g_putF (fs' := [.ref st, .ref wk, .null, .int 0, .int 0]) (ty := .object "ClassRunner$Work") (v := .ref wk) S G h_x rfl tyX4 tyX4_ok nmX4 (by decide +kernel) 1 (by decide) (by decide +kernel) rfl hnm rfl (by decide +kernel) rfl rfl (Nat.le_of_ble_eq_true rfl) rfl dX4_init_27 (fun H locs G => ?_)
  have h_st := wo_kp (e := .inr (4, [.ref st, .ref wk, .null, .int 0, .int 0])) h_st h_x (by simp)
  have h_wk := wo_kp (e := .inr (4, [.ref st, .ref wk, .null, .int 0, .int 0])) h_wk h_x (by simp)
  have h_ta := wo_kp (e := .inr (4, [.ref st, .ref wk, .null, .int 0, .int 0])) h_ta h_x (by simp)
  have h_x := wo_up_s (w := w5) (a := x) (e := .inr (4, [.ref st, .ref wk, .null, .int 0, .int 0]))
  generalize wo_up w5 x (.inr (4, [.ref st, .ref wk, .null, .int 0, .int 0])) = w6 at G h_st h_wk h_ta h_x
  refine lv_aload_n hx hb dX4_init_30 rfl (lv_at hl 0 rfl) ?_
  refine lv_bipush (v := 10) hx hb dX4_init_31 (by decide) ?_
  refine g_newi (N' := 10) S G (by decide +kernel) (by decide) rfl (by omega) (Nat.le_of_ble_eq_true rfl) (Nat.le_of_ble_eq_true rfl) dX4_init_33 (fun tl H hq G => ?_)
  have h_x := wo_kn (e := .inl (E.2.1, 10, .inl (fun _ => 0))) h_x hq
  have h_st := wo_kn (e := .inl (E.2.1, 10, .inl (fun _ => 0))) h_st hq
  have h_wk := wo_kn (e := .inl (E.2.1, 10, .inl (fun _ => 0))) h_wk hq
  have h_ta := wo_kn (e := .inl (E.2.1, 10, .inl (fun _ => 0))) h_ta hq
  have h_tl := wo_up_s (w := w6) (a := tl) (e := .inl (E.2.1, 10, .inl (fun _ => 0)))
  generalize wo_up w6 tl (.inl (E.2.1, 10, .inl (fun _ => 0))) = w7 at G h_x h_st h_wk h_ta h_tl
  refine g_putF (fs' := [.ref st, .ref wk, .ref tl, .int 0, .int 0]) (ty := .array .int) (v := .ref tl) S G h_x rfl tyX4 tyX4_ok nmX4 (by decide +kernel) 2 (by decide) (by decide +kernel) rfl hnm rfl (by decide +kernel) rfl rfl (Nat.le_of_ble_eq_true rfl) rfl dX4_init_35 (fun H locs G => ?_)
  have h_st := wo_kp (e := .inr (4, [.ref st, .ref wk, .ref tl, .int 0, .int 0])) h_st h_x (by simp)
  have h_wk := wo_kp (e := .inr (4, [.ref st, .ref wk, .ref tl, .int 0, .int 0])) h_wk h_x (by simp)
  have h_ta := wo_kp (e := .inr (4, [.ref st, .ref wk, .ref tl, .int 0, .int 0])) h_ta h_x (by simp)
  have h_tl := wo_kp (e := .inr (4, [.ref st, .ref wk, .ref tl, .int 0, .int 0])) h_tl h_x (by simp)
  have h_x := wo_up_s (w := w7) (a := x) (e := .inr (4, [.ref st, .ref wk, .ref tl, .int 0, .int 0]))
  generalize wo_up w7 x (.inr (4, [.ref st, .ref wk, .ref tl, .int 0, .int 0])) = w8 at G h_st h_wk h_ta h_tl h_x
  refine r_void S hret hlk G (Nat.le_of_ble_eq_true rfl) (Nat.le_of_ble_eq_true rfl) dX4_init_38 ?_
  exact ⟨st, wk, tl, ta, (fun _ => none), (fun _ => 0), (fun _ => 0), (fun _ => 0), (fun _ _ => 0), (0, 0, 0), h_x, h_st, h_wk, h_tl, h_ta, fun k hk => absurd hk (Nat.not_lt_zero k), fun k hk => absurd hk (Nat.not_lt_zero k), fun k hk => absurd hk (Nat.not_lt_zero k), fun k hk => absurd hk (Nat.not_lt_zero k), fun k hk => absurd hk (Nat.not_lt_zero k), fun k _ hk => absurd hk (Nat.not_lt_zero k), fun k _ hk => absurd hk (Nat.not_lt_zero k), fun k _ hk => absurd hk (Nat.not_lt_zero k)⟩
