/-! THE CLASS: Row(), hold; Store(), Work(), ClassRunner() -/
set_option maxHeartbeats 4000000 in
set_option maxRecDepth 100000 in
theorem c_X0_init (l : Launch) {E : EV} {w : wo} {b N : Nat} (hw : w b = some (.inr (0, [.int 0, .null]))) (s : Int32) {z : Int32} (ez : z = nI N) (hN : N < 13) : ct_v l E yX0_init wsX0_init 1 1 12 [.ref b, .int s, .int z] w (fun w' => ∃ (q2 : Nat) (f : Nat → Int64), w' = wo_up (wo_up w b (.inr (0, [.int s, .ref q2]))) q2 (.inl (E.2.2.1, N, .inr (.inl f))) ∧ w q2 = none ∧ q2 ≠ b ∧ ∀ j, j < N → f j = if s = 2 ∨ s = 3 then -1 else 0) := by
  intro zz
  refine wo_body (Qc := fun A => va_Qv _ (wo_B E A) A) (ret := none) (by decide) rfl (Nat.le_of_ble_eq_true rfl) ?_
  intro p_ e_ s_ m_ args_ below_ meth_ code_ A_ ls S hret hlk hnm G hl
  have hl : lv_has ls 3 [(0, .ref b), (1, .int s), (2, .int z)] := hl
  have hx := S.1
  have hb := S.2.1
  refine lv_aload_n hx hb dX0_init_0 rfl (lv_at hl 0 rfl) ?_
  refine g_obj S hl (by decide +kernel) (by decide +kernel) (by decide +kernel) (Nat.le_of_ble_eq_true rfl) ⟨Nat.le_of_ble_eq_true rfl, Nat.le_of_ble_eq_true rfl⟩ dX0_init_1 ?_
  refine lv_aload_n hx hb dX0_init_4 rfl (lv_at hl 0 rfl) ?_
  refine lv_iload_n hx hb dX0_init_5 rfl (lv_at hl 1 rfl) ?_
  refine g_putF (fs' := [.int s, .null]) (ty := .int) (v := .int s) S G hw rfl tyX0 tyX0_ok nmX0 (by decide +kernel) 0 (by decide) (by decide +kernel) rfl hnm rfl (by decide +kernel) rfl rfl (Nat.le_of_ble_eq_true rfl) rfl dX0_init_6 (fun H locs G => ?_)
  have hw := wo_up_s (w := w) (a := b) (e := .inr (0, [.int s, .null]))
  refine lv_aload_n hx hb dX0_init_9 rfl (lv_at hl 0 rfl) ?_
  refine lv_iload_n hx hb dX0_init_10 rfl (lv_at hl 2 rfl) ?_
  refine g_newl S G (by decide +kernel) (by rw [ez]; exact nI_pos (by omega)) (show Int32.toNatClampNeg z = N from cn_e ez (by omega)) (by omega) (Nat.le_of_ble_eq_true rfl) (show 0 + N ≤ 12 by omega) dX0_init_11 (fun q2 H hq2 G => ?_)
  have hne : q2 ≠ b := fun e => by rw [e, wo_up_s] at hq2; cases hq2
  have hwq : w q2 = none := by rw [wo_up_n hne] at hq2; exact hq2
  have hw := (wo_up_n (w := wo_up w b (.inr (0, [.int s, .null]))) (e := .inl (E.2.2.1, N, .inr (.inl (fun _ => 0)))) (Ne.symm hne)).trans hw
  refine W.widen (k := 1) (n := 12) (by omega) (by omega) ?_
  refine g_putF (fs' := [.int s, .ref q2]) (ty := .array .long) (v := .ref q2) S G hw rfl tyX0 tyX0_ok nmX0 (by decide +kernel) 1 (by decide) (by decide +kernel) rfl hnm rfl (by decide +kernel) rfl rfl (Nat.le_of_ble_eq_true rfl) rfl dX0_init_13 (fun H locs G => ?_)
  rw [wo_cm hne, wo_uu] at G
  have hw : wo_up (wo_up w b (.inr (0, [.int s, .ref q2]))) q2 (.inl (E.2.2.1, N, .inr (.inl (fun _ => 0)))) b = some (.inr (0, [.int s, .ref q2])) := by rw [wo_up_n (Ne.symm hne)]; exact wo_up_s
  refine lv_iload_n hx hb dX0_init_16 rfl (lv_at hl 1 rfl) ?_
  refine lv_iconst (v := 2) hx hb dX0_init_17 (by decide) ?_
  refine lv_icmp_eq (tgt := 26) hx hb dX0_init_18 (by decide) (fun c1 => ?_) (fun c1 => ?_)
  · skip
    refine lv_aload_n hx hb dX0_init_26 rfl (lv_at hl 0 rfl) ?_
    refine g_get S G hw rfl (by decide +kernel) 1 (by decide) (by decide +kernel) rfl dX0_init_27 ?_
    refine lv_ldc2 hx hb S.2.2.2.1 (S.2.2.2.2 (.constantLong RX0 19 (-1)) (by decide +kernel)) dX0_init_30 ?_
    refine g_Sv (n := 2) (rest := []) S G hl (c_fill l wo_up_s (by omega) (-1)) gX0_init_J7_fill_d0a16 rfl (by decide +kernel) rfl rfl (Nat.le_of_ble_eq_true rfl) ⟨Nat.le_of_ble_eq_true rfl, Nat.le_of_ble_eq_true rfl⟩ ⟨Nat.le_of_ble_eq_true rfl, Nat.le_of_ble_eq_true rfl⟩ dX0_init_33 ?_
    clear G; intro w1 H locs hp G
    obtain ⟨g, rfl, hg⟩ := hp
    rw [wo_uu] at G
    refine r_void S hret hlk G (Nat.le_of_ble_eq_true rfl) (Nat.le_of_ble_eq_true rfl) dX0_init_36 ?_
    exact ⟨q2, g, rfl, hwq, hne, fun j hj => by rw [if_pos (Or.inl c1)]; exact hg j hj⟩
  · skip
    refine lv_iload_n hx hb dX0_init_21 rfl (lv_at hl 1 rfl) ?_
    refine lv_iconst (v := 3) hx hb dX0_init_22 (by decide) ?_
    refine lv_icmp_ne (tgt := 36) hx hb dX0_init_23 (by decide) (fun c2 => ?_) (fun c2 => ?_)
    · skip
      refine r_void S hret hlk G (Nat.le_of_ble_eq_true rfl) (Nat.le_of_ble_eq_true rfl) dX0_init_36 ?_
      exact ⟨q2, _, rfl, hwq, hne, fun j hj => by rw [if_neg (fun z => z.elim c1 c2)]⟩
    · skip
      refine lv_aload_n hx hb dX0_init_26 rfl (lv_at hl 0 rfl) ?_
      refine g_get S G hw rfl (by decide +kernel) 1 (by decide) (by decide +kernel) rfl dX0_init_27 ?_
      refine lv_ldc2 hx hb S.2.2.2.1 (S.2.2.2.2 (.constantLong RX0 19 (-1)) (by decide +kernel)) dX0_init_30 ?_
      refine g_Sv (n := 2) (rest := []) S G hl (c_fill l wo_up_s (by omega) (-1)) gX0_init_J7_fill_d0a16 rfl (by decide +kernel) rfl rfl (Nat.le_of_ble_eq_true rfl) ⟨Nat.le_of_ble_eq_true rfl, Nat.le_of_ble_eq_true rfl⟩ ⟨Nat.le_of_ble_eq_true rfl, Nat.le_of_ble_eq_true rfl⟩ dX0_init_33 ?_
      clear G; intro w1 H locs hp G
      obtain ⟨g, rfl, hg⟩ := hp
      rw [wo_uu] at G
      refine r_void S hret hlk G (Nat.le_of_ble_eq_true rfl) (Nat.le_of_ble_eq_true rfl) dX0_init_36 ?_
      exact ⟨q2, g, rfl, hwq, hne, fun j hj => by rw [if_pos (Or.inr c2)]; exact hg j hj⟩

theorem fil_in {it : Nat → Int64} {r : Nat} {v : Int64} {m k : Nat} (h : k < m) : fil it r v m (12 * r + k) = v := by
  unfold fil
  rw [if_pos ⟨by omega, by omega⟩]
theorem fil_out {it : Nat → Int64} {r r2 : Nat} {v : Int64} {k : Nat} (h : r2 < r) (hk : k < 12) : fil it r v 12 (12 * r2 + k) = it (12 * r2 + k) := by
  unfold fil
  rw [if_neg (by omega)]
theorem s23 {s : Int32} (h : tin 4 s = true) : (if s = 2 ∨ s = 3 then (-1 : Int64) else 0) = if s < 2 then 0 else -1 := by
  rcases tin_c 4 s (by omega) with ⟨h1, -⟩ | ⟨k, hk, rfl⟩
  · rw [h1] at h; cases h
  · rcases (show k = 0 ∨ k = 1 ∨ k = 2 ∨ k = 3 by omega) with rfl | rfl | rfl | rfl <;> decide
theorem s_in {s : Int32} (h1 : ¬ s < -1) (h2 : ¬ 3 < s) (h3 : ¬ s = -1) : tin 4 s = true := by
  rcases tin_c 4 s (by omega) with ⟨h, q | q⟩ | ⟨k, hk, e⟩
  · have a1 := Int32.le_iff_toInt_le.mp (Int32.not_lt.mp h1)
    have a2 := Int32.lt_iff_toInt_lt.mp q
    have a3 : (-1 : Int32).toInt = -1 := by decide
    have a4 : (0 : Int32).toInt = 0 := by decide
    exact absurd (Int32.toInt_inj.mp (show s.toInt = (-1 : Int32).toInt by omega)) h3
  · exact absurd (Int32.lt_of_lt_of_le (show (3 : Int32) < nI 4 by decide) q) h2
  · exact tin_e e hk (by omega)
theorem s_out {s : Int32} (h : s < -1 ∨ 3 < s) : ¬ (s = -1 ∨ tin 4 s = true) := by
  rintro (q | q)
  · subst q
    revert h; decide
  · rcases tin_c 4 s (by omega) with ⟨h1, -⟩ | ⟨k, hk, rfl⟩
    · rw [h1] at q; cases q
    · rcases h with h | h
      · exact nI_pos (show k < 2 ^ 31 by omega) (Int32.lt_trans h (by decide))
      · exact nI_nlt (a := 3) (b := k) (by omega) (by omega) h
def nr_of : ST → Nat
  | (_, _, _, _, _, nr, _) => nr
set_option maxHeartbeats 4000000 in
set_option maxRecDepth 100000 in
theorem C_hold (l : Launch) {E : EV} {w : wo} {x : Nat} {σ : ST} (X : RcX E w x σ) (K : Gd σ) (hnr : nr_of σ < 512) (t s z : Int32) : ct_i l E yX4_hold wsX4_hold 2 2 14 [.ref x, .int t, .int s, .int z] w (fun r w' => r = (S_hold t s z σ).1 ∧ RcX E w' x (S_hold t s z σ).2) := by
  obtain ⟨st, wk, tl, ta, tf, T, Rw, Ia, F, ⟨lim, wou, th⟩, R⟩ := X
  obtain ⟨n, cl, vs, lk, hd, nr, so, sz, it, oc, ow, bg, dp, td⟩ := σ
  obtain ⟨Kn, Kr, Kc, Kl, Kh, Ks, Kz, Ki⟩ := K
  replace hnr : nr < 512 := hnr
  intro zz
  refine wo_body (Qc := fun A => va_Qi _ (wo_B E A) A) (ret := (some .int)) (by decide) rfl (Nat.le_of_ble_eq_true rfl) ?_
  intro p_ e_ s_ m_ args_ below_ meth_ code_ A_ ls S hret hlk hnm G hl
  have hl : lv_has ls 5 [(0, .ref x), (1, .int t), (2, .int s), (3, .int z)] := hl
  have hx := S.1
  have hb := S.2.1
  refine lv_aload_n hx hb dX4_hold_0 rfl (lv_at hl 0 rfl) ?_
  refine g_get S G (Rc_x R) rfl (by decide +kernel) 0 (by decide) (by decide +kernel) rfl dX4_hold_1 ?_
  refine lv_iload_n hx hb dX4_hold_4 rfl (lv_at hl 1 rfl) ?_
  rcases tin_c n t (by omega) with ⟨tk1, ok1⟩ | ⟨k1, hk1, ek1⟩
  · skip
    refine g_Vq (n := 1) (rest := []) S G hl (c_X1_find_n l R Kn ok1) gX4_hold_X1_find rfl (by decide +kernel) (Rc_st R) rfl rfl rfl (Nat.le_of_ble_eq_true rfl) ⟨Nat.le_of_ble_eq_true rfl, Nat.le_of_ble_eq_true rfl⟩ ⟨Nat.le_of_ble_eq_true rfl, Nat.le_of_ble_eq_true rfl⟩ dX4_hold_5 ?_
    clear G; intro r_ w1 H locs hp G
    obtain ⟨rfl, rfl⟩ := hp
    refine W.eq (g2 := F0 m_ 8 ls [.null]) rfl ?_
    refine lv_astoreN (lv' := [(4, .null), (0, .ref x), (1, .int t), (2, .int s), (3, .int z)]) hx hb dX4_hold_8 hl (by decide) rfl (fun ls hl => ?_)
    refine lv_aloadN hx hb dX4_hold_10 (lv_at hl 0 rfl) ?_
    refine lv_ifnullN (tgt := 31) hx hb dX4_hold_12 (by decide) ?_
    refine lv_ldc hx hb S.2.2.2.1 (S.2.2.2.2 (.constant RX4 33 (-2000000001)) (by decide +kernel)) dX4_hold_31 ?_
    refine r_int S hret hlk G rfl (Nat.le_of_ble_eq_true rfl) (Nat.le_of_ble_eq_true rfl) dX4_hold_33 ?_
    refine ⟨by simp only [S_hold, tk1, s_tell, put_hd, add_row, ↓reduceIte, Bool.false_eq_true], ?_⟩
    simp only [S_hold, tk1, s_tell, put_hd, add_row, ↓reduceIte, Bool.false_eq_true]
    exact ⟨_, _, _, _, _, _, _, _, _, _, R⟩
  · skip
    refine g_Vq (n := 1) (rest := []) S G hl (c_X1_find_y l R Kn ek1 hk1) gX4_hold_X1_find rfl (by decide +kernel) (Rc_st R) rfl rfl rfl (Nat.le_of_ble_eq_true rfl) ⟨Nat.le_of_ble_eq_true rfl, Nat.le_of_ble_eq_true rfl⟩ ⟨Nat.le_of_ble_eq_true rfl, Nat.le_of_ble_eq_true rfl⟩ dX4_hold_5 ?_
    clear G; intro r_ w1 H locs hp G
    obtain ⟨rfl, rfl⟩ := hp
    refine W.eq (g2 := F0 m_ 8 ls [.ref (T k1)]) rfl ?_
    refine lv_astore (lv' := [(4, .ref (T k1)), (0, .ref x), (1, .int t), (2, .int s), (3, .int z)]) hx hb dX4_hold_8 hl (by decide) rfl (fun ls hl => ?_)
    refine lv_aload hx hb dX4_hold_10 (lv_at hl 0 rfl) ?_
    refine lv_ifnull hx hb dX4_hold_12 ?_
    refine lv_iload_n hx hb dX4_hold_15 rfl (lv_at hl 3 rfl) ?_
    refine lv_iconst (v := (-1)) hx hb dX4_hold_16 (by decide) ?_
    refine lv_icmp_lt (tgt := 31) hx hb dX4_hold_17 (by decide) (fun c2 => ?_) (fun c2 => ?_)
    · skip
      refine lv_ldc hx hb S.2.2.2.1 (S.2.2.2.2 (.constant RX4 33 (-2000000001)) (by decide +kernel)) dX4_hold_31 ?_
      refine r_int S hret hlk G rfl (Nat.le_of_ble_eq_true rfl) (Nat.le_of_ble_eq_true rfl) dX4_hold_33 ?_
      have yk1 := tin_e ek1 hk1 (show n ≤ 1000 by omega)
      have zk1 := cn_e ek1 (show k1 < 1000 by omega)
      have d8 := s_out (Or.inl c2)
      refine ⟨by simp only [S_hold, yk1, zk1, d8, s_tell, put_hd, add_row, ↓reduceIte, Bool.false_eq_true], ?_⟩
      simp only [S_hold, yk1, zk1, d8, s_tell, put_hd, add_row, ↓reduceIte, Bool.false_eq_true]
      exact ⟨_, _, _, _, _, _, _, _, _, _, R⟩
    · skip
      refine lv_iload_n hx hb dX4_hold_20 rfl (lv_at hl 3 rfl) ?_
      refine lv_iconst (v := 3) hx hb dX4_hold_21 (by decide) ?_
      refine lv_icmp_gt (tgt := 31) hx hb dX4_hold_22 (by decide) (fun c3 => ?_) (fun c3 => ?_)
      · skip
        refine lv_ldc hx hb S.2.2.2.1 (S.2.2.2.2 (.constant RX4 33 (-2000000001)) (by decide +kernel)) dX4_hold_31 ?_
        refine r_int S hret hlk G rfl (Nat.le_of_ble_eq_true rfl) (Nat.le_of_ble_eq_true rfl) dX4_hold_33 ?_
        have yk1 := tin_e ek1 hk1 (show n ≤ 1000 by omega)
        have zk1 := cn_e ek1 (show k1 < 1000 by omega)
        have d8 := s_out (Or.inr c3)
        refine ⟨by simp only [S_hold, yk1, zk1, d8, s_tell, put_hd, add_row, ↓reduceIte, Bool.false_eq_true], ?_⟩
        simp only [S_hold, yk1, zk1, d8, s_tell, put_hd, add_row, ↓reduceIte, Bool.false_eq_true]
        exact ⟨_, _, _, _, _, _, _, _, _, _, R⟩
      · skip
        refine lv_iload_n hx hb dX4_hold_25 rfl (lv_at hl 4 rfl) ?_
        refine lv_bipush (v := 12) hx hb dX4_hold_26 (by decide) ?_
        refine lv_icmp_le (tgt := 34) hx hb dX4_hold_28 (by decide) (fun c4 => ?_) (fun c4 => ?_)
        · skip
          refine lv_iload_n hx hb dX4_hold_34 rfl (lv_at hl 3 rfl) ?_
          refine lv_iconst (v := (-1)) hx hb dX4_hold_35 (by decide) ?_
          refine lv_icmp_ne (tgt := 53) hx hb dX4_hold_36 (by decide) (fun c5 => ?_) (fun c5 => ?_)
          · skip
            refine lv_iload_n hx hb dX4_hold_53 rfl (lv_at hl 4 rfl) ?_
            refine lv_if_ge (tgt := 63) hx hb dX4_hold_54 (by decide) (fun c6 => ?_) (fun c6 => ?_)
            · skip
              refine lv_aload_n hx hb dX4_hold_63 rfl (lv_at hl 1 rfl) ?_
              refine lv_iconst (v := 0) hx hb dX4_hold_64 (by decide) ?_
              refine g_Vi (n := 1) (rest := []) S G hl (c_X4_tell l R (j := 0) (o := 0) rfl (by decide)) gX4_hold_X4_tell rfl (by decide +kernel) (Rc_x R) rfl rfl rfl (Nat.le_of_ble_eq_true rfl) ⟨Nat.le_of_ble_eq_true rfl, Nat.le_of_ble_eq_true rfl⟩ ⟨Nat.le_of_ble_eq_true rfl, Nat.le_of_ble_eq_true rfl⟩ dX4_hold_65 ?_
              clear G; intro r_ w1 H locs hp G
              obtain ⟨hr_, R⟩ := hp
              subst r_
              rw [if_neg (show ¬ ((0 : Int32) = 7) by decide)] at R
              refine lv_pop hx hb dX4_hold_68 rfl ?_
              refine lv_aload hx hb dX4_hold_69 (lv_at hl 0 rfl) ?_
              refine g_new (fs := [.int 0, .null]) S G (ci := 0) rfl tyX0 tyX0_ok (by decide +kernel) (by decide +kernel) (by decide +kernel) (by decide +kernel) (fun j hj => by rcases (show j = 0 ∨ j = 1 by omega) with rfl | rfl <;> rfl) (Nat.le_of_ble_eq_true rfl) (Nat.le_of_ble_eq_true rfl) dX4_hold_71 (fun q H hq G => ?_)
              refine lv_dup hx hb dX4_hold_74 rfl ?_
              refine lv_iload_n hx hb dX4_hold_75 rfl (lv_at hl 3 rfl) ?_
              refine lv_iload_n hx hb dX4_hold_76 rfl (lv_at hl 4 rfl) ?_
              obtain ⟨N, hN, ez⟩ := nI_of2 (x := z) (M := 12) (n := 12) (by decide) (Int32.not_lt.mpr c6) c4
              refine g_Iv (n := 2) (rest := [.ref q, .ref (T k1)]) S G hl (c_X0_init l wo_up_s s ez (by omega)) gX4_hold_X0_init (by decide +kernel) (by decide +kernel) (by decide +kernel) rfl rfl (by decide +kernel) rfl rfl (Nat.le_of_ble_eq_true rfl) ⟨Nat.le_of_ble_eq_true rfl, Nat.le_of_ble_eq_true rfl⟩ ⟨Nat.le_of_ble_eq_true rfl, Nat.le_of_ble_eq_true rfl⟩ dX4_hold_77 ?_
              clear G; intro w1 H locs hp G
              obtain ⟨q2, f, rfl, hq2, hqq, hf⟩ := hp
              rw [wo_uu] at G
              rw [wo_up_n hqq] at hq2
              have cz : cn z = N := cn_e ez (by omega)
              have t4 : tin 4 s = true := s_in c2 c3 c5
              have R := Rc_addR R hq hq2 hqq Kh (by omega) s z f (fil it nr (if s < 2 then 0 else -1) 12) (fun k hk => by rw [fil_in (by omega), hf k (by omega)]; exact s23 t4) (fun r hr k hk => fil_out hr (Nat.lt_of_lt_of_le hk (sz_le (Kz r hr)))) (by rw [cz])
              obtain ⟨w, R, G⟩ := Rc_ex R G
              refine g_put (fs' := [.int (cl k1), .int (vs k1), .int (lk k1), .ref q]) (ty := .object "ClassRunner$Row") (v := .ref q) S G (Rc_T R k1 hk1) rfl tyX2 tyX2_ok nmX2 (by decide +kernel) 3 (by decide) (by decide +kernel) rfl (by decide +kernel) rfl rfl (Nat.le_of_ble_eq_true rfl) rfl dX4_hold_80 (fun H locs G => ?_)
              have R := Rc_p_hdy (r := nr) R hk1 (by omega) (by omega)
              rw [show va_up Rw nr q nr = q by simp [va_up]] at R
              refine lv_iload_n hx hb dX4_hold_83 rfl (lv_at hl 4 rfl) ?_
              refine r_int S hret hlk G rfl (Nat.le_of_ble_eq_true rfl) (Nat.le_of_ble_eq_true rfl) dX4_hold_84 ?_
              have yk1 := tin_e ek1 hk1 (show n ≤ 1000 by omega)
              have zk1 := cn_e ek1 (show k1 < 1000 by omega)
              have d8 : s = -1 ∨ tin 4 s = true := Or.inr (s_in c2 c3 c5)
              refine ⟨by simp only [S_hold, yk1, zk1, d8, c4, if_neg c5, if_neg (Int32.not_lt.mpr c6), s_tell, put_hd, add_row, ↓reduceIte, Bool.false_eq_true], ?_⟩
              simp only [S_hold, yk1, zk1, d8, c4, if_neg c5, if_neg (Int32.not_lt.mpr c6), s_tell, put_hd, add_row, ↓reduceIte, Bool.false_eq_true]
              exact ⟨_, _, _, _, _, _, _, _, _, _, R⟩
            · skip
              refine lv_aload_n hx hb dX4_hold_57 rfl (lv_at hl 1 rfl) ?_
              refine lv_iconst (v := 4) hx hb dX4_hold_58 (by decide) ?_
              refine g_Vi (n := 1) (rest := []) S G hl (c_X4_refuse l R (j := 4) (o := 4) rfl (by decide)) gX4_hold_X4_refuse rfl (by decide +kernel) (Rc_x R) rfl rfl rfl (Nat.le_of_ble_eq_true rfl) ⟨Nat.le_of_ble_eq_true rfl, Nat.le_of_ble_eq_true rfl⟩ ⟨Nat.le_of_ble_eq_true rfl, Nat.le_of_ble_eq_true rfl⟩ dX4_hold_59 ?_
              clear G; intro r_ w1 H locs hp G
              obtain ⟨hr_, R⟩ := hp
              subst r_
              rw [if_neg (show ¬ ((4 : Int32) = 7) by decide)] at R
              refine r_int S hret hlk G rfl (Nat.le_of_ble_eq_true rfl) (Nat.le_of_ble_eq_true rfl) dX4_hold_62 ?_
              have yk1 := tin_e ek1 hk1 (show n ≤ 1000 by omega)
              have zk1 := cn_e ek1 (show k1 < 1000 by omega)
              have d8 : s = -1 ∨ tin 4 s = true := Or.inr (s_in c2 c3 c5)
              refine ⟨by simp only [S_hold, yk1, zk1, d8, c4, if_neg c5, if_pos (Int32.not_le.mp c6), s_tell, put_hd, add_row, ↓reduceIte, Bool.false_eq_true], ?_⟩
              simp only [S_hold, yk1, zk1, d8, c4, if_neg c5, if_pos (Int32.not_le.mp c6), s_tell, put_hd, add_row, ↓reduceIte, Bool.false_eq_true]
              exact ⟨_, _, _, _, _, _, _, _, _, _, R⟩
          · skip
            refine lv_aload_n hx hb dX4_hold_39 rfl (lv_at hl 1 rfl) ?_
            refine lv_iconst (v := 0) hx hb dX4_hold_40 (by decide) ?_
            refine g_Vi (n := 1) (rest := []) S G hl (c_X4_tell l R (j := 0) (o := 0) rfl (by decide)) gX4_hold_X4_tell rfl (by decide +kernel) (Rc_x R) rfl rfl rfl (Nat.le_of_ble_eq_true rfl) ⟨Nat.le_of_ble_eq_true rfl, Nat.le_of_ble_eq_true rfl⟩ ⟨Nat.le_of_ble_eq_true rfl, Nat.le_of_ble_eq_true rfl⟩ dX4_hold_41 ?_
            clear G; intro r_ w1 H locs hp G
            obtain ⟨hr_, R⟩ := hp
            subst r_
            rw [if_neg (show ¬ ((0 : Int32) = 7) by decide)] at R
            refine lv_pop hx hb dX4_hold_44 rfl ?_
            refine lv_aload hx hb dX4_hold_45 (lv_at hl 0 rfl) ?_
            refine lv_null hx hb dX4_hold_47 ?_
            refine g_put (fs' := [.int (cl k1), .int (vs k1), .int (lk k1), .null]) (ty := .object "ClassRunner$Row") (v := .null) S G (Rc_T R k1 hk1) rfl tyX2 tyX2_ok nmX2 (by decide +kernel) 3 (by decide) (by decide +kernel) rfl (by decide +kernel) rfl rfl (Nat.le_of_ble_eq_true rfl) rfl dX4_hold_48 (fun H locs G => ?_)
            obtain ⟨w, R, G⟩ := Rc_ex (Rc_p_hdn R hk1) G
            refine lv_iconst (v := 0) hx hb dX4_hold_51 (by decide) ?_
            refine r_int S hret hlk G rfl (Nat.le_of_ble_eq_true rfl) (Nat.le_of_ble_eq_true rfl) dX4_hold_52 ?_
            have yk1 := tin_e ek1 hk1 (show n ≤ 1000 by omega)
            have zk1 := cn_e ek1 (show k1 < 1000 by omega)
            have d8 : s = -1 ∨ tin 4 s = true := Or.inl c5
            refine ⟨by simp only [S_hold, yk1, zk1, d8, c4, if_pos c5, s_tell, put_hd, add_row, ↓reduceIte, Bool.false_eq_true], ?_⟩
            simp only [S_hold, yk1, zk1, d8, c4, if_pos c5, s_tell, put_hd, add_row, ↓reduceIte, Bool.false_eq_true]
            exact ⟨_, _, _, _, _, _, _, _, _, _, R⟩
        · skip
          refine lv_ldc hx hb S.2.2.2.1 (S.2.2.2.2 (.constant RX4 33 (-2000000001)) (by decide +kernel)) dX4_hold_31 ?_
          refine r_int S hret hlk G rfl (Nat.le_of_ble_eq_true rfl) (Nat.le_of_ble_eq_true rfl) dX4_hold_33 ?_
          have yk1 := tin_e ek1 hk1 (show n ≤ 1000 by omega)
          have zk1 := cn_e ek1 (show k1 < 1000 by omega)
          have d9 : ¬ z ≤ 12 := c4
          by_cases d8 : s = -1 ∨ tin 4 s = true
          · refine ⟨by simp only [S_hold, yk1, zk1, d8, d9, ↓reduceIte, Bool.false_eq_true], ?_⟩
            simp only [S_hold, yk1, zk1, d8, d9, ↓reduceIte, Bool.false_eq_true]
            exact ⟨_, _, _, _, _, _, _, _, _, _, R⟩
          · refine ⟨by simp only [S_hold, yk1, zk1, d8, d9, ↓reduceIte, Bool.false_eq_true], ?_⟩
            simp only [S_hold, yk1, zk1, d8, d9, ↓reduceIte, Bool.false_eq_true]
            exact ⟨_, _, _, _, _, _, _, _, _, _, R⟩
