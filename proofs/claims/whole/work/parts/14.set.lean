/-! THE CLASS: set -/
theorem isof0 {x : Int32} (h : ∃ c, c < 8 ∧ x = nI c) : (isof x 0 = true) ↔ x ≤ 2 := by
  obtain ⟨c, hc, rfl⟩ := h
  have e1 : (nI c = 0) ↔ c = 0 := nI_eq (b := 0) (by omega) (by omega)
  have e2 : ((0 : Int32) < nI c) ↔ 0 < c := nI_ltI (a := 0) (by omega) (by omega)
  have e3 : (nI c ≤ 2) ↔ c ≤ 2 := nI_leI (b := 2) (by omega) (by omega)
  simp only [isof, Bool.or_eq_true, Bool.and_eq_true, decide_eq_true_eq, e1, e2, e3]
  omega
theorem tin_m1 (n : Nat) : tin n (-1) = false := by
  have h : ¬ (0 : Int32) ≤ -1 := by decide
  simp [tin, h]
set_option maxHeartbeats 4000000 in
set_option maxRecDepth 100000 in
theorem C_set (l : Launch) {E : EV} {w : wo} {x : Nat} {σ : ST} (X : RcX E w x σ) (K : Gd σ) (t : Int32) (k : Int32) (o : Int32) : ct_i l E yX4_set wsX4_set 2 0 0 [.ref x, .int t, .int k, .int o] w (fun r w' => r = (S_set t k o σ).1 ∧ RcX E w' x (S_set t k o σ).2) := by
  obtain ⟨st, wk, tl, ta, tf, T, Rw, Ia, F, ⟨lim, wou, th⟩, R⟩ := X
  obtain ⟨n, cl, vs, lk, hd, nr, so, sz, it, oc, ow, bg, dp, td⟩ := σ
  obtain ⟨Kn, Kr, Kc, Kl, Kh, Ks, Kz, Ki⟩ := K
  intro zz
  refine wo_body (Qc := fun A => va_Qi _ (wo_B E A) A) (ret := (some .int)) (by decide) rfl (Nat.le_of_ble_eq_true rfl) ?_
  intro p_ e_ s_ m_ args_ below_ meth_ code_ A_ ls S hret hlk hnm G hl
  have hl : lv_has ls 7 [(0, .ref x), (1, .int t), (2, .int k), (3, .int o)] := hl
  have hx := S.1
  have hb := S.2.1
  refine lv_aload_n hx hb dX4_set_0 rfl (lv_at hl 0 rfl) ?_
  refine g_get S G (Rc_x R) rfl (by decide +kernel) 0 (by decide) (by decide +kernel) rfl dX4_set_1 ?_
  refine lv_iload_n hx hb dX4_set_4 rfl (lv_at hl 1 rfl) ?_
  rcases tin_c n t (by omega) with ⟨tk1, ok1⟩ | ⟨k1, hk1, ek1⟩
  · skip
    refine g_Vq (n := 1) (rest := []) S G hl (c_X1_find_n l R Kn ok1) gX4_set_X1_find rfl (by decide +kernel) (Rc_st R) rfl rfl rfl (Nat.le_of_ble_eq_true rfl) ⟨Nat.le_of_ble_eq_true rfl, Nat.le_of_ble_eq_true rfl⟩ ⟨Nat.le_of_ble_eq_true rfl, Nat.le_of_ble_eq_true rfl⟩ dX4_set_5 ?_
    clear G; intro r_ w1 H locs hp G
    obtain ⟨rfl, rfl⟩ := hp
    refine W.eq (g2 := F0 m_ 8 ls [.null]) rfl ?_
    refine lv_astoreN (lv' := [(4, .null), (0, .ref x), (1, .int t), (2, .int k), (3, .int o)]) hx hb dX4_set_8 hl (by decide) rfl (fun ls hl => ?_)
    refine lv_aloadN hx hb dX4_set_10 (lv_at hl 0 rfl) ?_
    refine lv_ifnullN (tgt := 26) hx hb dX4_set_12 (by decide) ?_
    refine lv_ldc hx hb S.2.2.2.1 (S.2.2.2.2 (.constant RX4 33 (-2000000001)) (by decide +kernel)) dX4_set_26 ?_
    refine r_int S hret hlk G rfl (Nat.le_of_ble_eq_true rfl) (Nat.le_of_ble_eq_true rfl) dX4_set_28 ?_
    refine ⟨by simp only [S_set, tk1, s_tell, put_it, ↓reduceIte, Bool.false_eq_true, or_true, true_or, and_true, true_and, not_false_eq_true, false_or, show ¬ (3 : Int32) < 2 by decide], ?_⟩
    simp only [S_set, tk1, s_tell, put_it, ↓reduceIte, Bool.false_eq_true, or_true, true_or, and_true, true_and, not_false_eq_true, false_or, show ¬ (3 : Int32) < 2 by decide]
    exact ⟨_, _, _, _, _, _, _, _, _, _, R⟩
  · skip
    refine g_Vq (n := 1) (rest := []) S G hl (c_X1_find_y l R Kn ek1 hk1) gX4_set_X1_find rfl (by decide +kernel) (Rc_st R) rfl rfl rfl (Nat.le_of_ble_eq_true rfl) ⟨Nat.le_of_ble_eq_true rfl, Nat.le_of_ble_eq_true rfl⟩ ⟨Nat.le_of_ble_eq_true rfl, Nat.le_of_ble_eq_true rfl⟩ dX4_set_5 ?_
    clear G; intro r_ w1 H locs hp G
    obtain ⟨rfl, rfl⟩ := hp
    refine W.eq (g2 := F0 m_ 8 ls [.ref (T k1)]) rfl ?_
    refine lv_astore (lv' := [(4, .ref (T k1)), (0, .ref x), (1, .int t), (2, .int k), (3, .int o)]) hx hb dX4_set_8 hl (by decide) rfl (fun ls hl => ?_)
    refine lv_aload hx hb dX4_set_10 (lv_at hl 0 rfl) ?_
    refine lv_ifnull hx hb dX4_set_12 ?_
    refine lv_aload_n hx hb dX4_set_15 rfl (lv_at hl 1 rfl) ?_
    refine g_get S G (Rc_x R) rfl (by decide +kernel) 0 (by decide) (by decide +kernel) rfl dX4_set_16 ?_
    refine lv_iload_n hx hb dX4_set_19 rfl (lv_at hl 4 rfl) ?_
    by_cases nk2 : o = -1
    · skip
      refine g_Vi (n := 1) (rest := []) S G hl (c_X1_hasOrNone l R Kn o) gX4_set_X1_hasOrNone rfl (by decide +kernel) (Rc_st R) rfl rfl rfl (Nat.le_of_ble_eq_true rfl) ⟨Nat.le_of_ble_eq_true rfl, Nat.le_of_ble_eq_true rfl⟩ ⟨Nat.le_of_ble_eq_true rfl, Nat.le_of_ble_eq_true rfl⟩ dX4_set_20 ?_
      clear G; intro r_ w1 H locs hp G
      obtain ⟨rfl, hq_⟩ := hp
      have dk2 : o = -1 ∨ tin n o = true := Or.inl nk2
      simp only [dk2, ↓reduceIte] at hq_
      subst hq_
      refine lv_if_ne (tgt := 29) hx hb dX4_set_23 (by decide) (fun c3 => ?_) (fun c3 => absurd c3 (by decide))
      refine lv_aload hx hb dX4_set_29 (lv_at hl 0 rfl) ?_
      rcases Kh k1 hk1 with er4 | ⟨r4, hr4, er4⟩
      · skip
        refine g_get S G (Rc_Tn R hk1 er4) rfl (by decide +kernel) 3 (by decide) (by decide +kernel) rfl dX4_set_31 ?_
        refine lv_astoreN (lv' := [(5, .null), (4, .ref (T k1)), (0, .ref x), (1, .int t), (2, .int k), (3, .int o)]) hx hb dX4_set_34 hl (by decide) rfl (fun ls hl => ?_)
        refine lv_aloadN hx hb dX4_set_36 (lv_at hl 0 rfl) ?_
        refine lv_iconst (v := 2) hx hb dX4_set_38 (by decide) ?_
        refine lv_iconst (v := 3) hx hb dX4_set_39 (by decide) ?_
        refine lv_iload_n hx hb dX4_set_40 rfl (lv_at hl 4 rfl) ?_
        refine g_Si (n := 4) (rest := []) S G hl (c_X4_againstItem_n l 2 3 k) gX4_set_X4_againstItem rfl (by decide +kernel) rfl rfl (Nat.le_of_ble_eq_true rfl) ⟨Nat.le_of_ble_eq_true rfl, Nat.le_of_ble_eq_true rfl⟩ ⟨Nat.le_of_ble_eq_true rfl, Nat.le_of_ble_eq_true rfl⟩ dX4_set_41 ?_
        clear G; intro r_ w1 H locs hp G
        obtain ⟨rfl, rfl⟩ := hp
        refine lv_istore (lv' := [(6, .int 1), (5, .null), (4, .ref (T k1)), (0, .ref x), (1, .int t), (2, .int k), (3, .int o)]) hx hb dX4_set_44 hl (by decide) rfl (fun ls hl => ?_)
        refine lv_iload hx hb dX4_set_46 (lv_at hl 0 rfl) ?_
        refine lv_if_eq (tgt := 58) hx hb dX4_set_48 (by decide) (fun c5 => absurd c5 (by decide)) (fun c5 => ?_)
        refine lv_aload_n hx hb dX4_set_51 rfl (lv_at hl 3 rfl) ?_
        refine lv_iload hx hb dX4_set_52 (lv_at hl 0 rfl) ?_
        refine g_Vi (n := 1) (rest := []) S G hl (c_X4_refuse l R (j := 1) (o := 1) rfl (by decide)) gX4_set_X4_refuse rfl (by decide +kernel) (Rc_x R) rfl rfl rfl (Nat.le_of_ble_eq_true rfl) ⟨Nat.le_of_ble_eq_true rfl, Nat.le_of_ble_eq_true rfl⟩ ⟨Nat.le_of_ble_eq_true rfl, Nat.le_of_ble_eq_true rfl⟩ dX4_set_54 ?_
        clear G; intro r_ w1 H locs hp G
        obtain ⟨hr_, R⟩ := hp
        subst r_
        rw [if_neg (show ¬ ((1 : Int32) = 7) by decide)] at R
        refine r_int S hret hlk G rfl (Nat.le_of_ble_eq_true rfl) (Nat.le_of_ble_eq_true rfl) dX4_set_57 ?_
        have yk1 := tin_e ek1 hk1 (show n ≤ 1000 by omega)
        have zk1 := cn_e ek1 (show k1 < 1000 by omega)
        refine ⟨by simp only [S_set, yk1, zk1, er4, dk2, s_tell, put_it, ↓reduceIte, Bool.false_eq_true, or_true, true_or, and_true, true_and, not_false_eq_true, false_or, show ¬ (3 : Int32) < 2 by decide], ?_⟩
        simp only [S_set, yk1, zk1, er4, dk2, s_tell, put_it, ↓reduceIte, Bool.false_eq_true, or_true, true_or, and_true, true_and, not_false_eq_true, false_or, show ¬ (3 : Int32) < 2 by decide]
        exact ⟨_, _, _, _, _, _, _, _, _, _, R⟩
      · skip
        refine g_get S G (Rc_Ty R hk1 er4 hr4 Kr) rfl (by decide +kernel) 3 (by decide) (by decide +kernel) rfl dX4_set_31 ?_
        refine lv_astore (lv' := [(5, .ref (Rw r4)), (4, .ref (T k1)), (0, .ref x), (1, .int t), (2, .int k), (3, .int o)]) hx hb dX4_set_34 hl (by decide) rfl (fun ls hl => ?_)
        refine lv_aload hx hb dX4_set_36 (lv_at hl 0 rfl) ?_
        refine lv_iconst (v := 2) hx hb dX4_set_38 (by decide) ?_
        refine lv_iconst (v := 3) hx hb dX4_set_39 (by decide) ?_
        refine lv_iload_n hx hb dX4_set_40 rfl (lv_at hl 4 rfl) ?_
        by_cases q6 : so r4 < 2 ∨ 3 < so r4
        · skip
          refine g_Si (n := 4) (rest := []) S G hl (c_X4_againstItem_y l R hr4 (sz_le (Kz r4 hr4)) 2 3 k) gX4_set_X4_againstItem rfl (by decide +kernel) rfl rfl (Nat.le_of_ble_eq_true rfl) ⟨Nat.le_of_ble_eq_true rfl, Nat.le_of_ble_eq_true rfl⟩ ⟨Nat.le_of_ble_eq_true rfl, Nat.le_of_ble_eq_true rfl⟩ dX4_set_41 ?_
          clear G; intro r_ w1 H locs hp G
          obtain ⟨rfl, hq_⟩ := hp
          simp only [q6, ↓reduceIte, Bool.false_eq_true] at hq_
          subst hq_
          refine lv_istore (lv' := [(6, .int 2), (5, .ref (Rw r4)), (4, .ref (T k1)), (0, .ref x), (1, .int t), (2, .int k), (3, .int o)]) hx hb dX4_set_44 hl (by decide) rfl (fun ls hl => ?_)
          refine lv_iload hx hb dX4_set_46 (lv_at hl 0 rfl) ?_
          refine lv_if_eq (tgt := 58) hx hb dX4_set_48 (by decide) (fun c8 => absurd c8 (by decide)) (fun c8 => ?_)
          refine lv_aload_n hx hb dX4_set_51 rfl (lv_at hl 3 rfl) ?_
          refine lv_iload hx hb dX4_set_52 (lv_at hl 0 rfl) ?_
          refine g_Vi (n := 1) (rest := []) S G hl (c_X4_refuse l R (j := 2) (o := 2) rfl (by decide)) gX4_set_X4_refuse rfl (by decide +kernel) (Rc_x R) rfl rfl rfl (Nat.le_of_ble_eq_true rfl) ⟨Nat.le_of_ble_eq_true rfl, Nat.le_of_ble_eq_true rfl⟩ ⟨Nat.le_of_ble_eq_true rfl, Nat.le_of_ble_eq_true rfl⟩ dX4_set_54 ?_
          clear G; intro r_ w1 H locs hp G
          obtain ⟨hr_, R⟩ := hp
          subst r_
          rw [if_neg (show ¬ ((2 : Int32) = 7) by decide)] at R
          refine r_int S hret hlk G rfl (Nat.le_of_ble_eq_true rfl) (Nat.le_of_ble_eq_true rfl) dX4_set_57 ?_
          have yk1 := tin_e ek1 hk1 (show n ≤ 1000 by omega)
          have zk1 := cn_e ek1 (show k1 < 1000 by omega)
          have qr4 := nm1 (show r4 < 100000 by omega)
          have g9 : so r4 < 2 := q6.elim id (fun z => absurd (Or.inr z) (so_in (Ks r4 hr4)))
          refine ⟨by simp only [S_set, yk1, zk1, er4, qr4, cn_nI (show r4 < 2 ^ 31 by omega), dk2, q6, g9, s_tell, put_it, ↓reduceIte, Bool.false_eq_true, or_true, true_or, and_true, true_and, not_false_eq_true, false_or, show ¬ (3 : Int32) < 2 by decide], ?_⟩
          simp only [S_set, yk1, zk1, er4, qr4, cn_nI (show r4 < 2 ^ 31 by omega), dk2, q6, g9, s_tell, put_it, ↓reduceIte, Bool.false_eq_true, or_true, true_or, and_true, true_and, not_false_eq_true, false_or, show ¬ (3 : Int32) < 2 by decide]
          exact ⟨_, _, _, _, _, _, _, _, _, _, R⟩
        rcases tin_c (cn (sz r4)) k (Nat.le_trans (sz_le (Kz r4 hr4)) (by decide)) with ⟨tk7, ok7⟩ | ⟨k7, hk7, ek7⟩
        · skip
          refine g_Si (n := 4) (rest := []) S G hl (c_X4_againstItem_y l R hr4 (sz_le (Kz r4 hr4)) 2 3 k) gX4_set_X4_againstItem rfl (by decide +kernel) rfl rfl (Nat.le_of_ble_eq_true rfl) ⟨Nat.le_of_ble_eq_true rfl, Nat.le_of_ble_eq_true rfl⟩ ⟨Nat.le_of_ble_eq_true rfl, Nat.le_of_ble_eq_true rfl⟩ dX4_set_41 ?_
          clear G; intro r_ w1 H locs hp G
          obtain ⟨rfl, hq_⟩ := hp
          simp only [q6, tk7, ↓reduceIte, Bool.false_eq_true] at hq_
          subst hq_
          refine lv_istore (lv' := [(6, .int 3), (5, .ref (Rw r4)), (4, .ref (T k1)), (0, .ref x), (1, .int t), (2, .int k), (3, .int o)]) hx hb dX4_set_44 hl (by decide) rfl (fun ls hl => ?_)
          refine lv_iload hx hb dX4_set_46 (lv_at hl 0 rfl) ?_
          refine lv_if_eq (tgt := 58) hx hb dX4_set_48 (by decide) (fun c9 => absurd c9 (by decide)) (fun c9 => ?_)
          refine lv_aload_n hx hb dX4_set_51 rfl (lv_at hl 3 rfl) ?_
          refine lv_iload hx hb dX4_set_52 (lv_at hl 0 rfl) ?_
          refine g_Vi (n := 1) (rest := []) S G hl (c_X4_refuse l R (j := 3) (o := 3) rfl (by decide)) gX4_set_X4_refuse rfl (by decide +kernel) (Rc_x R) rfl rfl rfl (Nat.le_of_ble_eq_true rfl) ⟨Nat.le_of_ble_eq_true rfl, Nat.le_of_ble_eq_true rfl⟩ ⟨Nat.le_of_ble_eq_true rfl, Nat.le_of_ble_eq_true rfl⟩ dX4_set_54 ?_
          clear G; intro r_ w1 H locs hp G
          obtain ⟨hr_, R⟩ := hp
          subst r_
          rw [if_neg (show ¬ ((3 : Int32) = 7) by decide)] at R
          refine r_int S hret hlk G rfl (Nat.le_of_ble_eq_true rfl) (Nat.le_of_ble_eq_true rfl) dX4_set_57 ?_
          have yk1 := tin_e ek1 hk1 (show n ≤ 1000 by omega)
          have zk1 := cn_e ek1 (show k1 < 1000 by omega)
          have qr4 := nm1 (show r4 < 100000 by omega)
          have g9 : ¬ so r4 < 2 := fun z => q6 (Or.inl z)
          refine ⟨by simp only [S_set, yk1, zk1, er4, qr4, cn_nI (show r4 < 2 ^ 31 by omega), dk2, q6, tk7, g9, s_tell, put_it, ↓reduceIte, Bool.false_eq_true, or_true, true_or, and_true, true_and, not_false_eq_true, false_or, show ¬ (3 : Int32) < 2 by decide], ?_⟩
          simp only [S_set, yk1, zk1, er4, qr4, cn_nI (show r4 < 2 ^ 31 by omega), dk2, q6, tk7, g9, s_tell, put_it, ↓reduceIte, Bool.false_eq_true, or_true, true_or, and_true, true_and, not_false_eq_true, false_or, show ¬ (3 : Int32) < 2 by decide]
          exact ⟨_, _, _, _, _, _, _, _, _, _, R⟩
        · skip
          refine g_Si (n := 4) (rest := []) S G hl (c_X4_againstItem_y l R hr4 (sz_le (Kz r4 hr4)) 2 3 k) gX4_set_X4_againstItem rfl (by decide +kernel) rfl rfl (Nat.le_of_ble_eq_true rfl) ⟨Nat.le_of_ble_eq_true rfl, Nat.le_of_ble_eq_true rfl⟩ ⟨Nat.le_of_ble_eq_true rfl, Nat.le_of_ble_eq_true rfl⟩ dX4_set_41 ?_
          clear G; intro r_ w1 H locs hp G
          obtain ⟨rfl, hq_⟩ := hp
          have yk7 := tin_e ek7 hk7 (Nat.le_trans (sz_le (Kz r4 hr4)) (by decide))
          have zk7 := cn_e ek7 (Nat.lt_of_lt_of_le hk7 (Nat.le_trans (sz_le (Kz r4 hr4)) (by decide)))
          simp only [q6, yk7, ↓reduceIte, Bool.false_eq_true] at hq_
          subst hq_
          refine lv_istore (lv' := [(6, .int 0), (5, .ref (Rw r4)), (4, .ref (T k1)), (0, .ref x), (1, .int t), (2, .int k), (3, .int o)]) hx hb dX4_set_44 hl (by decide) rfl (fun ls hl => ?_)
          refine lv_iload hx hb dX4_set_46 (lv_at hl 0 rfl) ?_
          refine lv_if_eq (tgt := 58) hx hb dX4_set_48 (by decide) (fun c10 => ?_) (fun c10 => absurd (by decide) c10)
          refine lv_aload hx hb dX4_set_58 (lv_at hl 1 rfl) ?_
          refine g_get S G (Rc_Rw R r4 hr4) rfl (by decide +kernel) 0 (by decide) (by decide +kernel) rfl dX4_set_60 ?_
          refine lv_iconst (v := 3) hx hb dX4_set_63 (by decide) ?_
          refine lv_icmp_ne (tgt := 84) hx hb dX4_set_64 (by decide) (fun c11 => ?_) (fun c11 => ?_)
          · skip
            refine lv_aload_n hx hb dX4_set_84 rfl (lv_at hl 3 rfl) ?_
            refine lv_iconst (v := 0) hx hb dX4_set_85 (by decide) ?_
            refine g_Vi (n := 1) (rest := []) S G hl (c_X4_tell l R (j := 0) (o := 0) rfl (by decide)) gX4_set_X4_tell rfl (by decide +kernel) (Rc_x R) rfl rfl rfl (Nat.le_of_ble_eq_true rfl) ⟨Nat.le_of_ble_eq_true rfl, Nat.le_of_ble_eq_true rfl⟩ ⟨Nat.le_of_ble_eq_true rfl, Nat.le_of_ble_eq_true rfl⟩ dX4_set_86 ?_
            clear G; intro r_ w1 H locs hp G
            obtain ⟨hr_, R⟩ := hp
            subst r_
            rw [if_neg (show ¬ ((0 : Int32) = 7) by decide)] at R
            refine lv_pop hx hb dX4_set_89 rfl ?_
            refine lv_aload hx hb dX4_set_90 (lv_at hl 1 rfl) ?_
            refine lv_iload_n hx hb dX4_set_92 rfl (lv_at hl 5 rfl) ?_
            refine lv_iload_n hx hb dX4_set_93 rfl (lv_at hl 6 rfl) ?_
            refine lv_i2l (v := (Int32.toInt64 o)) hx hb dX4_set_94 rfl ?_
            refine g_Vl (n := 2) (rest := []) S G hl (c_X0_put l (Rc_Rw R r4 hr4) (Rc_Ia R r4 hr4) ek7 hk7 (Nat.le_trans (sz_le (Kz r4 hr4)) (by decide)) (Int32.toInt64 o)) gX4_set_X0_put rfl (by decide +kernel) (Rc_Rw R r4 hr4) rfl rfl rfl (Nat.le_of_ble_eq_true rfl) ⟨Nat.le_of_ble_eq_true rfl, Nat.le_of_ble_eq_true rfl⟩ ⟨Nat.le_of_ble_eq_true rfl, Nat.le_of_ble_eq_true rfl⟩ dX4_set_95 ?_
            clear G; intro r_ w1 H locs hp G
            obtain ⟨rfl, rfl⟩ := hp
            have fj := Rc_F R r4 hr4 k7 hk7
            obtain ⟨w, R, G⟩ := Rc_ex (Rc_p_put R hr4 Kz hk7 (Int32.toInt64 o)) G
            refine lv_l2i (v := (Int64.toInt32 (F r4 k7))) hx hb dX4_set_98 rfl ?_
            refine r_int S hret hlk G rfl (Nat.le_of_ble_eq_true rfl) (Nat.le_of_ble_eq_true rfl) dX4_set_99 ?_
            have yk1 := tin_e ek1 hk1 (show n ≤ 1000 by omega)
            have zk1 := cn_e ek1 (show k1 < 1000 by omega)
            have qr4 := nm1 (show r4 < 100000 by omega)
            have g9 : ¬ so r4 < 2 := fun z => q6 (Or.inl z)
            have d9 : ¬ (so r4 = 3 ∧ ¬ o = -1 ∧ ¬ cl (cn o) ≤ 2) := fun z => c11 z.1
            refine ⟨by simp only [S_set, yk1, zk1, er4, qr4, cn_nI (show r4 < 2 ^ 31 by omega), dk2, q6, yk7, zk7, fj, g9, d9, s_tell, put_it, ↓reduceIte, Bool.false_eq_true, or_true, true_or, and_true, true_and, not_false_eq_true, false_or, show ¬ (3 : Int32) < 2 by decide], ?_⟩
            simp only [S_set, yk1, zk1, er4, qr4, cn_nI (show r4 < 2 ^ 31 by omega), dk2, q6, yk7, zk7, fj, g9, d9, s_tell, put_it, ↓reduceIte, Bool.false_eq_true, or_true, true_or, and_true, true_and, not_false_eq_true, false_or, show ¬ (3 : Int32) < 2 by decide]
            exact ⟨_, _, _, _, _, _, _, _, _, _, R⟩
          · skip
            refine lv_aload_n hx hb dX4_set_67 rfl (lv_at hl 3 rfl) ?_
            refine g_get S G (Rc_x R) rfl (by decide +kernel) 0 (by decide) (by decide +kernel) rfl dX4_set_68 ?_
            refine lv_iload_n hx hb dX4_set_71 rfl (lv_at hl 6 rfl) ?_
            refine g_Vi (n := 1) (rest := []) S G hl (c_X1_isLeafOrNone l R Kn o) gX4_set_X1_isLeafOrNone rfl (by decide +kernel) (Rc_st R) rfl rfl rfl (Nat.le_of_ble_eq_true rfl) ⟨Nat.le_of_ble_eq_true rfl, Nat.le_of_ble_eq_true rfl⟩ ⟨Nat.le_of_ble_eq_true rfl, Nat.le_of_ble_eq_true rfl⟩ dX4_set_72 ?_
            clear G; intro r_ w1 H locs hp G
            obtain ⟨rfl, rfl⟩ := hp
            refine lv_if_ne (tgt := 84) hx hb dX4_set_75 (by decide) (fun c12 => ?_) (fun c12 => ?_)
            · skip
              refine lv_aload_n hx hb dX4_set_84 rfl (lv_at hl 3 rfl) ?_
              refine lv_iconst (v := 0) hx hb dX4_set_85 (by decide) ?_
              refine g_Vi (n := 1) (rest := []) S G hl (c_X4_tell l R (j := 0) (o := 0) rfl (by decide)) gX4_set_X4_tell rfl (by decide +kernel) (Rc_x R) rfl rfl rfl (Nat.le_of_ble_eq_true rfl) ⟨Nat.le_of_ble_eq_true rfl, Nat.le_of_ble_eq_true rfl⟩ ⟨Nat.le_of_ble_eq_true rfl, Nat.le_of_ble_eq_true rfl⟩ dX4_set_86 ?_
              clear G; intro r_ w1 H locs hp G
              obtain ⟨hr_, R⟩ := hp
              subst r_
              rw [if_neg (show ¬ ((0 : Int32) = 7) by decide)] at R
              refine lv_pop hx hb dX4_set_89 rfl ?_
              refine lv_aload hx hb dX4_set_90 (lv_at hl 1 rfl) ?_
              refine lv_iload_n hx hb dX4_set_92 rfl (lv_at hl 5 rfl) ?_
              refine lv_iload_n hx hb dX4_set_93 rfl (lv_at hl 6 rfl) ?_
              refine lv_i2l (v := (Int32.toInt64 o)) hx hb dX4_set_94 rfl ?_
              refine g_Vl (n := 2) (rest := []) S G hl (c_X0_put l (Rc_Rw R r4 hr4) (Rc_Ia R r4 hr4) ek7 hk7 (Nat.le_trans (sz_le (Kz r4 hr4)) (by decide)) (Int32.toInt64 o)) gX4_set_X0_put rfl (by decide +kernel) (Rc_Rw R r4 hr4) rfl rfl rfl (Nat.le_of_ble_eq_true rfl) ⟨Nat.le_of_ble_eq_true rfl, Nat.le_of_ble_eq_true rfl⟩ ⟨Nat.le_of_ble_eq_true rfl, Nat.le_of_ble_eq_true rfl⟩ dX4_set_95 ?_
              clear G; intro r_ w1 H locs hp G
              obtain ⟨rfl, rfl⟩ := hp
              have fj := Rc_F R r4 hr4 k7 hk7
              obtain ⟨w, R, G⟩ := Rc_ex (Rc_p_put R hr4 Kz hk7 (Int32.toInt64 o)) G
              refine lv_l2i (v := (Int64.toInt32 (F r4 k7))) hx hb dX4_set_98 rfl ?_
              refine r_int S hret hlk G rfl (Nat.le_of_ble_eq_true rfl) (Nat.le_of_ble_eq_true rfl) dX4_set_99 ?_
              have yk1 := tin_e ek1 hk1 (show n ≤ 1000 by omega)
              have zk1 := cn_e ek1 (show k1 < 1000 by omega)
              have qr4 := nm1 (show r4 < 100000 by omega)
              have g9 : ¬ so r4 < 2 := fun z => q6 (Or.inl z)
              have d9 : ¬ (so r4 = 3 ∧ ¬ o = -1 ∧ ¬ cl (cn o) ≤ 2) := fun z => z.2.1 nk2
              refine ⟨by simp only [S_set, yk1, zk1, er4, qr4, cn_nI (show r4 < 2 ^ 31 by omega), dk2, q6, yk7, zk7, fj, g9, d9, s_tell, put_it, ↓reduceIte, Bool.false_eq_true, or_true, true_or, and_true, true_and, not_false_eq_true, false_or, show ¬ (3 : Int32) < 2 by decide], ?_⟩
              simp only [S_set, yk1, zk1, er4, qr4, cn_nI (show r4 < 2 ^ 31 by omega), dk2, q6, yk7, zk7, fj, g9, d9, s_tell, put_it, ↓reduceIte, Bool.false_eq_true, or_true, true_or, and_true, true_and, not_false_eq_true, false_or, show ¬ (3 : Int32) < 2 by decide]
              exact ⟨_, _, _, _, _, _, _, _, _, _, R⟩
            · skip
              refine lv_aload_n hx hb dX4_set_78 rfl (lv_at hl 3 rfl) ?_
              refine lv_iconst (v := 5) hx hb dX4_set_79 (by decide) ?_
              refine g_Vi (n := 1) (rest := []) S G hl (c_X4_refuse l R (j := 5) (o := 5) rfl (by decide)) gX4_set_X4_refuse rfl (by decide +kernel) (Rc_x R) rfl rfl rfl (Nat.le_of_ble_eq_true rfl) ⟨Nat.le_of_ble_eq_true rfl, Nat.le_of_ble_eq_true rfl⟩ ⟨Nat.le_of_ble_eq_true rfl, Nat.le_of_ble_eq_true rfl⟩ dX4_set_80 ?_
              clear G; intro r_ w1 H locs hp G
              obtain ⟨hr_, R⟩ := hp
              subst r_
              rw [if_neg (show ¬ ((5 : Int32) = 7) by decide)] at R
              refine r_int S hret hlk G rfl (Nat.le_of_ble_eq_true rfl) (Nat.le_of_ble_eq_true rfl) dX4_set_83 ?_
              have yk1 := tin_e ek1 hk1 (show n ≤ 1000 by omega)
              have zk1 := cn_e ek1 (show k1 < 1000 by omega)
              have qr4 := nm1 (show r4 < 100000 by omega)
              have g9 : ¬ so r4 < 2 := fun z => q6 (Or.inl z)
              rw [nk2, tin_m1] at c12
              simp at c12
    rcases tin_c n o (by omega) with ⟨tk2, ok2⟩ | ⟨k2, hk2, ek2⟩
    · skip
      refine g_Vi (n := 1) (rest := []) S G hl (c_X1_hasOrNone l R Kn o) gX4_set_X1_hasOrNone rfl (by decide +kernel) (Rc_st R) rfl rfl rfl (Nat.le_of_ble_eq_true rfl) ⟨Nat.le_of_ble_eq_true rfl, Nat.le_of_ble_eq_true rfl⟩ ⟨Nat.le_of_ble_eq_true rfl, Nat.le_of_ble_eq_true rfl⟩ dX4_set_20 ?_
      clear G; intro r_ w1 H locs hp G
      obtain ⟨rfl, hq_⟩ := hp
      have dk2 : ¬ (o = -1 ∨ tin n o = true) := fun z => z.elim nk2 (fun z => by rw [tk2] at z; cases z)
      simp only [dk2, ↓reduceIte] at hq_
      subst hq_
      refine lv_if_ne (tgt := 29) hx hb dX4_set_23 (by decide) (fun c13 => absurd (by decide) c13) (fun c13 => ?_)
      refine lv_ldc hx hb S.2.2.2.1 (S.2.2.2.2 (.constant RX4 33 (-2000000001)) (by decide +kernel)) dX4_set_26 ?_
      refine r_int S hret hlk G rfl (Nat.le_of_ble_eq_true rfl) (Nat.le_of_ble_eq_true rfl) dX4_set_28 ?_
      have yk1 := tin_e ek1 hk1 (show n ≤ 1000 by omega)
      have zk1 := cn_e ek1 (show k1 < 1000 by omega)
      refine ⟨by simp only [S_set, yk1, zk1, dk2, s_tell, put_it, ↓reduceIte, Bool.false_eq_true, or_true, true_or, and_true, true_and, not_false_eq_true, false_or, show ¬ (3 : Int32) < 2 by decide], ?_⟩
      simp only [S_set, yk1, zk1, dk2, s_tell, put_it, ↓reduceIte, Bool.false_eq_true, or_true, true_or, and_true, true_and, not_false_eq_true, false_or, show ¬ (3 : Int32) < 2 by decide]
      exact ⟨_, _, _, _, _, _, _, _, _, _, R⟩
    · skip
      refine g_Vi (n := 1) (rest := []) S G hl (c_X1_hasOrNone l R Kn o) gX4_set_X1_hasOrNone rfl (by decide +kernel) (Rc_st R) rfl rfl rfl (Nat.le_of_ble_eq_true rfl) ⟨Nat.le_of_ble_eq_true rfl, Nat.le_of_ble_eq_true rfl⟩ ⟨Nat.le_of_ble_eq_true rfl, Nat.le_of_ble_eq_true rfl⟩ dX4_set_20 ?_
      clear G; intro r_ w1 H locs hp G
      obtain ⟨rfl, hq_⟩ := hp
      have dk2 : o = -1 ∨ tin n o = true := Or.inr (tin_e ek2 hk2 (by omega))
      simp only [dk2, ↓reduceIte] at hq_
      subst hq_
      refine lv_if_ne (tgt := 29) hx hb dX4_set_23 (by decide) (fun c14 => ?_) (fun c14 => absurd c14 (by decide))
      refine lv_aload hx hb dX4_set_29 (lv_at hl 0 rfl) ?_
      rcases Kh k1 hk1 with er15 | ⟨r15, hr15, er15⟩
      · skip
        refine g_get S G (Rc_Tn R hk1 er15) rfl (by decide +kernel) 3 (by decide) (by decide +kernel) rfl dX4_set_31 ?_
        refine lv_astoreN (lv' := [(5, .null), (4, .ref (T k1)), (0, .ref x), (1, .int t), (2, .int k), (3, .int o)]) hx hb dX4_set_34 hl (by decide) rfl (fun ls hl => ?_)
        refine lv_aloadN hx hb dX4_set_36 (lv_at hl 0 rfl) ?_
        refine lv_iconst (v := 2) hx hb dX4_set_38 (by decide) ?_
        refine lv_iconst (v := 3) hx hb dX4_set_39 (by decide) ?_
        refine lv_iload_n hx hb dX4_set_40 rfl (lv_at hl 4 rfl) ?_
        refine g_Si (n := 4) (rest := []) S G hl (c_X4_againstItem_n l 2 3 k) gX4_set_X4_againstItem rfl (by decide +kernel) rfl rfl (Nat.le_of_ble_eq_true rfl) ⟨Nat.le_of_ble_eq_true rfl, Nat.le_of_ble_eq_true rfl⟩ ⟨Nat.le_of_ble_eq_true rfl, Nat.le_of_ble_eq_true rfl⟩ dX4_set_41 ?_
        clear G; intro r_ w1 H locs hp G
        obtain ⟨rfl, rfl⟩ := hp
        refine lv_istore (lv' := [(6, .int 1), (5, .null), (4, .ref (T k1)), (0, .ref x), (1, .int t), (2, .int k), (3, .int o)]) hx hb dX4_set_44 hl (by decide) rfl (fun ls hl => ?_)
        refine lv_iload hx hb dX4_set_46 (lv_at hl 0 rfl) ?_
        refine lv_if_eq (tgt := 58) hx hb dX4_set_48 (by decide) (fun c16 => absurd c16 (by decide)) (fun c16 => ?_)
        refine lv_aload_n hx hb dX4_set_51 rfl (lv_at hl 3 rfl) ?_
        refine lv_iload hx hb dX4_set_52 (lv_at hl 0 rfl) ?_
        refine g_Vi (n := 1) (rest := []) S G hl (c_X4_refuse l R (j := 1) (o := 1) rfl (by decide)) gX4_set_X4_refuse rfl (by decide +kernel) (Rc_x R) rfl rfl rfl (Nat.le_of_ble_eq_true rfl) ⟨Nat.le_of_ble_eq_true rfl, Nat.le_of_ble_eq_true rfl⟩ ⟨Nat.le_of_ble_eq_true rfl, Nat.le_of_ble_eq_true rfl⟩ dX4_set_54 ?_
        clear G; intro r_ w1 H locs hp G
        obtain ⟨hr_, R⟩ := hp
        subst r_
        rw [if_neg (show ¬ ((1 : Int32) = 7) by decide)] at R
        refine r_int S hret hlk G rfl (Nat.le_of_ble_eq_true rfl) (Nat.le_of_ble_eq_true rfl) dX4_set_57 ?_
        have yk1 := tin_e ek1 hk1 (show n ≤ 1000 by omega)
        have zk1 := cn_e ek1 (show k1 < 1000 by omega)
        have yk2 := tin_e ek2 hk2 (show n ≤ 1000 by omega)
        have zk2 := cn_e ek2 (show k2 < 1000 by omega)
        refine ⟨by simp only [S_set, yk1, zk1, yk2, zk2, er15, dk2, s_tell, put_it, ↓reduceIte, Bool.false_eq_true, or_true, true_or, and_true, true_and, not_false_eq_true, false_or, show ¬ (3 : Int32) < 2 by decide], ?_⟩
        simp only [S_set, yk1, zk1, yk2, zk2, er15, dk2, s_tell, put_it, ↓reduceIte, Bool.false_eq_true, or_true, true_or, and_true, true_and, not_false_eq_true, false_or, show ¬ (3 : Int32) < 2 by decide]
        exact ⟨_, _, _, _, _, _, _, _, _, _, R⟩
      · skip
        refine g_get S G (Rc_Ty R hk1 er15 hr15 Kr) rfl (by decide +kernel) 3 (by decide) (by decide +kernel) rfl dX4_set_31 ?_
        refine lv_astore (lv' := [(5, .ref (Rw r15)), (4, .ref (T k1)), (0, .ref x), (1, .int t), (2, .int k), (3, .int o)]) hx hb dX4_set_34 hl (by decide) rfl (fun ls hl => ?_)
        refine lv_aload hx hb dX4_set_36 (lv_at hl 0 rfl) ?_
        refine lv_iconst (v := 2) hx hb dX4_set_38 (by decide) ?_
        refine lv_iconst (v := 3) hx hb dX4_set_39 (by decide) ?_
        refine lv_iload_n hx hb dX4_set_40 rfl (lv_at hl 4 rfl) ?_
        by_cases q17 : so r15 < 2 ∨ 3 < so r15
        · skip
          refine g_Si (n := 4) (rest := []) S G hl (c_X4_againstItem_y l R hr15 (sz_le (Kz r15 hr15)) 2 3 k) gX4_set_X4_againstItem rfl (by decide +kernel) rfl rfl (Nat.le_of_ble_eq_true rfl) ⟨Nat.le_of_ble_eq_true rfl, Nat.le_of_ble_eq_true rfl⟩ ⟨Nat.le_of_ble_eq_true rfl, Nat.le_of_ble_eq_true rfl⟩ dX4_set_41 ?_
          clear G; intro r_ w1 H locs hp G
          obtain ⟨rfl, hq_⟩ := hp
          simp only [q17, ↓reduceIte, Bool.false_eq_true] at hq_
          subst hq_
          refine lv_istore (lv' := [(6, .int 2), (5, .ref (Rw r15)), (4, .ref (T k1)), (0, .ref x), (1, .int t), (2, .int k), (3, .int o)]) hx hb dX4_set_44 hl (by decide) rfl (fun ls hl => ?_)
          refine lv_iload hx hb dX4_set_46 (lv_at hl 0 rfl) ?_
          refine lv_if_eq (tgt := 58) hx hb dX4_set_48 (by decide) (fun c19 => absurd c19 (by decide)) (fun c19 => ?_)
          refine lv_aload_n hx hb dX4_set_51 rfl (lv_at hl 3 rfl) ?_
          refine lv_iload hx hb dX4_set_52 (lv_at hl 0 rfl) ?_
          refine g_Vi (n := 1) (rest := []) S G hl (c_X4_refuse l R (j := 2) (o := 2) rfl (by decide)) gX4_set_X4_refuse rfl (by decide +kernel) (Rc_x R) rfl rfl rfl (Nat.le_of_ble_eq_true rfl) ⟨Nat.le_of_ble_eq_true rfl, Nat.le_of_ble_eq_true rfl⟩ ⟨Nat.le_of_ble_eq_true rfl, Nat.le_of_ble_eq_true rfl⟩ dX4_set_54 ?_
          clear G; intro r_ w1 H locs hp G
          obtain ⟨hr_, R⟩ := hp
          subst r_
          rw [if_neg (show ¬ ((2 : Int32) = 7) by decide)] at R
          refine r_int S hret hlk G rfl (Nat.le_of_ble_eq_true rfl) (Nat.le_of_ble_eq_true rfl) dX4_set_57 ?_
          have yk1 := tin_e ek1 hk1 (show n ≤ 1000 by omega)
          have zk1 := cn_e ek1 (show k1 < 1000 by omega)
          have yk2 := tin_e ek2 hk2 (show n ≤ 1000 by omega)
          have zk2 := cn_e ek2 (show k2 < 1000 by omega)
          have qr15 := nm1 (show r15 < 100000 by omega)
          have g9 : so r15 < 2 := q17.elim id (fun z => absurd (Or.inr z) (so_in (Ks r15 hr15)))
          refine ⟨by simp only [S_set, yk1, zk1, yk2, zk2, er15, qr15, cn_nI (show r15 < 2 ^ 31 by omega), dk2, q17, g9, s_tell, put_it, ↓reduceIte, Bool.false_eq_true, or_true, true_or, and_true, true_and, not_false_eq_true, false_or, show ¬ (3 : Int32) < 2 by decide], ?_⟩
          simp only [S_set, yk1, zk1, yk2, zk2, er15, qr15, cn_nI (show r15 < 2 ^ 31 by omega), dk2, q17, g9, s_tell, put_it, ↓reduceIte, Bool.false_eq_true, or_true, true_or, and_true, true_and, not_false_eq_true, false_or, show ¬ (3 : Int32) < 2 by decide]
          exact ⟨_, _, _, _, _, _, _, _, _, _, R⟩
        rcases tin_c (cn (sz r15)) k (Nat.le_trans (sz_le (Kz r15 hr15)) (by decide)) with ⟨tk18, ok18⟩ | ⟨k18, hk18, ek18⟩
        · skip
          refine g_Si (n := 4) (rest := []) S G hl (c_X4_againstItem_y l R hr15 (sz_le (Kz r15 hr15)) 2 3 k) gX4_set_X4_againstItem rfl (by decide +kernel) rfl rfl (Nat.le_of_ble_eq_true rfl) ⟨Nat.le_of_ble_eq_true rfl, Nat.le_of_ble_eq_true rfl⟩ ⟨Nat.le_of_ble_eq_true rfl, Nat.le_of_ble_eq_true rfl⟩ dX4_set_41 ?_
          clear G; intro r_ w1 H locs hp G
          obtain ⟨rfl, hq_⟩ := hp
          simp only [q17, tk18, ↓reduceIte, Bool.false_eq_true] at hq_
          subst hq_
          refine lv_istore (lv' := [(6, .int 3), (5, .ref (Rw r15)), (4, .ref (T k1)), (0, .ref x), (1, .int t), (2, .int k), (3, .int o)]) hx hb dX4_set_44 hl (by decide) rfl (fun ls hl => ?_)
          refine lv_iload hx hb dX4_set_46 (lv_at hl 0 rfl) ?_
          refine lv_if_eq (tgt := 58) hx hb dX4_set_48 (by decide) (fun c20 => absurd c20 (by decide)) (fun c20 => ?_)
          refine lv_aload_n hx hb dX4_set_51 rfl (lv_at hl 3 rfl) ?_
          refine lv_iload hx hb dX4_set_52 (lv_at hl 0 rfl) ?_
          refine g_Vi (n := 1) (rest := []) S G hl (c_X4_refuse l R (j := 3) (o := 3) rfl (by decide)) gX4_set_X4_refuse rfl (by decide +kernel) (Rc_x R) rfl rfl rfl (Nat.le_of_ble_eq_true rfl) ⟨Nat.le_of_ble_eq_true rfl, Nat.le_of_ble_eq_true rfl⟩ ⟨Nat.le_of_ble_eq_true rfl, Nat.le_of_ble_eq_true rfl⟩ dX4_set_54 ?_
          clear G; intro r_ w1 H locs hp G
          obtain ⟨hr_, R⟩ := hp
          subst r_
          rw [if_neg (show ¬ ((3 : Int32) = 7) by decide)] at R
          refine r_int S hret hlk G rfl (Nat.le_of_ble_eq_true rfl) (Nat.le_of_ble_eq_true rfl) dX4_set_57 ?_
          have yk1 := tin_e ek1 hk1 (show n ≤ 1000 by omega)
          have zk1 := cn_e ek1 (show k1 < 1000 by omega)
          have yk2 := tin_e ek2 hk2 (show n ≤ 1000 by omega)
          have zk2 := cn_e ek2 (show k2 < 1000 by omega)
          have qr15 := nm1 (show r15 < 100000 by omega)
          have g9 : ¬ so r15 < 2 := fun z => q17 (Or.inl z)
          refine ⟨by simp only [S_set, yk1, zk1, yk2, zk2, er15, qr15, cn_nI (show r15 < 2 ^ 31 by omega), dk2, q17, tk18, g9, s_tell, put_it, ↓reduceIte, Bool.false_eq_true, or_true, true_or, and_true, true_and, not_false_eq_true, false_or, show ¬ (3 : Int32) < 2 by decide], ?_⟩
          simp only [S_set, yk1, zk1, yk2, zk2, er15, qr15, cn_nI (show r15 < 2 ^ 31 by omega), dk2, q17, tk18, g9, s_tell, put_it, ↓reduceIte, Bool.false_eq_true, or_true, true_or, and_true, true_and, not_false_eq_true, false_or, show ¬ (3 : Int32) < 2 by decide]
          exact ⟨_, _, _, _, _, _, _, _, _, _, R⟩
        · skip
          refine g_Si (n := 4) (rest := []) S G hl (c_X4_againstItem_y l R hr15 (sz_le (Kz r15 hr15)) 2 3 k) gX4_set_X4_againstItem rfl (by decide +kernel) rfl rfl (Nat.le_of_ble_eq_true rfl) ⟨Nat.le_of_ble_eq_true rfl, Nat.le_of_ble_eq_true rfl⟩ ⟨Nat.le_of_ble_eq_true rfl, Nat.le_of_ble_eq_true rfl⟩ dX4_set_41 ?_
          clear G; intro r_ w1 H locs hp G
          obtain ⟨rfl, hq_⟩ := hp
          have yk18 := tin_e ek18 hk18 (Nat.le_trans (sz_le (Kz r15 hr15)) (by decide))
          have zk18 := cn_e ek18 (Nat.lt_of_lt_of_le hk18 (Nat.le_trans (sz_le (Kz r15 hr15)) (by decide)))
          simp only [q17, yk18, ↓reduceIte, Bool.false_eq_true] at hq_
          subst hq_
          refine lv_istore (lv' := [(6, .int 0), (5, .ref (Rw r15)), (4, .ref (T k1)), (0, .ref x), (1, .int t), (2, .int k), (3, .int o)]) hx hb dX4_set_44 hl (by decide) rfl (fun ls hl => ?_)
          refine lv_iload hx hb dX4_set_46 (lv_at hl 0 rfl) ?_
          refine lv_if_eq (tgt := 58) hx hb dX4_set_48 (by decide) (fun c21 => ?_) (fun c21 => absurd (by decide) c21)
          refine lv_aload hx hb dX4_set_58 (lv_at hl 1 rfl) ?_
          refine g_get S G (Rc_Rw R r15 hr15) rfl (by decide +kernel) 0 (by decide) (by decide +kernel) rfl dX4_set_60 ?_
          refine lv_iconst (v := 3) hx hb dX4_set_63 (by decide) ?_
          refine lv_icmp_ne (tgt := 84) hx hb dX4_set_64 (by decide) (fun c22 => ?_) (fun c22 => ?_)
          · skip
            refine lv_aload_n hx hb dX4_set_84 rfl (lv_at hl 3 rfl) ?_
            refine lv_iconst (v := 0) hx hb dX4_set_85 (by decide) ?_
            refine g_Vi (n := 1) (rest := []) S G hl (c_X4_tell l R (j := 0) (o := 0) rfl (by decide)) gX4_set_X4_tell rfl (by decide +kernel) (Rc_x R) rfl rfl rfl (Nat.le_of_ble_eq_true rfl) ⟨Nat.le_of_ble_eq_true rfl, Nat.le_of_ble_eq_true rfl⟩ ⟨Nat.le_of_ble_eq_true rfl, Nat.le_of_ble_eq_true rfl⟩ dX4_set_86 ?_
            clear G; intro r_ w1 H locs hp G
            obtain ⟨hr_, R⟩ := hp
            subst r_
            rw [if_neg (show ¬ ((0 : Int32) = 7) by decide)] at R
            refine lv_pop hx hb dX4_set_89 rfl ?_
            refine lv_aload hx hb dX4_set_90 (lv_at hl 1 rfl) ?_
            refine lv_iload_n hx hb dX4_set_92 rfl (lv_at hl 5 rfl) ?_
            refine lv_iload_n hx hb dX4_set_93 rfl (lv_at hl 6 rfl) ?_
            refine lv_i2l (v := (Int32.toInt64 o)) hx hb dX4_set_94 rfl ?_
            refine g_Vl (n := 2) (rest := []) S G hl (c_X0_put l (Rc_Rw R r15 hr15) (Rc_Ia R r15 hr15) ek18 hk18 (Nat.le_trans (sz_le (Kz r15 hr15)) (by decide)) (Int32.toInt64 o)) gX4_set_X0_put rfl (by decide +kernel) (Rc_Rw R r15 hr15) rfl rfl rfl (Nat.le_of_ble_eq_true rfl) ⟨Nat.le_of_ble_eq_true rfl, Nat.le_of_ble_eq_true rfl⟩ ⟨Nat.le_of_ble_eq_true rfl, Nat.le_of_ble_eq_true rfl⟩ dX4_set_95 ?_
            clear G; intro r_ w1 H locs hp G
            obtain ⟨rfl, rfl⟩ := hp
            have fj := Rc_F R r15 hr15 k18 hk18
            obtain ⟨w, R, G⟩ := Rc_ex (Rc_p_put R hr15 Kz hk18 (Int32.toInt64 o)) G
            refine lv_l2i (v := (Int64.toInt32 (F r15 k18))) hx hb dX4_set_98 rfl ?_
            refine r_int S hret hlk G rfl (Nat.le_of_ble_eq_true rfl) (Nat.le_of_ble_eq_true rfl) dX4_set_99 ?_
            have yk1 := tin_e ek1 hk1 (show n ≤ 1000 by omega)
            have zk1 := cn_e ek1 (show k1 < 1000 by omega)
            have yk2 := tin_e ek2 hk2 (show n ≤ 1000 by omega)
            have zk2 := cn_e ek2 (show k2 < 1000 by omega)
            have qr15 := nm1 (show r15 < 100000 by omega)
            have g9 : ¬ so r15 < 2 := fun z => q17 (Or.inl z)
            have d9 : ¬ (so r15 = 3 ∧ ¬ o = -1 ∧ ¬ cl k2 ≤ 2) := fun z => c22 z.1
            refine ⟨by simp only [S_set, yk1, zk1, yk2, zk2, er15, qr15, cn_nI (show r15 < 2 ^ 31 by omega), dk2, q17, yk18, zk18, fj, g9, d9, s_tell, put_it, ↓reduceIte, Bool.false_eq_true, or_true, true_or, and_true, true_and, not_false_eq_true, false_or, show ¬ (3 : Int32) < 2 by decide], ?_⟩
            simp only [S_set, yk1, zk1, yk2, zk2, er15, qr15, cn_nI (show r15 < 2 ^ 31 by omega), dk2, q17, yk18, zk18, fj, g9, d9, s_tell, put_it, ↓reduceIte, Bool.false_eq_true, or_true, true_or, and_true, true_and, not_false_eq_true, false_or, show ¬ (3 : Int32) < 2 by decide]
            exact ⟨_, _, _, _, _, _, _, _, _, _, R⟩
          · skip
            refine lv_aload_n hx hb dX4_set_67 rfl (lv_at hl 3 rfl) ?_
            refine g_get S G (Rc_x R) rfl (by decide +kernel) 0 (by decide) (by decide +kernel) rfl dX4_set_68 ?_
            refine lv_iload_n hx hb dX4_set_71 rfl (lv_at hl 6 rfl) ?_
            refine g_Vi (n := 1) (rest := []) S G hl (c_X1_isLeafOrNone l R Kn o) gX4_set_X1_isLeafOrNone rfl (by decide +kernel) (Rc_st R) rfl rfl rfl (Nat.le_of_ble_eq_true rfl) ⟨Nat.le_of_ble_eq_true rfl, Nat.le_of_ble_eq_true rfl⟩ ⟨Nat.le_of_ble_eq_true rfl, Nat.le_of_ble_eq_true rfl⟩ dX4_set_72 ?_
            clear G; intro r_ w1 H locs hp G
            obtain ⟨rfl, rfl⟩ := hp
            refine lv_if_ne (tgt := 84) hx hb dX4_set_75 (by decide) (fun c23 => ?_) (fun c23 => ?_)
            · skip
              refine lv_aload_n hx hb dX4_set_84 rfl (lv_at hl 3 rfl) ?_
              refine lv_iconst (v := 0) hx hb dX4_set_85 (by decide) ?_
              refine g_Vi (n := 1) (rest := []) S G hl (c_X4_tell l R (j := 0) (o := 0) rfl (by decide)) gX4_set_X4_tell rfl (by decide +kernel) (Rc_x R) rfl rfl rfl (Nat.le_of_ble_eq_true rfl) ⟨Nat.le_of_ble_eq_true rfl, Nat.le_of_ble_eq_true rfl⟩ ⟨Nat.le_of_ble_eq_true rfl, Nat.le_of_ble_eq_true rfl⟩ dX4_set_86 ?_
              clear G; intro r_ w1 H locs hp G
              obtain ⟨hr_, R⟩ := hp
              subst r_
              rw [if_neg (show ¬ ((0 : Int32) = 7) by decide)] at R
              refine lv_pop hx hb dX4_set_89 rfl ?_
              refine lv_aload hx hb dX4_set_90 (lv_at hl 1 rfl) ?_
              refine lv_iload_n hx hb dX4_set_92 rfl (lv_at hl 5 rfl) ?_
              refine lv_iload_n hx hb dX4_set_93 rfl (lv_at hl 6 rfl) ?_
              refine lv_i2l (v := (Int32.toInt64 o)) hx hb dX4_set_94 rfl ?_
              refine g_Vl (n := 2) (rest := []) S G hl (c_X0_put l (Rc_Rw R r15 hr15) (Rc_Ia R r15 hr15) ek18 hk18 (Nat.le_trans (sz_le (Kz r15 hr15)) (by decide)) (Int32.toInt64 o)) gX4_set_X0_put rfl (by decide +kernel) (Rc_Rw R r15 hr15) rfl rfl rfl (Nat.le_of_ble_eq_true rfl) ⟨Nat.le_of_ble_eq_true rfl, Nat.le_of_ble_eq_true rfl⟩ ⟨Nat.le_of_ble_eq_true rfl, Nat.le_of_ble_eq_true rfl⟩ dX4_set_95 ?_
              clear G; intro r_ w1 H locs hp G
              obtain ⟨rfl, rfl⟩ := hp
              have fj := Rc_F R r15 hr15 k18 hk18
              obtain ⟨w, R, G⟩ := Rc_ex (Rc_p_put R hr15 Kz hk18 (Int32.toInt64 o)) G
              refine lv_l2i (v := (Int64.toInt32 (F r15 k18))) hx hb dX4_set_98 rfl ?_
              refine r_int S hret hlk G rfl (Nat.le_of_ble_eq_true rfl) (Nat.le_of_ble_eq_true rfl) dX4_set_99 ?_
              have yk1 := tin_e ek1 hk1 (show n ≤ 1000 by omega)
              have zk1 := cn_e ek1 (show k1 < 1000 by omega)
              have yk2 := tin_e ek2 hk2 (show n ≤ 1000 by omega)
              have zk2 := cn_e ek2 (show k2 < 1000 by omega)
              have qr15 := nm1 (show r15 < 100000 by omega)
              have g9 : ¬ so r15 < 2 := fun z => q17 (Or.inl z)
              rw [if_pos yk2, zk2] at c23
              have i9 := isof0 (Kc k2 hk2)
              have d9 : ¬ (so r15 = 3 ∧ ¬ o = -1 ∧ ¬ cl k2 ≤ 2) := fun z => by
                rw [if_neg (fun y => z.2.2 (i9.mp y))] at c23
                exact c23 rfl
              refine ⟨by simp only [S_set, yk1, zk1, yk2, zk2, er15, qr15, cn_nI (show r15 < 2 ^ 31 by omega), dk2, q17, yk18, zk18, fj, g9, d9, s_tell, put_it, ↓reduceIte, Bool.false_eq_true, or_true, true_or, and_true, true_and, not_false_eq_true, false_or, show ¬ (3 : Int32) < 2 by decide], ?_⟩
              simp only [S_set, yk1, zk1, yk2, zk2, er15, qr15, cn_nI (show r15 < 2 ^ 31 by omega), dk2, q17, yk18, zk18, fj, g9, d9, s_tell, put_it, ↓reduceIte, Bool.false_eq_true, or_true, true_or, and_true, true_and, not_false_eq_true, false_or, show ¬ (3 : Int32) < 2 by decide]
              exact ⟨_, _, _, _, _, _, _, _, _, _, R⟩
            · skip
              refine lv_aload_n hx hb dX4_set_78 rfl (lv_at hl 3 rfl) ?_
              refine lv_iconst (v := 5) hx hb dX4_set_79 (by decide) ?_
              refine g_Vi (n := 1) (rest := []) S G hl (c_X4_refuse l R (j := 5) (o := 5) rfl (by decide)) gX4_set_X4_refuse rfl (by decide +kernel) (Rc_x R) rfl rfl rfl (Nat.le_of_ble_eq_true rfl) ⟨Nat.le_of_ble_eq_true rfl, Nat.le_of_ble_eq_true rfl⟩ ⟨Nat.le_of_ble_eq_true rfl, Nat.le_of_ble_eq_true rfl⟩ dX4_set_80 ?_
              clear G; intro r_ w1 H locs hp G
              obtain ⟨hr_, R⟩ := hp
              subst r_
              rw [if_neg (show ¬ ((5 : Int32) = 7) by decide)] at R
              refine r_int S hret hlk G rfl (Nat.le_of_ble_eq_true rfl) (Nat.le_of_ble_eq_true rfl) dX4_set_83 ?_
              have yk1 := tin_e ek1 hk1 (show n ≤ 1000 by omega)
              have zk1 := cn_e ek1 (show k1 < 1000 by omega)
              have yk2 := tin_e ek2 hk2 (show n ≤ 1000 by omega)
              have zk2 := cn_e ek2 (show k2 < 1000 by omega)
              have qr15 := nm1 (show r15 < 100000 by omega)
              have g9 : ¬ so r15 < 2 := fun z => q17 (Or.inl z)
              rw [if_pos yk2, zk2] at c23
              have i9 := isof0 (Kc k2 hk2)
              have d9 : (so r15 = 3 ∧ ¬ o = -1 ∧ ¬ cl k2 ≤ 2) := ⟨c22, nk2, fun y => by
                rw [if_pos (i9.mpr y)] at c23
                exact absurd c23 (by decide)⟩
              refine ⟨by simp only [S_set, yk1, zk1, yk2, zk2, er15, qr15, cn_nI (show r15 < 2 ^ 31 by omega), dk2, q17, yk18, zk18, g9, d9, s_tell, put_it, ↓reduceIte, Bool.false_eq_true, or_true, true_or, and_true, true_and, not_false_eq_true, false_or, show ¬ (3 : Int32) < 2 by decide], ?_⟩
              simp only [S_set, yk1, zk1, yk2, zk2, er15, qr15, cn_nI (show r15 < 2 ^ 31 by omega), dk2, q17, yk18, zk18, g9, d9, s_tell, put_it, ↓reduceIte, Bool.false_eq_true, or_true, true_or, and_true, true_and, not_false_eq_true, false_or, show ¬ (3 : Int32) < 2 by decide]
              exact ⟨_, _, _, _, _, _, _, _, _, _, R⟩
