/-! THE CLASS: move -/
theorem nI_cn {x : Int32} (h : 0 ≤ x) : x = nI (cn x) := by
  obtain ⟨a, ha, rfl⟩ := nI_of (Int32.not_lt.mpr h)
  rw [cn_nI ha]
theorem cn_lt (x : Int32) : cn x < 2 ^ 31 := by
  by_cases h : x < 0
  · have h1 := Int32.lt_iff_toInt_lt.mp h
    have h2 : (0 : Int32).toInt = 0 := by decide
    show x.toInt.toNat < _
    omega
  · obtain ⟨a, ha, rfl⟩ := nI_of h
    rw [cn_nI ha]; exact ha
theorem cpy_in {f g it : Nat → Int64} {r r2 a b m N1 N2 : Nat} (hf : ∀ k, k < N1 → f k = it (12 * r + k)) (hg : ∀ k, k < N2 → g k = it (12 * r2 + k)) (h1 : a + m ≤ N1) : ∀ k, k < N2 → va_cpy f g a b m k = va_cpy it it (12 * r + a) (12 * r2 + b) m (12 * r2 + k) := by
  intro k hk
  unfold va_cpy
  by_cases q : b ≤ k ∧ k < b + m
  · rw [if_pos q, if_pos ⟨by omega, by omega⟩, hf _ (by omega)]
    congr 1
    omega
  · rw [if_neg q, if_neg (by omega)]
    exact hg k hk
theorem cpy_out {it : Nat → Int64} {s r r2 b m k : Nat} (h : r ≠ r2) (hk : k < 12) (hb : b + m ≤ 12) : va_cpy it it s (12 * r2 + b) m (12 * r + k) = it (12 * r + k) := by
  unfold va_cpy
  rw [if_neg (by omega)]
theorem so3 {x : Int32} (h : ∃ s, s < 4 ∧ x = nI s) (h1 : 1 < x) (h2 : ¬ x = 2) : x = 3 := by
  obtain ⟨s, hs, rfl⟩ := h
  rcases (show s = 0 ∨ s = 1 ∨ s = 2 ∨ s = 3 by omega) with rfl | rfl | rfl | rfl
  · exact absurd h1 (by decide)
  · exact absurd h1 (by decide)
  · exact absurd rfl h2
  · rfl
set_option maxHeartbeats 4000000 in
set_option maxRecDepth 100000 in
theorem C_move (l : Launch) {E : EV} {w : wo} {x : Nat} {σ : ST} (X : RcX E w x σ) (K : Gd σ) (t i o j z : Int32) : ct_i l E yX4_move wsX4_move 3 0 0 [.ref x, .int t, .int i, .int o, .int j, .int z] w (fun r w' => r = (S_move t i o j z σ).1 ∧ RcX E w' x (S_move t i o j z σ).2) := by
  obtain ⟨st, wk, tl, ta, tf, T, Rw, Ia, F, ⟨lim, wou, th⟩, R⟩ := X
  obtain ⟨n, cl, vs, lk, hd, nr, so, sz, it, oc, ow, bg, dp, td⟩ := σ
  have K9 := K
  obtain ⟨Kn, Kr, Kc, Kl, Kh, Ks, Kz, Ki⟩ := K9
  intro zz
  refine wo_body (Qc := fun A => va_Qi _ (wo_B E A) A) (ret := (some .int)) (by decide) rfl (Nat.le_of_ble_eq_true rfl) ?_
  intro p_ e_ s_ m_ args_ below_ meth_ code_ A_ ls S hret hlk hnm G hl
  have hl : lv_has ls 12 [(0, .ref x), (1, .int t), (2, .int i), (3, .int o), (4, .int j), (5, .int z)] := hl
  have hx := S.1
  have hb := S.2.1
  refine lv_aload_n hx hb dX4_move_0 rfl (lv_at hl 0 rfl) ?_
  refine g_get S G (Rc_x R) rfl (by decide +kernel) 0 (by decide) (by decide +kernel) rfl dX4_move_1 ?_
  refine lv_iload_n hx hb dX4_move_4 rfl (lv_at hl 1 rfl) ?_
  rcases tin_c n t (by omega) with ⟨tk1, ok1⟩ | ⟨k1, hk1, ek1⟩
  · skip
    refine g_Vq (n := 1) (rest := []) S G hl (c_X1_find_n l R Kn ok1) gX4_move_X1_find rfl (by decide +kernel) (Rc_st R) rfl rfl rfl (Nat.le_of_ble_eq_true rfl) ⟨Nat.le_of_ble_eq_true rfl, Nat.le_of_ble_eq_true rfl⟩ ⟨Nat.le_of_ble_eq_true rfl, Nat.le_of_ble_eq_true rfl⟩ dX4_move_5 ?_
    clear G; intro r_ w1 H locs hp G
    obtain ⟨rfl, rfl⟩ := hp
    refine W.eq (g2 := F0 m_ 8 ls [.null]) rfl ?_
    refine lv_astoreN (lv' := [(6, .null), (0, .ref x), (1, .int t), (2, .int i), (3, .int o), (4, .int j), (5, .int z)]) hx hb dX4_move_8 hl (by decide) rfl (fun ls hl => ?_)
    refine lv_aload_n hx hb dX4_move_10 rfl (lv_at hl 1 rfl) ?_
    refine g_get S G (Rc_x R) rfl (by decide +kernel) 0 (by decide) (by decide +kernel) rfl dX4_move_11 ?_
    refine lv_iload_n hx hb dX4_move_14 rfl (lv_at hl 4 rfl) ?_
    rcases tin_c n o (by omega) with ⟨tk2, ok2⟩ | ⟨k2, hk2, ek2⟩
    · skip
      refine g_Vq (n := 1) (rest := []) S G hl (c_X1_find_n l R Kn ok2) gX4_move_X1_find rfl (by decide +kernel) (Rc_st R) rfl rfl rfl (Nat.le_of_ble_eq_true rfl) ⟨Nat.le_of_ble_eq_true rfl, Nat.le_of_ble_eq_true rfl⟩ ⟨Nat.le_of_ble_eq_true rfl, Nat.le_of_ble_eq_true rfl⟩ dX4_move_15 ?_
      clear G; intro r_ w1 H locs hp G
      obtain ⟨rfl, rfl⟩ := hp
      refine W.eq (g2 := F0 m_ 18 ls [.null]) rfl ?_
      refine lv_astoreN (lv' := [(7, .null), (6, .null), (0, .ref x), (1, .int t), (2, .int i), (3, .int o), (4, .int j), (5, .int z)]) hx hb dX4_move_18 hl (by decide) rfl (fun ls hl => ?_)
      refine lv_aloadN hx hb dX4_move_20 (lv_at hl 1 rfl) ?_
      refine lv_ifnullN (tgt := 30) hx hb dX4_move_22 (by decide) ?_
      refine lv_ldc hx hb S.2.2.2.1 (S.2.2.2.2 (.constant RX4 33 (-2000000001)) (by decide +kernel)) dX4_move_30 ?_
      refine r_int S hret hlk G rfl (Nat.le_of_ble_eq_true rfl) (Nat.le_of_ble_eq_true rfl) dX4_move_32 ?_
      refine ⟨by simp only [S_move, tk1, tk2, s_tell, ↓reduceIte, Bool.false_eq_true, true_or, or_true, or_self], ?_⟩
      simp only [S_move, tk1, tk2, s_tell, ↓reduceIte, Bool.false_eq_true, true_or, or_true, or_self]
      exact ⟨_, _, _, _, _, _, _, _, _, _, R⟩
    · skip
      refine g_Vq (n := 1) (rest := []) S G hl (c_X1_find_y l R Kn ek2 hk2) gX4_move_X1_find rfl (by decide +kernel) (Rc_st R) rfl rfl rfl (Nat.le_of_ble_eq_true rfl) ⟨Nat.le_of_ble_eq_true rfl, Nat.le_of_ble_eq_true rfl⟩ ⟨Nat.le_of_ble_eq_true rfl, Nat.le_of_ble_eq_true rfl⟩ dX4_move_15 ?_
      clear G; intro r_ w1 H locs hp G
      obtain ⟨rfl, rfl⟩ := hp
      refine W.eq (g2 := F0 m_ 18 ls [.ref (T k2)]) rfl ?_
      refine lv_astore (lv' := [(7, .ref (T k2)), (6, .null), (0, .ref x), (1, .int t), (2, .int i), (3, .int o), (4, .int j), (5, .int z)]) hx hb dX4_move_18 hl (by decide) rfl (fun ls hl => ?_)
      refine lv_aloadN hx hb dX4_move_20 (lv_at hl 1 rfl) ?_
      refine lv_ifnullN (tgt := 30) hx hb dX4_move_22 (by decide) ?_
      refine lv_ldc hx hb S.2.2.2.1 (S.2.2.2.2 (.constant RX4 33 (-2000000001)) (by decide +kernel)) dX4_move_30 ?_
      refine r_int S hret hlk G rfl (Nat.le_of_ble_eq_true rfl) (Nat.le_of_ble_eq_true rfl) dX4_move_32 ?_
      have yk2 := tin_e ek2 hk2 (show n ≤ 1000 by omega)
      have zk2 := cn_e ek2 (show k2 < 1000 by omega)
      refine ⟨by simp only [S_move, tk1, yk2, zk2, s_tell, ↓reduceIte, Bool.false_eq_true, true_or, or_true, or_self], ?_⟩
      simp only [S_move, tk1, yk2, zk2, s_tell, ↓reduceIte, Bool.false_eq_true, true_or, or_true, or_self]
      exact ⟨_, _, _, _, _, _, _, _, _, _, R⟩
  · skip
    refine g_Vq (n := 1) (rest := []) S G hl (c_X1_find_y l R Kn ek1 hk1) gX4_move_X1_find rfl (by decide +kernel) (Rc_st R) rfl rfl rfl (Nat.le_of_ble_eq_true rfl) ⟨Nat.le_of_ble_eq_true rfl, Nat.le_of_ble_eq_true rfl⟩ ⟨Nat.le_of_ble_eq_true rfl, Nat.le_of_ble_eq_true rfl⟩ dX4_move_5 ?_
    clear G; intro r_ w1 H locs hp G
    obtain ⟨rfl, rfl⟩ := hp
    refine W.eq (g2 := F0 m_ 8 ls [.ref (T k1)]) rfl ?_
    refine lv_astore (lv' := [(6, .ref (T k1)), (0, .ref x), (1, .int t), (2, .int i), (3, .int o), (4, .int j), (5, .int z)]) hx hb dX4_move_8 hl (by decide) rfl (fun ls hl => ?_)
    refine lv_aload_n hx hb dX4_move_10 rfl (lv_at hl 1 rfl) ?_
    refine g_get S G (Rc_x R) rfl (by decide +kernel) 0 (by decide) (by decide +kernel) rfl dX4_move_11 ?_
    refine lv_iload_n hx hb dX4_move_14 rfl (lv_at hl 4 rfl) ?_
    rcases tin_c n o (by omega) with ⟨tk3, ok3⟩ | ⟨k3, hk3, ek3⟩
    · skip
      refine g_Vq (n := 1) (rest := []) S G hl (c_X1_find_n l R Kn ok3) gX4_move_X1_find rfl (by decide +kernel) (Rc_st R) rfl rfl rfl (Nat.le_of_ble_eq_true rfl) ⟨Nat.le_of_ble_eq_true rfl, Nat.le_of_ble_eq_true rfl⟩ ⟨Nat.le_of_ble_eq_true rfl, Nat.le_of_ble_eq_true rfl⟩ dX4_move_15 ?_
      clear G; intro r_ w1 H locs hp G
      obtain ⟨rfl, rfl⟩ := hp
      refine W.eq (g2 := F0 m_ 18 ls [.null]) rfl ?_
      refine lv_astoreN (lv' := [(7, .null), (6, .ref (T k1)), (0, .ref x), (1, .int t), (2, .int i), (3, .int o), (4, .int j), (5, .int z)]) hx hb dX4_move_18 hl (by decide) rfl (fun ls hl => ?_)
      refine lv_aload hx hb dX4_move_20 (lv_at hl 1 rfl) ?_
      refine lv_ifnull hx hb dX4_move_22 ?_
      refine lv_aloadN hx hb dX4_move_25 (lv_at hl 0 rfl) ?_
      refine lv_ifnonnullN hx hb dX4_move_27 ?_
      refine lv_ldc hx hb S.2.2.2.1 (S.2.2.2.2 (.constant RX4 33 (-2000000001)) (by decide +kernel)) dX4_move_30 ?_
      refine r_int S hret hlk G rfl (Nat.le_of_ble_eq_true rfl) (Nat.le_of_ble_eq_true rfl) dX4_move_32 ?_
      have yk1 := tin_e ek1 hk1 (show n ≤ 1000 by omega)
      have zk1 := cn_e ek1 (show k1 < 1000 by omega)
      refine ⟨by simp only [S_move, yk1, zk1, tk3, s_tell, ↓reduceIte, Bool.false_eq_true, true_or, or_true, or_self], ?_⟩
      simp only [S_move, yk1, zk1, tk3, s_tell, ↓reduceIte, Bool.false_eq_true, true_or, or_true, or_self]
      exact ⟨_, _, _, _, _, _, _, _, _, _, R⟩
    · skip
      refine g_Vq (n := 1) (rest := []) S G hl (c_X1_find_y l R Kn ek3 hk3) gX4_move_X1_find rfl (by decide +kernel) (Rc_st R) rfl rfl rfl (Nat.le_of_ble_eq_true rfl) ⟨Nat.le_of_ble_eq_true rfl, Nat.le_of_ble_eq_true rfl⟩ ⟨Nat.le_of_ble_eq_true rfl, Nat.le_of_ble_eq_true rfl⟩ dX4_move_15 ?_
      clear G; intro r_ w1 H locs hp G
      obtain ⟨rfl, rfl⟩ := hp
      refine W.eq (g2 := F0 m_ 18 ls [.ref (T k3)]) rfl ?_
      refine lv_astore (lv' := [(7, .ref (T k3)), (6, .ref (T k1)), (0, .ref x), (1, .int t), (2, .int i), (3, .int o), (4, .int j), (5, .int z)]) hx hb dX4_move_18 hl (by decide) rfl (fun ls hl => ?_)
      refine lv_aload hx hb dX4_move_20 (lv_at hl 1 rfl) ?_
      refine lv_ifnull hx hb dX4_move_22 ?_
      refine lv_aload hx hb dX4_move_25 (lv_at hl 0 rfl) ?_
      refine lv_ifnonnull (tgt := 33) hx hb dX4_move_27 (by decide) ?_
      refine lv_aload hx hb dX4_move_33 (lv_at hl 1 rfl) ?_
      rcases Kh k1 hk1 with er4 | ⟨r4, hr4, er4⟩
      · skip
        refine g_get S G (Rc_Tn R hk1 er4) rfl (by decide +kernel) 3 (by decide) (by decide +kernel) rfl dX4_move_35 ?_
        refine lv_astoreN (lv' := [(8, .null), (7, .ref (T k3)), (6, .ref (T k1)), (0, .ref x), (1, .int t), (2, .int i), (3, .int o), (4, .int j), (5, .int z)]) hx hb dX4_move_38 hl (by decide) rfl (fun ls hl => ?_)
        refine lv_aload hx hb dX4_move_40 (lv_at hl 1 rfl) ?_
        rcases Kh k3 hk3 with er5 | ⟨r5, hr5, er5⟩
        · skip
          refine g_get S G (Rc_Tn R hk3 er5) rfl (by decide +kernel) 3 (by decide) (by decide +kernel) rfl dX4_move_42 ?_
          refine lv_astoreN (lv' := [(9, .null), (8, .null), (7, .ref (T k3)), (6, .ref (T k1)), (0, .ref x), (1, .int t), (2, .int i), (3, .int o), (4, .int j), (5, .int z)]) hx hb dX4_move_45 hl (by decide) rfl (fun ls hl => ?_)
          refine lv_aloadN hx hb dX4_move_47 (lv_at hl 1 rfl) ?_
          refine lv_iload_n hx hb dX4_move_49 rfl (lv_at hl 6 rfl) ?_
          refine lv_aloadN hx hb dX4_move_50 (lv_at hl 0 rfl) ?_
          refine lv_iload hx hb dX4_move_52 (lv_at hl 8 rfl) ?_
          refine lv_iload hx hb dX4_move_54 (lv_at hl 9 rfl) ?_
          refine g_Si (n := 5) (rest := []) S G hl (c_X4_againstMove_nn l i j z) gX4_move_X4_againstMove rfl (by decide +kernel) rfl rfl (Nat.le_of_ble_eq_true rfl) ⟨Nat.le_of_ble_eq_true rfl, Nat.le_of_ble_eq_true rfl⟩ ⟨Nat.le_of_ble_eq_true rfl, Nat.le_of_ble_eq_true rfl⟩ dX4_move_56 ?_
          clear G; intro r_ w1 H locs hp G
          obtain ⟨rfl, rfl⟩ := hp
          refine lv_istore (lv' := [(10, .int 1), (9, .null), (8, .null), (7, .ref (T k3)), (6, .ref (T k1)), (0, .ref x), (1, .int t), (2, .int i), (3, .int o), (4, .int j), (5, .int z)]) hx hb dX4_move_59 hl (by decide) rfl (fun ls hl => ?_)
          refine lv_iload hx hb dX4_move_61 (lv_at hl 0 rfl) ?_
          refine lv_if_eq (tgt := 73) hx hb dX4_move_63 (by decide) (fun c6 => absurd c6 (by decide)) (fun c6 => ?_)
          refine lv_aload_n hx hb dX4_move_66 rfl (lv_at hl 5 rfl) ?_
          refine lv_iload hx hb dX4_move_67 (lv_at hl 0 rfl) ?_
          refine g_Vi (n := 1) (rest := []) S G hl (c_X4_refuse l R (j := 1) (o := 1) rfl (by decide)) gX4_move_X4_refuse rfl (by decide +kernel) (Rc_x R) rfl rfl rfl (Nat.le_of_ble_eq_true rfl) ⟨Nat.le_of_ble_eq_true rfl, Nat.le_of_ble_eq_true rfl⟩ ⟨Nat.le_of_ble_eq_true rfl, Nat.le_of_ble_eq_true rfl⟩ dX4_move_69 ?_
          clear G; intro r_ w1 H locs hp G
          obtain ⟨hr_, R⟩ := hp
          subst r_
          rw [if_neg (show ¬ ((1 : Int32) = 7) by decide)] at R
          refine r_int S hret hlk G rfl (Nat.le_of_ble_eq_true rfl) (Nat.le_of_ble_eq_true rfl) dX4_move_72 ?_
          have yk1 := tin_e ek1 hk1 (show n ≤ 1000 by omega)
          have zk1 := cn_e ek1 (show k1 < 1000 by omega)
          have yk3 := tin_e ek3 hk3 (show n ≤ 1000 by omega)
          have zk3 := cn_e ek3 (show k3 < 1000 by omega)
          refine ⟨by simp only [S_move, yk1, zk1, yk3, zk3, er4, er5, s_tell, ↓reduceIte, Bool.false_eq_true, true_or, or_true, or_self], ?_⟩
          simp only [S_move, yk1, zk1, yk3, zk3, er4, er5, s_tell, ↓reduceIte, Bool.false_eq_true, true_or, or_true, or_self]
          exact ⟨_, _, _, _, _, _, _, _, _, _, R⟩
        · skip
          refine g_get S G (Rc_Ty R hk3 er5 hr5 Kr) rfl (by decide +kernel) 3 (by decide) (by decide +kernel) rfl dX4_move_42 ?_
          refine lv_astore (lv' := [(9, .ref (Rw r5)), (8, .null), (7, .ref (T k3)), (6, .ref (T k1)), (0, .ref x), (1, .int t), (2, .int i), (3, .int o), (4, .int j), (5, .int z)]) hx hb dX4_move_45 hl (by decide) rfl (fun ls hl => ?_)
          refine lv_aloadN hx hb dX4_move_47 (lv_at hl 1 rfl) ?_
          refine lv_iload_n hx hb dX4_move_49 rfl (lv_at hl 6 rfl) ?_
          refine lv_aload hx hb dX4_move_50 (lv_at hl 0 rfl) ?_
          refine lv_iload hx hb dX4_move_52 (lv_at hl 8 rfl) ?_
          refine lv_iload hx hb dX4_move_54 (lv_at hl 9 rfl) ?_
          refine g_Si (n := 5) (rest := []) S G hl (c_X4_againstMove_ny l i j z) gX4_move_X4_againstMove rfl (by decide +kernel) rfl rfl (Nat.le_of_ble_eq_true rfl) ⟨Nat.le_of_ble_eq_true rfl, Nat.le_of_ble_eq_true rfl⟩ ⟨Nat.le_of_ble_eq_true rfl, Nat.le_of_ble_eq_true rfl⟩ dX4_move_56 ?_
          clear G; intro r_ w1 H locs hp G
          obtain ⟨rfl, rfl⟩ := hp
          refine lv_istore (lv' := [(10, .int 1), (9, .ref (Rw r5)), (8, .null), (7, .ref (T k3)), (6, .ref (T k1)), (0, .ref x), (1, .int t), (2, .int i), (3, .int o), (4, .int j), (5, .int z)]) hx hb dX4_move_59 hl (by decide) rfl (fun ls hl => ?_)
          refine lv_iload hx hb dX4_move_61 (lv_at hl 0 rfl) ?_
          refine lv_if_eq (tgt := 73) hx hb dX4_move_63 (by decide) (fun c7 => absurd c7 (by decide)) (fun c7 => ?_)
          refine lv_aload_n hx hb dX4_move_66 rfl (lv_at hl 5 rfl) ?_
          refine lv_iload hx hb dX4_move_67 (lv_at hl 0 rfl) ?_
          refine g_Vi (n := 1) (rest := []) S G hl (c_X4_refuse l R (j := 1) (o := 1) rfl (by decide)) gX4_move_X4_refuse rfl (by decide +kernel) (Rc_x R) rfl rfl rfl (Nat.le_of_ble_eq_true rfl) ⟨Nat.le_of_ble_eq_true rfl, Nat.le_of_ble_eq_true rfl⟩ ⟨Nat.le_of_ble_eq_true rfl, Nat.le_of_ble_eq_true rfl⟩ dX4_move_69 ?_
          clear G; intro r_ w1 H locs hp G
          obtain ⟨hr_, R⟩ := hp
          subst r_
          rw [if_neg (show ¬ ((1 : Int32) = 7) by decide)] at R
          refine r_int S hret hlk G rfl (Nat.le_of_ble_eq_true rfl) (Nat.le_of_ble_eq_true rfl) dX4_move_72 ?_
          have yk1 := tin_e ek1 hk1 (show n ≤ 1000 by omega)
          have zk1 := cn_e ek1 (show k1 < 1000 by omega)
          have yk3 := tin_e ek3 hk3 (show n ≤ 1000 by omega)
          have zk3 := cn_e ek3 (show k3 < 1000 by omega)
          have qr5 := nm1 (show r5 < 100000 by omega)
          refine ⟨by simp only [S_move, yk1, zk1, yk3, zk3, er4, er5, qr5, cn_nI (show r5 < 2 ^ 31 by omega), s_tell, ↓reduceIte, Bool.false_eq_true, true_or, or_true, or_self], ?_⟩
          simp only [S_move, yk1, zk1, yk3, zk3, er4, er5, qr5, cn_nI (show r5 < 2 ^ 31 by omega), s_tell, ↓reduceIte, Bool.false_eq_true, true_or, or_true, or_self]
          exact ⟨_, _, _, _, _, _, _, _, _, _, R⟩
      · skip
        refine g_get S G (Rc_Ty R hk1 er4 hr4 Kr) rfl (by decide +kernel) 3 (by decide) (by decide +kernel) rfl dX4_move_35 ?_
        refine lv_astore (lv' := [(8, .ref (Rw r4)), (7, .ref (T k3)), (6, .ref (T k1)), (0, .ref x), (1, .int t), (2, .int i), (3, .int o), (4, .int j), (5, .int z)]) hx hb dX4_move_38 hl (by decide) rfl (fun ls hl => ?_)
        refine lv_aload hx hb dX4_move_40 (lv_at hl 1 rfl) ?_
        rcases Kh k3 hk3 with er8 | ⟨r8, hr8, er8⟩
        · skip
          refine g_get S G (Rc_Tn R hk3 er8) rfl (by decide +kernel) 3 (by decide) (by decide +kernel) rfl dX4_move_42 ?_
          refine lv_astoreN (lv' := [(9, .null), (8, .ref (Rw r4)), (7, .ref (T k3)), (6, .ref (T k1)), (0, .ref x), (1, .int t), (2, .int i), (3, .int o), (4, .int j), (5, .int z)]) hx hb dX4_move_45 hl (by decide) rfl (fun ls hl => ?_)
          refine lv_aload hx hb dX4_move_47 (lv_at hl 1 rfl) ?_
          refine lv_iload_n hx hb dX4_move_49 rfl (lv_at hl 6 rfl) ?_
          refine lv_aloadN hx hb dX4_move_50 (lv_at hl 0 rfl) ?_
          refine lv_iload hx hb dX4_move_52 (lv_at hl 8 rfl) ?_
          refine lv_iload hx hb dX4_move_54 (lv_at hl 9 rfl) ?_
          refine g_Si (n := 5) (rest := []) S G hl (c_X4_againstMove_m l i j z) gX4_move_X4_againstMove rfl (by decide +kernel) rfl rfl (Nat.le_of_ble_eq_true rfl) ⟨Nat.le_of_ble_eq_true rfl, Nat.le_of_ble_eq_true rfl⟩ ⟨Nat.le_of_ble_eq_true rfl, Nat.le_of_ble_eq_true rfl⟩ dX4_move_56 ?_
          clear G; intro r_ w1 H locs hp G
          obtain ⟨rfl, rfl⟩ := hp
          refine lv_istore (lv' := [(10, .int 1), (9, .null), (8, .ref (Rw r4)), (7, .ref (T k3)), (6, .ref (T k1)), (0, .ref x), (1, .int t), (2, .int i), (3, .int o), (4, .int j), (5, .int z)]) hx hb dX4_move_59 hl (by decide) rfl (fun ls hl => ?_)
          refine lv_iload hx hb dX4_move_61 (lv_at hl 0 rfl) ?_
          refine lv_if_eq (tgt := 73) hx hb dX4_move_63 (by decide) (fun c9 => absurd c9 (by decide)) (fun c9 => ?_)
          refine lv_aload_n hx hb dX4_move_66 rfl (lv_at hl 5 rfl) ?_
          refine lv_iload hx hb dX4_move_67 (lv_at hl 0 rfl) ?_
          refine g_Vi (n := 1) (rest := []) S G hl (c_X4_refuse l R (j := 1) (o := 1) rfl (by decide)) gX4_move_X4_refuse rfl (by decide +kernel) (Rc_x R) rfl rfl rfl (Nat.le_of_ble_eq_true rfl) ⟨Nat.le_of_ble_eq_true rfl, Nat.le_of_ble_eq_true rfl⟩ ⟨Nat.le_of_ble_eq_true rfl, Nat.le_of_ble_eq_true rfl⟩ dX4_move_69 ?_
          clear G; intro r_ w1 H locs hp G
          obtain ⟨hr_, R⟩ := hp
          subst r_
          rw [if_neg (show ¬ ((1 : Int32) = 7) by decide)] at R
          refine r_int S hret hlk G rfl (Nat.le_of_ble_eq_true rfl) (Nat.le_of_ble_eq_true rfl) dX4_move_72 ?_
          have yk1 := tin_e ek1 hk1 (show n ≤ 1000 by omega)
          have zk1 := cn_e ek1 (show k1 < 1000 by omega)
          have yk3 := tin_e ek3 hk3 (show n ≤ 1000 by omega)
          have zk3 := cn_e ek3 (show k3 < 1000 by omega)
          have qr4 := nm1 (show r4 < 100000 by omega)
          refine ⟨by simp only [S_move, yk1, zk1, yk3, zk3, er4, qr4, cn_nI (show r4 < 2 ^ 31 by omega), er8, s_tell, ↓reduceIte, Bool.false_eq_true, true_or, or_true, or_self], ?_⟩
          simp only [S_move, yk1, zk1, yk3, zk3, er4, qr4, cn_nI (show r4 < 2 ^ 31 by omega), er8, s_tell, ↓reduceIte, Bool.false_eq_true, true_or, or_true, or_self]
          exact ⟨_, _, _, _, _, _, _, _, _, _, R⟩
        · skip
          refine g_get S G (Rc_Ty R hk3 er8 hr8 Kr) rfl (by decide +kernel) 3 (by decide) (by decide +kernel) rfl dX4_move_42 ?_
          refine lv_astore (lv' := [(9, .ref (Rw r8)), (8, .ref (Rw r4)), (7, .ref (T k3)), (6, .ref (T k1)), (0, .ref x), (1, .int t), (2, .int i), (3, .int o), (4, .int j), (5, .int z)]) hx hb dX4_move_45 hl (by decide) rfl (fun ls hl => ?_)
          refine lv_aload hx hb dX4_move_47 (lv_at hl 1 rfl) ?_
          refine lv_iload_n hx hb dX4_move_49 rfl (lv_at hl 6 rfl) ?_
          refine lv_aload hx hb dX4_move_50 (lv_at hl 0 rfl) ?_
          refine lv_iload hx hb dX4_move_52 (lv_at hl 8 rfl) ?_
          refine lv_iload hx hb dX4_move_54 (lv_at hl 9 rfl) ?_
          by_cases ql : so r4 = so r8 ∨ (1 < so r4 ∧ 1 < so r8)
          · skip
            by_cases qw : 0 ≤ i ∧ 0 ≤ j ∧ 0 ≤ z ∧ cn i + cn z ≤ cn (sz r4) ∧ cn j + cn z ≤ cn (sz r8)
            · skip
              refine g_Si (n := 5) (rest := []) S G hl (c_X4_againstMove_y l R K hr4 hr8 i j z) gX4_move_X4_againstMove rfl (by decide +kernel) rfl rfl (Nat.le_of_ble_eq_true rfl) ⟨Nat.le_of_ble_eq_true rfl, Nat.le_of_ble_eq_true rfl⟩ ⟨Nat.le_of_ble_eq_true rfl, Nat.le_of_ble_eq_true rfl⟩ dX4_move_56 ?_
              clear G; intro r_ w1 H locs hp G
              obtain ⟨rfl, hq_⟩ := hp
              rw [if_pos ql, if_pos qw] at hq_
              subst hq_
              refine lv_istore (lv' := [(10, .int 0), (9, .ref (Rw r8)), (8, .ref (Rw r4)), (7, .ref (T k3)), (6, .ref (T k1)), (0, .ref x), (1, .int t), (2, .int i), (3, .int o), (4, .int j), (5, .int z)]) hx hb dX4_move_59 hl (by decide) rfl (fun ls hl => ?_)
              refine lv_iload hx hb dX4_move_61 (lv_at hl 0 rfl) ?_
              refine lv_if_eq (tgt := 73) hx hb dX4_move_63 (by decide) (fun c10 => ?_) (fun c10 => absurd (by decide) c10)
              refine lv_aload hx hb dX4_move_73 (lv_at hl 2 rfl) ?_
              refine g_get S G (Rc_Rw R r4 hr4) rfl (by decide +kernel) 0 (by decide) (by decide +kernel) rfl dX4_move_75 ?_
              refine lv_iconst (v := 2) hx hb dX4_move_78 (by decide) ?_
              refine lv_icmp_ne (tgt := 103) hx hb dX4_move_79 (by decide) (fun c11 => ?_) (fun c11 => ?_)
              · skip
                refine lv_iload hx hb dX4_move_103 (lv_at hl 10 rfl) ?_
                refine lv_istore (lv' := [(11, .int z), (10, .int 0), (9, .ref (Rw r8)), (8, .ref (Rw r4)), (7, .ref (T k3)), (6, .ref (T k1)), (0, .ref x), (1, .int t), (2, .int i), (3, .int o), (4, .int j), (5, .int z)]) hx hb dX4_move_105 hl (by decide) rfl (fun ls hl => ?_)
                refine lv_aload hx hb dX4_move_107 (lv_at hl 3 rfl) ?_
                refine g_get S G (Rc_Rw R r4 hr4) rfl (by decide +kernel) 1 (by decide) (by decide +kernel) rfl dX4_move_109 ?_
                refine lv_iload_n hx hb dX4_move_112 rfl (lv_at hl 8 rfl) ?_
                refine lv_aload hx hb dX4_move_113 (lv_at hl 2 rfl) ?_
                refine g_get S G (Rc_Rw R r8 hr8) rfl (by decide +kernel) 1 (by decide) (by decide +kernel) rfl dX4_move_115 ?_
                refine lv_iload hx hb dX4_move_118 (lv_at hl 10 rfl) ?_
                refine lv_iload hx hb dX4_move_120 (lv_at hl 0 rfl) ?_
                have z1 := sz_le (Kz r4 hr4)
                have z2 := sz_le (Kz r8 hr8)
                have g1 : (cn z) ≤ cn z := Nat.le_refl _
                have g2 : Int32.toNatClampNeg z = (cn z) := rfl
                have g3 : ¬ z < 0 := Int32.not_lt.mpr qw.2.2.1
                have w4 := qw.2.2.2.1
                have w5 := qw.2.2.2.2
                have g4 : Int32.toNatClampNeg i = cn i := rfl
                have g5 : Int32.toNatClampNeg j = cn j := rfl
                refine g_copyl S G hl (by decide +kernel) (by decide +kernel) (by decide +kernel) (by decide +kernel) (Rc_Ia R r4 hr4) (Rc_Ia R r8 hr8) (Int32.not_lt.mpr qw.1) (Int32.not_lt.mpr qw.2.1) g3 (by rw [g2, g4]; omega) (by rw [g2, g5]; omega) (Nat.le_of_ble_eq_true rfl) (Nat.le_of_ble_eq_true rfl) dX4_move_122 (fun H locs G => ?_)
                rw [g2, g4, g5] at G
                obtain ⟨w, R, G⟩ := Rc_ex (Rc_p_it R hr8 _ (va_cpy it it (12 * r4 + cn i) (12 * r8 + cn j) (cn z)) (cpy_in (Rc_F R r4 hr4) (Rc_F R r8 hr8) (by omega)) (fun r9 h9 n9 k9 hk9 => cpy_out n9 (Nat.lt_of_lt_of_le hk9 (sz_le (Kz r9 h9))) (by omega))) G
                refine lv_iload hx hb dX4_move_125 (lv_at hl 0 rfl) ?_
                refine lv_iload hx hb dX4_move_127 (lv_at hl 11 rfl) ?_
                refine lv_icmp_ge (tgt := 138) hx hb dX4_move_129 (by decide) (fun c12 => ?_) (fun c12 => absurd (Int32.le_refl z) c12)
                refine lv_aload_n hx hb dX4_move_138 rfl (lv_at hl 6 rfl) ?_
                refine lv_iconst (v := 0) hx hb dX4_move_139 (by decide) ?_
                refine g_Vi (n := 1) (rest := []) S G hl (c_X4_tell l R (j := 0) (o := 0) rfl (by decide)) gX4_move_X4_tell rfl (by decide +kernel) (Rc_x R) rfl rfl rfl (Nat.le_of_ble_eq_true rfl) ⟨Nat.le_of_ble_eq_true rfl, Nat.le_of_ble_eq_true rfl⟩ ⟨Nat.le_of_ble_eq_true rfl, Nat.le_of_ble_eq_true rfl⟩ dX4_move_140 ?_
                clear G; intro r_ w1 H locs hp G
                obtain ⟨hr_, R⟩ := hp
                subst r_
                rw [if_neg (show ¬ ((0 : Int32) = 7) by decide)] at R
                refine lv_pop hx hb dX4_move_143 rfl ?_
                refine lv_iload hx hb dX4_move_144 (lv_at hl 11 rfl) ?_
                refine r_int S hret hlk G rfl (Nat.le_of_ble_eq_true rfl) (Nat.le_of_ble_eq_true rfl) dX4_move_146 ?_
                have yk1 := tin_e ek1 hk1 (show n ≤ 1000 by omega)
                have zk1 := cn_e ek1 (show k1 < 1000 by omega)
                have yk3 := tin_e ek3 hk3 (show n ≤ 1000 by omega)
                have zk3 := cn_e ek3 (show k3 < 1000 by omega)
                have qr4 := nm1 (show r4 < 100000 by omega)
                have qr8 := nm1 (show r8 < 100000 by omega)
                have eg : (if so r8 = 3 then gon cl it (12 * r4 + cn i) (cn z) else cn z) = cn z := by
                  by_cases q3 : so r8 = 3
                  · rw [if_pos q3]
                    have q4 : so r4 = 3 := ql.elim (fun y => y.trans q3) (fun y => so3 (Ks r4 hr4) y.1 c11)
                    refine gon_all _ _ (fun k hk => ?_)
                    have q5 := Ki r4 hr4 (by rw [q4]; decide) (cn i + k) (by omega)
                    rw [show 12 * r4 + (cn i + k) = 12 * r4 + cn i + k by omega] at q5
                    rcases q5 with q5 | ⟨j9, hj9, q5, q6⟩
                    · exact Or.inl q5
                    · refine Or.inr ?_
                      rw [q5, lN_i, cn_nI (by omega)]
                      exact q6 q4
                  · rw [if_neg q3]
                refine ⟨by simp only [S_move, yk1, zk1, yk3, zk3, er4, qr4, cn_nI (show r4 < 2 ^ 31 by omega), er8, qr8, cn_nI (show r8 < 2 ^ 31 by omega), eg, if_pos ql, if_pos qw, s_tell, ↓reduceIte, Bool.false_eq_true, true_or, or_true, or_self], ?_⟩
                simp only [S_move, yk1, zk1, yk3, zk3, er4, qr4, cn_nI (show r4 < 2 ^ 31 by omega), er8, qr8, cn_nI (show r8 < 2 ^ 31 by omega), eg, if_pos ql, if_pos qw, s_tell, ↓reduceIte, Bool.false_eq_true, true_or, or_true, or_self]
                exact ⟨_, _, _, _, _, _, _, _, _, _, R⟩
              · skip
                refine lv_aload hx hb dX4_move_82 (lv_at hl 1 rfl) ?_
                refine g_get S G (Rc_Rw R r8 hr8) rfl (by decide +kernel) 0 (by decide) (by decide +kernel) rfl dX4_move_84 ?_
                refine lv_iconst (v := 3) hx hb dX4_move_87 (by decide) ?_
                refine lv_icmp_ne (tgt := 103) hx hb dX4_move_88 (by decide) (fun c13 => ?_) (fun c13 => ?_)
                · skip
                  refine lv_iload hx hb dX4_move_103 (lv_at hl 10 rfl) ?_
                  refine lv_istore (lv' := [(11, .int z), (10, .int 0), (9, .ref (Rw r8)), (8, .ref (Rw r4)), (7, .ref (T k3)), (6, .ref (T k1)), (0, .ref x), (1, .int t), (2, .int i), (3, .int o), (4, .int j), (5, .int z)]) hx hb dX4_move_105 hl (by decide) rfl (fun ls hl => ?_)
                  refine lv_aload hx hb dX4_move_107 (lv_at hl 3 rfl) ?_
                  refine g_get S G (Rc_Rw R r4 hr4) rfl (by decide +kernel) 1 (by decide) (by decide +kernel) rfl dX4_move_109 ?_
                  refine lv_iload_n hx hb dX4_move_112 rfl (lv_at hl 8 rfl) ?_
                  refine lv_aload hx hb dX4_move_113 (lv_at hl 2 rfl) ?_
                  refine g_get S G (Rc_Rw R r8 hr8) rfl (by decide +kernel) 1 (by decide) (by decide +kernel) rfl dX4_move_115 ?_
                  refine lv_iload hx hb dX4_move_118 (lv_at hl 10 rfl) ?_
                  refine lv_iload hx hb dX4_move_120 (lv_at hl 0 rfl) ?_
                  have z1 := sz_le (Kz r4 hr4)
                  have z2 := sz_le (Kz r8 hr8)
                  have g1 : (cn z) ≤ cn z := Nat.le_refl _
                  have g2 : Int32.toNatClampNeg z = (cn z) := rfl
                  have g3 : ¬ z < 0 := Int32.not_lt.mpr qw.2.2.1
                  have w4 := qw.2.2.2.1
                  have w5 := qw.2.2.2.2
                  have g4 : Int32.toNatClampNeg i = cn i := rfl
                  have g5 : Int32.toNatClampNeg j = cn j := rfl
                  refine g_copyl S G hl (by decide +kernel) (by decide +kernel) (by decide +kernel) (by decide +kernel) (Rc_Ia R r4 hr4) (Rc_Ia R r8 hr8) (Int32.not_lt.mpr qw.1) (Int32.not_lt.mpr qw.2.1) g3 (by rw [g2, g4]; omega) (by rw [g2, g5]; omega) (Nat.le_of_ble_eq_true rfl) (Nat.le_of_ble_eq_true rfl) dX4_move_122 (fun H locs G => ?_)
                  rw [g2, g4, g5] at G
                  obtain ⟨w, R, G⟩ := Rc_ex (Rc_p_it R hr8 _ (va_cpy it it (12 * r4 + cn i) (12 * r8 + cn j) (cn z)) (cpy_in (Rc_F R r4 hr4) (Rc_F R r8 hr8) (by omega)) (fun r9 h9 n9 k9 hk9 => cpy_out n9 (Nat.lt_of_lt_of_le hk9 (sz_le (Kz r9 h9))) (by omega))) G
                  refine lv_iload hx hb dX4_move_125 (lv_at hl 0 rfl) ?_
                  refine lv_iload hx hb dX4_move_127 (lv_at hl 11 rfl) ?_
                  refine lv_icmp_ge (tgt := 138) hx hb dX4_move_129 (by decide) (fun c14 => ?_) (fun c14 => absurd (Int32.le_refl z) c14)
                  refine lv_aload_n hx hb dX4_move_138 rfl (lv_at hl 6 rfl) ?_
                  refine lv_iconst (v := 0) hx hb dX4_move_139 (by decide) ?_
                  refine g_Vi (n := 1) (rest := []) S G hl (c_X4_tell l R (j := 0) (o := 0) rfl (by decide)) gX4_move_X4_tell rfl (by decide +kernel) (Rc_x R) rfl rfl rfl (Nat.le_of_ble_eq_true rfl) ⟨Nat.le_of_ble_eq_true rfl, Nat.le_of_ble_eq_true rfl⟩ ⟨Nat.le_of_ble_eq_true rfl, Nat.le_of_ble_eq_true rfl⟩ dX4_move_140 ?_
                  clear G; intro r_ w1 H locs hp G
                  obtain ⟨hr_, R⟩ := hp
                  subst r_
                  rw [if_neg (show ¬ ((0 : Int32) = 7) by decide)] at R
                  refine lv_pop hx hb dX4_move_143 rfl ?_
                  refine lv_iload hx hb dX4_move_144 (lv_at hl 11 rfl) ?_
                  refine r_int S hret hlk G rfl (Nat.le_of_ble_eq_true rfl) (Nat.le_of_ble_eq_true rfl) dX4_move_146 ?_
                  have yk1 := tin_e ek1 hk1 (show n ≤ 1000 by omega)
                  have zk1 := cn_e ek1 (show k1 < 1000 by omega)
                  have yk3 := tin_e ek3 hk3 (show n ≤ 1000 by omega)
                  have zk3 := cn_e ek3 (show k3 < 1000 by omega)
                  have qr4 := nm1 (show r4 < 100000 by omega)
                  have qr8 := nm1 (show r8 < 100000 by omega)
                  have eg : (if so r8 = 3 then gon cl it (12 * r4 + cn i) (cn z) else cn z) = cn z := by rw [if_neg c13]
                  refine ⟨by simp only [S_move, yk1, zk1, yk3, zk3, er4, qr4, cn_nI (show r4 < 2 ^ 31 by omega), er8, qr8, cn_nI (show r8 < 2 ^ 31 by omega), eg, if_pos ql, if_pos qw, s_tell, ↓reduceIte, Bool.false_eq_true, true_or, or_true, or_self], ?_⟩
                  simp only [S_move, yk1, zk1, yk3, zk3, er4, qr4, cn_nI (show r4 < 2 ^ 31 by omega), er8, qr8, cn_nI (show r8 < 2 ^ 31 by omega), eg, if_pos ql, if_pos qw, s_tell, ↓reduceIte, Bool.false_eq_true, true_or, or_true, or_self]
                  exact ⟨_, _, _, _, _, _, _, _, _, _, R⟩
                · skip
                  refine lv_aload_n hx hb dX4_move_91 rfl (lv_at hl 5 rfl) ?_
                  refine lv_aload hx hb dX4_move_92 (lv_at hl 2 rfl) ?_
                  refine lv_iload_n hx hb dX4_move_94 rfl (lv_at hl 7 rfl) ?_
                  refine lv_iload hx hb dX4_move_95 (lv_at hl 10 rfl) ?_
                  refine g_Vi (n := 3) (rest := []) S G hl (c_X4_leavesAhead l R K hr4 (by rw [c11]; decide) qw.2.2.2.1 (nI_cn qw.1) (nI_cn qw.2.2.1)) gX4_move_X4_leavesAhead rfl (by decide +kernel) (Rc_x R) rfl rfl rfl (Nat.le_of_ble_eq_true rfl) ⟨Nat.le_of_ble_eq_true rfl, Nat.le_of_ble_eq_true rfl⟩ ⟨Nat.le_of_ble_eq_true rfl, Nat.le_of_ble_eq_true rfl⟩ dX4_move_97 ?_
                  clear G; intro r_ w1 H locs hp G
                  obtain ⟨rfl, rfl⟩ := hp
                  refine lv_goto (tgt := 105) hx hb dX4_move_100 (by decide) ?_
                  refine lv_istore (lv' := [(11, .int (nI (gon cl it (12 * r4 + cn i) (cn z)))), (10, .int 0), (9, .ref (Rw r8)), (8, .ref (Rw r4)), (7, .ref (T k3)), (6, .ref (T k1)), (0, .ref x), (1, .int t), (2, .int i), (3, .int o), (4, .int j), (5, .int z)]) hx hb dX4_move_105 hl (by decide) rfl (fun ls hl => ?_)
                  refine lv_aload hx hb dX4_move_107 (lv_at hl 3 rfl) ?_
                  refine g_get S G (Rc_Rw R r4 hr4) rfl (by decide +kernel) 1 (by decide) (by decide +kernel) rfl dX4_move_109 ?_
                  refine lv_iload_n hx hb dX4_move_112 rfl (lv_at hl 8 rfl) ?_
                  refine lv_aload hx hb dX4_move_113 (lv_at hl 2 rfl) ?_
                  refine g_get S G (Rc_Rw R r8 hr8) rfl (by decide +kernel) 1 (by decide) (by decide +kernel) rfl dX4_move_115 ?_
                  refine lv_iload hx hb dX4_move_118 (lv_at hl 10 rfl) ?_
                  refine lv_iload hx hb dX4_move_120 (lv_at hl 0 rfl) ?_
                  have z1 := sz_le (Kz r4 hr4)
                  have z2 := sz_le (Kz r8 hr8)
                  have g1 : (gon cl it (12 * r4 + cn i) (cn z)) ≤ cn z := gon_le _ _
                  have g2 : Int32.toNatClampNeg (nI (gon cl it (12 * r4 + cn i) (cn z))) = (gon cl it (12 * r4 + cn i) (cn z)) := cn_nI (by have := cn_lt z; omega)
                  have g3 : ¬ (nI (gon cl it (12 * r4 + cn i) (cn z))) < 0 := nI_pos (by have := cn_lt z; omega)
                  have w4 := qw.2.2.2.1
                  have w5 := qw.2.2.2.2
                  have g4 : Int32.toNatClampNeg i = cn i := rfl
                  have g5 : Int32.toNatClampNeg j = cn j := rfl
                  refine g_copyl S G hl (by decide +kernel) (by decide +kernel) (by decide +kernel) (by decide +kernel) (Rc_Ia R r4 hr4) (Rc_Ia R r8 hr8) (Int32.not_lt.mpr qw.1) (Int32.not_lt.mpr qw.2.1) g3 (by rw [g2, g4]; omega) (by rw [g2, g5]; omega) (Nat.le_of_ble_eq_true rfl) (Nat.le_of_ble_eq_true rfl) dX4_move_122 (fun H locs G => ?_)
                  rw [g2, g4, g5] at G
                  obtain ⟨w, R, G⟩ := Rc_ex (Rc_p_it R hr8 _ (va_cpy it it (12 * r4 + cn i) (12 * r8 + cn j) (gon cl it (12 * r4 + cn i) (cn z))) (cpy_in (Rc_F R r4 hr4) (Rc_F R r8 hr8) (by omega)) (fun r9 h9 n9 k9 hk9 => cpy_out n9 (Nat.lt_of_lt_of_le hk9 (sz_le (Kz r9 h9))) (by omega))) G
                  refine lv_iload hx hb dX4_move_125 (lv_at hl 0 rfl) ?_
                  refine lv_iload hx hb dX4_move_127 (lv_at hl 11 rfl) ?_
                  refine lv_icmp_ge (tgt := 138) hx hb dX4_move_129 (by decide) (fun c15 => ?_) (fun c15 => ?_)
                  · skip
                    refine lv_aload_n hx hb dX4_move_138 rfl (lv_at hl 6 rfl) ?_
                    refine lv_iconst (v := 0) hx hb dX4_move_139 (by decide) ?_
                    refine g_Vi (n := 1) (rest := []) S G hl (c_X4_tell l R (j := 0) (o := 0) rfl (by decide)) gX4_move_X4_tell rfl (by decide +kernel) (Rc_x R) rfl rfl rfl (Nat.le_of_ble_eq_true rfl) ⟨Nat.le_of_ble_eq_true rfl, Nat.le_of_ble_eq_true rfl⟩ ⟨Nat.le_of_ble_eq_true rfl, Nat.le_of_ble_eq_true rfl⟩ dX4_move_140 ?_
                    clear G; intro r_ w1 H locs hp G
                    obtain ⟨hr_, R⟩ := hp
                    subst r_
                    rw [if_neg (show ¬ ((0 : Int32) = 7) by decide)] at R
                    refine lv_pop hx hb dX4_move_143 rfl ?_
                    refine lv_iload hx hb dX4_move_144 (lv_at hl 11 rfl) ?_
                    refine r_int S hret hlk G rfl (Nat.le_of_ble_eq_true rfl) (Nat.le_of_ble_eq_true rfl) dX4_move_146 ?_
                    have yk1 := tin_e ek1 hk1 (show n ≤ 1000 by omega)
                    have zk1 := cn_e ek1 (show k1 < 1000 by omega)
                    have yk3 := tin_e ek3 hk3 (show n ≤ 1000 by omega)
                    have zk3 := cn_e ek3 (show k3 < 1000 by omega)
                    have qr4 := nm1 (show r4 < 100000 by omega)
                    have qr8 := nm1 (show r8 < 100000 by omega)
                    have eg : (if so r8 = 3 then gon cl it (12 * r4 + cn i) (cn z) else cn z) = gon cl it (12 * r4 + cn i) (cn z) := by rw [if_pos c13]
                    have d9 : gon cl it (12 * r4 + cn i) (cn z) = cn z := by
                      have y1 := c15
                      rw [nI_cn qw.2.2.1] at y1
                      rw [show cn (nI (cn z)) = cn z from cn_nI (cn_lt z)] at y1
                      have y2 := (nI_leI (cn_lt z) (by have := cn_lt z; omega)).mp y1
                      omega
                    rw [d9] at R eg
                    have eg2 : (if so r8 = 3 then gon cl it (12 * r4 + cn i) (cn z) else cn z) = cn z := by rw [if_pos c13]; exact d9
                    refine ⟨by simp only [S_move, yk1, zk1, yk3, zk3, er4, qr4, cn_nI (show r4 < 2 ^ 31 by omega), er8, qr8, cn_nI (show r8 < 2 ^ 31 by omega), eg2, if_pos ql, if_pos qw, s_tell, ↓reduceIte, Bool.false_eq_true, true_or, or_true, or_self], ?_⟩
                    simp only [S_move, yk1, zk1, yk3, zk3, er4, qr4, cn_nI (show r4 < 2 ^ 31 by omega), er8, qr8, cn_nI (show r8 < 2 ^ 31 by omega), eg2, if_pos ql, if_pos qw, s_tell, ↓reduceIte, Bool.false_eq_true, true_or, or_true, or_self]
                    exact ⟨_, _, _, _, _, _, _, _, _, _, R⟩
                  · skip
                    refine lv_aload_n hx hb dX4_move_132 rfl (lv_at hl 6 rfl) ?_
                    refine lv_iconst (v := 5) hx hb dX4_move_133 (by decide) ?_
                    refine g_Vi (n := 1) (rest := []) S G hl (c_X4_refuse l R (j := 5) (o := 5) rfl (by decide)) gX4_move_X4_refuse rfl (by decide +kernel) (Rc_x R) rfl rfl rfl (Nat.le_of_ble_eq_true rfl) ⟨Nat.le_of_ble_eq_true rfl, Nat.le_of_ble_eq_true rfl⟩ ⟨Nat.le_of_ble_eq_true rfl, Nat.le_of_ble_eq_true rfl⟩ dX4_move_134 ?_
                    clear G; intro r_ w1 H locs hp G
                    obtain ⟨hr_, R⟩ := hp
                    subst r_
                    rw [if_neg (show ¬ ((5 : Int32) = 7) by decide)] at R
                    refine r_int S hret hlk G rfl (Nat.le_of_ble_eq_true rfl) (Nat.le_of_ble_eq_true rfl) dX4_move_137 ?_
                    have yk1 := tin_e ek1 hk1 (show n ≤ 1000 by omega)
                    have zk1 := cn_e ek1 (show k1 < 1000 by omega)
                    have yk3 := tin_e ek3 hk3 (show n ≤ 1000 by omega)
                    have zk3 := cn_e ek3 (show k3 < 1000 by omega)
                    have qr4 := nm1 (show r4 < 100000 by omega)
                    have qr8 := nm1 (show r8 < 100000 by omega)
                    have eg : (if so r8 = 3 then gon cl it (12 * r4 + cn i) (cn z) else cn z) = gon cl it (12 * r4 + cn i) (cn z) := by rw [if_pos c13]
                    have d9 : ¬ gon cl it (12 * r4 + cn i) (cn z) = cn z := fun y => c15 (by rw [y]; exact Int32.le_of_eq (nI_cn qw.2.2.1))
                    refine ⟨by simp only [S_move, yk1, zk1, yk3, zk3, er4, qr4, cn_nI (show r4 < 2 ^ 31 by omega), er8, qr8, cn_nI (show r8 < 2 ^ 31 by omega), eg, d9, if_pos ql, if_pos qw, s_tell, ↓reduceIte, Bool.false_eq_true, true_or, or_true, or_self], ?_⟩
                    simp only [S_move, yk1, zk1, yk3, zk3, er4, qr4, cn_nI (show r4 < 2 ^ 31 by omega), er8, qr8, cn_nI (show r8 < 2 ^ 31 by omega), eg, d9, if_pos ql, if_pos qw, s_tell, ↓reduceIte, Bool.false_eq_true, true_or, or_true, or_self]
                    exact ⟨_, _, _, _, _, _, _, _, _, _, R⟩
            · skip
              refine g_Si (n := 5) (rest := []) S G hl (c_X4_againstMove_y l R K hr4 hr8 i j z) gX4_move_X4_againstMove rfl (by decide +kernel) rfl rfl (Nat.le_of_ble_eq_true rfl) ⟨Nat.le_of_ble_eq_true rfl, Nat.le_of_ble_eq_true rfl⟩ ⟨Nat.le_of_ble_eq_true rfl, Nat.le_of_ble_eq_true rfl⟩ dX4_move_56 ?_
              clear G; intro r_ w1 H locs hp G
              obtain ⟨rfl, hq_⟩ := hp
              rw [if_pos ql, if_neg qw] at hq_
              subst hq_
              refine lv_istore (lv' := [(10, .int 3), (9, .ref (Rw r8)), (8, .ref (Rw r4)), (7, .ref (T k3)), (6, .ref (T k1)), (0, .ref x), (1, .int t), (2, .int i), (3, .int o), (4, .int j), (5, .int z)]) hx hb dX4_move_59 hl (by decide) rfl (fun ls hl => ?_)
              refine lv_iload hx hb dX4_move_61 (lv_at hl 0 rfl) ?_
              refine lv_if_eq (tgt := 73) hx hb dX4_move_63 (by decide) (fun c16 => absurd c16 (by decide)) (fun c16 => ?_)
              refine lv_aload_n hx hb dX4_move_66 rfl (lv_at hl 5 rfl) ?_
              refine lv_iload hx hb dX4_move_67 (lv_at hl 0 rfl) ?_
              refine g_Vi (n := 1) (rest := []) S G hl (c_X4_refuse l R (j := 3) (o := 3) rfl (by decide)) gX4_move_X4_refuse rfl (by decide +kernel) (Rc_x R) rfl rfl rfl (Nat.le_of_ble_eq_true rfl) ⟨Nat.le_of_ble_eq_true rfl, Nat.le_of_ble_eq_true rfl⟩ ⟨Nat.le_of_ble_eq_true rfl, Nat.le_of_ble_eq_true rfl⟩ dX4_move_69 ?_
              clear G; intro r_ w1 H locs hp G
              obtain ⟨hr_, R⟩ := hp
              subst r_
              rw [if_neg (show ¬ ((3 : Int32) = 7) by decide)] at R
              refine r_int S hret hlk G rfl (Nat.le_of_ble_eq_true rfl) (Nat.le_of_ble_eq_true rfl) dX4_move_72 ?_
              have yk1 := tin_e ek1 hk1 (show n ≤ 1000 by omega)
              have zk1 := cn_e ek1 (show k1 < 1000 by omega)
              have yk3 := tin_e ek3 hk3 (show n ≤ 1000 by omega)
              have zk3 := cn_e ek3 (show k3 < 1000 by omega)
              have qr4 := nm1 (show r4 < 100000 by omega)
              have qr8 := nm1 (show r8 < 100000 by omega)
              refine ⟨by simp only [S_move, yk1, zk1, yk3, zk3, er4, qr4, cn_nI (show r4 < 2 ^ 31 by omega), er8, qr8, cn_nI (show r8 < 2 ^ 31 by omega), ql, qw, s_tell, ↓reduceIte, Bool.false_eq_true, true_or, or_true, or_self], ?_⟩
              simp only [S_move, yk1, zk1, yk3, zk3, er4, qr4, cn_nI (show r4 < 2 ^ 31 by omega), er8, qr8, cn_nI (show r8 < 2 ^ 31 by omega), ql, qw, s_tell, ↓reduceIte, Bool.false_eq_true, true_or, or_true, or_self]
              exact ⟨_, _, _, _, _, _, _, _, _, _, R⟩
          · skip
            refine g_Si (n := 5) (rest := []) S G hl (c_X4_againstMove_y l R K hr4 hr8 i j z) gX4_move_X4_againstMove rfl (by decide +kernel) rfl rfl (Nat.le_of_ble_eq_true rfl) ⟨Nat.le_of_ble_eq_true rfl, Nat.le_of_ble_eq_true rfl⟩ ⟨Nat.le_of_ble_eq_true rfl, Nat.le_of_ble_eq_true rfl⟩ dX4_move_56 ?_
            clear G; intro r_ w1 H locs hp G
            obtain ⟨rfl, hq_⟩ := hp
            rw [if_neg ql] at hq_
            subst hq_
            refine lv_istore (lv' := [(10, .int 5), (9, .ref (Rw r8)), (8, .ref (Rw r4)), (7, .ref (T k3)), (6, .ref (T k1)), (0, .ref x), (1, .int t), (2, .int i), (3, .int o), (4, .int j), (5, .int z)]) hx hb dX4_move_59 hl (by decide) rfl (fun ls hl => ?_)
            refine lv_iload hx hb dX4_move_61 (lv_at hl 0 rfl) ?_
            refine lv_if_eq (tgt := 73) hx hb dX4_move_63 (by decide) (fun c17 => absurd c17 (by decide)) (fun c17 => ?_)
            refine lv_aload_n hx hb dX4_move_66 rfl (lv_at hl 5 rfl) ?_
            refine lv_iload hx hb dX4_move_67 (lv_at hl 0 rfl) ?_
            refine g_Vi (n := 1) (rest := []) S G hl (c_X4_refuse l R (j := 5) (o := 5) rfl (by decide)) gX4_move_X4_refuse rfl (by decide +kernel) (Rc_x R) rfl rfl rfl (Nat.le_of_ble_eq_true rfl) ⟨Nat.le_of_ble_eq_true rfl, Nat.le_of_ble_eq_true rfl⟩ ⟨Nat.le_of_ble_eq_true rfl, Nat.le_of_ble_eq_true rfl⟩ dX4_move_69 ?_
            clear G; intro r_ w1 H locs hp G
            obtain ⟨hr_, R⟩ := hp
            subst r_
            rw [if_neg (show ¬ ((5 : Int32) = 7) by decide)] at R
            refine r_int S hret hlk G rfl (Nat.le_of_ble_eq_true rfl) (Nat.le_of_ble_eq_true rfl) dX4_move_72 ?_
            have yk1 := tin_e ek1 hk1 (show n ≤ 1000 by omega)
            have zk1 := cn_e ek1 (show k1 < 1000 by omega)
            have yk3 := tin_e ek3 hk3 (show n ≤ 1000 by omega)
            have zk3 := cn_e ek3 (show k3 < 1000 by omega)
            have qr4 := nm1 (show r4 < 100000 by omega)
            have qr8 := nm1 (show r8 < 100000 by omega)
            refine ⟨by simp only [S_move, yk1, zk1, yk3, zk3, er4, qr4, cn_nI (show r4 < 2 ^ 31 by omega), er8, qr8, cn_nI (show r8 < 2 ^ 31 by omega), ql, s_tell, ↓reduceIte, Bool.false_eq_true, true_or, or_true, or_self], ?_⟩
            simp only [S_move, yk1, zk1, yk3, zk3, er4, qr4, cn_nI (show r4 < 2 ^ 31 by omega), er8, qr8, cn_nI (show r8 < 2 ^ 31 by omega), ql, s_tell, ↓reduceIte, Bool.false_eq_true, true_or, or_true, or_self]
            exact ⟨_, _, _, _, _, _, _, _, _, _, R⟩
