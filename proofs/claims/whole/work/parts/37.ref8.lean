/-! THE REFERENCE: move -/
theorem w64 {x i z : Int32} (hi : ¬ i < 0) (hz : ¬ z < 0) (hx : ∃ q, q < 13 ∧ x = nI q) : (x.toInt64 < i.toInt64 + z.toInt64) ↔ cn x < cn i + cn z := by
  obtain ⟨a, ha, rfl⟩ := nI_of hi
  obtain ⟨b, hb, rfl⟩ := nI_of hz
  obtain ⟨q, hq, rfl⟩ := hx
  rw [cn_nI ha, cn_nI hb, cn_nI (by omega), nI_l ha, nI_l hb, nI_l (by omega), lN_add, pk_lLT (by omega) (by omega)]
theorem two_le {x : Int32} (h : ∃ s, s < 4 ∧ x = nI s) (h1 : 1 < x) : 2 ≤ x := by
  rcases (s23b h).mpr h1 with q | q <;> rw [q] <;> decide
set_option maxHeartbeats 4000000 in
set_option maxRecDepth 100000 in
theorem M_move (l : Launch) {E : EV} {w : wo} {m : Nat} {σ : ST} (X : RmX E w m σ) (K : Gd σ) (t : Int32) (i : Int32) (o : Int32) (j : Int32) (z : Int32) : ct_i l E yX5_move wsX5_move 3 0 0 [.ref m, .int t, .int i, .int o, .int j, .int z] w (fun r w' => r = (S_move t i o j z σ).1 ∧ RmX E w' m (S_move t i o j z σ).2) := by
  obtain ⟨aC, aV, aL, aH, aS, aZ, aI, aT, ⟨to, rs, nx⟩, R⟩ := X
  obtain ⟨n, cl, vs, lk, hd, nr, so, sz, it, oc, ow, bg, dp, td⟩ := σ
  have K9 := K
  obtain ⟨Kn, Kr, Kc, Kl, Kh, Ks, Kz, Ki⟩ := K9
  intro zz
  refine wo_body (Qc := fun A => va_Qi _ (wo_B E A) A) (ret := (some .int)) (by decide) rfl (Nat.le_of_ble_eq_true rfl) ?_
  intro p_ e_ s_ m_ args_ below_ meth_ code_ A_ ls S hret hlk hnm G hl
  have hl : lv_has ls 13 [(0, .ref m), (1, .int t), (2, .int i), (3, .int o), (4, .int j), (5, .int z)] := hl
  have hx := S.1
  have hb := S.2.1
  refine lv_aload_n hx hb dX5_move_0 rfl (lv_at hl 0 rfl) ?_
  refine lv_iload_n hx hb dX5_move_1 rfl (lv_at hl 1 rfl) ?_
  rcases tin_c n t (by omega) with ⟨tk1, ok1⟩ | ⟨k1, hk1, ek1⟩
  · skip
    refine g_Vi (n := 1) (rest := []) S G hl (c_X5_isThing l R Kn t) gX5_move_X5_isThing rfl (by decide +kernel) (Rm_m R) rfl rfl rfl (Nat.le_of_ble_eq_true rfl) ⟨Nat.le_of_ble_eq_true rfl, Nat.le_of_ble_eq_true rfl⟩ ⟨Nat.le_of_ble_eq_true rfl, Nat.le_of_ble_eq_true rfl⟩ dX5_move_2 ?_
    clear G; intro r_ w1 H locs hp G
    obtain ⟨rfl, hq_⟩ := hp
    rw [tk1] at hq_
    simp only [Bool.false_eq_true, ↓reduceIte] at hq_
    subst hq_
    refine lv_if_eq (tgt := 16) hx hb dX5_move_5 (by decide) (fun c2 => ?_) (fun c2 => absurd (by decide) c2)
    refine lv_ldc hx hb S.2.2.2.1 (S.2.2.2.2 (.constant RX5 48 (-2000000001)) (by decide +kernel)) dX5_move_16 ?_
    refine r_int S hret hlk G rfl (Nat.le_of_ble_eq_true rfl) (Nat.le_of_ble_eq_true rfl) dX5_move_18 ?_
    refine ⟨by simp only [S_move, tk1, s_tell, ↓reduceIte, Bool.false_eq_true, true_or, or_true, or_self, Int32.zero_mul], ?_⟩
    simp only [S_move, tk1, s_tell, ↓reduceIte, Bool.false_eq_true, true_or, or_true, or_self, Int32.zero_mul]
    exact ⟨_, _, _, _, _, _, _, _, _, R⟩
  · skip
    refine g_Vi (n := 1) (rest := []) S G hl (c_X5_isThing l R Kn t) gX5_move_X5_isThing rfl (by decide +kernel) (Rm_m R) rfl rfl rfl (Nat.le_of_ble_eq_true rfl) ⟨Nat.le_of_ble_eq_true rfl, Nat.le_of_ble_eq_true rfl⟩ ⟨Nat.le_of_ble_eq_true rfl, Nat.le_of_ble_eq_true rfl⟩ dX5_move_2 ?_
    clear G; intro r_ w1 H locs hp G
    obtain ⟨rfl, hq_⟩ := hp
    rw [if_pos (tin_e ek1 hk1 (by omega))] at hq_
    subst hq_
    refine lv_if_eq (tgt := 16) hx hb dX5_move_5 (by decide) (fun c3 => absurd c3 (by decide)) (fun c3 => ?_)
    refine lv_aload_n hx hb dX5_move_8 rfl (lv_at hl 0 rfl) ?_
    refine lv_iload_n hx hb dX5_move_9 rfl (lv_at hl 3 rfl) ?_
    rcases tin_c n o (by omega) with ⟨tk4, ok4⟩ | ⟨k4, hk4, ek4⟩
    · skip
      refine g_Vi (n := 1) (rest := []) S G hl (c_X5_isThing l R Kn o) gX5_move_X5_isThing rfl (by decide +kernel) (Rm_m R) rfl rfl rfl (Nat.le_of_ble_eq_true rfl) ⟨Nat.le_of_ble_eq_true rfl, Nat.le_of_ble_eq_true rfl⟩ ⟨Nat.le_of_ble_eq_true rfl, Nat.le_of_ble_eq_true rfl⟩ dX5_move_10 ?_
      clear G; intro r_ w1 H locs hp G
      obtain ⟨rfl, hq_⟩ := hp
      rw [tk4] at hq_
      simp only [Bool.false_eq_true, ↓reduceIte] at hq_
      subst hq_
      refine lv_if_ne (tgt := 19) hx hb dX5_move_13 (by decide) (fun c5 => absurd (by decide) c5) (fun c5 => ?_)
      refine lv_ldc hx hb S.2.2.2.1 (S.2.2.2.2 (.constant RX5 48 (-2000000001)) (by decide +kernel)) dX5_move_16 ?_
      refine r_int S hret hlk G rfl (Nat.le_of_ble_eq_true rfl) (Nat.le_of_ble_eq_true rfl) dX5_move_18 ?_
      have yk1 := tin_e ek1 hk1 (show n ≤ 1000 by omega)
      have zk1 := cn_e ek1 (show k1 < 1000 by omega)
      refine ⟨by simp only [S_move, yk1, zk1, tk4, s_tell, ↓reduceIte, Bool.false_eq_true, true_or, or_true, or_self, Int32.zero_mul], ?_⟩
      simp only [S_move, yk1, zk1, tk4, s_tell, ↓reduceIte, Bool.false_eq_true, true_or, or_true, or_self, Int32.zero_mul]
      exact ⟨_, _, _, _, _, _, _, _, _, R⟩
    · skip
      refine g_Vi (n := 1) (rest := []) S G hl (c_X5_isThing l R Kn o) gX5_move_X5_isThing rfl (by decide +kernel) (Rm_m R) rfl rfl rfl (Nat.le_of_ble_eq_true rfl) ⟨Nat.le_of_ble_eq_true rfl, Nat.le_of_ble_eq_true rfl⟩ ⟨Nat.le_of_ble_eq_true rfl, Nat.le_of_ble_eq_true rfl⟩ dX5_move_10 ?_
      clear G; intro r_ w1 H locs hp G
      obtain ⟨rfl, hq_⟩ := hp
      rw [if_pos (tin_e ek4 hk4 (by omega))] at hq_
      subst hq_
      refine lv_if_ne (tgt := 19) hx hb dX5_move_13 (by decide) (fun c6 => ?_) (fun c6 => absurd c6 (by decide))
      refine lv_aload_n hx hb dX5_move_19 rfl (lv_at hl 0 rfl) ?_
      refine g_get S G (Rm_m R) rfl (by decide +kernel) 4 (by decide) (by decide +kernel) rfl dX5_move_20 ?_
      refine lv_iload_n hx hb dX5_move_23 rfl (lv_at hl 1 rfl) ?_
      refine g_iald S G (Rm_H R) (vin_e ek1 (show k1 < 40 by omega) (by omega)) dX5_move_24 ?_
      rw [show Int32.toNatClampNeg t = k1 by rw [ek1]; exact nI_clamp (by omega)]
      rcases Kh k1 hk1 with er7 | ⟨r7, hr7, er7⟩
      · skip
        refine lv_istore (lv' := [(6, .int (hd k1)), (0, .ref m), (1, .int t), (2, .int i), (3, .int o), (4, .int j), (5, .int z)]) hx hb dX5_move_25 hl (by decide) rfl (fun ls hl => ?_)
        refine lv_aload_n hx hb dX5_move_27 rfl (lv_at hl 1 rfl) ?_
        refine g_get S G (Rm_m R) rfl (by decide +kernel) 4 (by decide) (by decide +kernel) rfl dX5_move_28 ?_
        refine lv_iload_n hx hb dX5_move_31 rfl (lv_at hl 4 rfl) ?_
        refine g_iald S G (Rm_H R) (vin_e ek4 (show k4 < 40 by omega) (by omega)) dX5_move_32 ?_
        rw [show Int32.toNatClampNeg o = k4 by rw [ek4]; exact nI_clamp (by omega)]
        rcases Kh k4 hk4 with er8 | ⟨r8, hr8, er8⟩
        · skip
          refine lv_istore (lv' := [(7, .int (hd k4)), (6, .int (hd k1)), (0, .ref m), (1, .int t), (2, .int i), (3, .int o), (4, .int j), (5, .int z)]) hx hb dX5_move_33 hl (by decide) rfl (fun ls hl => ?_)
          refine lv_iload hx hb dX5_move_35 (lv_at hl 1 rfl) ?_
          refine lv_iconst (v := (-1)) hx hb dX5_move_37 (by decide) ?_
          refine lv_icmp_eq (tgt := 47) hx hb dX5_move_38 (by decide) (fun c9 => ?_) (fun c9 => absurd er7 c9)
          refine lv_iconst (v := 0) hx hb dX5_move_47 (by decide) ?_
          refine lv_aload_n hx hb dX5_move_48 rfl (lv_at hl 2 rfl) ?_
          refine lv_iconst (v := 1) hx hb dX5_move_49 (by decide) ?_
          refine g_Vi (n := 1) (rest := [.int 0]) S G hl (c_X5_tell l R (j := 1) (o := 1) rfl (by decide)) gX5_move_X5_tell rfl (by decide +kernel) (Rm_m R) rfl rfl rfl (Nat.le_of_ble_eq_true rfl) ⟨Nat.le_of_ble_eq_true rfl, Nat.le_of_ble_eq_true rfl⟩ ⟨Nat.le_of_ble_eq_true rfl, Nat.le_of_ble_eq_true rfl⟩ dX5_move_50 ?_
          clear G; intro r_ w1 H locs hp G
          obtain ⟨hr_, R⟩ := hp
          subst r_
          refine lv_imul hx hb dX5_move_53 ?_
          refine lv_topi (fun a10 ea10 => ?_)
          have da10 : a10 = nI (0 * 1) := by rw [ea10]; exact pk_mul 0 1
          refine r_int S hret hlk G rfl (Nat.le_of_ble_eq_true rfl) (Nat.le_of_ble_eq_true rfl) dX5_move_54 ?_
          have yk1 := tin_e ek1 hk1 (show n ≤ 1000 by omega)
          have zk1 := cn_e ek1 (show k1 < 1000 by omega)
          have yk4 := tin_e ek4 hk4 (show n ≤ 1000 by omega)
          have zk4 := cn_e ek4 (show k4 < 1000 by omega)
          rw [ea10]
          refine ⟨by simp only [S_move, yk1, zk1, yk4, zk4, er7, er8, s_tell, ↓reduceIte, Bool.false_eq_true, true_or, or_true, or_self, Int32.zero_mul], ?_⟩
          simp only [S_move, yk1, zk1, yk4, zk4, er7, er8, s_tell, ↓reduceIte, Bool.false_eq_true, true_or, or_true, or_self, Int32.zero_mul]
          exact ⟨_, _, _, _, _, _, _, _, _, R⟩
        · skip
          have zr8 := sz_le (Kz r8 hr8)
          refine lv_istore (lv' := [(7, .int (hd k4)), (6, .int (hd k1)), (0, .ref m), (1, .int t), (2, .int i), (3, .int o), (4, .int j), (5, .int z)]) hx hb dX5_move_33 hl (by decide) rfl (fun ls hl => ?_)
          refine lv_iload hx hb dX5_move_35 (lv_at hl 1 rfl) ?_
          refine lv_iconst (v := (-1)) hx hb dX5_move_37 (by decide) ?_
          refine lv_icmp_eq (tgt := 47) hx hb dX5_move_38 (by decide) (fun c11 => ?_) (fun c11 => absurd er7 c11)
          refine lv_iconst (v := 0) hx hb dX5_move_47 (by decide) ?_
          refine lv_aload_n hx hb dX5_move_48 rfl (lv_at hl 2 rfl) ?_
          refine lv_iconst (v := 1) hx hb dX5_move_49 (by decide) ?_
          refine g_Vi (n := 1) (rest := [.int 0]) S G hl (c_X5_tell l R (j := 1) (o := 1) rfl (by decide)) gX5_move_X5_tell rfl (by decide +kernel) (Rm_m R) rfl rfl rfl (Nat.le_of_ble_eq_true rfl) ⟨Nat.le_of_ble_eq_true rfl, Nat.le_of_ble_eq_true rfl⟩ ⟨Nat.le_of_ble_eq_true rfl, Nat.le_of_ble_eq_true rfl⟩ dX5_move_50 ?_
          clear G; intro r_ w1 H locs hp G
          obtain ⟨hr_, R⟩ := hp
          subst r_
          refine lv_imul hx hb dX5_move_53 ?_
          refine lv_topi (fun a12 ea12 => ?_)
          have da12 : a12 = nI (0 * 1) := by rw [ea12]; exact pk_mul 0 1
          refine r_int S hret hlk G rfl (Nat.le_of_ble_eq_true rfl) (Nat.le_of_ble_eq_true rfl) dX5_move_54 ?_
          have yk1 := tin_e ek1 hk1 (show n ≤ 1000 by omega)
          have zk1 := cn_e ek1 (show k1 < 1000 by omega)
          have yk4 := tin_e ek4 hk4 (show n ≤ 1000 by omega)
          have zk4 := cn_e ek4 (show k4 < 1000 by omega)
          have qr8 := nm1 (show r8 < 100000 by omega)
          rw [ea12]
          refine ⟨by simp only [S_move, yk1, zk1, yk4, zk4, er7, er8, qr8, cn_nI (show r8 < 2 ^ 31 by omega), s_tell, ↓reduceIte, Bool.false_eq_true, true_or, or_true, or_self, Int32.zero_mul], ?_⟩
          simp only [S_move, yk1, zk1, yk4, zk4, er7, er8, qr8, cn_nI (show r8 < 2 ^ 31 by omega), s_tell, ↓reduceIte, Bool.false_eq_true, true_or, or_true, or_self, Int32.zero_mul]
          exact ⟨_, _, _, _, _, _, _, _, _, R⟩
      · skip
        have zr7 := sz_le (Kz r7 hr7)
        refine lv_istore (lv' := [(6, .int (hd k1)), (0, .ref m), (1, .int t), (2, .int i), (3, .int o), (4, .int j), (5, .int z)]) hx hb dX5_move_25 hl (by decide) rfl (fun ls hl => ?_)
        refine lv_aload_n hx hb dX5_move_27 rfl (lv_at hl 1 rfl) ?_
        refine g_get S G (Rm_m R) rfl (by decide +kernel) 4 (by decide) (by decide +kernel) rfl dX5_move_28 ?_
        refine lv_iload_n hx hb dX5_move_31 rfl (lv_at hl 4 rfl) ?_
        refine g_iald S G (Rm_H R) (vin_e ek4 (show k4 < 40 by omega) (by omega)) dX5_move_32 ?_
        rw [show Int32.toNatClampNeg o = k4 by rw [ek4]; exact nI_clamp (by omega)]
        rcases Kh k4 hk4 with er13 | ⟨r13, hr13, er13⟩
        · skip
          refine lv_istore (lv' := [(7, .int (hd k4)), (6, .int (hd k1)), (0, .ref m), (1, .int t), (2, .int i), (3, .int o), (4, .int j), (5, .int z)]) hx hb dX5_move_33 hl (by decide) rfl (fun ls hl => ?_)
          refine lv_iload hx hb dX5_move_35 (lv_at hl 1 rfl) ?_
          refine lv_iconst (v := (-1)) hx hb dX5_move_37 (by decide) ?_
          refine lv_icmp_eq (tgt := 47) hx hb dX5_move_38 (by decide) (fun c14 => absurd c14 (by rw [er7]; exact nm1 (by omega))) (fun c14 => ?_)
          refine lv_iload hx hb dX5_move_41 (lv_at hl 0 rfl) ?_
          refine lv_iconst (v := (-1)) hx hb dX5_move_43 (by decide) ?_
          refine lv_icmp_ne (tgt := 55) hx hb dX5_move_44 (by decide) (fun c15 => absurd er13 c15) (fun c15 => ?_)
          refine lv_iconst (v := 0) hx hb dX5_move_47 (by decide) ?_
          refine lv_aload_n hx hb dX5_move_48 rfl (lv_at hl 2 rfl) ?_
          refine lv_iconst (v := 1) hx hb dX5_move_49 (by decide) ?_
          refine g_Vi (n := 1) (rest := [.int 0]) S G hl (c_X5_tell l R (j := 1) (o := 1) rfl (by decide)) gX5_move_X5_tell rfl (by decide +kernel) (Rm_m R) rfl rfl rfl (Nat.le_of_ble_eq_true rfl) ⟨Nat.le_of_ble_eq_true rfl, Nat.le_of_ble_eq_true rfl⟩ ⟨Nat.le_of_ble_eq_true rfl, Nat.le_of_ble_eq_true rfl⟩ dX5_move_50 ?_
          clear G; intro r_ w1 H locs hp G
          obtain ⟨hr_, R⟩ := hp
          subst r_
          refine lv_imul hx hb dX5_move_53 ?_
          refine lv_topi (fun a16 ea16 => ?_)
          have da16 : a16 = nI (0 * 1) := by rw [ea16]; exact pk_mul 0 1
          refine r_int S hret hlk G rfl (Nat.le_of_ble_eq_true rfl) (Nat.le_of_ble_eq_true rfl) dX5_move_54 ?_
          have yk1 := tin_e ek1 hk1 (show n ≤ 1000 by omega)
          have zk1 := cn_e ek1 (show k1 < 1000 by omega)
          have yk4 := tin_e ek4 hk4 (show n ≤ 1000 by omega)
          have zk4 := cn_e ek4 (show k4 < 1000 by omega)
          have qr7 := nm1 (show r7 < 100000 by omega)
          rw [ea16]
          refine ⟨by simp only [S_move, yk1, zk1, yk4, zk4, er7, qr7, cn_nI (show r7 < 2 ^ 31 by omega), er13, s_tell, ↓reduceIte, Bool.false_eq_true, true_or, or_true, or_self, Int32.zero_mul], ?_⟩
          simp only [S_move, yk1, zk1, yk4, zk4, er7, qr7, cn_nI (show r7 < 2 ^ 31 by omega), er13, s_tell, ↓reduceIte, Bool.false_eq_true, true_or, or_true, or_self, Int32.zero_mul]
          exact ⟨_, _, _, _, _, _, _, _, _, R⟩
        · skip
          have zr13 := sz_le (Kz r13 hr13)
          refine lv_istore (lv' := [(7, .int (hd k4)), (6, .int (hd k1)), (0, .ref m), (1, .int t), (2, .int i), (3, .int o), (4, .int j), (5, .int z)]) hx hb dX5_move_33 hl (by decide) rfl (fun ls hl => ?_)
          refine lv_iload hx hb dX5_move_35 (lv_at hl 1 rfl) ?_
          refine lv_iconst (v := (-1)) hx hb dX5_move_37 (by decide) ?_
          refine lv_icmp_eq (tgt := 47) hx hb dX5_move_38 (by decide) (fun c17 => absurd c17 (by rw [er7]; exact nm1 (by omega))) (fun c17 => ?_)
          refine lv_iload hx hb dX5_move_41 (lv_at hl 0 rfl) ?_
          refine lv_iconst (v := (-1)) hx hb dX5_move_43 (by decide) ?_
          refine lv_icmp_ne (tgt := 55) hx hb dX5_move_44 (by decide) (fun c18 => ?_) (fun c18 => absurd c18 (by rw [er13]; exact nm1 (by omega)))
          refine lv_aload_n hx hb dX5_move_55 rfl (lv_at hl 2 rfl) ?_
          refine g_get S G (Rm_m R) rfl (by decide +kernel) 6 (by decide) (by decide +kernel) rfl dX5_move_56 ?_
          refine lv_iload hx hb dX5_move_59 (lv_at hl 1 rfl) ?_
          refine g_iald S G (Rm_S R) (vin_e er7 (show r7 < 520 by omega) (by omega)) dX5_move_61 ?_
          rw [show Int32.toNatClampNeg (hd k1) = r7 by rw [er7]; exact nI_clamp (by omega)]
          refine lv_aload_n hx hb dX5_move_62 rfl (lv_at hl 2 rfl) ?_
          refine g_get S G (Rm_m R) rfl (by decide +kernel) 6 (by decide) (by decide +kernel) rfl dX5_move_63 ?_
          refine lv_iload hx hb dX5_move_66 (lv_at hl 0 rfl) ?_
          refine g_iald S G (Rm_S R) (vin_e er13 (show r13 < 520 by omega) (by omega)) dX5_move_68 ?_
          rw [show Int32.toNatClampNeg (hd k4) = r13 by rw [er13]; exact nI_clamp (by omega)]
          refine lv_icmp_eq (tgt := 94) hx hb dX5_move_69 (by decide) (fun c19 => ?_) (fun c19 => ?_)
          · skip
            refine lv_iconst (v := 1) hx hb dX5_move_94 (by decide) ?_
            refine lv_goto (tgt := 99) hx hb dX5_move_95 (by decide) ?_
            refine lv_istore (lv' := [(8, .int 1), (7, .int (hd k4)), (6, .int (hd k1)), (0, .ref m), (1, .int t), (2, .int i), (3, .int o), (4, .int j), (5, .int z)]) hx hb dX5_move_99 hl (by decide) rfl (fun ls hl => ?_)
            refine lv_iload_n hx hb dX5_move_101 rfl (lv_at hl 5 rfl) ?_
            refine lv_if_lt (tgt := 156) hx hb dX5_move_102 (by decide) (fun c20 => ?_) (fun c20 => ?_)
            · skip
              refine lv_iconst (v := 0) hx hb dX5_move_156 (by decide) ?_
              refine lv_istore (lv' := [(9, .int 0), (8, .int 1), (7, .int (hd k4)), (6, .int (hd k1)), (0, .ref m), (1, .int t), (2, .int i), (3, .int o), (4, .int j), (5, .int z)]) hx hb dX5_move_157 hl (by decide) rfl (fun ls hl => ?_)
              refine lv_iload hx hb dX5_move_159 (lv_at hl 1 rfl) ?_
              refine lv_if_eq (tgt := 169) hx hb dX5_move_161 (by decide) (fun c21 => absurd c21 (by decide)) (fun c21 => ?_)
              refine lv_iload hx hb dX5_move_164 (lv_at hl 0 rfl) ?_
              refine lv_if_ne (tgt := 186) hx hb dX5_move_166 (by decide) (fun c22 => absurd (by decide) c22) (fun c22 => ?_)
              refine lv_iconst (v := 0) hx hb dX5_move_169 (by decide) ?_
              refine lv_aload_n hx hb dX5_move_170 rfl (lv_at hl 4 rfl) ?_
              refine lv_iload hx hb dX5_move_171 (lv_at hl 1 rfl) ?_
              refine lv_if_eq (tgt := 180) hx hb dX5_move_173 (by decide) (fun c23 => absurd c23 (by decide)) (fun c23 => ?_)
              refine lv_iconst (v := 3) hx hb dX5_move_176 (by decide) ?_
              refine lv_goto (tgt := 181) hx hb dX5_move_177 (by decide) ?_
              refine g_Vi (n := 1) (rest := [.int 0]) S G hl (c_X5_tell l R (j := 3) (o := 3) rfl (by decide)) gX5_move_X5_tell rfl (by decide +kernel) (Rm_m R) rfl rfl rfl (Nat.le_of_ble_eq_true rfl) ⟨Nat.le_of_ble_eq_true rfl, Nat.le_of_ble_eq_true rfl⟩ ⟨Nat.le_of_ble_eq_true rfl, Nat.le_of_ble_eq_true rfl⟩ dX5_move_181 ?_
              clear G; intro r_ w1 H locs hp G
              obtain ⟨hr_, R⟩ := hp
              subst r_
              refine lv_imul hx hb dX5_move_184 ?_
              refine lv_topi (fun a24 ea24 => ?_)
              have da24 : a24 = nI (0 * 3) := by rw [ea24]; exact pk_mul 0 3
              refine r_int S hret hlk G rfl (Nat.le_of_ble_eq_true rfl) (Nat.le_of_ble_eq_true rfl) dX5_move_185 ?_
              have yk1 := tin_e ek1 hk1 (show n ≤ 1000 by omega)
              have zk1 := cn_e ek1 (show k1 < 1000 by omega)
              have yk4 := tin_e ek4 hk4 (show n ≤ 1000 by omega)
              have zk4 := cn_e ek4 (show k4 < 1000 by omega)
              have qr7 := nm1 (show r7 < 100000 by omega)
              have qr13 := nm1 (show r13 < 100000 by omega)
              have ql : so r7 = so r13 ∨ (1 < so r7 ∧ 1 < so r13) := Or.inl c19
              have qw : ¬ (0 ≤ i ∧ 0 ≤ j ∧ 0 ≤ z ∧ cn i + cn z ≤ cn (sz r7) ∧ cn j + cn z ≤ cn (sz r13)) := fun y => Int32.not_lt.mpr y.1 c20
              rw [ea24]
              refine ⟨by simp only [S_move, yk1, zk1, yk4, zk4, er7, qr7, cn_nI (show r7 < 2 ^ 31 by omega), er13, qr13, cn_nI (show r13 < 2 ^ 31 by omega), ql, qw, s_tell, ↓reduceIte, Bool.false_eq_true, true_or, or_true, or_self, Int32.zero_mul], ?_⟩
              simp only [S_move, yk1, zk1, yk4, zk4, er7, qr7, cn_nI (show r7 < 2 ^ 31 by omega), er13, qr13, cn_nI (show r13 < 2 ^ 31 by omega), ql, qw, s_tell, ↓reduceIte, Bool.false_eq_true, true_or, or_true, or_self, Int32.zero_mul]
              exact ⟨_, _, _, _, _, _, _, _, _, R⟩
            · skip
              refine lv_iload hx hb dX5_move_105 (lv_at hl 7 rfl) ?_
              refine lv_if_lt (tgt := 156) hx hb dX5_move_107 (by decide) (fun c25 => ?_) (fun c25 => ?_)
              · skip
                refine lv_iconst (v := 0) hx hb dX5_move_156 (by decide) ?_
                refine lv_istore (lv' := [(9, .int 0), (8, .int 1), (7, .int (hd k4)), (6, .int (hd k1)), (0, .ref m), (1, .int t), (2, .int i), (3, .int o), (4, .int j), (5, .int z)]) hx hb dX5_move_157 hl (by decide) rfl (fun ls hl => ?_)
                refine lv_iload hx hb dX5_move_159 (lv_at hl 1 rfl) ?_
                refine lv_if_eq (tgt := 169) hx hb dX5_move_161 (by decide) (fun c26 => absurd c26 (by decide)) (fun c26 => ?_)
                refine lv_iload hx hb dX5_move_164 (lv_at hl 0 rfl) ?_
                refine lv_if_ne (tgt := 186) hx hb dX5_move_166 (by decide) (fun c27 => absurd (by decide) c27) (fun c27 => ?_)
                refine lv_iconst (v := 0) hx hb dX5_move_169 (by decide) ?_
                refine lv_aload_n hx hb dX5_move_170 rfl (lv_at hl 4 rfl) ?_
                refine lv_iload hx hb dX5_move_171 (lv_at hl 1 rfl) ?_
                refine lv_if_eq (tgt := 180) hx hb dX5_move_173 (by decide) (fun c28 => absurd c28 (by decide)) (fun c28 => ?_)
                refine lv_iconst (v := 3) hx hb dX5_move_176 (by decide) ?_
                refine lv_goto (tgt := 181) hx hb dX5_move_177 (by decide) ?_
                refine g_Vi (n := 1) (rest := [.int 0]) S G hl (c_X5_tell l R (j := 3) (o := 3) rfl (by decide)) gX5_move_X5_tell rfl (by decide +kernel) (Rm_m R) rfl rfl rfl (Nat.le_of_ble_eq_true rfl) ⟨Nat.le_of_ble_eq_true rfl, Nat.le_of_ble_eq_true rfl⟩ ⟨Nat.le_of_ble_eq_true rfl, Nat.le_of_ble_eq_true rfl⟩ dX5_move_181 ?_
                clear G; intro r_ w1 H locs hp G
                obtain ⟨hr_, R⟩ := hp
                subst r_
                refine lv_imul hx hb dX5_move_184 ?_
                refine lv_topi (fun a29 ea29 => ?_)
                have da29 : a29 = nI (0 * 3) := by rw [ea29]; exact pk_mul 0 3
                refine r_int S hret hlk G rfl (Nat.le_of_ble_eq_true rfl) (Nat.le_of_ble_eq_true rfl) dX5_move_185 ?_
                have yk1 := tin_e ek1 hk1 (show n ≤ 1000 by omega)
                have zk1 := cn_e ek1 (show k1 < 1000 by omega)
                have yk4 := tin_e ek4 hk4 (show n ≤ 1000 by omega)
                have zk4 := cn_e ek4 (show k4 < 1000 by omega)
                have qr7 := nm1 (show r7 < 100000 by omega)
                have qr13 := nm1 (show r13 < 100000 by omega)
                have ql : so r7 = so r13 ∨ (1 < so r7 ∧ 1 < so r13) := Or.inl c19
                have qw : ¬ (0 ≤ i ∧ 0 ≤ j ∧ 0 ≤ z ∧ cn i + cn z ≤ cn (sz r7) ∧ cn j + cn z ≤ cn (sz r13)) := fun y => Int32.not_lt.mpr y.2.1 c25
                rw [ea29]
                refine ⟨by simp only [S_move, yk1, zk1, yk4, zk4, er7, qr7, cn_nI (show r7 < 2 ^ 31 by omega), er13, qr13, cn_nI (show r13 < 2 ^ 31 by omega), ql, qw, s_tell, ↓reduceIte, Bool.false_eq_true, true_or, or_true, or_self, Int32.zero_mul], ?_⟩
                simp only [S_move, yk1, zk1, yk4, zk4, er7, qr7, cn_nI (show r7 < 2 ^ 31 by omega), er13, qr13, cn_nI (show r13 < 2 ^ 31 by omega), ql, qw, s_tell, ↓reduceIte, Bool.false_eq_true, true_or, or_true, or_self, Int32.zero_mul]
                exact ⟨_, _, _, _, _, _, _, _, _, R⟩
              · skip
                refine lv_iload hx hb dX5_move_110 (lv_at hl 8 rfl) ?_
                refine lv_if_lt (tgt := 156) hx hb dX5_move_112 (by decide) (fun c30 => ?_) (fun c30 => ?_)
                · skip
                  refine lv_iconst (v := 0) hx hb dX5_move_156 (by decide) ?_
                  refine lv_istore (lv' := [(9, .int 0), (8, .int 1), (7, .int (hd k4)), (6, .int (hd k1)), (0, .ref m), (1, .int t), (2, .int i), (3, .int o), (4, .int j), (5, .int z)]) hx hb dX5_move_157 hl (by decide) rfl (fun ls hl => ?_)
                  refine lv_iload hx hb dX5_move_159 (lv_at hl 1 rfl) ?_
                  refine lv_if_eq (tgt := 169) hx hb dX5_move_161 (by decide) (fun c31 => absurd c31 (by decide)) (fun c31 => ?_)
                  refine lv_iload hx hb dX5_move_164 (lv_at hl 0 rfl) ?_
                  refine lv_if_ne (tgt := 186) hx hb dX5_move_166 (by decide) (fun c32 => absurd (by decide) c32) (fun c32 => ?_)
                  refine lv_iconst (v := 0) hx hb dX5_move_169 (by decide) ?_
                  refine lv_aload_n hx hb dX5_move_170 rfl (lv_at hl 4 rfl) ?_
                  refine lv_iload hx hb dX5_move_171 (lv_at hl 1 rfl) ?_
                  refine lv_if_eq (tgt := 180) hx hb dX5_move_173 (by decide) (fun c33 => absurd c33 (by decide)) (fun c33 => ?_)
                  refine lv_iconst (v := 3) hx hb dX5_move_176 (by decide) ?_
                  refine lv_goto (tgt := 181) hx hb dX5_move_177 (by decide) ?_
                  refine g_Vi (n := 1) (rest := [.int 0]) S G hl (c_X5_tell l R (j := 3) (o := 3) rfl (by decide)) gX5_move_X5_tell rfl (by decide +kernel) (Rm_m R) rfl rfl rfl (Nat.le_of_ble_eq_true rfl) ⟨Nat.le_of_ble_eq_true rfl, Nat.le_of_ble_eq_true rfl⟩ ⟨Nat.le_of_ble_eq_true rfl, Nat.le_of_ble_eq_true rfl⟩ dX5_move_181 ?_
                  clear G; intro r_ w1 H locs hp G
                  obtain ⟨hr_, R⟩ := hp
                  subst r_
                  refine lv_imul hx hb dX5_move_184 ?_
                  refine lv_topi (fun a34 ea34 => ?_)
                  have da34 : a34 = nI (0 * 3) := by rw [ea34]; exact pk_mul 0 3
                  refine r_int S hret hlk G rfl (Nat.le_of_ble_eq_true rfl) (Nat.le_of_ble_eq_true rfl) dX5_move_185 ?_
                  have yk1 := tin_e ek1 hk1 (show n ≤ 1000 by omega)
                  have zk1 := cn_e ek1 (show k1 < 1000 by omega)
                  have yk4 := tin_e ek4 hk4 (show n ≤ 1000 by omega)
                  have zk4 := cn_e ek4 (show k4 < 1000 by omega)
                  have qr7 := nm1 (show r7 < 100000 by omega)
                  have qr13 := nm1 (show r13 < 100000 by omega)
                  have ql : so r7 = so r13 ∨ (1 < so r7 ∧ 1 < so r13) := Or.inl c19
                  have qw : ¬ (0 ≤ i ∧ 0 ≤ j ∧ 0 ≤ z ∧ cn i + cn z ≤ cn (sz r7) ∧ cn j + cn z ≤ cn (sz r13)) := fun y => Int32.not_lt.mpr y.2.2.1 c30
                  rw [ea34]
                  refine ⟨by simp only [S_move, yk1, zk1, yk4, zk4, er7, qr7, cn_nI (show r7 < 2 ^ 31 by omega), er13, qr13, cn_nI (show r13 < 2 ^ 31 by omega), ql, qw, s_tell, ↓reduceIte, Bool.false_eq_true, true_or, or_true, or_self, Int32.zero_mul], ?_⟩
                  simp only [S_move, yk1, zk1, yk4, zk4, er7, qr7, cn_nI (show r7 < 2 ^ 31 by omega), er13, qr13, cn_nI (show r13 < 2 ^ 31 by omega), ql, qw, s_tell, ↓reduceIte, Bool.false_eq_true, true_or, or_true, or_self, Int32.zero_mul]
                  exact ⟨_, _, _, _, _, _, _, _, _, R⟩
                · skip
                  refine lv_iload_n hx hb dX5_move_115 rfl (lv_at hl 5 rfl) ?_
                  refine lv_i2l (v := (Int32.toInt64 i)) hx hb dX5_move_116 rfl ?_
                  refine lv_iload hx hb dX5_move_117 (lv_at hl 8 rfl) ?_
                  refine lv_i2l (v := (Int32.toInt64 z)) hx hb dX5_move_119 rfl ?_
                  refine lv_ladd hx hb dX5_move_120 ?_
                  refine lv_topl (fun a35 ea35 => ?_)
                  refine lv_aload_n hx hb dX5_move_121 rfl (lv_at hl 3 rfl) ?_
                  refine g_get S G (Rm_m R) rfl (by decide +kernel) 7 (by decide) (by decide +kernel) rfl dX5_move_122 ?_
                  refine lv_iload hx hb dX5_move_125 (lv_at hl 2 rfl) ?_
                  refine g_iald S G (Rm_Z R) (vin_e er7 (show r7 < 520 by omega) (by omega)) dX5_move_127 ?_
                  rw [show Int32.toNatClampNeg (hd k1) = r7 by rw [er7]; exact nI_clamp (by omega)]
                  refine lv_i2l (v := (Int32.toInt64 (sz r7))) hx hb dX5_move_128 rfl ?_
                  refine W.lcmp hx hb dX5_move_129 ?_
                  refine lv_if_gt (tgt := 156) hx hb dX5_move_130 (by decide) (fun c36 => ?_) (fun c36 => ?_)
                  · skip
                    refine lv_iconst (v := 0) hx hb dX5_move_156 (by decide) ?_
                    refine lv_istore (lv' := [(9, .int 0), (8, .int 1), (7, .int (hd k4)), (6, .int (hd k1)), (0, .ref m), (1, .int t), (2, .int i), (3, .int o), (4, .int j), (5, .int z)]) hx hb dX5_move_157 hl (by decide) rfl (fun ls hl => ?_)
                    refine lv_iload hx hb dX5_move_159 (lv_at hl 1 rfl) ?_
                    refine lv_if_eq (tgt := 169) hx hb dX5_move_161 (by decide) (fun c37 => absurd c37 (by decide)) (fun c37 => ?_)
                    refine lv_iload hx hb dX5_move_164 (lv_at hl 0 rfl) ?_
                    refine lv_if_ne (tgt := 186) hx hb dX5_move_166 (by decide) (fun c38 => absurd (by decide) c38) (fun c38 => ?_)
                    refine lv_iconst (v := 0) hx hb dX5_move_169 (by decide) ?_
                    refine lv_aload_n hx hb dX5_move_170 rfl (lv_at hl 4 rfl) ?_
                    refine lv_iload hx hb dX5_move_171 (lv_at hl 1 rfl) ?_
                    refine lv_if_eq (tgt := 180) hx hb dX5_move_173 (by decide) (fun c39 => absurd c39 (by decide)) (fun c39 => ?_)
                    refine lv_iconst (v := 3) hx hb dX5_move_176 (by decide) ?_
                    refine lv_goto (tgt := 181) hx hb dX5_move_177 (by decide) ?_
                    refine g_Vi (n := 1) (rest := [.int 0]) S G hl (c_X5_tell l R (j := 3) (o := 3) rfl (by decide)) gX5_move_X5_tell rfl (by decide +kernel) (Rm_m R) rfl rfl rfl (Nat.le_of_ble_eq_true rfl) ⟨Nat.le_of_ble_eq_true rfl, Nat.le_of_ble_eq_true rfl⟩ ⟨Nat.le_of_ble_eq_true rfl, Nat.le_of_ble_eq_true rfl⟩ dX5_move_181 ?_
                    clear G; intro r_ w1 H locs hp G
                    obtain ⟨hr_, R⟩ := hp
                    subst r_
                    refine lv_imul hx hb dX5_move_184 ?_
                    refine lv_topi (fun a40 ea40 => ?_)
                    have da40 : a40 = nI (0 * 3) := by rw [ea40]; exact pk_mul 0 3
                    refine r_int S hret hlk G rfl (Nat.le_of_ble_eq_true rfl) (Nat.le_of_ble_eq_true rfl) dX5_move_185 ?_
                    have yk1 := tin_e ek1 hk1 (show n ≤ 1000 by omega)
                    have zk1 := cn_e ek1 (show k1 < 1000 by omega)
                    have yk4 := tin_e ek4 hk4 (show n ≤ 1000 by omega)
                    have zk4 := cn_e ek4 (show k4 < 1000 by omega)
                    have qr7 := nm1 (show r7 < 100000 by omega)
                    have qr13 := nm1 (show r13 < 100000 by omega)
                    have ql : so r7 = so r13 ∨ (1 < so r7 ∧ 1 < so r13) := Or.inl c19
                    have qw : ¬ (0 ≤ i ∧ 0 ≤ j ∧ 0 ≤ z ∧ cn i + cn z ≤ cn (sz r7) ∧ cn j + cn z ≤ cn (sz r13)) := fun y => by
                      have q1 := (lg_cmp_gt _ _).mp c36
                      rw [ea35] at q1
                      have q2 := (w64 c20 c30 (Kz r7 hr7)).mp q1
                      have q3 := y.2.2.2.1
                      omega
                    rw [ea40]
                    refine ⟨by simp only [S_move, yk1, zk1, yk4, zk4, er7, qr7, cn_nI (show r7 < 2 ^ 31 by omega), er13, qr13, cn_nI (show r13 < 2 ^ 31 by omega), ql, qw, s_tell, ↓reduceIte, Bool.false_eq_true, true_or, or_true, or_self, Int32.zero_mul], ?_⟩
                    simp only [S_move, yk1, zk1, yk4, zk4, er7, qr7, cn_nI (show r7 < 2 ^ 31 by omega), er13, qr13, cn_nI (show r13 < 2 ^ 31 by omega), ql, qw, s_tell, ↓reduceIte, Bool.false_eq_true, true_or, or_true, or_self, Int32.zero_mul]
                    exact ⟨_, _, _, _, _, _, _, _, _, R⟩
                  · skip
                    refine lv_iload hx hb dX5_move_133 (lv_at hl 7 rfl) ?_
                    refine lv_i2l (v := (Int32.toInt64 j)) hx hb dX5_move_135 rfl ?_
                    refine lv_iload hx hb dX5_move_136 (lv_at hl 8 rfl) ?_
                    refine lv_i2l (v := (Int32.toInt64 z)) hx hb dX5_move_138 rfl ?_
                    refine lv_ladd hx hb dX5_move_139 ?_
                    refine lv_topl (fun a41 ea41 => ?_)
                    refine lv_aload_n hx hb dX5_move_140 rfl (lv_at hl 3 rfl) ?_
                    refine g_get S G (Rm_m R) rfl (by decide +kernel) 7 (by decide) (by decide +kernel) rfl dX5_move_141 ?_
                    refine lv_iload hx hb dX5_move_144 (lv_at hl 1 rfl) ?_
                    refine g_iald S G (Rm_Z R) (vin_e er13 (show r13 < 520 by omega) (by omega)) dX5_move_146 ?_
                    rw [show Int32.toNatClampNeg (hd k4) = r13 by rw [er13]; exact nI_clamp (by omega)]
                    refine lv_i2l (v := (Int32.toInt64 (sz r13))) hx hb dX5_move_147 rfl ?_
                    refine W.lcmp hx hb dX5_move_148 ?_
                    refine lv_if_gt (tgt := 156) hx hb dX5_move_149 (by decide) (fun c42 => ?_) (fun c42 => ?_)
                    · skip
                      refine lv_iconst (v := 0) hx hb dX5_move_156 (by decide) ?_
                      refine lv_istore (lv' := [(9, .int 0), (8, .int 1), (7, .int (hd k4)), (6, .int (hd k1)), (0, .ref m), (1, .int t), (2, .int i), (3, .int o), (4, .int j), (5, .int z)]) hx hb dX5_move_157 hl (by decide) rfl (fun ls hl => ?_)
                      refine lv_iload hx hb dX5_move_159 (lv_at hl 1 rfl) ?_
                      refine lv_if_eq (tgt := 169) hx hb dX5_move_161 (by decide) (fun c43 => absurd c43 (by decide)) (fun c43 => ?_)
                      refine lv_iload hx hb dX5_move_164 (lv_at hl 0 rfl) ?_
                      refine lv_if_ne (tgt := 186) hx hb dX5_move_166 (by decide) (fun c44 => absurd (by decide) c44) (fun c44 => ?_)
                      refine lv_iconst (v := 0) hx hb dX5_move_169 (by decide) ?_
                      refine lv_aload_n hx hb dX5_move_170 rfl (lv_at hl 4 rfl) ?_
                      refine lv_iload hx hb dX5_move_171 (lv_at hl 1 rfl) ?_
                      refine lv_if_eq (tgt := 180) hx hb dX5_move_173 (by decide) (fun c45 => absurd c45 (by decide)) (fun c45 => ?_)
                      refine lv_iconst (v := 3) hx hb dX5_move_176 (by decide) ?_
                      refine lv_goto (tgt := 181) hx hb dX5_move_177 (by decide) ?_
                      refine g_Vi (n := 1) (rest := [.int 0]) S G hl (c_X5_tell l R (j := 3) (o := 3) rfl (by decide)) gX5_move_X5_tell rfl (by decide +kernel) (Rm_m R) rfl rfl rfl (Nat.le_of_ble_eq_true rfl) ⟨Nat.le_of_ble_eq_true rfl, Nat.le_of_ble_eq_true rfl⟩ ⟨Nat.le_of_ble_eq_true rfl, Nat.le_of_ble_eq_true rfl⟩ dX5_move_181 ?_
                      clear G; intro r_ w1 H locs hp G
                      obtain ⟨hr_, R⟩ := hp
                      subst r_
                      refine lv_imul hx hb dX5_move_184 ?_
                      refine lv_topi (fun a46 ea46 => ?_)
                      have da46 : a46 = nI (0 * 3) := by rw [ea46]; exact pk_mul 0 3
                      refine r_int S hret hlk G rfl (Nat.le_of_ble_eq_true rfl) (Nat.le_of_ble_eq_true rfl) dX5_move_185 ?_
                      have yk1 := tin_e ek1 hk1 (show n ≤ 1000 by omega)
                      have zk1 := cn_e ek1 (show k1 < 1000 by omega)
                      have yk4 := tin_e ek4 hk4 (show n ≤ 1000 by omega)
                      have zk4 := cn_e ek4 (show k4 < 1000 by omega)
                      have qr7 := nm1 (show r7 < 100000 by omega)
                      have qr13 := nm1 (show r13 < 100000 by omega)
                      have ql : so r7 = so r13 ∨ (1 < so r7 ∧ 1 < so r13) := Or.inl c19
                      have wx0 : cn i + cn z ≤ cn (sz r7) := Nat.not_lt.mp (fun y => c36 ((lg_cmp_gt _ _).mpr (by rw [ea35]; exact (w64 c20 c30 (Kz r7 hr7)).mpr y)))
                      have qw : ¬ (0 ≤ i ∧ 0 ≤ j ∧ 0 ≤ z ∧ cn i + cn z ≤ cn (sz r7) ∧ cn j + cn z ≤ cn (sz r13)) := fun y => by
                        have q1 := (lg_cmp_gt _ _).mp c42
                        rw [ea41] at q1
                        have q2 := (w64 c25 c30 (Kz r13 hr13)).mp q1
                        have q3 := y.2.2.2.2
                        omega
                      rw [ea46]
                      refine ⟨by simp only [S_move, yk1, zk1, yk4, zk4, er7, qr7, cn_nI (show r7 < 2 ^ 31 by omega), er13, qr13, cn_nI (show r13 < 2 ^ 31 by omega), ql, qw, s_tell, ↓reduceIte, Bool.false_eq_true, true_or, or_true, or_self, Int32.zero_mul], ?_⟩
                      simp only [S_move, yk1, zk1, yk4, zk4, er7, qr7, cn_nI (show r7 < 2 ^ 31 by omega), er13, qr13, cn_nI (show r13 < 2 ^ 31 by omega), ql, qw, s_tell, ↓reduceIte, Bool.false_eq_true, true_or, or_true, or_self, Int32.zero_mul]
                      exact ⟨_, _, _, _, _, _, _, _, _, R⟩
                    · skip
                      refine lv_iconst (v := 1) hx hb dX5_move_152 (by decide) ?_
                      refine lv_goto (tgt := 157) hx hb dX5_move_153 (by decide) ?_
                      refine lv_istore (lv' := [(9, .int 1), (8, .int 1), (7, .int (hd k4)), (6, .int (hd k1)), (0, .ref m), (1, .int t), (2, .int i), (3, .int o), (4, .int j), (5, .int z)]) hx hb dX5_move_157 hl (by decide) rfl (fun ls hl => ?_)
                      refine lv_iload hx hb dX5_move_159 (lv_at hl 1 rfl) ?_
                      refine lv_if_eq (tgt := 169) hx hb dX5_move_161 (by decide) (fun c47 => absurd c47 (by decide)) (fun c47 => ?_)
                      refine lv_iload hx hb dX5_move_164 (lv_at hl 0 rfl) ?_
                      refine lv_if_ne (tgt := 186) hx hb dX5_move_166 (by decide) (fun c48 => ?_) (fun c48 => absurd c48 (by decide))
                      refine lv_aload_n hx hb dX5_move_186 rfl (lv_at hl 4 rfl) ?_
                      refine lv_iload hx hb dX5_move_187 (lv_at hl 3 rfl) ?_
                      refine lv_iload_n hx hb dX5_move_189 rfl (lv_at hl 6 rfl) ?_
                      refine lv_iload hx hb dX5_move_190 (lv_at hl 2 rfl) ?_
                      refine lv_iload hx hb dX5_move_192 (lv_at hl 9 rfl) ?_
                      have ql : so r7 = so r13 ∨ (1 < so r7 ∧ 1 < so r13) := Or.inl c19
                      have wx0 : cn i + cn z ≤ cn (sz r7) := Nat.not_lt.mp (fun y => c36 ((lg_cmp_gt _ _).mpr (by rw [ea35]; exact (w64 c20 c30 (Kz r7 hr7)).mpr y)))
                      have wx1 : cn j + cn z ≤ cn (sz r13) := Nat.not_lt.mp (fun y => c42 ((lg_cmp_gt _ _).mpr (by rw [ea41]; exact (w64 c25 c30 (Kz r13 hr13)).mpr y)))
                      have qw : 0 ≤ i ∧ 0 ≤ j ∧ 0 ≤ z ∧ cn i + cn z ≤ cn (sz r7) ∧ cn j + cn z ≤ cn (sz r13) := ⟨Int32.not_lt.mp c20, Int32.not_lt.mp c25, Int32.not_lt.mp c30, wx0, wx1⟩
                      have hs9 : so r13 = 3 → 2 ≤ so r7 := fun y => ql.elim (fun q => by rw [q, y]; decide) (fun q => two_le (Ks r7 hr7) q.1)
                      refine g_Vi (n := 4) (rest := []) S G hl (c_X5_going l R K hr7 hr13 qw.2.2.2.1 er7 er13 (nI_cn qw.1) (nI_cn qw.2.2.1) hs9) gX5_move_X5_going rfl (by decide +kernel) (Rm_m R) rfl rfl rfl (Nat.le_of_ble_eq_true rfl) ⟨Nat.le_of_ble_eq_true rfl, Nat.le_of_ble_eq_true rfl⟩ ⟨Nat.le_of_ble_eq_true rfl, Nat.le_of_ble_eq_true rfl⟩ dX5_move_194 ?_
                      clear G; intro r_ w1 H locs hp G
                      obtain ⟨rfl, rfl⟩ := hp
                      have gz : (if so r13 = 3 then gon cl it (12 * r7 + cn i) (cn z) else cn z) ≤ cn z := by split; exact gon_le _ _; exact Nat.le_refl _
                      generalize hg : (if so r13 = 3 then gon cl it (12 * r7 + cn i) (cn z) else cn z) = g at gz ⊢
                      refine lv_istore (lv' := [(10, .int (nI g)), (9, .int 1), (8, .int 1), (7, .int (hd k4)), (6, .int (hd k1)), (0, .ref m), (1, .int t), (2, .int i), (3, .int o), (4, .int j), (5, .int z)]) hx hb dX5_move_197 hl (by decide) rfl (fun ls hl => ?_)
                      refine lv_iconst (v := 0) hx hb dX5_move_199 (by decide) ?_
                      refine lv_istore (lv' := [(11, .int 0), (10, .int (nI g)), (9, .int 1), (8, .int 1), (7, .int (hd k4)), (6, .int (hd k1)), (0, .ref m), (1, .int t), (2, .int i), (3, .int o), (4, .int j), (5, .int z)]) hx hb dX5_move_200 hl (by decide) rfl (fun ls hl => ?_)
                      have s1 := sz_le (Kz r7 hr7)
                      have s2 := sz_le (Kz r13 hr13)
                      have w4 := qw.2.2.2.1
                      have w5 := qw.2.2.2.2
                      by_cases hm : (hd k1) = (hd k4) ∧ i < j
                      · skip
                        rw [← bcp_0 (it := it) (s := 12 * r7 + cn i) (d := 12 * r13 + cn j) (g := g)] at R
                        refine lp_copyB S (r := r7) (r2 := r13) (a := cn i) (b := cn j) (g := g) (by omega) (by omega) (by omega) (by omega) er7 er13 (nI_cn qw.1) (nI_cn qw.2.1) rfl hm (fun ls w H locs R G hl => ?_) g 0 0 (by omega) rfl _ _ _ R G ls (lv_sub hl [6, 8, 10, 11, 5, 4, 1, 0] rfl)
                        refine lv_aload_n hx hb dX5_move_273 rfl (lv_at hl 0 rfl) ?_
                        refine lv_iload hx hb dX5_move_274 (lv_at hl 2 rfl) ?_
                        refine lv_iload hx hb dX5_move_276 (lv_at hl 1 rfl) ?_
                        refine lv_icmp_ne (tgt := 285) hx hb dX5_move_278 (by decide) (fun c49 => ?_) (fun c49 => ?_)
                        · skip
                          refine lv_iconst (v := 5) hx hb dX5_move_285 (by decide) ?_
                          refine g_Vi (n := 1) (rest := []) S G hl (c_X5_tell l R (j := 5) (o := 5) rfl (by decide)) gX5_move_X5_tell rfl (by decide +kernel) (Rm_m R) rfl rfl rfl (Nat.le_of_ble_eq_true rfl) ⟨Nat.le_of_ble_eq_true rfl, Nat.le_of_ble_eq_true rfl⟩ ⟨Nat.le_of_ble_eq_true rfl, Nat.le_of_ble_eq_true rfl⟩ dX5_move_286 ?_
                          clear G; intro r_ w1 H locs hp G
                          obtain ⟨hr_, R⟩ := hp
                          subst r_
                          refine lv_if_ne (tgt := 297) hx hb dX5_move_289 (by decide) (fun c50 => ?_) (fun c50 => absurd c50 (by decide))
                          refine lv_iconst (v := 0) hx hb dX5_move_297 (by decide) ?_
                          refine r_int S hret hlk G rfl (Nat.le_of_ble_eq_true rfl) (Nat.le_of_ble_eq_true rfl) dX5_move_298 ?_
                          have yk1 := tin_e ek1 hk1 (show n ≤ 1000 by omega)
                          have zk1 := cn_e ek1 (show k1 < 1000 by omega)
                          have yk4 := tin_e ek4 hk4 (show n ≤ 1000 by omega)
                          have zk4 := cn_e ek4 (show k4 < 1000 by omega)
                          have qr7 := nm1 (show r7 < 100000 by omega)
                          have qr13 := nm1 (show r13 < 100000 by omega)
                          have d9 : ¬ g = cn z := fun y => c49 (by rw [y]; exact (nI_cn qw.2.2.1).symm)
                          refine ⟨by simp only [S_move, yk1, zk1, yk4, zk4, er7, qr7, cn_nI (show r7 < 2 ^ 31 by omega), er13, qr13, cn_nI (show r13 < 2 ^ 31 by omega), hg, if_pos ql, if_pos qw, d9, s_tell, ↓reduceIte, Bool.false_eq_true, true_or, or_true, or_self, Int32.zero_mul], ?_⟩
                          simp only [S_move, yk1, zk1, yk4, zk4, er7, qr7, cn_nI (show r7 < 2 ^ 31 by omega), er13, qr13, cn_nI (show r13 < 2 ^ 31 by omega), hg, if_pos ql, if_pos qw, d9, s_tell, ↓reduceIte, Bool.false_eq_true, true_or, or_true, or_self, Int32.zero_mul]
                          exact ⟨_, _, _, _, _, _, _, _, _, R⟩
                        · skip
                          refine lv_iconst (v := 0) hx hb dX5_move_281 (by decide) ?_
                          refine lv_goto (tgt := 286) hx hb dX5_move_282 (by decide) ?_
                          refine g_Vi (n := 1) (rest := []) S G hl (c_X5_tell l R (j := 0) (o := 0) rfl (by decide)) gX5_move_X5_tell rfl (by decide +kernel) (Rm_m R) rfl rfl rfl (Nat.le_of_ble_eq_true rfl) ⟨Nat.le_of_ble_eq_true rfl, Nat.le_of_ble_eq_true rfl⟩ ⟨Nat.le_of_ble_eq_true rfl, Nat.le_of_ble_eq_true rfl⟩ dX5_move_286 ?_
                          clear G; intro r_ w1 H locs hp G
                          obtain ⟨hr_, R⟩ := hp
                          subst r_
                          refine lv_if_ne (tgt := 297) hx hb dX5_move_289 (by decide) (fun c51 => absurd (by decide) c51) (fun c51 => ?_)
                          refine lv_iload hx hb dX5_move_292 (lv_at hl 1 rfl) ?_
                          refine lv_goto (tgt := 298) hx hb dX5_move_294 (by decide) ?_
                          refine r_int S hret hlk G rfl (Nat.le_of_ble_eq_true rfl) (Nat.le_of_ble_eq_true rfl) dX5_move_298 ?_
                          have yk1 := tin_e ek1 hk1 (show n ≤ 1000 by omega)
                          have zk1 := cn_e ek1 (show k1 < 1000 by omega)
                          have yk4 := tin_e ek4 hk4 (show n ≤ 1000 by omega)
                          have zk4 := cn_e ek4 (show k4 < 1000 by omega)
                          have qr7 := nm1 (show r7 < 100000 by omega)
                          have qr13 := nm1 (show r13 < 100000 by omega)
                          have d9 : g = cn z := by
                            have y1 := c49
                            rw [nI_cn qw.2.2.1] at y1
                            exact (nI_eq (by have := cn_lt z; omega) (cn_lt z)).mp y1
                          rw [d9] at R hg
                          refine ⟨by simp only [S_move, yk1, zk1, yk4, zk4, er7, qr7, cn_nI (show r7 < 2 ^ 31 by omega), er13, qr13, cn_nI (show r13 < 2 ^ 31 by omega), hg, if_pos ql, if_pos qw, s_tell, ↓reduceIte, Bool.false_eq_true, true_or, or_true, or_self, Int32.zero_mul], ?_⟩
                          simp only [S_move, yk1, zk1, yk4, zk4, er7, qr7, cn_nI (show r7 < 2 ^ 31 by omega), er13, qr13, cn_nI (show r13 < 2 ^ 31 by omega), hg, if_pos ql, if_pos qw, s_tell, ↓reduceIte, Bool.false_eq_true, true_or, or_true, or_self, Int32.zero_mul]
                          exact ⟨_, _, _, _, _, _, _, _, _, R⟩
                      · skip
                        rw [← cpy_0 (it := it) (s := 12 * r7 + cn i) (d := 12 * r13 + cn j)] at R
                        refine lp_copyF S (r := r7) (r2 := r13) (a := cn i) (b := cn j) (g := g) (by omega) (by omega) (by omega) (by omega) er7 er13 (nI_cn qw.1) (nI_cn qw.2.1) rfl hm (fun ls w H locs R G hl => ?_) g 0 0 (by omega) rfl _ _ _ R G ls (lv_sub hl [6, 8, 10, 11, 5, 4, 1, 0] rfl)
                        refine lv_aload_n hx hb dX5_move_273 rfl (lv_at hl 0 rfl) ?_
                        refine lv_iload hx hb dX5_move_274 (lv_at hl 2 rfl) ?_
                        refine lv_iload hx hb dX5_move_276 (lv_at hl 1 rfl) ?_
                        refine lv_icmp_ne (tgt := 285) hx hb dX5_move_278 (by decide) (fun c52 => ?_) (fun c52 => ?_)
                        · skip
                          refine lv_iconst (v := 5) hx hb dX5_move_285 (by decide) ?_
                          refine g_Vi (n := 1) (rest := []) S G hl (c_X5_tell l R (j := 5) (o := 5) rfl (by decide)) gX5_move_X5_tell rfl (by decide +kernel) (Rm_m R) rfl rfl rfl (Nat.le_of_ble_eq_true rfl) ⟨Nat.le_of_ble_eq_true rfl, Nat.le_of_ble_eq_true rfl⟩ ⟨Nat.le_of_ble_eq_true rfl, Nat.le_of_ble_eq_true rfl⟩ dX5_move_286 ?_
                          clear G; intro r_ w1 H locs hp G
                          obtain ⟨hr_, R⟩ := hp
                          subst r_
                          refine lv_if_ne (tgt := 297) hx hb dX5_move_289 (by decide) (fun c53 => ?_) (fun c53 => absurd c53 (by decide))
                          refine lv_iconst (v := 0) hx hb dX5_move_297 (by decide) ?_
                          refine r_int S hret hlk G rfl (Nat.le_of_ble_eq_true rfl) (Nat.le_of_ble_eq_true rfl) dX5_move_298 ?_
                          have yk1 := tin_e ek1 hk1 (show n ≤ 1000 by omega)
                          have zk1 := cn_e ek1 (show k1 < 1000 by omega)
                          have yk4 := tin_e ek4 hk4 (show n ≤ 1000 by omega)
                          have zk4 := cn_e ek4 (show k4 < 1000 by omega)
                          have qr7 := nm1 (show r7 < 100000 by omega)
                          have qr13 := nm1 (show r13 < 100000 by omega)
                          have d9 : ¬ g = cn z := fun y => c52 (by rw [y]; exact (nI_cn qw.2.2.1).symm)
                          refine ⟨by simp only [S_move, yk1, zk1, yk4, zk4, er7, qr7, cn_nI (show r7 < 2 ^ 31 by omega), er13, qr13, cn_nI (show r13 < 2 ^ 31 by omega), hg, if_pos ql, if_pos qw, d9, s_tell, ↓reduceIte, Bool.false_eq_true, true_or, or_true, or_self, Int32.zero_mul], ?_⟩
                          simp only [S_move, yk1, zk1, yk4, zk4, er7, qr7, cn_nI (show r7 < 2 ^ 31 by omega), er13, qr13, cn_nI (show r13 < 2 ^ 31 by omega), hg, if_pos ql, if_pos qw, d9, s_tell, ↓reduceIte, Bool.false_eq_true, true_or, or_true, or_self, Int32.zero_mul]
                          exact ⟨_, _, _, _, _, _, _, _, _, R⟩
                        · skip
                          refine lv_iconst (v := 0) hx hb dX5_move_281 (by decide) ?_
                          refine lv_goto (tgt := 286) hx hb dX5_move_282 (by decide) ?_
                          refine g_Vi (n := 1) (rest := []) S G hl (c_X5_tell l R (j := 0) (o := 0) rfl (by decide)) gX5_move_X5_tell rfl (by decide +kernel) (Rm_m R) rfl rfl rfl (Nat.le_of_ble_eq_true rfl) ⟨Nat.le_of_ble_eq_true rfl, Nat.le_of_ble_eq_true rfl⟩ ⟨Nat.le_of_ble_eq_true rfl, Nat.le_of_ble_eq_true rfl⟩ dX5_move_286 ?_
                          clear G; intro r_ w1 H locs hp G
                          obtain ⟨hr_, R⟩ := hp
                          subst r_
                          refine lv_if_ne (tgt := 297) hx hb dX5_move_289 (by decide) (fun c54 => absurd (by decide) c54) (fun c54 => ?_)
                          refine lv_iload hx hb dX5_move_292 (lv_at hl 1 rfl) ?_
                          refine lv_goto (tgt := 298) hx hb dX5_move_294 (by decide) ?_
                          refine r_int S hret hlk G rfl (Nat.le_of_ble_eq_true rfl) (Nat.le_of_ble_eq_true rfl) dX5_move_298 ?_
                          have yk1 := tin_e ek1 hk1 (show n ≤ 1000 by omega)
                          have zk1 := cn_e ek1 (show k1 < 1000 by omega)
                          have yk4 := tin_e ek4 hk4 (show n ≤ 1000 by omega)
                          have zk4 := cn_e ek4 (show k4 < 1000 by omega)
                          have qr7 := nm1 (show r7 < 100000 by omega)
                          have qr13 := nm1 (show r13 < 100000 by omega)
                          have d9 : g = cn z := by
                            have y1 := c52
                            rw [nI_cn qw.2.2.1] at y1
                            exact (nI_eq (by have := cn_lt z; omega) (cn_lt z)).mp y1
                          rw [d9] at R hg
                          refine ⟨by simp only [S_move, yk1, zk1, yk4, zk4, er7, qr7, cn_nI (show r7 < 2 ^ 31 by omega), er13, qr13, cn_nI (show r13 < 2 ^ 31 by omega), hg, if_pos ql, if_pos qw, s_tell, ↓reduceIte, Bool.false_eq_true, true_or, or_true, or_self, Int32.zero_mul], ?_⟩
                          simp only [S_move, yk1, zk1, yk4, zk4, er7, qr7, cn_nI (show r7 < 2 ^ 31 by omega), er13, qr13, cn_nI (show r13 < 2 ^ 31 by omega), hg, if_pos ql, if_pos qw, s_tell, ↓reduceIte, Bool.false_eq_true, true_or, or_true, or_self, Int32.zero_mul]
                          exact ⟨_, _, _, _, _, _, _, _, _, R⟩
          · skip
            refine lv_aload_n hx hb dX5_move_72 rfl (lv_at hl 2 rfl) ?_
            refine g_get S G (Rm_m R) rfl (by decide +kernel) 6 (by decide) (by decide +kernel) rfl dX5_move_73 ?_
            refine lv_iload hx hb dX5_move_76 (lv_at hl 1 rfl) ?_
            refine g_iald S G (Rm_S R) (vin_e er7 (show r7 < 520 by omega) (by omega)) dX5_move_78 ?_
            rw [show Int32.toNatClampNeg (hd k1) = r7 by rw [er7]; exact nI_clamp (by omega)]
            refine lv_iconst (v := 1) hx hb dX5_move_79 (by decide) ?_
            refine lv_icmp_le (tgt := 98) hx hb dX5_move_80 (by decide) (fun c55 => ?_) (fun c55 => ?_)
            · skip
              refine lv_iconst (v := 0) hx hb dX5_move_98 (by decide) ?_
              refine lv_istore (lv' := [(8, .int 0), (7, .int (hd k4)), (6, .int (hd k1)), (0, .ref m), (1, .int t), (2, .int i), (3, .int o), (4, .int j), (5, .int z)]) hx hb dX5_move_99 hl (by decide) rfl (fun ls hl => ?_)
              refine lv_iload_n hx hb dX5_move_101 rfl (lv_at hl 5 rfl) ?_
              refine lv_if_lt (tgt := 156) hx hb dX5_move_102 (by decide) (fun c56 => ?_) (fun c56 => ?_)
              · skip
                refine lv_iconst (v := 0) hx hb dX5_move_156 (by decide) ?_
                refine lv_istore (lv' := [(9, .int 0), (8, .int 0), (7, .int (hd k4)), (6, .int (hd k1)), (0, .ref m), (1, .int t), (2, .int i), (3, .int o), (4, .int j), (5, .int z)]) hx hb dX5_move_157 hl (by decide) rfl (fun ls hl => ?_)
                refine lv_iload hx hb dX5_move_159 (lv_at hl 1 rfl) ?_
                refine lv_if_eq (tgt := 169) hx hb dX5_move_161 (by decide) (fun c57 => ?_) (fun c57 => absurd (by decide) c57)
                refine lv_iconst (v := 0) hx hb dX5_move_169 (by decide) ?_
                refine lv_aload_n hx hb dX5_move_170 rfl (lv_at hl 4 rfl) ?_
                refine lv_iload hx hb dX5_move_171 (lv_at hl 1 rfl) ?_
                refine lv_if_eq (tgt := 180) hx hb dX5_move_173 (by decide) (fun c58 => ?_) (fun c58 => absurd (by decide) c58)
                refine lv_iconst (v := 5) hx hb dX5_move_180 (by decide) ?_
                refine g_Vi (n := 1) (rest := [.int 0]) S G hl (c_X5_tell l R (j := 5) (o := 5) rfl (by decide)) gX5_move_X5_tell rfl (by decide +kernel) (Rm_m R) rfl rfl rfl (Nat.le_of_ble_eq_true rfl) ⟨Nat.le_of_ble_eq_true rfl, Nat.le_of_ble_eq_true rfl⟩ ⟨Nat.le_of_ble_eq_true rfl, Nat.le_of_ble_eq_true rfl⟩ dX5_move_181 ?_
                clear G; intro r_ w1 H locs hp G
                obtain ⟨hr_, R⟩ := hp
                subst r_
                refine lv_imul hx hb dX5_move_184 ?_
                refine lv_topi (fun a59 ea59 => ?_)
                have da59 : a59 = nI (0 * 5) := by rw [ea59]; exact pk_mul 0 5
                refine r_int S hret hlk G rfl (Nat.le_of_ble_eq_true rfl) (Nat.le_of_ble_eq_true rfl) dX5_move_185 ?_
                have yk1 := tin_e ek1 hk1 (show n ≤ 1000 by omega)
                have zk1 := cn_e ek1 (show k1 < 1000 by omega)
                have yk4 := tin_e ek4 hk4 (show n ≤ 1000 by omega)
                have zk4 := cn_e ek4 (show k4 < 1000 by omega)
                have qr7 := nm1 (show r7 < 100000 by omega)
                have qr13 := nm1 (show r13 < 100000 by omega)
                have ql : ¬ (so r7 = so r13 ∨ (1 < so r7 ∧ 1 < so r13)) := fun y => y.elim c19 (fun y => Int32.not_lt.mpr c55 y.1)
                have qw : ¬ (0 ≤ i ∧ 0 ≤ j ∧ 0 ≤ z ∧ cn i + cn z ≤ cn (sz r7) ∧ cn j + cn z ≤ cn (sz r13)) := fun y => Int32.not_lt.mpr y.1 c56
                rw [ea59]
                refine ⟨by simp only [S_move, yk1, zk1, yk4, zk4, er7, qr7, cn_nI (show r7 < 2 ^ 31 by omega), er13, qr13, cn_nI (show r13 < 2 ^ 31 by omega), ql, s_tell, ↓reduceIte, Bool.false_eq_true, true_or, or_true, or_self, Int32.zero_mul], ?_⟩
                simp only [S_move, yk1, zk1, yk4, zk4, er7, qr7, cn_nI (show r7 < 2 ^ 31 by omega), er13, qr13, cn_nI (show r13 < 2 ^ 31 by omega), ql, s_tell, ↓reduceIte, Bool.false_eq_true, true_or, or_true, or_self, Int32.zero_mul]
                exact ⟨_, _, _, _, _, _, _, _, _, R⟩
              · skip
                refine lv_iload hx hb dX5_move_105 (lv_at hl 7 rfl) ?_
                refine lv_if_lt (tgt := 156) hx hb dX5_move_107 (by decide) (fun c60 => ?_) (fun c60 => ?_)
                · skip
                  refine lv_iconst (v := 0) hx hb dX5_move_156 (by decide) ?_
                  refine lv_istore (lv' := [(9, .int 0), (8, .int 0), (7, .int (hd k4)), (6, .int (hd k1)), (0, .ref m), (1, .int t), (2, .int i), (3, .int o), (4, .int j), (5, .int z)]) hx hb dX5_move_157 hl (by decide) rfl (fun ls hl => ?_)
                  refine lv_iload hx hb dX5_move_159 (lv_at hl 1 rfl) ?_
                  refine lv_if_eq (tgt := 169) hx hb dX5_move_161 (by decide) (fun c61 => ?_) (fun c61 => absurd (by decide) c61)
                  refine lv_iconst (v := 0) hx hb dX5_move_169 (by decide) ?_
                  refine lv_aload_n hx hb dX5_move_170 rfl (lv_at hl 4 rfl) ?_
                  refine lv_iload hx hb dX5_move_171 (lv_at hl 1 rfl) ?_
                  refine lv_if_eq (tgt := 180) hx hb dX5_move_173 (by decide) (fun c62 => ?_) (fun c62 => absurd (by decide) c62)
                  refine lv_iconst (v := 5) hx hb dX5_move_180 (by decide) ?_
                  refine g_Vi (n := 1) (rest := [.int 0]) S G hl (c_X5_tell l R (j := 5) (o := 5) rfl (by decide)) gX5_move_X5_tell rfl (by decide +kernel) (Rm_m R) rfl rfl rfl (Nat.le_of_ble_eq_true rfl) ⟨Nat.le_of_ble_eq_true rfl, Nat.le_of_ble_eq_true rfl⟩ ⟨Nat.le_of_ble_eq_true rfl, Nat.le_of_ble_eq_true rfl⟩ dX5_move_181 ?_
                  clear G; intro r_ w1 H locs hp G
                  obtain ⟨hr_, R⟩ := hp
                  subst r_
                  refine lv_imul hx hb dX5_move_184 ?_
                  refine lv_topi (fun a63 ea63 => ?_)
                  have da63 : a63 = nI (0 * 5) := by rw [ea63]; exact pk_mul 0 5
                  refine r_int S hret hlk G rfl (Nat.le_of_ble_eq_true rfl) (Nat.le_of_ble_eq_true rfl) dX5_move_185 ?_
                  have yk1 := tin_e ek1 hk1 (show n ≤ 1000 by omega)
                  have zk1 := cn_e ek1 (show k1 < 1000 by omega)
                  have yk4 := tin_e ek4 hk4 (show n ≤ 1000 by omega)
                  have zk4 := cn_e ek4 (show k4 < 1000 by omega)
                  have qr7 := nm1 (show r7 < 100000 by omega)
                  have qr13 := nm1 (show r13 < 100000 by omega)
                  have ql : ¬ (so r7 = so r13 ∨ (1 < so r7 ∧ 1 < so r13)) := fun y => y.elim c19 (fun y => Int32.not_lt.mpr c55 y.1)
                  have qw : ¬ (0 ≤ i ∧ 0 ≤ j ∧ 0 ≤ z ∧ cn i + cn z ≤ cn (sz r7) ∧ cn j + cn z ≤ cn (sz r13)) := fun y => Int32.not_lt.mpr y.2.1 c60
                  rw [ea63]
                  refine ⟨by simp only [S_move, yk1, zk1, yk4, zk4, er7, qr7, cn_nI (show r7 < 2 ^ 31 by omega), er13, qr13, cn_nI (show r13 < 2 ^ 31 by omega), ql, s_tell, ↓reduceIte, Bool.false_eq_true, true_or, or_true, or_self, Int32.zero_mul], ?_⟩
                  simp only [S_move, yk1, zk1, yk4, zk4, er7, qr7, cn_nI (show r7 < 2 ^ 31 by omega), er13, qr13, cn_nI (show r13 < 2 ^ 31 by omega), ql, s_tell, ↓reduceIte, Bool.false_eq_true, true_or, or_true, or_self, Int32.zero_mul]
                  exact ⟨_, _, _, _, _, _, _, _, _, R⟩
                · skip
                  refine lv_iload hx hb dX5_move_110 (lv_at hl 8 rfl) ?_
                  refine lv_if_lt (tgt := 156) hx hb dX5_move_112 (by decide) (fun c64 => ?_) (fun c64 => ?_)
                  · skip
                    refine lv_iconst (v := 0) hx hb dX5_move_156 (by decide) ?_
                    refine lv_istore (lv' := [(9, .int 0), (8, .int 0), (7, .int (hd k4)), (6, .int (hd k1)), (0, .ref m), (1, .int t), (2, .int i), (3, .int o), (4, .int j), (5, .int z)]) hx hb dX5_move_157 hl (by decide) rfl (fun ls hl => ?_)
                    refine lv_iload hx hb dX5_move_159 (lv_at hl 1 rfl) ?_
                    refine lv_if_eq (tgt := 169) hx hb dX5_move_161 (by decide) (fun c65 => ?_) (fun c65 => absurd (by decide) c65)
                    refine lv_iconst (v := 0) hx hb dX5_move_169 (by decide) ?_
                    refine lv_aload_n hx hb dX5_move_170 rfl (lv_at hl 4 rfl) ?_
                    refine lv_iload hx hb dX5_move_171 (lv_at hl 1 rfl) ?_
                    refine lv_if_eq (tgt := 180) hx hb dX5_move_173 (by decide) (fun c66 => ?_) (fun c66 => absurd (by decide) c66)
                    refine lv_iconst (v := 5) hx hb dX5_move_180 (by decide) ?_
                    refine g_Vi (n := 1) (rest := [.int 0]) S G hl (c_X5_tell l R (j := 5) (o := 5) rfl (by decide)) gX5_move_X5_tell rfl (by decide +kernel) (Rm_m R) rfl rfl rfl (Nat.le_of_ble_eq_true rfl) ⟨Nat.le_of_ble_eq_true rfl, Nat.le_of_ble_eq_true rfl⟩ ⟨Nat.le_of_ble_eq_true rfl, Nat.le_of_ble_eq_true rfl⟩ dX5_move_181 ?_
                    clear G; intro r_ w1 H locs hp G
                    obtain ⟨hr_, R⟩ := hp
                    subst r_
                    refine lv_imul hx hb dX5_move_184 ?_
                    refine lv_topi (fun a67 ea67 => ?_)
                    have da67 : a67 = nI (0 * 5) := by rw [ea67]; exact pk_mul 0 5
                    refine r_int S hret hlk G rfl (Nat.le_of_ble_eq_true rfl) (Nat.le_of_ble_eq_true rfl) dX5_move_185 ?_
                    have yk1 := tin_e ek1 hk1 (show n ≤ 1000 by omega)
                    have zk1 := cn_e ek1 (show k1 < 1000 by omega)
                    have yk4 := tin_e ek4 hk4 (show n ≤ 1000 by omega)
                    have zk4 := cn_e ek4 (show k4 < 1000 by omega)
                    have qr7 := nm1 (show r7 < 100000 by omega)
                    have qr13 := nm1 (show r13 < 100000 by omega)
                    have ql : ¬ (so r7 = so r13 ∨ (1 < so r7 ∧ 1 < so r13)) := fun y => y.elim c19 (fun y => Int32.not_lt.mpr c55 y.1)
                    have qw : ¬ (0 ≤ i ∧ 0 ≤ j ∧ 0 ≤ z ∧ cn i + cn z ≤ cn (sz r7) ∧ cn j + cn z ≤ cn (sz r13)) := fun y => Int32.not_lt.mpr y.2.2.1 c64
                    rw [ea67]
                    refine ⟨by simp only [S_move, yk1, zk1, yk4, zk4, er7, qr7, cn_nI (show r7 < 2 ^ 31 by omega), er13, qr13, cn_nI (show r13 < 2 ^ 31 by omega), ql, s_tell, ↓reduceIte, Bool.false_eq_true, true_or, or_true, or_self, Int32.zero_mul], ?_⟩
                    simp only [S_move, yk1, zk1, yk4, zk4, er7, qr7, cn_nI (show r7 < 2 ^ 31 by omega), er13, qr13, cn_nI (show r13 < 2 ^ 31 by omega), ql, s_tell, ↓reduceIte, Bool.false_eq_true, true_or, or_true, or_self, Int32.zero_mul]
                    exact ⟨_, _, _, _, _, _, _, _, _, R⟩
                  · skip
                    refine lv_iload_n hx hb dX5_move_115 rfl (lv_at hl 5 rfl) ?_
                    refine lv_i2l (v := (Int32.toInt64 i)) hx hb dX5_move_116 rfl ?_
                    refine lv_iload hx hb dX5_move_117 (lv_at hl 8 rfl) ?_
                    refine lv_i2l (v := (Int32.toInt64 z)) hx hb dX5_move_119 rfl ?_
                    refine lv_ladd hx hb dX5_move_120 ?_
                    refine lv_topl (fun a68 ea68 => ?_)
                    refine lv_aload_n hx hb dX5_move_121 rfl (lv_at hl 3 rfl) ?_
                    refine g_get S G (Rm_m R) rfl (by decide +kernel) 7 (by decide) (by decide +kernel) rfl dX5_move_122 ?_
                    refine lv_iload hx hb dX5_move_125 (lv_at hl 2 rfl) ?_
                    refine g_iald S G (Rm_Z R) (vin_e er7 (show r7 < 520 by omega) (by omega)) dX5_move_127 ?_
                    rw [show Int32.toNatClampNeg (hd k1) = r7 by rw [er7]; exact nI_clamp (by omega)]
                    refine lv_i2l (v := (Int32.toInt64 (sz r7))) hx hb dX5_move_128 rfl ?_
                    refine W.lcmp hx hb dX5_move_129 ?_
                    refine lv_if_gt (tgt := 156) hx hb dX5_move_130 (by decide) (fun c69 => ?_) (fun c69 => ?_)
                    · skip
                      refine lv_iconst (v := 0) hx hb dX5_move_156 (by decide) ?_
                      refine lv_istore (lv' := [(9, .int 0), (8, .int 0), (7, .int (hd k4)), (6, .int (hd k1)), (0, .ref m), (1, .int t), (2, .int i), (3, .int o), (4, .int j), (5, .int z)]) hx hb dX5_move_157 hl (by decide) rfl (fun ls hl => ?_)
                      refine lv_iload hx hb dX5_move_159 (lv_at hl 1 rfl) ?_
                      refine lv_if_eq (tgt := 169) hx hb dX5_move_161 (by decide) (fun c70 => ?_) (fun c70 => absurd (by decide) c70)
                      refine lv_iconst (v := 0) hx hb dX5_move_169 (by decide) ?_
                      refine lv_aload_n hx hb dX5_move_170 rfl (lv_at hl 4 rfl) ?_
                      refine lv_iload hx hb dX5_move_171 (lv_at hl 1 rfl) ?_
                      refine lv_if_eq (tgt := 180) hx hb dX5_move_173 (by decide) (fun c71 => ?_) (fun c71 => absurd (by decide) c71)
                      refine lv_iconst (v := 5) hx hb dX5_move_180 (by decide) ?_
                      refine g_Vi (n := 1) (rest := [.int 0]) S G hl (c_X5_tell l R (j := 5) (o := 5) rfl (by decide)) gX5_move_X5_tell rfl (by decide +kernel) (Rm_m R) rfl rfl rfl (Nat.le_of_ble_eq_true rfl) ⟨Nat.le_of_ble_eq_true rfl, Nat.le_of_ble_eq_true rfl⟩ ⟨Nat.le_of_ble_eq_true rfl, Nat.le_of_ble_eq_true rfl⟩ dX5_move_181 ?_
                      clear G; intro r_ w1 H locs hp G
                      obtain ⟨hr_, R⟩ := hp
                      subst r_
                      refine lv_imul hx hb dX5_move_184 ?_
                      refine lv_topi (fun a72 ea72 => ?_)
                      have da72 : a72 = nI (0 * 5) := by rw [ea72]; exact pk_mul 0 5
                      refine r_int S hret hlk G rfl (Nat.le_of_ble_eq_true rfl) (Nat.le_of_ble_eq_true rfl) dX5_move_185 ?_
                      have yk1 := tin_e ek1 hk1 (show n ≤ 1000 by omega)
                      have zk1 := cn_e ek1 (show k1 < 1000 by omega)
                      have yk4 := tin_e ek4 hk4 (show n ≤ 1000 by omega)
                      have zk4 := cn_e ek4 (show k4 < 1000 by omega)
                      have qr7 := nm1 (show r7 < 100000 by omega)
                      have qr13 := nm1 (show r13 < 100000 by omega)
                      have ql : ¬ (so r7 = so r13 ∨ (1 < so r7 ∧ 1 < so r13)) := fun y => y.elim c19 (fun y => Int32.not_lt.mpr c55 y.1)
                      have qw : ¬ (0 ≤ i ∧ 0 ≤ j ∧ 0 ≤ z ∧ cn i + cn z ≤ cn (sz r7) ∧ cn j + cn z ≤ cn (sz r13)) := fun y => by
                        have q1 := (lg_cmp_gt _ _).mp c69
                        rw [ea68] at q1
                        have q2 := (w64 c56 c64 (Kz r7 hr7)).mp q1
                        have q3 := y.2.2.2.1
                        omega
                      rw [ea72]
                      refine ⟨by simp only [S_move, yk1, zk1, yk4, zk4, er7, qr7, cn_nI (show r7 < 2 ^ 31 by omega), er13, qr13, cn_nI (show r13 < 2 ^ 31 by omega), ql, s_tell, ↓reduceIte, Bool.false_eq_true, true_or, or_true, or_self, Int32.zero_mul], ?_⟩
                      simp only [S_move, yk1, zk1, yk4, zk4, er7, qr7, cn_nI (show r7 < 2 ^ 31 by omega), er13, qr13, cn_nI (show r13 < 2 ^ 31 by omega), ql, s_tell, ↓reduceIte, Bool.false_eq_true, true_or, or_true, or_self, Int32.zero_mul]
                      exact ⟨_, _, _, _, _, _, _, _, _, R⟩
                    · skip
                      refine lv_iload hx hb dX5_move_133 (lv_at hl 7 rfl) ?_
                      refine lv_i2l (v := (Int32.toInt64 j)) hx hb dX5_move_135 rfl ?_
                      refine lv_iload hx hb dX5_move_136 (lv_at hl 8 rfl) ?_
                      refine lv_i2l (v := (Int32.toInt64 z)) hx hb dX5_move_138 rfl ?_
                      refine lv_ladd hx hb dX5_move_139 ?_
                      refine lv_topl (fun a73 ea73 => ?_)
                      refine lv_aload_n hx hb dX5_move_140 rfl (lv_at hl 3 rfl) ?_
                      refine g_get S G (Rm_m R) rfl (by decide +kernel) 7 (by decide) (by decide +kernel) rfl dX5_move_141 ?_
                      refine lv_iload hx hb dX5_move_144 (lv_at hl 1 rfl) ?_
                      refine g_iald S G (Rm_Z R) (vin_e er13 (show r13 < 520 by omega) (by omega)) dX5_move_146 ?_
                      rw [show Int32.toNatClampNeg (hd k4) = r13 by rw [er13]; exact nI_clamp (by omega)]
                      refine lv_i2l (v := (Int32.toInt64 (sz r13))) hx hb dX5_move_147 rfl ?_
                      refine W.lcmp hx hb dX5_move_148 ?_
                      refine lv_if_gt (tgt := 156) hx hb dX5_move_149 (by decide) (fun c74 => ?_) (fun c74 => ?_)
                      · skip
                        refine lv_iconst (v := 0) hx hb dX5_move_156 (by decide) ?_
                        refine lv_istore (lv' := [(9, .int 0), (8, .int 0), (7, .int (hd k4)), (6, .int (hd k1)), (0, .ref m), (1, .int t), (2, .int i), (3, .int o), (4, .int j), (5, .int z)]) hx hb dX5_move_157 hl (by decide) rfl (fun ls hl => ?_)
                        refine lv_iload hx hb dX5_move_159 (lv_at hl 1 rfl) ?_
                        refine lv_if_eq (tgt := 169) hx hb dX5_move_161 (by decide) (fun c75 => ?_) (fun c75 => absurd (by decide) c75)
                        refine lv_iconst (v := 0) hx hb dX5_move_169 (by decide) ?_
                        refine lv_aload_n hx hb dX5_move_170 rfl (lv_at hl 4 rfl) ?_
                        refine lv_iload hx hb dX5_move_171 (lv_at hl 1 rfl) ?_
                        refine lv_if_eq (tgt := 180) hx hb dX5_move_173 (by decide) (fun c76 => ?_) (fun c76 => absurd (by decide) c76)
                        refine lv_iconst (v := 5) hx hb dX5_move_180 (by decide) ?_
                        refine g_Vi (n := 1) (rest := [.int 0]) S G hl (c_X5_tell l R (j := 5) (o := 5) rfl (by decide)) gX5_move_X5_tell rfl (by decide +kernel) (Rm_m R) rfl rfl rfl (Nat.le_of_ble_eq_true rfl) ⟨Nat.le_of_ble_eq_true rfl, Nat.le_of_ble_eq_true rfl⟩ ⟨Nat.le_of_ble_eq_true rfl, Nat.le_of_ble_eq_true rfl⟩ dX5_move_181 ?_
                        clear G; intro r_ w1 H locs hp G
                        obtain ⟨hr_, R⟩ := hp
                        subst r_
                        refine lv_imul hx hb dX5_move_184 ?_
                        refine lv_topi (fun a77 ea77 => ?_)
                        have da77 : a77 = nI (0 * 5) := by rw [ea77]; exact pk_mul 0 5
                        refine r_int S hret hlk G rfl (Nat.le_of_ble_eq_true rfl) (Nat.le_of_ble_eq_true rfl) dX5_move_185 ?_
                        have yk1 := tin_e ek1 hk1 (show n ≤ 1000 by omega)
                        have zk1 := cn_e ek1 (show k1 < 1000 by omega)
                        have yk4 := tin_e ek4 hk4 (show n ≤ 1000 by omega)
                        have zk4 := cn_e ek4 (show k4 < 1000 by omega)
                        have qr7 := nm1 (show r7 < 100000 by omega)
                        have qr13 := nm1 (show r13 < 100000 by omega)
                        have ql : ¬ (so r7 = so r13 ∨ (1 < so r7 ∧ 1 < so r13)) := fun y => y.elim c19 (fun y => Int32.not_lt.mpr c55 y.1)
                        have wx0 : cn i + cn z ≤ cn (sz r7) := Nat.not_lt.mp (fun y => c69 ((lg_cmp_gt _ _).mpr (by rw [ea68]; exact (w64 c56 c64 (Kz r7 hr7)).mpr y)))
                        have qw : ¬ (0 ≤ i ∧ 0 ≤ j ∧ 0 ≤ z ∧ cn i + cn z ≤ cn (sz r7) ∧ cn j + cn z ≤ cn (sz r13)) := fun y => by
                          have q1 := (lg_cmp_gt _ _).mp c74
                          rw [ea73] at q1
                          have q2 := (w64 c60 c64 (Kz r13 hr13)).mp q1
                          have q3 := y.2.2.2.2
                          omega
                        rw [ea77]
                        refine ⟨by simp only [S_move, yk1, zk1, yk4, zk4, er7, qr7, cn_nI (show r7 < 2 ^ 31 by omega), er13, qr13, cn_nI (show r13 < 2 ^ 31 by omega), ql, s_tell, ↓reduceIte, Bool.false_eq_true, true_or, or_true, or_self, Int32.zero_mul], ?_⟩
                        simp only [S_move, yk1, zk1, yk4, zk4, er7, qr7, cn_nI (show r7 < 2 ^ 31 by omega), er13, qr13, cn_nI (show r13 < 2 ^ 31 by omega), ql, s_tell, ↓reduceIte, Bool.false_eq_true, true_or, or_true, or_self, Int32.zero_mul]
                        exact ⟨_, _, _, _, _, _, _, _, _, R⟩
                      · skip
                        refine lv_iconst (v := 1) hx hb dX5_move_152 (by decide) ?_
                        refine lv_goto (tgt := 157) hx hb dX5_move_153 (by decide) ?_
                        refine lv_istore (lv' := [(9, .int 1), (8, .int 0), (7, .int (hd k4)), (6, .int (hd k1)), (0, .ref m), (1, .int t), (2, .int i), (3, .int o), (4, .int j), (5, .int z)]) hx hb dX5_move_157 hl (by decide) rfl (fun ls hl => ?_)
                        refine lv_iload hx hb dX5_move_159 (lv_at hl 1 rfl) ?_
                        refine lv_if_eq (tgt := 169) hx hb dX5_move_161 (by decide) (fun c78 => ?_) (fun c78 => absurd (by decide) c78)
                        refine lv_iconst (v := 0) hx hb dX5_move_169 (by decide) ?_
                        refine lv_aload_n hx hb dX5_move_170 rfl (lv_at hl 4 rfl) ?_
                        refine lv_iload hx hb dX5_move_171 (lv_at hl 1 rfl) ?_
                        refine lv_if_eq (tgt := 180) hx hb dX5_move_173 (by decide) (fun c79 => ?_) (fun c79 => absurd (by decide) c79)
                        refine lv_iconst (v := 5) hx hb dX5_move_180 (by decide) ?_
                        refine g_Vi (n := 1) (rest := [.int 0]) S G hl (c_X5_tell l R (j := 5) (o := 5) rfl (by decide)) gX5_move_X5_tell rfl (by decide +kernel) (Rm_m R) rfl rfl rfl (Nat.le_of_ble_eq_true rfl) ⟨Nat.le_of_ble_eq_true rfl, Nat.le_of_ble_eq_true rfl⟩ ⟨Nat.le_of_ble_eq_true rfl, Nat.le_of_ble_eq_true rfl⟩ dX5_move_181 ?_
                        clear G; intro r_ w1 H locs hp G
                        obtain ⟨hr_, R⟩ := hp
                        subst r_
                        refine lv_imul hx hb dX5_move_184 ?_
                        refine lv_topi (fun a80 ea80 => ?_)
                        have da80 : a80 = nI (0 * 5) := by rw [ea80]; exact pk_mul 0 5
                        refine r_int S hret hlk G rfl (Nat.le_of_ble_eq_true rfl) (Nat.le_of_ble_eq_true rfl) dX5_move_185 ?_
                        have yk1 := tin_e ek1 hk1 (show n ≤ 1000 by omega)
                        have zk1 := cn_e ek1 (show k1 < 1000 by omega)
                        have yk4 := tin_e ek4 hk4 (show n ≤ 1000 by omega)
                        have zk4 := cn_e ek4 (show k4 < 1000 by omega)
                        have qr7 := nm1 (show r7 < 100000 by omega)
                        have qr13 := nm1 (show r13 < 100000 by omega)
                        have ql : ¬ (so r7 = so r13 ∨ (1 < so r7 ∧ 1 < so r13)) := fun y => y.elim c19 (fun y => Int32.not_lt.mpr c55 y.1)
                        have wx0 : cn i + cn z ≤ cn (sz r7) := Nat.not_lt.mp (fun y => c69 ((lg_cmp_gt _ _).mpr (by rw [ea68]; exact (w64 c56 c64 (Kz r7 hr7)).mpr y)))
                        have wx1 : cn j + cn z ≤ cn (sz r13) := Nat.not_lt.mp (fun y => c74 ((lg_cmp_gt _ _).mpr (by rw [ea73]; exact (w64 c60 c64 (Kz r13 hr13)).mpr y)))
                        have qw : 0 ≤ i ∧ 0 ≤ j ∧ 0 ≤ z ∧ cn i + cn z ≤ cn (sz r7) ∧ cn j + cn z ≤ cn (sz r13) := ⟨Int32.not_lt.mp c56, Int32.not_lt.mp c60, Int32.not_lt.mp c64, wx0, wx1⟩
                        rw [ea80]
                        refine ⟨by simp only [S_move, yk1, zk1, yk4, zk4, er7, qr7, cn_nI (show r7 < 2 ^ 31 by omega), er13, qr13, cn_nI (show r13 < 2 ^ 31 by omega), ql, s_tell, ↓reduceIte, Bool.false_eq_true, true_or, or_true, or_self, Int32.zero_mul], ?_⟩
                        simp only [S_move, yk1, zk1, yk4, zk4, er7, qr7, cn_nI (show r7 < 2 ^ 31 by omega), er13, qr13, cn_nI (show r13 < 2 ^ 31 by omega), ql, s_tell, ↓reduceIte, Bool.false_eq_true, true_or, or_true, or_self, Int32.zero_mul]
                        exact ⟨_, _, _, _, _, _, _, _, _, R⟩
            · skip
              refine lv_aload_n hx hb dX5_move_83 rfl (lv_at hl 2 rfl) ?_
              refine g_get S G (Rm_m R) rfl (by decide +kernel) 6 (by decide) (by decide +kernel) rfl dX5_move_84 ?_
              refine lv_iload hx hb dX5_move_87 (lv_at hl 0 rfl) ?_
              refine g_iald S G (Rm_S R) (vin_e er13 (show r13 < 520 by omega) (by omega)) dX5_move_89 ?_
              rw [show Int32.toNatClampNeg (hd k4) = r13 by rw [er13]; exact nI_clamp (by omega)]
              refine lv_iconst (v := 1) hx hb dX5_move_90 (by decide) ?_
              refine lv_icmp_le (tgt := 98) hx hb dX5_move_91 (by decide) (fun c81 => ?_) (fun c81 => ?_)
              · skip
                refine lv_iconst (v := 0) hx hb dX5_move_98 (by decide) ?_
                refine lv_istore (lv' := [(8, .int 0), (7, .int (hd k4)), (6, .int (hd k1)), (0, .ref m), (1, .int t), (2, .int i), (3, .int o), (4, .int j), (5, .int z)]) hx hb dX5_move_99 hl (by decide) rfl (fun ls hl => ?_)
                refine lv_iload_n hx hb dX5_move_101 rfl (lv_at hl 5 rfl) ?_
                refine lv_if_lt (tgt := 156) hx hb dX5_move_102 (by decide) (fun c82 => ?_) (fun c82 => ?_)
                · skip
                  refine lv_iconst (v := 0) hx hb dX5_move_156 (by decide) ?_
                  refine lv_istore (lv' := [(9, .int 0), (8, .int 0), (7, .int (hd k4)), (6, .int (hd k1)), (0, .ref m), (1, .int t), (2, .int i), (3, .int o), (4, .int j), (5, .int z)]) hx hb dX5_move_157 hl (by decide) rfl (fun ls hl => ?_)
                  refine lv_iload hx hb dX5_move_159 (lv_at hl 1 rfl) ?_
                  refine lv_if_eq (tgt := 169) hx hb dX5_move_161 (by decide) (fun c83 => ?_) (fun c83 => absurd (by decide) c83)
                  refine lv_iconst (v := 0) hx hb dX5_move_169 (by decide) ?_
                  refine lv_aload_n hx hb dX5_move_170 rfl (lv_at hl 4 rfl) ?_
                  refine lv_iload hx hb dX5_move_171 (lv_at hl 1 rfl) ?_
                  refine lv_if_eq (tgt := 180) hx hb dX5_move_173 (by decide) (fun c84 => ?_) (fun c84 => absurd (by decide) c84)
                  refine lv_iconst (v := 5) hx hb dX5_move_180 (by decide) ?_
                  refine g_Vi (n := 1) (rest := [.int 0]) S G hl (c_X5_tell l R (j := 5) (o := 5) rfl (by decide)) gX5_move_X5_tell rfl (by decide +kernel) (Rm_m R) rfl rfl rfl (Nat.le_of_ble_eq_true rfl) ⟨Nat.le_of_ble_eq_true rfl, Nat.le_of_ble_eq_true rfl⟩ ⟨Nat.le_of_ble_eq_true rfl, Nat.le_of_ble_eq_true rfl⟩ dX5_move_181 ?_
                  clear G; intro r_ w1 H locs hp G
                  obtain ⟨hr_, R⟩ := hp
                  subst r_
                  refine lv_imul hx hb dX5_move_184 ?_
                  refine lv_topi (fun a85 ea85 => ?_)
                  have da85 : a85 = nI (0 * 5) := by rw [ea85]; exact pk_mul 0 5
                  refine r_int S hret hlk G rfl (Nat.le_of_ble_eq_true rfl) (Nat.le_of_ble_eq_true rfl) dX5_move_185 ?_
                  have yk1 := tin_e ek1 hk1 (show n ≤ 1000 by omega)
                  have zk1 := cn_e ek1 (show k1 < 1000 by omega)
                  have yk4 := tin_e ek4 hk4 (show n ≤ 1000 by omega)
                  have zk4 := cn_e ek4 (show k4 < 1000 by omega)
                  have qr7 := nm1 (show r7 < 100000 by omega)
                  have qr13 := nm1 (show r13 < 100000 by omega)
                  have ql : ¬ (so r7 = so r13 ∨ (1 < so r7 ∧ 1 < so r13)) := fun y => y.elim c19 (fun y => Int32.not_lt.mpr c81 y.2)
                  have qw : ¬ (0 ≤ i ∧ 0 ≤ j ∧ 0 ≤ z ∧ cn i + cn z ≤ cn (sz r7) ∧ cn j + cn z ≤ cn (sz r13)) := fun y => Int32.not_lt.mpr y.1 c82
                  rw [ea85]
                  refine ⟨by simp only [S_move, yk1, zk1, yk4, zk4, er7, qr7, cn_nI (show r7 < 2 ^ 31 by omega), er13, qr13, cn_nI (show r13 < 2 ^ 31 by omega), ql, s_tell, ↓reduceIte, Bool.false_eq_true, true_or, or_true, or_self, Int32.zero_mul], ?_⟩
                  simp only [S_move, yk1, zk1, yk4, zk4, er7, qr7, cn_nI (show r7 < 2 ^ 31 by omega), er13, qr13, cn_nI (show r13 < 2 ^ 31 by omega), ql, s_tell, ↓reduceIte, Bool.false_eq_true, true_or, or_true, or_self, Int32.zero_mul]
                  exact ⟨_, _, _, _, _, _, _, _, _, R⟩
                · skip
                  refine lv_iload hx hb dX5_move_105 (lv_at hl 7 rfl) ?_
                  refine lv_if_lt (tgt := 156) hx hb dX5_move_107 (by decide) (fun c86 => ?_) (fun c86 => ?_)
                  · skip
                    refine lv_iconst (v := 0) hx hb dX5_move_156 (by decide) ?_
                    refine lv_istore (lv' := [(9, .int 0), (8, .int 0), (7, .int (hd k4)), (6, .int (hd k1)), (0, .ref m), (1, .int t), (2, .int i), (3, .int o), (4, .int j), (5, .int z)]) hx hb dX5_move_157 hl (by decide) rfl (fun ls hl => ?_)
                    refine lv_iload hx hb dX5_move_159 (lv_at hl 1 rfl) ?_
                    refine lv_if_eq (tgt := 169) hx hb dX5_move_161 (by decide) (fun c87 => ?_) (fun c87 => absurd (by decide) c87)
                    refine lv_iconst (v := 0) hx hb dX5_move_169 (by decide) ?_
                    refine lv_aload_n hx hb dX5_move_170 rfl (lv_at hl 4 rfl) ?_
                    refine lv_iload hx hb dX5_move_171 (lv_at hl 1 rfl) ?_
                    refine lv_if_eq (tgt := 180) hx hb dX5_move_173 (by decide) (fun c88 => ?_) (fun c88 => absurd (by decide) c88)
                    refine lv_iconst (v := 5) hx hb dX5_move_180 (by decide) ?_
                    refine g_Vi (n := 1) (rest := [.int 0]) S G hl (c_X5_tell l R (j := 5) (o := 5) rfl (by decide)) gX5_move_X5_tell rfl (by decide +kernel) (Rm_m R) rfl rfl rfl (Nat.le_of_ble_eq_true rfl) ⟨Nat.le_of_ble_eq_true rfl, Nat.le_of_ble_eq_true rfl⟩ ⟨Nat.le_of_ble_eq_true rfl, Nat.le_of_ble_eq_true rfl⟩ dX5_move_181 ?_
                    clear G; intro r_ w1 H locs hp G
                    obtain ⟨hr_, R⟩ := hp
                    subst r_
                    refine lv_imul hx hb dX5_move_184 ?_
                    refine lv_topi (fun a89 ea89 => ?_)
                    have da89 : a89 = nI (0 * 5) := by rw [ea89]; exact pk_mul 0 5
                    refine r_int S hret hlk G rfl (Nat.le_of_ble_eq_true rfl) (Nat.le_of_ble_eq_true rfl) dX5_move_185 ?_
                    have yk1 := tin_e ek1 hk1 (show n ≤ 1000 by omega)
                    have zk1 := cn_e ek1 (show k1 < 1000 by omega)
                    have yk4 := tin_e ek4 hk4 (show n ≤ 1000 by omega)
                    have zk4 := cn_e ek4 (show k4 < 1000 by omega)
                    have qr7 := nm1 (show r7 < 100000 by omega)
                    have qr13 := nm1 (show r13 < 100000 by omega)
                    have ql : ¬ (so r7 = so r13 ∨ (1 < so r7 ∧ 1 < so r13)) := fun y => y.elim c19 (fun y => Int32.not_lt.mpr c81 y.2)
                    have qw : ¬ (0 ≤ i ∧ 0 ≤ j ∧ 0 ≤ z ∧ cn i + cn z ≤ cn (sz r7) ∧ cn j + cn z ≤ cn (sz r13)) := fun y => Int32.not_lt.mpr y.2.1 c86
                    rw [ea89]
                    refine ⟨by simp only [S_move, yk1, zk1, yk4, zk4, er7, qr7, cn_nI (show r7 < 2 ^ 31 by omega), er13, qr13, cn_nI (show r13 < 2 ^ 31 by omega), ql, s_tell, ↓reduceIte, Bool.false_eq_true, true_or, or_true, or_self, Int32.zero_mul], ?_⟩
                    simp only [S_move, yk1, zk1, yk4, zk4, er7, qr7, cn_nI (show r7 < 2 ^ 31 by omega), er13, qr13, cn_nI (show r13 < 2 ^ 31 by omega), ql, s_tell, ↓reduceIte, Bool.false_eq_true, true_or, or_true, or_self, Int32.zero_mul]
                    exact ⟨_, _, _, _, _, _, _, _, _, R⟩
                  · skip
                    refine lv_iload hx hb dX5_move_110 (lv_at hl 8 rfl) ?_
                    refine lv_if_lt (tgt := 156) hx hb dX5_move_112 (by decide) (fun c90 => ?_) (fun c90 => ?_)
                    · skip
                      refine lv_iconst (v := 0) hx hb dX5_move_156 (by decide) ?_
                      refine lv_istore (lv' := [(9, .int 0), (8, .int 0), (7, .int (hd k4)), (6, .int (hd k1)), (0, .ref m), (1, .int t), (2, .int i), (3, .int o), (4, .int j), (5, .int z)]) hx hb dX5_move_157 hl (by decide) rfl (fun ls hl => ?_)
                      refine lv_iload hx hb dX5_move_159 (lv_at hl 1 rfl) ?_
                      refine lv_if_eq (tgt := 169) hx hb dX5_move_161 (by decide) (fun c91 => ?_) (fun c91 => absurd (by decide) c91)
                      refine lv_iconst (v := 0) hx hb dX5_move_169 (by decide) ?_
                      refine lv_aload_n hx hb dX5_move_170 rfl (lv_at hl 4 rfl) ?_
                      refine lv_iload hx hb dX5_move_171 (lv_at hl 1 rfl) ?_
                      refine lv_if_eq (tgt := 180) hx hb dX5_move_173 (by decide) (fun c92 => ?_) (fun c92 => absurd (by decide) c92)
                      refine lv_iconst (v := 5) hx hb dX5_move_180 (by decide) ?_
                      refine g_Vi (n := 1) (rest := [.int 0]) S G hl (c_X5_tell l R (j := 5) (o := 5) rfl (by decide)) gX5_move_X5_tell rfl (by decide +kernel) (Rm_m R) rfl rfl rfl (Nat.le_of_ble_eq_true rfl) ⟨Nat.le_of_ble_eq_true rfl, Nat.le_of_ble_eq_true rfl⟩ ⟨Nat.le_of_ble_eq_true rfl, Nat.le_of_ble_eq_true rfl⟩ dX5_move_181 ?_
                      clear G; intro r_ w1 H locs hp G
                      obtain ⟨hr_, R⟩ := hp
                      subst r_
                      refine lv_imul hx hb dX5_move_184 ?_
                      refine lv_topi (fun a93 ea93 => ?_)
                      have da93 : a93 = nI (0 * 5) := by rw [ea93]; exact pk_mul 0 5
                      refine r_int S hret hlk G rfl (Nat.le_of_ble_eq_true rfl) (Nat.le_of_ble_eq_true rfl) dX5_move_185 ?_
                      have yk1 := tin_e ek1 hk1 (show n ≤ 1000 by omega)
                      have zk1 := cn_e ek1 (show k1 < 1000 by omega)
                      have yk4 := tin_e ek4 hk4 (show n ≤ 1000 by omega)
                      have zk4 := cn_e ek4 (show k4 < 1000 by omega)
                      have qr7 := nm1 (show r7 < 100000 by omega)
                      have qr13 := nm1 (show r13 < 100000 by omega)
                      have ql : ¬ (so r7 = so r13 ∨ (1 < so r7 ∧ 1 < so r13)) := fun y => y.elim c19 (fun y => Int32.not_lt.mpr c81 y.2)
                      have qw : ¬ (0 ≤ i ∧ 0 ≤ j ∧ 0 ≤ z ∧ cn i + cn z ≤ cn (sz r7) ∧ cn j + cn z ≤ cn (sz r13)) := fun y => Int32.not_lt.mpr y.2.2.1 c90
                      rw [ea93]
                      refine ⟨by simp only [S_move, yk1, zk1, yk4, zk4, er7, qr7, cn_nI (show r7 < 2 ^ 31 by omega), er13, qr13, cn_nI (show r13 < 2 ^ 31 by omega), ql, s_tell, ↓reduceIte, Bool.false_eq_true, true_or, or_true, or_self, Int32.zero_mul], ?_⟩
                      simp only [S_move, yk1, zk1, yk4, zk4, er7, qr7, cn_nI (show r7 < 2 ^ 31 by omega), er13, qr13, cn_nI (show r13 < 2 ^ 31 by omega), ql, s_tell, ↓reduceIte, Bool.false_eq_true, true_or, or_true, or_self, Int32.zero_mul]
                      exact ⟨_, _, _, _, _, _, _, _, _, R⟩
                    · skip
                      refine lv_iload_n hx hb dX5_move_115 rfl (lv_at hl 5 rfl) ?_
                      refine lv_i2l (v := (Int32.toInt64 i)) hx hb dX5_move_116 rfl ?_
                      refine lv_iload hx hb dX5_move_117 (lv_at hl 8 rfl) ?_
                      refine lv_i2l (v := (Int32.toInt64 z)) hx hb dX5_move_119 rfl ?_
                      refine lv_ladd hx hb dX5_move_120 ?_
                      refine lv_topl (fun a94 ea94 => ?_)
                      refine lv_aload_n hx hb dX5_move_121 rfl (lv_at hl 3 rfl) ?_
                      refine g_get S G (Rm_m R) rfl (by decide +kernel) 7 (by decide) (by decide +kernel) rfl dX5_move_122 ?_
                      refine lv_iload hx hb dX5_move_125 (lv_at hl 2 rfl) ?_
                      refine g_iald S G (Rm_Z R) (vin_e er7 (show r7 < 520 by omega) (by omega)) dX5_move_127 ?_
                      rw [show Int32.toNatClampNeg (hd k1) = r7 by rw [er7]; exact nI_clamp (by omega)]
                      refine lv_i2l (v := (Int32.toInt64 (sz r7))) hx hb dX5_move_128 rfl ?_
                      refine W.lcmp hx hb dX5_move_129 ?_
                      refine lv_if_gt (tgt := 156) hx hb dX5_move_130 (by decide) (fun c95 => ?_) (fun c95 => ?_)
                      · skip
                        refine lv_iconst (v := 0) hx hb dX5_move_156 (by decide) ?_
                        refine lv_istore (lv' := [(9, .int 0), (8, .int 0), (7, .int (hd k4)), (6, .int (hd k1)), (0, .ref m), (1, .int t), (2, .int i), (3, .int o), (4, .int j), (5, .int z)]) hx hb dX5_move_157 hl (by decide) rfl (fun ls hl => ?_)
                        refine lv_iload hx hb dX5_move_159 (lv_at hl 1 rfl) ?_
                        refine lv_if_eq (tgt := 169) hx hb dX5_move_161 (by decide) (fun c96 => ?_) (fun c96 => absurd (by decide) c96)
                        refine lv_iconst (v := 0) hx hb dX5_move_169 (by decide) ?_
                        refine lv_aload_n hx hb dX5_move_170 rfl (lv_at hl 4 rfl) ?_
                        refine lv_iload hx hb dX5_move_171 (lv_at hl 1 rfl) ?_
                        refine lv_if_eq (tgt := 180) hx hb dX5_move_173 (by decide) (fun c97 => ?_) (fun c97 => absurd (by decide) c97)
                        refine lv_iconst (v := 5) hx hb dX5_move_180 (by decide) ?_
                        refine g_Vi (n := 1) (rest := [.int 0]) S G hl (c_X5_tell l R (j := 5) (o := 5) rfl (by decide)) gX5_move_X5_tell rfl (by decide +kernel) (Rm_m R) rfl rfl rfl (Nat.le_of_ble_eq_true rfl) ⟨Nat.le_of_ble_eq_true rfl, Nat.le_of_ble_eq_true rfl⟩ ⟨Nat.le_of_ble_eq_true rfl, Nat.le_of_ble_eq_true rfl⟩ dX5_move_181 ?_
                        clear G; intro r_ w1 H locs hp G
                        obtain ⟨hr_, R⟩ := hp
                        subst r_
                        refine lv_imul hx hb dX5_move_184 ?_
                        refine lv_topi (fun a98 ea98 => ?_)
                        have da98 : a98 = nI (0 * 5) := by rw [ea98]; exact pk_mul 0 5
                        refine r_int S hret hlk G rfl (Nat.le_of_ble_eq_true rfl) (Nat.le_of_ble_eq_true rfl) dX5_move_185 ?_
                        have yk1 := tin_e ek1 hk1 (show n ≤ 1000 by omega)
                        have zk1 := cn_e ek1 (show k1 < 1000 by omega)
                        have yk4 := tin_e ek4 hk4 (show n ≤ 1000 by omega)
                        have zk4 := cn_e ek4 (show k4 < 1000 by omega)
                        have qr7 := nm1 (show r7 < 100000 by omega)
                        have qr13 := nm1 (show r13 < 100000 by omega)
                        have ql : ¬ (so r7 = so r13 ∨ (1 < so r7 ∧ 1 < so r13)) := fun y => y.elim c19 (fun y => Int32.not_lt.mpr c81 y.2)
                        have qw : ¬ (0 ≤ i ∧ 0 ≤ j ∧ 0 ≤ z ∧ cn i + cn z ≤ cn (sz r7) ∧ cn j + cn z ≤ cn (sz r13)) := fun y => by
                          have q1 := (lg_cmp_gt _ _).mp c95
                          rw [ea94] at q1
                          have q2 := (w64 c82 c90 (Kz r7 hr7)).mp q1
                          have q3 := y.2.2.2.1
                          omega
                        rw [ea98]
                        refine ⟨by simp only [S_move, yk1, zk1, yk4, zk4, er7, qr7, cn_nI (show r7 < 2 ^ 31 by omega), er13, qr13, cn_nI (show r13 < 2 ^ 31 by omega), ql, s_tell, ↓reduceIte, Bool.false_eq_true, true_or, or_true, or_self, Int32.zero_mul], ?_⟩
                        simp only [S_move, yk1, zk1, yk4, zk4, er7, qr7, cn_nI (show r7 < 2 ^ 31 by omega), er13, qr13, cn_nI (show r13 < 2 ^ 31 by omega), ql, s_tell, ↓reduceIte, Bool.false_eq_true, true_or, or_true, or_self, Int32.zero_mul]
                        exact ⟨_, _, _, _, _, _, _, _, _, R⟩
                      · skip
                        refine lv_iload hx hb dX5_move_133 (lv_at hl 7 rfl) ?_
                        refine lv_i2l (v := (Int32.toInt64 j)) hx hb dX5_move_135 rfl ?_
                        refine lv_iload hx hb dX5_move_136 (lv_at hl 8 rfl) ?_
                        refine lv_i2l (v := (Int32.toInt64 z)) hx hb dX5_move_138 rfl ?_
                        refine lv_ladd hx hb dX5_move_139 ?_
                        refine lv_topl (fun a99 ea99 => ?_)
                        refine lv_aload_n hx hb dX5_move_140 rfl (lv_at hl 3 rfl) ?_
                        refine g_get S G (Rm_m R) rfl (by decide +kernel) 7 (by decide) (by decide +kernel) rfl dX5_move_141 ?_
                        refine lv_iload hx hb dX5_move_144 (lv_at hl 1 rfl) ?_
                        refine g_iald S G (Rm_Z R) (vin_e er13 (show r13 < 520 by omega) (by omega)) dX5_move_146 ?_
                        rw [show Int32.toNatClampNeg (hd k4) = r13 by rw [er13]; exact nI_clamp (by omega)]
                        refine lv_i2l (v := (Int32.toInt64 (sz r13))) hx hb dX5_move_147 rfl ?_
                        refine W.lcmp hx hb dX5_move_148 ?_
                        refine lv_if_gt (tgt := 156) hx hb dX5_move_149 (by decide) (fun c100 => ?_) (fun c100 => ?_)
                        · skip
                          refine lv_iconst (v := 0) hx hb dX5_move_156 (by decide) ?_
                          refine lv_istore (lv' := [(9, .int 0), (8, .int 0), (7, .int (hd k4)), (6, .int (hd k1)), (0, .ref m), (1, .int t), (2, .int i), (3, .int o), (4, .int j), (5, .int z)]) hx hb dX5_move_157 hl (by decide) rfl (fun ls hl => ?_)
                          refine lv_iload hx hb dX5_move_159 (lv_at hl 1 rfl) ?_
                          refine lv_if_eq (tgt := 169) hx hb dX5_move_161 (by decide) (fun c101 => ?_) (fun c101 => absurd (by decide) c101)
                          refine lv_iconst (v := 0) hx hb dX5_move_169 (by decide) ?_
                          refine lv_aload_n hx hb dX5_move_170 rfl (lv_at hl 4 rfl) ?_
                          refine lv_iload hx hb dX5_move_171 (lv_at hl 1 rfl) ?_
                          refine lv_if_eq (tgt := 180) hx hb dX5_move_173 (by decide) (fun c102 => ?_) (fun c102 => absurd (by decide) c102)
                          refine lv_iconst (v := 5) hx hb dX5_move_180 (by decide) ?_
                          refine g_Vi (n := 1) (rest := [.int 0]) S G hl (c_X5_tell l R (j := 5) (o := 5) rfl (by decide)) gX5_move_X5_tell rfl (by decide +kernel) (Rm_m R) rfl rfl rfl (Nat.le_of_ble_eq_true rfl) ⟨Nat.le_of_ble_eq_true rfl, Nat.le_of_ble_eq_true rfl⟩ ⟨Nat.le_of_ble_eq_true rfl, Nat.le_of_ble_eq_true rfl⟩ dX5_move_181 ?_
                          clear G; intro r_ w1 H locs hp G
                          obtain ⟨hr_, R⟩ := hp
                          subst r_
                          refine lv_imul hx hb dX5_move_184 ?_
                          refine lv_topi (fun a103 ea103 => ?_)
                          have da103 : a103 = nI (0 * 5) := by rw [ea103]; exact pk_mul 0 5
                          refine r_int S hret hlk G rfl (Nat.le_of_ble_eq_true rfl) (Nat.le_of_ble_eq_true rfl) dX5_move_185 ?_
                          have yk1 := tin_e ek1 hk1 (show n ≤ 1000 by omega)
                          have zk1 := cn_e ek1 (show k1 < 1000 by omega)
                          have yk4 := tin_e ek4 hk4 (show n ≤ 1000 by omega)
                          have zk4 := cn_e ek4 (show k4 < 1000 by omega)
                          have qr7 := nm1 (show r7 < 100000 by omega)
                          have qr13 := nm1 (show r13 < 100000 by omega)
                          have ql : ¬ (so r7 = so r13 ∨ (1 < so r7 ∧ 1 < so r13)) := fun y => y.elim c19 (fun y => Int32.not_lt.mpr c81 y.2)
                          have wx0 : cn i + cn z ≤ cn (sz r7) := Nat.not_lt.mp (fun y => c95 ((lg_cmp_gt _ _).mpr (by rw [ea94]; exact (w64 c82 c90 (Kz r7 hr7)).mpr y)))
                          have qw : ¬ (0 ≤ i ∧ 0 ≤ j ∧ 0 ≤ z ∧ cn i + cn z ≤ cn (sz r7) ∧ cn j + cn z ≤ cn (sz r13)) := fun y => by
                            have q1 := (lg_cmp_gt _ _).mp c100
                            rw [ea99] at q1
                            have q2 := (w64 c86 c90 (Kz r13 hr13)).mp q1
                            have q3 := y.2.2.2.2
                            omega
                          rw [ea103]
                          refine ⟨by simp only [S_move, yk1, zk1, yk4, zk4, er7, qr7, cn_nI (show r7 < 2 ^ 31 by omega), er13, qr13, cn_nI (show r13 < 2 ^ 31 by omega), ql, s_tell, ↓reduceIte, Bool.false_eq_true, true_or, or_true, or_self, Int32.zero_mul], ?_⟩
                          simp only [S_move, yk1, zk1, yk4, zk4, er7, qr7, cn_nI (show r7 < 2 ^ 31 by omega), er13, qr13, cn_nI (show r13 < 2 ^ 31 by omega), ql, s_tell, ↓reduceIte, Bool.false_eq_true, true_or, or_true, or_self, Int32.zero_mul]
                          exact ⟨_, _, _, _, _, _, _, _, _, R⟩
                        · skip
                          refine lv_iconst (v := 1) hx hb dX5_move_152 (by decide) ?_
                          refine lv_goto (tgt := 157) hx hb dX5_move_153 (by decide) ?_
                          refine lv_istore (lv' := [(9, .int 1), (8, .int 0), (7, .int (hd k4)), (6, .int (hd k1)), (0, .ref m), (1, .int t), (2, .int i), (3, .int o), (4, .int j), (5, .int z)]) hx hb dX5_move_157 hl (by decide) rfl (fun ls hl => ?_)
                          refine lv_iload hx hb dX5_move_159 (lv_at hl 1 rfl) ?_
                          refine lv_if_eq (tgt := 169) hx hb dX5_move_161 (by decide) (fun c104 => ?_) (fun c104 => absurd (by decide) c104)
                          refine lv_iconst (v := 0) hx hb dX5_move_169 (by decide) ?_
                          refine lv_aload_n hx hb dX5_move_170 rfl (lv_at hl 4 rfl) ?_
                          refine lv_iload hx hb dX5_move_171 (lv_at hl 1 rfl) ?_
                          refine lv_if_eq (tgt := 180) hx hb dX5_move_173 (by decide) (fun c105 => ?_) (fun c105 => absurd (by decide) c105)
                          refine lv_iconst (v := 5) hx hb dX5_move_180 (by decide) ?_
                          refine g_Vi (n := 1) (rest := [.int 0]) S G hl (c_X5_tell l R (j := 5) (o := 5) rfl (by decide)) gX5_move_X5_tell rfl (by decide +kernel) (Rm_m R) rfl rfl rfl (Nat.le_of_ble_eq_true rfl) ⟨Nat.le_of_ble_eq_true rfl, Nat.le_of_ble_eq_true rfl⟩ ⟨Nat.le_of_ble_eq_true rfl, Nat.le_of_ble_eq_true rfl⟩ dX5_move_181 ?_
                          clear G; intro r_ w1 H locs hp G
                          obtain ⟨hr_, R⟩ := hp
                          subst r_
                          refine lv_imul hx hb dX5_move_184 ?_
                          refine lv_topi (fun a106 ea106 => ?_)
                          have da106 : a106 = nI (0 * 5) := by rw [ea106]; exact pk_mul 0 5
                          refine r_int S hret hlk G rfl (Nat.le_of_ble_eq_true rfl) (Nat.le_of_ble_eq_true rfl) dX5_move_185 ?_
                          have yk1 := tin_e ek1 hk1 (show n ≤ 1000 by omega)
                          have zk1 := cn_e ek1 (show k1 < 1000 by omega)
                          have yk4 := tin_e ek4 hk4 (show n ≤ 1000 by omega)
                          have zk4 := cn_e ek4 (show k4 < 1000 by omega)
                          have qr7 := nm1 (show r7 < 100000 by omega)
                          have qr13 := nm1 (show r13 < 100000 by omega)
                          have ql : ¬ (so r7 = so r13 ∨ (1 < so r7 ∧ 1 < so r13)) := fun y => y.elim c19 (fun y => Int32.not_lt.mpr c81 y.2)
                          have wx0 : cn i + cn z ≤ cn (sz r7) := Nat.not_lt.mp (fun y => c95 ((lg_cmp_gt _ _).mpr (by rw [ea94]; exact (w64 c82 c90 (Kz r7 hr7)).mpr y)))
                          have wx1 : cn j + cn z ≤ cn (sz r13) := Nat.not_lt.mp (fun y => c100 ((lg_cmp_gt _ _).mpr (by rw [ea99]; exact (w64 c86 c90 (Kz r13 hr13)).mpr y)))
                          have qw : 0 ≤ i ∧ 0 ≤ j ∧ 0 ≤ z ∧ cn i + cn z ≤ cn (sz r7) ∧ cn j + cn z ≤ cn (sz r13) := ⟨Int32.not_lt.mp c82, Int32.not_lt.mp c86, Int32.not_lt.mp c90, wx0, wx1⟩
                          rw [ea106]
                          refine ⟨by simp only [S_move, yk1, zk1, yk4, zk4, er7, qr7, cn_nI (show r7 < 2 ^ 31 by omega), er13, qr13, cn_nI (show r13 < 2 ^ 31 by omega), ql, s_tell, ↓reduceIte, Bool.false_eq_true, true_or, or_true, or_self, Int32.zero_mul], ?_⟩
                          simp only [S_move, yk1, zk1, yk4, zk4, er7, qr7, cn_nI (show r7 < 2 ^ 31 by omega), er13, qr13, cn_nI (show r13 < 2 ^ 31 by omega), ql, s_tell, ↓reduceIte, Bool.false_eq_true, true_or, or_true, or_self, Int32.zero_mul]
                          exact ⟨_, _, _, _, _, _, _, _, _, R⟩
              · skip
                refine lv_iconst (v := 1) hx hb dX5_move_94 (by decide) ?_
                refine lv_goto (tgt := 99) hx hb dX5_move_95 (by decide) ?_
                refine lv_istore (lv' := [(8, .int 1), (7, .int (hd k4)), (6, .int (hd k1)), (0, .ref m), (1, .int t), (2, .int i), (3, .int o), (4, .int j), (5, .int z)]) hx hb dX5_move_99 hl (by decide) rfl (fun ls hl => ?_)
                refine lv_iload_n hx hb dX5_move_101 rfl (lv_at hl 5 rfl) ?_
                refine lv_if_lt (tgt := 156) hx hb dX5_move_102 (by decide) (fun c107 => ?_) (fun c107 => ?_)
                · skip
                  refine lv_iconst (v := 0) hx hb dX5_move_156 (by decide) ?_
                  refine lv_istore (lv' := [(9, .int 0), (8, .int 1), (7, .int (hd k4)), (6, .int (hd k1)), (0, .ref m), (1, .int t), (2, .int i), (3, .int o), (4, .int j), (5, .int z)]) hx hb dX5_move_157 hl (by decide) rfl (fun ls hl => ?_)
                  refine lv_iload hx hb dX5_move_159 (lv_at hl 1 rfl) ?_
                  refine lv_if_eq (tgt := 169) hx hb dX5_move_161 (by decide) (fun c108 => absurd c108 (by decide)) (fun c108 => ?_)
                  refine lv_iload hx hb dX5_move_164 (lv_at hl 0 rfl) ?_
                  refine lv_if_ne (tgt := 186) hx hb dX5_move_166 (by decide) (fun c109 => absurd (by decide) c109) (fun c109 => ?_)
                  refine lv_iconst (v := 0) hx hb dX5_move_169 (by decide) ?_
                  refine lv_aload_n hx hb dX5_move_170 rfl (lv_at hl 4 rfl) ?_
                  refine lv_iload hx hb dX5_move_171 (lv_at hl 1 rfl) ?_
                  refine lv_if_eq (tgt := 180) hx hb dX5_move_173 (by decide) (fun c110 => absurd c110 (by decide)) (fun c110 => ?_)
                  refine lv_iconst (v := 3) hx hb dX5_move_176 (by decide) ?_
                  refine lv_goto (tgt := 181) hx hb dX5_move_177 (by decide) ?_
                  refine g_Vi (n := 1) (rest := [.int 0]) S G hl (c_X5_tell l R (j := 3) (o := 3) rfl (by decide)) gX5_move_X5_tell rfl (by decide +kernel) (Rm_m R) rfl rfl rfl (Nat.le_of_ble_eq_true rfl) ⟨Nat.le_of_ble_eq_true rfl, Nat.le_of_ble_eq_true rfl⟩ ⟨Nat.le_of_ble_eq_true rfl, Nat.le_of_ble_eq_true rfl⟩ dX5_move_181 ?_
                  clear G; intro r_ w1 H locs hp G
                  obtain ⟨hr_, R⟩ := hp
                  subst r_
                  refine lv_imul hx hb dX5_move_184 ?_
                  refine lv_topi (fun a111 ea111 => ?_)
                  have da111 : a111 = nI (0 * 3) := by rw [ea111]; exact pk_mul 0 3
                  refine r_int S hret hlk G rfl (Nat.le_of_ble_eq_true rfl) (Nat.le_of_ble_eq_true rfl) dX5_move_185 ?_
                  have yk1 := tin_e ek1 hk1 (show n ≤ 1000 by omega)
                  have zk1 := cn_e ek1 (show k1 < 1000 by omega)
                  have yk4 := tin_e ek4 hk4 (show n ≤ 1000 by omega)
                  have zk4 := cn_e ek4 (show k4 < 1000 by omega)
                  have qr7 := nm1 (show r7 < 100000 by omega)
                  have qr13 := nm1 (show r13 < 100000 by omega)
                  have ql : so r7 = so r13 ∨ (1 < so r7 ∧ 1 < so r13) := Or.inr ⟨Int32.not_le.mp c55, Int32.not_le.mp c81⟩
                  have qw : ¬ (0 ≤ i ∧ 0 ≤ j ∧ 0 ≤ z ∧ cn i + cn z ≤ cn (sz r7) ∧ cn j + cn z ≤ cn (sz r13)) := fun y => Int32.not_lt.mpr y.1 c107
                  rw [ea111]
                  refine ⟨by simp only [S_move, yk1, zk1, yk4, zk4, er7, qr7, cn_nI (show r7 < 2 ^ 31 by omega), er13, qr13, cn_nI (show r13 < 2 ^ 31 by omega), ql, qw, s_tell, ↓reduceIte, Bool.false_eq_true, true_or, or_true, or_self, Int32.zero_mul], ?_⟩
                  simp only [S_move, yk1, zk1, yk4, zk4, er7, qr7, cn_nI (show r7 < 2 ^ 31 by omega), er13, qr13, cn_nI (show r13 < 2 ^ 31 by omega), ql, qw, s_tell, ↓reduceIte, Bool.false_eq_true, true_or, or_true, or_self, Int32.zero_mul]
                  exact ⟨_, _, _, _, _, _, _, _, _, R⟩
                · skip
                  refine lv_iload hx hb dX5_move_105 (lv_at hl 7 rfl) ?_
                  refine lv_if_lt (tgt := 156) hx hb dX5_move_107 (by decide) (fun c112 => ?_) (fun c112 => ?_)
                  · skip
                    refine lv_iconst (v := 0) hx hb dX5_move_156 (by decide) ?_
                    refine lv_istore (lv' := [(9, .int 0), (8, .int 1), (7, .int (hd k4)), (6, .int (hd k1)), (0, .ref m), (1, .int t), (2, .int i), (3, .int o), (4, .int j), (5, .int z)]) hx hb dX5_move_157 hl (by decide) rfl (fun ls hl => ?_)
                    refine lv_iload hx hb dX5_move_159 (lv_at hl 1 rfl) ?_
                    refine lv_if_eq (tgt := 169) hx hb dX5_move_161 (by decide) (fun c113 => absurd c113 (by decide)) (fun c113 => ?_)
                    refine lv_iload hx hb dX5_move_164 (lv_at hl 0 rfl) ?_
                    refine lv_if_ne (tgt := 186) hx hb dX5_move_166 (by decide) (fun c114 => absurd (by decide) c114) (fun c114 => ?_)
                    refine lv_iconst (v := 0) hx hb dX5_move_169 (by decide) ?_
                    refine lv_aload_n hx hb dX5_move_170 rfl (lv_at hl 4 rfl) ?_
                    refine lv_iload hx hb dX5_move_171 (lv_at hl 1 rfl) ?_
                    refine lv_if_eq (tgt := 180) hx hb dX5_move_173 (by decide) (fun c115 => absurd c115 (by decide)) (fun c115 => ?_)
                    refine lv_iconst (v := 3) hx hb dX5_move_176 (by decide) ?_
                    refine lv_goto (tgt := 181) hx hb dX5_move_177 (by decide) ?_
                    refine g_Vi (n := 1) (rest := [.int 0]) S G hl (c_X5_tell l R (j := 3) (o := 3) rfl (by decide)) gX5_move_X5_tell rfl (by decide +kernel) (Rm_m R) rfl rfl rfl (Nat.le_of_ble_eq_true rfl) ⟨Nat.le_of_ble_eq_true rfl, Nat.le_of_ble_eq_true rfl⟩ ⟨Nat.le_of_ble_eq_true rfl, Nat.le_of_ble_eq_true rfl⟩ dX5_move_181 ?_
                    clear G; intro r_ w1 H locs hp G
                    obtain ⟨hr_, R⟩ := hp
                    subst r_
                    refine lv_imul hx hb dX5_move_184 ?_
                    refine lv_topi (fun a116 ea116 => ?_)
                    have da116 : a116 = nI (0 * 3) := by rw [ea116]; exact pk_mul 0 3
                    refine r_int S hret hlk G rfl (Nat.le_of_ble_eq_true rfl) (Nat.le_of_ble_eq_true rfl) dX5_move_185 ?_
                    have yk1 := tin_e ek1 hk1 (show n ≤ 1000 by omega)
                    have zk1 := cn_e ek1 (show k1 < 1000 by omega)
                    have yk4 := tin_e ek4 hk4 (show n ≤ 1000 by omega)
                    have zk4 := cn_e ek4 (show k4 < 1000 by omega)
                    have qr7 := nm1 (show r7 < 100000 by omega)
                    have qr13 := nm1 (show r13 < 100000 by omega)
                    have ql : so r7 = so r13 ∨ (1 < so r7 ∧ 1 < so r13) := Or.inr ⟨Int32.not_le.mp c55, Int32.not_le.mp c81⟩
                    have qw : ¬ (0 ≤ i ∧ 0 ≤ j ∧ 0 ≤ z ∧ cn i + cn z ≤ cn (sz r7) ∧ cn j + cn z ≤ cn (sz r13)) := fun y => Int32.not_lt.mpr y.2.1 c112
                    rw [ea116]
                    refine ⟨by simp only [S_move, yk1, zk1, yk4, zk4, er7, qr7, cn_nI (show r7 < 2 ^ 31 by omega), er13, qr13, cn_nI (show r13 < 2 ^ 31 by omega), ql, qw, s_tell, ↓reduceIte, Bool.false_eq_true, true_or, or_true, or_self, Int32.zero_mul], ?_⟩
                    simp only [S_move, yk1, zk1, yk4, zk4, er7, qr7, cn_nI (show r7 < 2 ^ 31 by omega), er13, qr13, cn_nI (show r13 < 2 ^ 31 by omega), ql, qw, s_tell, ↓reduceIte, Bool.false_eq_true, true_or, or_true, or_self, Int32.zero_mul]
                    exact ⟨_, _, _, _, _, _, _, _, _, R⟩
                  · skip
                    refine lv_iload hx hb dX5_move_110 (lv_at hl 8 rfl) ?_
                    refine lv_if_lt (tgt := 156) hx hb dX5_move_112 (by decide) (fun c117 => ?_) (fun c117 => ?_)
                    · skip
                      refine lv_iconst (v := 0) hx hb dX5_move_156 (by decide) ?_
                      refine lv_istore (lv' := [(9, .int 0), (8, .int 1), (7, .int (hd k4)), (6, .int (hd k1)), (0, .ref m), (1, .int t), (2, .int i), (3, .int o), (4, .int j), (5, .int z)]) hx hb dX5_move_157 hl (by decide) rfl (fun ls hl => ?_)
                      refine lv_iload hx hb dX5_move_159 (lv_at hl 1 rfl) ?_
                      refine lv_if_eq (tgt := 169) hx hb dX5_move_161 (by decide) (fun c118 => absurd c118 (by decide)) (fun c118 => ?_)
                      refine lv_iload hx hb dX5_move_164 (lv_at hl 0 rfl) ?_
                      refine lv_if_ne (tgt := 186) hx hb dX5_move_166 (by decide) (fun c119 => absurd (by decide) c119) (fun c119 => ?_)
                      refine lv_iconst (v := 0) hx hb dX5_move_169 (by decide) ?_
                      refine lv_aload_n hx hb dX5_move_170 rfl (lv_at hl 4 rfl) ?_
                      refine lv_iload hx hb dX5_move_171 (lv_at hl 1 rfl) ?_
                      refine lv_if_eq (tgt := 180) hx hb dX5_move_173 (by decide) (fun c120 => absurd c120 (by decide)) (fun c120 => ?_)
                      refine lv_iconst (v := 3) hx hb dX5_move_176 (by decide) ?_
                      refine lv_goto (tgt := 181) hx hb dX5_move_177 (by decide) ?_
                      refine g_Vi (n := 1) (rest := [.int 0]) S G hl (c_X5_tell l R (j := 3) (o := 3) rfl (by decide)) gX5_move_X5_tell rfl (by decide +kernel) (Rm_m R) rfl rfl rfl (Nat.le_of_ble_eq_true rfl) ⟨Nat.le_of_ble_eq_true rfl, Nat.le_of_ble_eq_true rfl⟩ ⟨Nat.le_of_ble_eq_true rfl, Nat.le_of_ble_eq_true rfl⟩ dX5_move_181 ?_
                      clear G; intro r_ w1 H locs hp G
                      obtain ⟨hr_, R⟩ := hp
                      subst r_
                      refine lv_imul hx hb dX5_move_184 ?_
                      refine lv_topi (fun a121 ea121 => ?_)
                      have da121 : a121 = nI (0 * 3) := by rw [ea121]; exact pk_mul 0 3
                      refine r_int S hret hlk G rfl (Nat.le_of_ble_eq_true rfl) (Nat.le_of_ble_eq_true rfl) dX5_move_185 ?_
                      have yk1 := tin_e ek1 hk1 (show n ≤ 1000 by omega)
                      have zk1 := cn_e ek1 (show k1 < 1000 by omega)
                      have yk4 := tin_e ek4 hk4 (show n ≤ 1000 by omega)
                      have zk4 := cn_e ek4 (show k4 < 1000 by omega)
                      have qr7 := nm1 (show r7 < 100000 by omega)
                      have qr13 := nm1 (show r13 < 100000 by omega)
                      have ql : so r7 = so r13 ∨ (1 < so r7 ∧ 1 < so r13) := Or.inr ⟨Int32.not_le.mp c55, Int32.not_le.mp c81⟩
                      have qw : ¬ (0 ≤ i ∧ 0 ≤ j ∧ 0 ≤ z ∧ cn i + cn z ≤ cn (sz r7) ∧ cn j + cn z ≤ cn (sz r13)) := fun y => Int32.not_lt.mpr y.2.2.1 c117
                      rw [ea121]
                      refine ⟨by simp only [S_move, yk1, zk1, yk4, zk4, er7, qr7, cn_nI (show r7 < 2 ^ 31 by omega), er13, qr13, cn_nI (show r13 < 2 ^ 31 by omega), ql, qw, s_tell, ↓reduceIte, Bool.false_eq_true, true_or, or_true, or_self, Int32.zero_mul], ?_⟩
                      simp only [S_move, yk1, zk1, yk4, zk4, er7, qr7, cn_nI (show r7 < 2 ^ 31 by omega), er13, qr13, cn_nI (show r13 < 2 ^ 31 by omega), ql, qw, s_tell, ↓reduceIte, Bool.false_eq_true, true_or, or_true, or_self, Int32.zero_mul]
                      exact ⟨_, _, _, _, _, _, _, _, _, R⟩
                    · skip
                      refine lv_iload_n hx hb dX5_move_115 rfl (lv_at hl 5 rfl) ?_
                      refine lv_i2l (v := (Int32.toInt64 i)) hx hb dX5_move_116 rfl ?_
                      refine lv_iload hx hb dX5_move_117 (lv_at hl 8 rfl) ?_
                      refine lv_i2l (v := (Int32.toInt64 z)) hx hb dX5_move_119 rfl ?_
                      refine lv_ladd hx hb dX5_move_120 ?_
                      refine lv_topl (fun a122 ea122 => ?_)
                      refine lv_aload_n hx hb dX5_move_121 rfl (lv_at hl 3 rfl) ?_
                      refine g_get S G (Rm_m R) rfl (by decide +kernel) 7 (by decide) (by decide +kernel) rfl dX5_move_122 ?_
                      refine lv_iload hx hb dX5_move_125 (lv_at hl 2 rfl) ?_
                      refine g_iald S G (Rm_Z R) (vin_e er7 (show r7 < 520 by omega) (by omega)) dX5_move_127 ?_
                      rw [show Int32.toNatClampNeg (hd k1) = r7 by rw [er7]; exact nI_clamp (by omega)]
                      refine lv_i2l (v := (Int32.toInt64 (sz r7))) hx hb dX5_move_128 rfl ?_
                      refine W.lcmp hx hb dX5_move_129 ?_
                      refine lv_if_gt (tgt := 156) hx hb dX5_move_130 (by decide) (fun c123 => ?_) (fun c123 => ?_)
                      · skip
                        refine lv_iconst (v := 0) hx hb dX5_move_156 (by decide) ?_
                        refine lv_istore (lv' := [(9, .int 0), (8, .int 1), (7, .int (hd k4)), (6, .int (hd k1)), (0, .ref m), (1, .int t), (2, .int i), (3, .int o), (4, .int j), (5, .int z)]) hx hb dX5_move_157 hl (by decide) rfl (fun ls hl => ?_)
                        refine lv_iload hx hb dX5_move_159 (lv_at hl 1 rfl) ?_
                        refine lv_if_eq (tgt := 169) hx hb dX5_move_161 (by decide) (fun c124 => absurd c124 (by decide)) (fun c124 => ?_)
                        refine lv_iload hx hb dX5_move_164 (lv_at hl 0 rfl) ?_
                        refine lv_if_ne (tgt := 186) hx hb dX5_move_166 (by decide) (fun c125 => absurd (by decide) c125) (fun c125 => ?_)
                        refine lv_iconst (v := 0) hx hb dX5_move_169 (by decide) ?_
                        refine lv_aload_n hx hb dX5_move_170 rfl (lv_at hl 4 rfl) ?_
                        refine lv_iload hx hb dX5_move_171 (lv_at hl 1 rfl) ?_
                        refine lv_if_eq (tgt := 180) hx hb dX5_move_173 (by decide) (fun c126 => absurd c126 (by decide)) (fun c126 => ?_)
                        refine lv_iconst (v := 3) hx hb dX5_move_176 (by decide) ?_
                        refine lv_goto (tgt := 181) hx hb dX5_move_177 (by decide) ?_
                        refine g_Vi (n := 1) (rest := [.int 0]) S G hl (c_X5_tell l R (j := 3) (o := 3) rfl (by decide)) gX5_move_X5_tell rfl (by decide +kernel) (Rm_m R) rfl rfl rfl (Nat.le_of_ble_eq_true rfl) ⟨Nat.le_of_ble_eq_true rfl, Nat.le_of_ble_eq_true rfl⟩ ⟨Nat.le_of_ble_eq_true rfl, Nat.le_of_ble_eq_true rfl⟩ dX5_move_181 ?_
                        clear G; intro r_ w1 H locs hp G
                        obtain ⟨hr_, R⟩ := hp
                        subst r_
                        refine lv_imul hx hb dX5_move_184 ?_
                        refine lv_topi (fun a127 ea127 => ?_)
                        have da127 : a127 = nI (0 * 3) := by rw [ea127]; exact pk_mul 0 3
                        refine r_int S hret hlk G rfl (Nat.le_of_ble_eq_true rfl) (Nat.le_of_ble_eq_true rfl) dX5_move_185 ?_
                        have yk1 := tin_e ek1 hk1 (show n ≤ 1000 by omega)
                        have zk1 := cn_e ek1 (show k1 < 1000 by omega)
                        have yk4 := tin_e ek4 hk4 (show n ≤ 1000 by omega)
                        have zk4 := cn_e ek4 (show k4 < 1000 by omega)
                        have qr7 := nm1 (show r7 < 100000 by omega)
                        have qr13 := nm1 (show r13 < 100000 by omega)
                        have ql : so r7 = so r13 ∨ (1 < so r7 ∧ 1 < so r13) := Or.inr ⟨Int32.not_le.mp c55, Int32.not_le.mp c81⟩
                        have qw : ¬ (0 ≤ i ∧ 0 ≤ j ∧ 0 ≤ z ∧ cn i + cn z ≤ cn (sz r7) ∧ cn j + cn z ≤ cn (sz r13)) := fun y => by
                          have q1 := (lg_cmp_gt _ _).mp c123
                          rw [ea122] at q1
                          have q2 := (w64 c107 c117 (Kz r7 hr7)).mp q1
                          have q3 := y.2.2.2.1
                          omega
                        rw [ea127]
                        refine ⟨by simp only [S_move, yk1, zk1, yk4, zk4, er7, qr7, cn_nI (show r7 < 2 ^ 31 by omega), er13, qr13, cn_nI (show r13 < 2 ^ 31 by omega), ql, qw, s_tell, ↓reduceIte, Bool.false_eq_true, true_or, or_true, or_self, Int32.zero_mul], ?_⟩
                        simp only [S_move, yk1, zk1, yk4, zk4, er7, qr7, cn_nI (show r7 < 2 ^ 31 by omega), er13, qr13, cn_nI (show r13 < 2 ^ 31 by omega), ql, qw, s_tell, ↓reduceIte, Bool.false_eq_true, true_or, or_true, or_self, Int32.zero_mul]
                        exact ⟨_, _, _, _, _, _, _, _, _, R⟩
                      · skip
                        refine lv_iload hx hb dX5_move_133 (lv_at hl 7 rfl) ?_
                        refine lv_i2l (v := (Int32.toInt64 j)) hx hb dX5_move_135 rfl ?_
                        refine lv_iload hx hb dX5_move_136 (lv_at hl 8 rfl) ?_
                        refine lv_i2l (v := (Int32.toInt64 z)) hx hb dX5_move_138 rfl ?_
                        refine lv_ladd hx hb dX5_move_139 ?_
                        refine lv_topl (fun a128 ea128 => ?_)
                        refine lv_aload_n hx hb dX5_move_140 rfl (lv_at hl 3 rfl) ?_
                        refine g_get S G (Rm_m R) rfl (by decide +kernel) 7 (by decide) (by decide +kernel) rfl dX5_move_141 ?_
                        refine lv_iload hx hb dX5_move_144 (lv_at hl 1 rfl) ?_
                        refine g_iald S G (Rm_Z R) (vin_e er13 (show r13 < 520 by omega) (by omega)) dX5_move_146 ?_
                        rw [show Int32.toNatClampNeg (hd k4) = r13 by rw [er13]; exact nI_clamp (by omega)]
                        refine lv_i2l (v := (Int32.toInt64 (sz r13))) hx hb dX5_move_147 rfl ?_
                        refine W.lcmp hx hb dX5_move_148 ?_
                        refine lv_if_gt (tgt := 156) hx hb dX5_move_149 (by decide) (fun c129 => ?_) (fun c129 => ?_)
                        · skip
                          refine lv_iconst (v := 0) hx hb dX5_move_156 (by decide) ?_
                          refine lv_istore (lv' := [(9, .int 0), (8, .int 1), (7, .int (hd k4)), (6, .int (hd k1)), (0, .ref m), (1, .int t), (2, .int i), (3, .int o), (4, .int j), (5, .int z)]) hx hb dX5_move_157 hl (by decide) rfl (fun ls hl => ?_)
                          refine lv_iload hx hb dX5_move_159 (lv_at hl 1 rfl) ?_
                          refine lv_if_eq (tgt := 169) hx hb dX5_move_161 (by decide) (fun c130 => absurd c130 (by decide)) (fun c130 => ?_)
                          refine lv_iload hx hb dX5_move_164 (lv_at hl 0 rfl) ?_
                          refine lv_if_ne (tgt := 186) hx hb dX5_move_166 (by decide) (fun c131 => absurd (by decide) c131) (fun c131 => ?_)
                          refine lv_iconst (v := 0) hx hb dX5_move_169 (by decide) ?_
                          refine lv_aload_n hx hb dX5_move_170 rfl (lv_at hl 4 rfl) ?_
                          refine lv_iload hx hb dX5_move_171 (lv_at hl 1 rfl) ?_
                          refine lv_if_eq (tgt := 180) hx hb dX5_move_173 (by decide) (fun c132 => absurd c132 (by decide)) (fun c132 => ?_)
                          refine lv_iconst (v := 3) hx hb dX5_move_176 (by decide) ?_
                          refine lv_goto (tgt := 181) hx hb dX5_move_177 (by decide) ?_
                          refine g_Vi (n := 1) (rest := [.int 0]) S G hl (c_X5_tell l R (j := 3) (o := 3) rfl (by decide)) gX5_move_X5_tell rfl (by decide +kernel) (Rm_m R) rfl rfl rfl (Nat.le_of_ble_eq_true rfl) ⟨Nat.le_of_ble_eq_true rfl, Nat.le_of_ble_eq_true rfl⟩ ⟨Nat.le_of_ble_eq_true rfl, Nat.le_of_ble_eq_true rfl⟩ dX5_move_181 ?_
                          clear G; intro r_ w1 H locs hp G
                          obtain ⟨hr_, R⟩ := hp
                          subst r_
                          refine lv_imul hx hb dX5_move_184 ?_
                          refine lv_topi (fun a133 ea133 => ?_)
                          have da133 : a133 = nI (0 * 3) := by rw [ea133]; exact pk_mul 0 3
                          refine r_int S hret hlk G rfl (Nat.le_of_ble_eq_true rfl) (Nat.le_of_ble_eq_true rfl) dX5_move_185 ?_
                          have yk1 := tin_e ek1 hk1 (show n ≤ 1000 by omega)
                          have zk1 := cn_e ek1 (show k1 < 1000 by omega)
                          have yk4 := tin_e ek4 hk4 (show n ≤ 1000 by omega)
                          have zk4 := cn_e ek4 (show k4 < 1000 by omega)
                          have qr7 := nm1 (show r7 < 100000 by omega)
                          have qr13 := nm1 (show r13 < 100000 by omega)
                          have ql : so r7 = so r13 ∨ (1 < so r7 ∧ 1 < so r13) := Or.inr ⟨Int32.not_le.mp c55, Int32.not_le.mp c81⟩
                          have wx0 : cn i + cn z ≤ cn (sz r7) := Nat.not_lt.mp (fun y => c123 ((lg_cmp_gt _ _).mpr (by rw [ea122]; exact (w64 c107 c117 (Kz r7 hr7)).mpr y)))
                          have qw : ¬ (0 ≤ i ∧ 0 ≤ j ∧ 0 ≤ z ∧ cn i + cn z ≤ cn (sz r7) ∧ cn j + cn z ≤ cn (sz r13)) := fun y => by
                            have q1 := (lg_cmp_gt _ _).mp c129
                            rw [ea128] at q1
                            have q2 := (w64 c112 c117 (Kz r13 hr13)).mp q1
                            have q3 := y.2.2.2.2
                            omega
                          rw [ea133]
                          refine ⟨by simp only [S_move, yk1, zk1, yk4, zk4, er7, qr7, cn_nI (show r7 < 2 ^ 31 by omega), er13, qr13, cn_nI (show r13 < 2 ^ 31 by omega), ql, qw, s_tell, ↓reduceIte, Bool.false_eq_true, true_or, or_true, or_self, Int32.zero_mul], ?_⟩
                          simp only [S_move, yk1, zk1, yk4, zk4, er7, qr7, cn_nI (show r7 < 2 ^ 31 by omega), er13, qr13, cn_nI (show r13 < 2 ^ 31 by omega), ql, qw, s_tell, ↓reduceIte, Bool.false_eq_true, true_or, or_true, or_self, Int32.zero_mul]
                          exact ⟨_, _, _, _, _, _, _, _, _, R⟩
                        · skip
                          refine lv_iconst (v := 1) hx hb dX5_move_152 (by decide) ?_
                          refine lv_goto (tgt := 157) hx hb dX5_move_153 (by decide) ?_
                          refine lv_istore (lv' := [(9, .int 1), (8, .int 1), (7, .int (hd k4)), (6, .int (hd k1)), (0, .ref m), (1, .int t), (2, .int i), (3, .int o), (4, .int j), (5, .int z)]) hx hb dX5_move_157 hl (by decide) rfl (fun ls hl => ?_)
                          refine lv_iload hx hb dX5_move_159 (lv_at hl 1 rfl) ?_
                          refine lv_if_eq (tgt := 169) hx hb dX5_move_161 (by decide) (fun c134 => absurd c134 (by decide)) (fun c134 => ?_)
                          refine lv_iload hx hb dX5_move_164 (lv_at hl 0 rfl) ?_
                          refine lv_if_ne (tgt := 186) hx hb dX5_move_166 (by decide) (fun c135 => ?_) (fun c135 => absurd c135 (by decide))
                          refine lv_aload_n hx hb dX5_move_186 rfl (lv_at hl 4 rfl) ?_
                          refine lv_iload hx hb dX5_move_187 (lv_at hl 3 rfl) ?_
                          refine lv_iload_n hx hb dX5_move_189 rfl (lv_at hl 6 rfl) ?_
                          refine lv_iload hx hb dX5_move_190 (lv_at hl 2 rfl) ?_
                          refine lv_iload hx hb dX5_move_192 (lv_at hl 9 rfl) ?_
                          have ql : so r7 = so r13 ∨ (1 < so r7 ∧ 1 < so r13) := Or.inr ⟨Int32.not_le.mp c55, Int32.not_le.mp c81⟩
                          have wx0 : cn i + cn z ≤ cn (sz r7) := Nat.not_lt.mp (fun y => c123 ((lg_cmp_gt _ _).mpr (by rw [ea122]; exact (w64 c107 c117 (Kz r7 hr7)).mpr y)))
                          have wx1 : cn j + cn z ≤ cn (sz r13) := Nat.not_lt.mp (fun y => c129 ((lg_cmp_gt _ _).mpr (by rw [ea128]; exact (w64 c112 c117 (Kz r13 hr13)).mpr y)))
                          have qw : 0 ≤ i ∧ 0 ≤ j ∧ 0 ≤ z ∧ cn i + cn z ≤ cn (sz r7) ∧ cn j + cn z ≤ cn (sz r13) := ⟨Int32.not_lt.mp c107, Int32.not_lt.mp c112, Int32.not_lt.mp c117, wx0, wx1⟩
                          have hs9 : so r13 = 3 → 2 ≤ so r7 := fun y => ql.elim (fun q => by rw [q, y]; decide) (fun q => two_le (Ks r7 hr7) q.1)
                          refine g_Vi (n := 4) (rest := []) S G hl (c_X5_going l R K hr7 hr13 qw.2.2.2.1 er7 er13 (nI_cn qw.1) (nI_cn qw.2.2.1) hs9) gX5_move_X5_going rfl (by decide +kernel) (Rm_m R) rfl rfl rfl (Nat.le_of_ble_eq_true rfl) ⟨Nat.le_of_ble_eq_true rfl, Nat.le_of_ble_eq_true rfl⟩ ⟨Nat.le_of_ble_eq_true rfl, Nat.le_of_ble_eq_true rfl⟩ dX5_move_194 ?_
                          clear G; intro r_ w1 H locs hp G
                          obtain ⟨rfl, rfl⟩ := hp
                          have gz : (if so r13 = 3 then gon cl it (12 * r7 + cn i) (cn z) else cn z) ≤ cn z := by split; exact gon_le _ _; exact Nat.le_refl _
                          generalize hg : (if so r13 = 3 then gon cl it (12 * r7 + cn i) (cn z) else cn z) = g at gz ⊢
                          refine lv_istore (lv' := [(10, .int (nI g)), (9, .int 1), (8, .int 1), (7, .int (hd k4)), (6, .int (hd k1)), (0, .ref m), (1, .int t), (2, .int i), (3, .int o), (4, .int j), (5, .int z)]) hx hb dX5_move_197 hl (by decide) rfl (fun ls hl => ?_)
                          refine lv_iconst (v := 0) hx hb dX5_move_199 (by decide) ?_
                          refine lv_istore (lv' := [(11, .int 0), (10, .int (nI g)), (9, .int 1), (8, .int 1), (7, .int (hd k4)), (6, .int (hd k1)), (0, .ref m), (1, .int t), (2, .int i), (3, .int o), (4, .int j), (5, .int z)]) hx hb dX5_move_200 hl (by decide) rfl (fun ls hl => ?_)
                          have s1 := sz_le (Kz r7 hr7)
                          have s2 := sz_le (Kz r13 hr13)
                          have w4 := qw.2.2.2.1
                          have w5 := qw.2.2.2.2
                          by_cases hm : (hd k1) = (hd k4) ∧ i < j
                          · skip
                            rw [← bcp_0 (it := it) (s := 12 * r7 + cn i) (d := 12 * r13 + cn j) (g := g)] at R
                            refine lp_copyB S (r := r7) (r2 := r13) (a := cn i) (b := cn j) (g := g) (by omega) (by omega) (by omega) (by omega) er7 er13 (nI_cn qw.1) (nI_cn qw.2.1) rfl hm (fun ls w H locs R G hl => ?_) g 0 0 (by omega) rfl _ _ _ R G ls (lv_sub hl [6, 8, 10, 11, 5, 4, 1, 0] rfl)
                            refine lv_aload_n hx hb dX5_move_273 rfl (lv_at hl 0 rfl) ?_
                            refine lv_iload hx hb dX5_move_274 (lv_at hl 2 rfl) ?_
                            refine lv_iload hx hb dX5_move_276 (lv_at hl 1 rfl) ?_
                            refine lv_icmp_ne (tgt := 285) hx hb dX5_move_278 (by decide) (fun c136 => ?_) (fun c136 => ?_)
                            · skip
                              refine lv_iconst (v := 5) hx hb dX5_move_285 (by decide) ?_
                              refine g_Vi (n := 1) (rest := []) S G hl (c_X5_tell l R (j := 5) (o := 5) rfl (by decide)) gX5_move_X5_tell rfl (by decide +kernel) (Rm_m R) rfl rfl rfl (Nat.le_of_ble_eq_true rfl) ⟨Nat.le_of_ble_eq_true rfl, Nat.le_of_ble_eq_true rfl⟩ ⟨Nat.le_of_ble_eq_true rfl, Nat.le_of_ble_eq_true rfl⟩ dX5_move_286 ?_
                              clear G; intro r_ w1 H locs hp G
                              obtain ⟨hr_, R⟩ := hp
                              subst r_
                              refine lv_if_ne (tgt := 297) hx hb dX5_move_289 (by decide) (fun c137 => ?_) (fun c137 => absurd c137 (by decide))
                              refine lv_iconst (v := 0) hx hb dX5_move_297 (by decide) ?_
                              refine r_int S hret hlk G rfl (Nat.le_of_ble_eq_true rfl) (Nat.le_of_ble_eq_true rfl) dX5_move_298 ?_
                              have yk1 := tin_e ek1 hk1 (show n ≤ 1000 by omega)
                              have zk1 := cn_e ek1 (show k1 < 1000 by omega)
                              have yk4 := tin_e ek4 hk4 (show n ≤ 1000 by omega)
                              have zk4 := cn_e ek4 (show k4 < 1000 by omega)
                              have qr7 := nm1 (show r7 < 100000 by omega)
                              have qr13 := nm1 (show r13 < 100000 by omega)
                              have d9 : ¬ g = cn z := fun y => c136 (by rw [y]; exact (nI_cn qw.2.2.1).symm)
                              refine ⟨by simp only [S_move, yk1, zk1, yk4, zk4, er7, qr7, cn_nI (show r7 < 2 ^ 31 by omega), er13, qr13, cn_nI (show r13 < 2 ^ 31 by omega), hg, if_pos ql, if_pos qw, d9, s_tell, ↓reduceIte, Bool.false_eq_true, true_or, or_true, or_self, Int32.zero_mul], ?_⟩
                              simp only [S_move, yk1, zk1, yk4, zk4, er7, qr7, cn_nI (show r7 < 2 ^ 31 by omega), er13, qr13, cn_nI (show r13 < 2 ^ 31 by omega), hg, if_pos ql, if_pos qw, d9, s_tell, ↓reduceIte, Bool.false_eq_true, true_or, or_true, or_self, Int32.zero_mul]
                              exact ⟨_, _, _, _, _, _, _, _, _, R⟩
                            · skip
                              refine lv_iconst (v := 0) hx hb dX5_move_281 (by decide) ?_
                              refine lv_goto (tgt := 286) hx hb dX5_move_282 (by decide) ?_
                              refine g_Vi (n := 1) (rest := []) S G hl (c_X5_tell l R (j := 0) (o := 0) rfl (by decide)) gX5_move_X5_tell rfl (by decide +kernel) (Rm_m R) rfl rfl rfl (Nat.le_of_ble_eq_true rfl) ⟨Nat.le_of_ble_eq_true rfl, Nat.le_of_ble_eq_true rfl⟩ ⟨Nat.le_of_ble_eq_true rfl, Nat.le_of_ble_eq_true rfl⟩ dX5_move_286 ?_
                              clear G; intro r_ w1 H locs hp G
                              obtain ⟨hr_, R⟩ := hp
                              subst r_
                              refine lv_if_ne (tgt := 297) hx hb dX5_move_289 (by decide) (fun c138 => absurd (by decide) c138) (fun c138 => ?_)
                              refine lv_iload hx hb dX5_move_292 (lv_at hl 1 rfl) ?_
                              refine lv_goto (tgt := 298) hx hb dX5_move_294 (by decide) ?_
                              refine r_int S hret hlk G rfl (Nat.le_of_ble_eq_true rfl) (Nat.le_of_ble_eq_true rfl) dX5_move_298 ?_
                              have yk1 := tin_e ek1 hk1 (show n ≤ 1000 by omega)
                              have zk1 := cn_e ek1 (show k1 < 1000 by omega)
                              have yk4 := tin_e ek4 hk4 (show n ≤ 1000 by omega)
                              have zk4 := cn_e ek4 (show k4 < 1000 by omega)
                              have qr7 := nm1 (show r7 < 100000 by omega)
                              have qr13 := nm1 (show r13 < 100000 by omega)
                              have d9 : g = cn z := by
                                have y1 := c136
                                rw [nI_cn qw.2.2.1] at y1
                                exact (nI_eq (by have := cn_lt z; omega) (cn_lt z)).mp y1
                              rw [d9] at R hg
                              refine ⟨by simp only [S_move, yk1, zk1, yk4, zk4, er7, qr7, cn_nI (show r7 < 2 ^ 31 by omega), er13, qr13, cn_nI (show r13 < 2 ^ 31 by omega), hg, if_pos ql, if_pos qw, s_tell, ↓reduceIte, Bool.false_eq_true, true_or, or_true, or_self, Int32.zero_mul], ?_⟩
                              simp only [S_move, yk1, zk1, yk4, zk4, er7, qr7, cn_nI (show r7 < 2 ^ 31 by omega), er13, qr13, cn_nI (show r13 < 2 ^ 31 by omega), hg, if_pos ql, if_pos qw, s_tell, ↓reduceIte, Bool.false_eq_true, true_or, or_true, or_self, Int32.zero_mul]
                              exact ⟨_, _, _, _, _, _, _, _, _, R⟩
                          · skip
                            rw [← cpy_0 (it := it) (s := 12 * r7 + cn i) (d := 12 * r13 + cn j)] at R
                            refine lp_copyF S (r := r7) (r2 := r13) (a := cn i) (b := cn j) (g := g) (by omega) (by omega) (by omega) (by omega) er7 er13 (nI_cn qw.1) (nI_cn qw.2.1) rfl hm (fun ls w H locs R G hl => ?_) g 0 0 (by omega) rfl _ _ _ R G ls (lv_sub hl [6, 8, 10, 11, 5, 4, 1, 0] rfl)
                            refine lv_aload_n hx hb dX5_move_273 rfl (lv_at hl 0 rfl) ?_
                            refine lv_iload hx hb dX5_move_274 (lv_at hl 2 rfl) ?_
                            refine lv_iload hx hb dX5_move_276 (lv_at hl 1 rfl) ?_
                            refine lv_icmp_ne (tgt := 285) hx hb dX5_move_278 (by decide) (fun c139 => ?_) (fun c139 => ?_)
                            · skip
                              refine lv_iconst (v := 5) hx hb dX5_move_285 (by decide) ?_
                              refine g_Vi (n := 1) (rest := []) S G hl (c_X5_tell l R (j := 5) (o := 5) rfl (by decide)) gX5_move_X5_tell rfl (by decide +kernel) (Rm_m R) rfl rfl rfl (Nat.le_of_ble_eq_true rfl) ⟨Nat.le_of_ble_eq_true rfl, Nat.le_of_ble_eq_true rfl⟩ ⟨Nat.le_of_ble_eq_true rfl, Nat.le_of_ble_eq_true rfl⟩ dX5_move_286 ?_
                              clear G; intro r_ w1 H locs hp G
                              obtain ⟨hr_, R⟩ := hp
                              subst r_
                              refine lv_if_ne (tgt := 297) hx hb dX5_move_289 (by decide) (fun c140 => ?_) (fun c140 => absurd c140 (by decide))
                              refine lv_iconst (v := 0) hx hb dX5_move_297 (by decide) ?_
                              refine r_int S hret hlk G rfl (Nat.le_of_ble_eq_true rfl) (Nat.le_of_ble_eq_true rfl) dX5_move_298 ?_
                              have yk1 := tin_e ek1 hk1 (show n ≤ 1000 by omega)
                              have zk1 := cn_e ek1 (show k1 < 1000 by omega)
                              have yk4 := tin_e ek4 hk4 (show n ≤ 1000 by omega)
                              have zk4 := cn_e ek4 (show k4 < 1000 by omega)
                              have qr7 := nm1 (show r7 < 100000 by omega)
                              have qr13 := nm1 (show r13 < 100000 by omega)
                              have d9 : ¬ g = cn z := fun y => c139 (by rw [y]; exact (nI_cn qw.2.2.1).symm)
                              refine ⟨by simp only [S_move, yk1, zk1, yk4, zk4, er7, qr7, cn_nI (show r7 < 2 ^ 31 by omega), er13, qr13, cn_nI (show r13 < 2 ^ 31 by omega), hg, if_pos ql, if_pos qw, d9, s_tell, ↓reduceIte, Bool.false_eq_true, true_or, or_true, or_self, Int32.zero_mul], ?_⟩
                              simp only [S_move, yk1, zk1, yk4, zk4, er7, qr7, cn_nI (show r7 < 2 ^ 31 by omega), er13, qr13, cn_nI (show r13 < 2 ^ 31 by omega), hg, if_pos ql, if_pos qw, d9, s_tell, ↓reduceIte, Bool.false_eq_true, true_or, or_true, or_self, Int32.zero_mul]
                              exact ⟨_, _, _, _, _, _, _, _, _, R⟩
                            · skip
                              refine lv_iconst (v := 0) hx hb dX5_move_281 (by decide) ?_
                              refine lv_goto (tgt := 286) hx hb dX5_move_282 (by decide) ?_
                              refine g_Vi (n := 1) (rest := []) S G hl (c_X5_tell l R (j := 0) (o := 0) rfl (by decide)) gX5_move_X5_tell rfl (by decide +kernel) (Rm_m R) rfl rfl rfl (Nat.le_of_ble_eq_true rfl) ⟨Nat.le_of_ble_eq_true rfl, Nat.le_of_ble_eq_true rfl⟩ ⟨Nat.le_of_ble_eq_true rfl, Nat.le_of_ble_eq_true rfl⟩ dX5_move_286 ?_
                              clear G; intro r_ w1 H locs hp G
                              obtain ⟨hr_, R⟩ := hp
                              subst r_
                              refine lv_if_ne (tgt := 297) hx hb dX5_move_289 (by decide) (fun c141 => absurd (by decide) c141) (fun c141 => ?_)
                              refine lv_iload hx hb dX5_move_292 (lv_at hl 1 rfl) ?_
                              refine lv_goto (tgt := 298) hx hb dX5_move_294 (by decide) ?_
                              refine r_int S hret hlk G rfl (Nat.le_of_ble_eq_true rfl) (Nat.le_of_ble_eq_true rfl) dX5_move_298 ?_
                              have yk1 := tin_e ek1 hk1 (show n ≤ 1000 by omega)
                              have zk1 := cn_e ek1 (show k1 < 1000 by omega)
                              have yk4 := tin_e ek4 hk4 (show n ≤ 1000 by omega)
                              have zk4 := cn_e ek4 (show k4 < 1000 by omega)
                              have qr7 := nm1 (show r7 < 100000 by omega)
                              have qr13 := nm1 (show r13 < 100000 by omega)
                              have d9 : g = cn z := by
                                have y1 := c139
                                rw [nI_cn qw.2.2.1] at y1
                                exact (nI_eq (by have := cn_lt z; omega) (cn_lt z)).mp y1
                              rw [d9] at R hg
                              refine ⟨by simp only [S_move, yk1, zk1, yk4, zk4, er7, qr7, cn_nI (show r7 < 2 ^ 31 by omega), er13, qr13, cn_nI (show r13 < 2 ^ 31 by omega), hg, if_pos ql, if_pos qw, s_tell, ↓reduceIte, Bool.false_eq_true, true_or, or_true, or_self, Int32.zero_mul], ?_⟩
                              simp only [S_move, yk1, zk1, yk4, zk4, er7, qr7, cn_nI (show r7 < 2 ^ 31 by omega), er13, qr13, cn_nI (show r13 < 2 ^ 31 by omega), hg, if_pos ql, if_pos qw, s_tell, ↓reduceIte, Bool.false_eq_true, true_or, or_true, or_self, Int32.zero_mul]
                              exact ⟨_, _, _, _, _, _, _, _, _, R⟩
