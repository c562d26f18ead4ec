/-! THE REFERENCE: thing, holds, share, size, at, lay, set -/
set_option maxHeartbeats 4000000 in
set_option maxRecDepth 100000 in
theorem M_thing (l : Launch) {E : EV} {w : wo} {m : Nat} {σ : ST} (X : RmX E w m σ) (K : Gd σ) (c : Int32) (v : Int32) : ct_i l E yX5_thing wsX5_thing 2 0 0 [.ref m, .int c, .int v] w (fun r w' => r = (S_thing c v σ).1 ∧ RmX E w' m (S_thing c v σ).2) := by
  obtain ⟨aC, aV, aL, aH, aS, aZ, aI, aT, ⟨to, rs, nx⟩, R⟩ := X
  obtain ⟨n, cl, vs, lk, hd, nr, so, sz, it, oc, ow, bg, dp, td⟩ := σ
  have K9 := K
  obtain ⟨Kn, Kr, Kc, Kl, Kh, Ks, Kz, Ki⟩ := K9
  intro zz
  refine wo_body (Qc := fun A => va_Qi _ (wo_B E A) A) (ret := (some .int)) (by decide) rfl (Nat.le_of_ble_eq_true rfl) ?_
  intro p_ e_ s_ m_ args_ below_ meth_ code_ A_ ls S hret hlk hnm G hl
  have hl : lv_has ls 3 [(0, .ref m), (1, .int c), (2, .int v)] := hl
  have hx := S.1
  have hb := S.2.1
  refine lv_iload_n hx hb dX5_thing_0 rfl (lv_at hl 1 rfl) ?_
  refine lv_i2l (v := (Int32.toInt64 c)) hx hb dX5_thing_1 rfl ?_
  refine lv_lconst (v := 0) hx hb dX5_thing_2 (by decide) ?_
  refine lv_ldc2 hx hb S.2.2.2.1 (S.2.2.2.2 (.constantLong RX5 46 (7)) (by decide +kernel)) dX5_thing_3 ?_
  by_cases i1 : tin 8 c = true
  · skip
    refine g_Si (n := 3) (rest := []) S G hl (c_X5_in l (Int32.toInt64 c) 0 (7)) gX5_thing_X5_in rfl (by decide +kernel) rfl rfl (Nat.le_of_ble_eq_true rfl) ⟨Nat.le_of_ble_eq_true rfl, Nat.le_of_ble_eq_true rfl⟩ ⟨Nat.le_of_ble_eq_true rfl, Nat.le_of_ble_eq_true rfl⟩ dX5_thing_6 ?_
    clear G; intro r_ w1 H locs hp G
    obtain ⟨rfl, hq_⟩ := hp
    rw [if_pos (show (0 : Int64) ≤ Int32.toInt64 c ∧ Int32.toInt64 c ≤ 7 from (in_k 7 (by omega) c).mpr i1)] at hq_
    subst hq_
    refine lv_if_ne (tgt := 15) hx hb dX5_thing_9 (by decide) (fun c2 => ?_) (fun c2 => absurd c2 (by decide))
    by_cases hf : n = 40
    · skip
      refine lv_aload_n hx hb dX5_thing_15 rfl (lv_at hl 0 rfl) ?_
      refine g_get S G (Rm_m R) rfl (by decide +kernel) 0 (by decide) (by decide +kernel) rfl dX5_thing_16 ?_
      refine lv_bipush (v := 40) hx hb dX5_thing_19 (by decide) ?_
      refine lv_icmp_ne (tgt := 27) hx hb dX5_thing_21 (by decide) (fun c3 => absurd (by rw [hf]; rfl) c3) (fun c3 => ?_)
      refine lv_bipush (v := (-2)) hx hb dX5_thing_24 (by decide) ?_
      refine r_int S hret hlk G rfl (Nat.le_of_ble_eq_true rfl) (Nat.le_of_ble_eq_true rfl) dX5_thing_26 ?_
      refine ⟨by simp only [S_thing, i1, hf, ↓reduceIte, Bool.false_eq_true], ?_⟩
      simp only [S_thing, i1, hf, ↓reduceIte, Bool.false_eq_true]
      exact ⟨_, _, _, _, _, _, _, _, _, by rw [← hf]; exact R⟩
    · skip
      have hn40 : n < 40 := by omega
      refine lv_aload_n hx hb dX5_thing_15 rfl (lv_at hl 0 rfl) ?_
      refine g_get S G (Rm_m R) rfl (by decide +kernel) 0 (by decide) (by decide +kernel) rfl dX5_thing_16 ?_
      refine lv_bipush (v := 40) hx hb dX5_thing_19 (by decide) ?_
      refine lv_icmp_ne (tgt := 27) hx hb dX5_thing_21 (by decide) (fun c4 => ?_) (fun c4 => absurd c4 (fun z => hf ((nI_eq (b := 40) (by omega) (by omega)).mp z)))
      refine lv_aload_n hx hb dX5_thing_27 rfl (lv_at hl 0 rfl) ?_
      refine g_get S G (Rm_m R) rfl (by decide +kernel) 1 (by decide) (by decide +kernel) rfl dX5_thing_28 ?_
      refine lv_aload_n hx hb dX5_thing_31 rfl (lv_at hl 0 rfl) ?_
      refine g_get S G (Rm_m R) rfl (by decide +kernel) 0 (by decide) (by decide +kernel) rfl dX5_thing_32 ?_
      refine lv_iload_n hx hb dX5_thing_35 rfl (lv_at hl 1 rfl) ?_
      refine g_iast S G (Rm_C R) (vin_e rfl (show n < 40 by omega) (by omega)) dX5_thing_36 (fun H locs G => ?_)
      rw [show Int32.toNatClampNeg (nI n) = n from nI_clamp (by omega)] at G
      obtain ⟨w, R, G⟩ := Rm_ex (Rm_p_cl R (upd cl n c)) G
      refine lv_aload_n hx hb dX5_thing_37 rfl (lv_at hl 0 rfl) ?_
      refine g_get S G (Rm_m R) rfl (by decide +kernel) 2 (by decide) (by decide +kernel) rfl dX5_thing_38 ?_
      refine lv_aload_n hx hb dX5_thing_41 rfl (lv_at hl 0 rfl) ?_
      refine g_get S G (Rm_m R) rfl (by decide +kernel) 0 (by decide) (by decide +kernel) rfl dX5_thing_42 ?_
      refine lv_iload_n hx hb dX5_thing_45 rfl (lv_at hl 2 rfl) ?_
      refine g_iast S G (Rm_V R) (vin_e rfl (show n < 40 by omega) (by omega)) dX5_thing_46 (fun H locs G => ?_)
      rw [show Int32.toNatClampNeg (nI n) = n from nI_clamp (by omega)] at G
      obtain ⟨w, R, G⟩ := Rm_ex (Rm_p_vs R (upd vs n v)) G
      refine lv_aload_n hx hb dX5_thing_47 rfl (lv_at hl 0 rfl) ?_
      refine g_get S G (Rm_m R) rfl (by decide +kernel) 3 (by decide) (by decide +kernel) rfl dX5_thing_48 ?_
      refine lv_aload_n hx hb dX5_thing_51 rfl (lv_at hl 0 rfl) ?_
      refine g_get S G (Rm_m R) rfl (by decide +kernel) 0 (by decide) (by decide +kernel) rfl dX5_thing_52 ?_
      refine lv_iconst (v := (-1)) hx hb dX5_thing_55 (by decide) ?_
      refine g_iast S G (Rm_L R) (vin_e rfl (show n < 40 by omega) (by omega)) dX5_thing_56 (fun H locs G => ?_)
      rw [show Int32.toNatClampNeg (nI n) = n from nI_clamp (by omega)] at G
      obtain ⟨w, R, G⟩ := Rm_ex (Rm_p_lk R (upd lk n (-1))) G
      refine lv_aload_n hx hb dX5_thing_57 rfl (lv_at hl 0 rfl) ?_
      refine g_get S G (Rm_m R) rfl (by decide +kernel) 4 (by decide) (by decide +kernel) rfl dX5_thing_58 ?_
      refine lv_aload_n hx hb dX5_thing_61 rfl (lv_at hl 0 rfl) ?_
      refine g_get S G (Rm_m R) rfl (by decide +kernel) 0 (by decide) (by decide +kernel) rfl dX5_thing_62 ?_
      refine lv_iconst (v := (-1)) hx hb dX5_thing_65 (by decide) ?_
      refine g_iast S G (Rm_H R) (vin_e rfl (show n < 40 by omega) (by omega)) dX5_thing_66 (fun H locs G => ?_)
      rw [show Int32.toNatClampNeg (nI n) = n from nI_clamp (by omega)] at G
      obtain ⟨w, R, G⟩ := Rm_ex (Rm_p_hd R (upd hd n (-1))) G
      refine lv_aload_n hx hb dX5_thing_67 rfl (lv_at hl 0 rfl) ?_
      refine lv_dup hx hb dX5_thing_68 rfl ?_
      refine g_get S G (Rm_m R) rfl (by decide +kernel) 0 (by decide) (by decide +kernel) rfl dX5_thing_69 ?_
      refine lv_iconst (v := 1) hx hb dX5_thing_72 (by decide) ?_
      refine lv_iadd hx hb dX5_thing_73 ?_
      refine lv_topi (fun a5 ea5 => ?_)
      have da5 : a5 = nI (n + 1) := by rw [ea5]; exact nI_add n 1
      refine g_put (fs' := [.int a5, .ref aC, .ref aV, .ref aL, .ref aH, .int (nI nr), .ref aS, .ref aZ, .ref aI, .int oc, .int ow, .int bg, .int dp, .ref aT, .int to, .int rs, .int nx]) (ty := .int) (v := .int a5) S G (Rm_m R) rfl tyX5 tyX5_ok nmX5 (by decide +kernel) 0 (by decide) (by decide +kernel) rfl (by decide +kernel) rfl rfl (Nat.le_of_ble_eq_true rfl) rfl dX5_thing_74 (fun H locs G => ?_)
      rw [da5] at G
      obtain ⟨w, R, G⟩ := Rm_ex (Rm_p_n R (n + 1)) G
      refine lv_aload_n hx hb dX5_thing_77 rfl (lv_at hl 0 rfl) ?_
      refine g_get S G (Rm_m R) rfl (by decide +kernel) 0 (by decide) (by decide +kernel) rfl dX5_thing_78 ?_
      refine lv_iconst (v := 1) hx hb dX5_thing_81 (by decide) ?_
      refine lv_isub hx hb dX5_thing_82 ?_
      refine lv_topi (fun a6 ea6 => ?_)
      have da6 : a6 = nI (n) := by rw [ea6]; exact nI_pred n
      refine r_int S hret hlk G rfl (Nat.le_of_ble_eq_true rfl) (Nat.le_of_ble_eq_true rfl) dX5_thing_83 ?_
      refine ⟨by simp only [S_thing, i1, hf, da6, ↓reduceIte, Bool.false_eq_true], ?_⟩
      simp only [S_thing, i1, hf, da6, ↓reduceIte, Bool.false_eq_true]
      exact ⟨_, _, _, _, _, _, _, _, _, R⟩
  · skip
    refine g_Si (n := 3) (rest := []) S G hl (c_X5_in l (Int32.toInt64 c) 0 (7)) gX5_thing_X5_in rfl (by decide +kernel) rfl rfl (Nat.le_of_ble_eq_true rfl) ⟨Nat.le_of_ble_eq_true rfl, Nat.le_of_ble_eq_true rfl⟩ ⟨Nat.le_of_ble_eq_true rfl, Nat.le_of_ble_eq_true rfl⟩ dX5_thing_6 ?_
    clear G; intro r_ w1 H locs hp G
    obtain ⟨rfl, hq_⟩ := hp
    rw [if_neg (fun z : (0 : Int64) ≤ Int32.toInt64 c ∧ Int32.toInt64 c ≤ 7 => i1 ((in_k 7 (by omega) c).mp z))] at hq_
    subst hq_
    refine lv_if_ne (tgt := 15) hx hb dX5_thing_9 (by decide) (fun c7 => absurd (by decide) c7) (fun c7 => ?_)
    refine lv_ldc hx hb S.2.2.2.1 (S.2.2.2.2 (.constant RX5 48 (-2000000001)) (by decide +kernel)) dX5_thing_12 ?_
    refine r_int S hret hlk G rfl (Nat.le_of_ble_eq_true rfl) (Nat.le_of_ble_eq_true rfl) dX5_thing_14 ?_
    refine ⟨by simp only [S_thing, i1, ↓reduceIte, Bool.false_eq_true], ?_⟩
    simp only [S_thing, i1, ↓reduceIte, Bool.false_eq_true]
    exact ⟨_, _, _, _, _, _, _, _, _, R⟩

set_option maxHeartbeats 4000000 in
set_option maxRecDepth 100000 in
theorem M_holds (l : Launch) {E : EV} {w : wo} {m : Nat} {σ : ST} (X : RmX E w m σ) (K : Gd σ) (t : Int32) : ct_i l E yX5_holds wsX5_holds 2 0 0 [.ref m, .int t] w (fun r w' => r = S_holds t σ ∧ RmX E w' m σ) := by
  obtain ⟨aC, aV, aL, aH, aS, aZ, aI, aT, ⟨to, rs, nx⟩, R⟩ := X
  obtain ⟨n, cl, vs, lk, hd, nr, so, sz, it, oc, ow, bg, dp, td⟩ := σ
  have K9 := K
  obtain ⟨Kn, Kr, Kc, Kl, Kh, Ks, Kz, Ki⟩ := K9
  intro zz
  refine wo_body (Qc := fun A => va_Qi _ (wo_B E A) A) (ret := (some .int)) (by decide) rfl (Nat.le_of_ble_eq_true rfl) ?_
  intro p_ e_ s_ m_ args_ below_ meth_ code_ A_ ls S hret hlk hnm G hl
  have hl : lv_has ls 2 [(0, .ref m), (1, .int t)] := hl
  have hx := S.1
  have hb := S.2.1
  refine lv_aload_n hx hb dX5_holds_0 rfl (lv_at hl 0 rfl) ?_
  refine lv_iload_n hx hb dX5_holds_1 rfl (lv_at hl 1 rfl) ?_
  rcases tin_c n t (by omega) with ⟨tk1, ok1⟩ | ⟨k1, hk1, ek1⟩
  · skip
    refine g_Vi (n := 1) (rest := []) S G hl (c_X5_isThing l R Kn t) gX5_holds_X5_isThing rfl (by decide +kernel) (Rm_m R) rfl rfl rfl (Nat.le_of_ble_eq_true rfl) ⟨Nat.le_of_ble_eq_true rfl, Nat.le_of_ble_eq_true rfl⟩ ⟨Nat.le_of_ble_eq_true rfl, Nat.le_of_ble_eq_true rfl⟩ dX5_holds_2 ?_
    clear G; intro r_ w1 H locs hp G
    obtain ⟨rfl, hq_⟩ := hp
    rw [tk1] at hq_
    simp only [Bool.false_eq_true, ↓reduceIte] at hq_
    subst hq_
    refine lv_if_ne (tgt := 13) hx hb dX5_holds_5 (by decide) (fun c2 => absurd (by decide) c2) (fun c2 => ?_)
    refine lv_ldc hx hb S.2.2.2.1 (S.2.2.2.2 (.constant RX5 48 (-2000000001)) (by decide +kernel)) dX5_holds_8 ?_
    refine lv_goto (tgt := 38) hx hb dX5_holds_10 (by decide) ?_
    refine r_int S hret hlk G rfl (Nat.le_of_ble_eq_true rfl) (Nat.le_of_ble_eq_true rfl) dX5_holds_38 ?_
    refine ⟨by simp only [S_holds, tk1, s_tell, put_lk, put_vs, put_hd, put_it, ↓reduceIte, Bool.false_eq_true, pk_us], ?_⟩
    exact ⟨_, _, _, _, _, _, _, _, _, R⟩
  · skip
    refine g_Vi (n := 1) (rest := []) S G hl (c_X5_isThing l R Kn t) gX5_holds_X5_isThing rfl (by decide +kernel) (Rm_m R) rfl rfl rfl (Nat.le_of_ble_eq_true rfl) ⟨Nat.le_of_ble_eq_true rfl, Nat.le_of_ble_eq_true rfl⟩ ⟨Nat.le_of_ble_eq_true rfl, Nat.le_of_ble_eq_true rfl⟩ dX5_holds_2 ?_
    clear G; intro r_ w1 H locs hp G
    obtain ⟨rfl, hq_⟩ := hp
    rw [if_pos (tin_e ek1 hk1 (by omega))] at hq_
    subst hq_
    refine lv_if_ne (tgt := 13) hx hb dX5_holds_5 (by decide) (fun c3 => ?_) (fun c3 => absurd c3 (by decide))
    refine lv_aload_n hx hb dX5_holds_13 rfl (lv_at hl 0 rfl) ?_
    refine g_get S G (Rm_m R) rfl (by decide +kernel) 4 (by decide) (by decide +kernel) rfl dX5_holds_14 ?_
    refine lv_iload_n hx hb dX5_holds_17 rfl (lv_at hl 1 rfl) ?_
    refine g_iald S G (Rm_H R) (vin_e ek1 (show k1 < 40 by omega) (by omega)) dX5_holds_18 ?_
    rw [show Int32.toNatClampNeg t = k1 by rw [ek1]; exact nI_clamp (by omega)]
    rcases Kh k1 hk1 with er4 | ⟨r4, hr4, er4⟩
    · skip
      refine lv_iconst (v := (-1)) hx hb dX5_holds_19 (by decide) ?_
      refine lv_icmp_ne (tgt := 27) hx hb dX5_holds_20 (by decide) (fun c5 => absurd er4 c5) (fun c5 => ?_)
      refine lv_iconst (v := (-1)) hx hb dX5_holds_23 (by decide) ?_
      refine lv_goto (tgt := 38) hx hb dX5_holds_24 (by decide) ?_
      refine r_int S hret hlk G rfl (Nat.le_of_ble_eq_true rfl) (Nat.le_of_ble_eq_true rfl) dX5_holds_38 ?_
      have yk1 := tin_e ek1 hk1 (show n ≤ 1000 by omega)
      have zk1 := cn_e ek1 (show k1 < 1000 by omega)
      refine ⟨by simp only [S_holds, yk1, zk1, er4, s_tell, put_lk, put_vs, put_hd, put_it, ↓reduceIte, Bool.false_eq_true, pk_us], ?_⟩
      exact ⟨_, _, _, _, _, _, _, _, _, R⟩
    · skip
      have zr4 := sz_le (Kz r4 hr4)
      refine lv_iconst (v := (-1)) hx hb dX5_holds_19 (by decide) ?_
      refine lv_icmp_ne (tgt := 27) hx hb dX5_holds_20 (by decide) (fun c6 => ?_) (fun c6 => absurd c6 (by rw [er4]; exact nm1 (by omega)))
      refine lv_aload_n hx hb dX5_holds_27 rfl (lv_at hl 0 rfl) ?_
      refine g_get S G (Rm_m R) rfl (by decide +kernel) 6 (by decide) (by decide +kernel) rfl dX5_holds_28 ?_
      refine lv_aload_n hx hb dX5_holds_31 rfl (lv_at hl 0 rfl) ?_
      refine g_get S G (Rm_m R) rfl (by decide +kernel) 4 (by decide) (by decide +kernel) rfl dX5_holds_32 ?_
      refine lv_iload_n hx hb dX5_holds_35 rfl (lv_at hl 1 rfl) ?_
      refine g_iald S G (Rm_H R) (vin_e ek1 (show k1 < 40 by omega) (by omega)) dX5_holds_36 ?_
      rw [show Int32.toNatClampNeg t = k1 by rw [ek1]; exact nI_clamp (by omega)]
      refine g_iald S G (Rm_S R) (vin_e er4 (show r4 < 520 by omega) (by omega)) dX5_holds_37 ?_
      rw [show Int32.toNatClampNeg (hd k1) = r4 by rw [er4]; exact nI_clamp (by omega)]
      refine r_int S hret hlk G rfl (Nat.le_of_ble_eq_true rfl) (Nat.le_of_ble_eq_true rfl) dX5_holds_38 ?_
      have yk1 := tin_e ek1 hk1 (show n ≤ 1000 by omega)
      have zk1 := cn_e ek1 (show k1 < 1000 by omega)
      have qr4 := nm1 (show r4 < 100000 by omega)
      refine ⟨by simp only [S_holds, yk1, zk1, er4, qr4, cn_nI (show r4 < 2 ^ 31 by omega), s_tell, put_lk, put_vs, put_hd, put_it, ↓reduceIte, Bool.false_eq_true, pk_us], ?_⟩
      exact ⟨_, _, _, _, _, _, _, _, _, R⟩

set_option maxHeartbeats 4000000 in
set_option maxRecDepth 100000 in
theorem c_X5_holds_n (l : Launch) {E : EV} {w : wo} {m aC aV aL aH aS aZ aI aT : Nat} {n : Nat} {cl vs lk hd : Nat → Int32} {nr : Nat} {so sz : Nat → Int32} {it : Nat → Int64} {oc ow bg dp : Int32} {td : Nat → Int32} {to rs nx : Int32} (R : Rm E w (m, aC, aV, aL, aH, aS, aZ, aI, aT) (n, cl, vs, lk, hd, nr, so, sz, it, oc, ow, bg, dp, td) (to, rs, nx)) {t : Int32} {k0 : Nat} (ek : t = nI k0) (hk : k0 < n) (Kn : n ≤ 40) (er : hd k0 = -1) : ct_i l E yX5_holds wsX5_holds 2 0 0 [.ref m, .int t] w (fun q w' => w' = w ∧ q = -1) := by
  intro zz
  refine wo_body (Qc := fun A => va_Qi _ (wo_B E A) A) (ret := (some .int)) (by decide) rfl (Nat.le_of_ble_eq_true rfl) ?_
  intro p_ e_ s_ m_ args_ below_ meth_ code_ A_ ls S hret hlk hnm G hl
  have hl : lv_has ls 2 [(0, .ref m), (1, .int t)] := hl
  have hx := S.1
  have hb := S.2.1
  refine lv_aload_n hx hb dX5_holds_0 rfl (lv_at hl 0 rfl) ?_
  refine lv_iload_n hx hb dX5_holds_1 rfl (lv_at hl 1 rfl) ?_
  refine g_Vi (n := 1) (rest := []) S G hl (c_X5_isThing l R Kn t) gX5_holds_X5_isThing rfl (by decide +kernel) (Rm_m R) rfl rfl rfl (Nat.le_of_ble_eq_true rfl) ⟨Nat.le_of_ble_eq_true rfl, Nat.le_of_ble_eq_true rfl⟩ ⟨Nat.le_of_ble_eq_true rfl, Nat.le_of_ble_eq_true rfl⟩ dX5_holds_2 ?_
  clear G; intro r_ w1 H locs hp G
  obtain ⟨rfl, hq_⟩ := hp
  rw [if_pos (tin_e ek hk (by omega))] at hq_
  subst hq_
  refine lv_if_ne (tgt := 13) hx hb dX5_holds_5 (by decide) (fun c1 => ?_) (fun c1 => absurd c1 (by decide))
  refine lv_aload_n hx hb dX5_holds_13 rfl (lv_at hl 0 rfl) ?_
  refine g_get S G (Rm_m R) rfl (by decide +kernel) 4 (by decide) (by decide +kernel) rfl dX5_holds_14 ?_
  refine lv_iload_n hx hb dX5_holds_17 rfl (lv_at hl 1 rfl) ?_
  refine g_iald S G (Rm_H R) (vin_e ek (show k0 < 40 by omega) (by omega)) dX5_holds_18 ?_
  rw [show Int32.toNatClampNeg t = k0 by rw [ek]; exact nI_clamp (by omega)]
  refine lv_iconst (v := (-1)) hx hb dX5_holds_19 (by decide) ?_
  refine lv_icmp_ne (tgt := 27) hx hb dX5_holds_20 (by decide) (fun c2 => absurd er c2) (fun c2 => ?_)
  refine lv_iconst (v := (-1)) hx hb dX5_holds_23 (by decide) ?_
  refine lv_goto (tgt := 38) hx hb dX5_holds_24 (by decide) ?_
  refine r_int S hret hlk G rfl (Nat.le_of_ble_eq_true rfl) (Nat.le_of_ble_eq_true rfl) dX5_holds_38 ?_
  exact ⟨rfl, rfl⟩

set_option maxHeartbeats 4000000 in
set_option maxRecDepth 100000 in
theorem c_X5_holds_y (l : Launch) {E : EV} {w : wo} {m aC aV aL aH aS aZ aI aT : Nat} {n : Nat} {cl vs lk hd : Nat → Int32} {nr : Nat} {so sz : Nat → Int32} {it : Nat → Int64} {oc ow bg dp : Int32} {td : Nat → Int32} {to rs nx : Int32} (R : Rm E w (m, aC, aV, aL, aH, aS, aZ, aI, aT) (n, cl, vs, lk, hd, nr, so, sz, it, oc, ow, bg, dp, td) (to, rs, nx)) {t : Int32} {k0 : Nat} (ek : t = nI k0) (hk : k0 < n) (Kn : n ≤ 40) {r : Nat} (er : hd k0 = nI r) (hr : r < nr) (Kr : nr ≤ 512) : ct_i l E yX5_holds wsX5_holds 2 0 0 [.ref m, .int t] w (fun q w' => w' = w ∧ q = so r) := by
  intro zz
  refine wo_body (Qc := fun A => va_Qi _ (wo_B E A) A) (ret := (some .int)) (by decide) rfl (Nat.le_of_ble_eq_true rfl) ?_
  intro p_ e_ s_ m_ args_ below_ meth_ code_ A_ ls S hret hlk hnm G hl
  have hl : lv_has ls 2 [(0, .ref m), (1, .int t)] := hl
  have hx := S.1
  have hb := S.2.1
  refine lv_aload_n hx hb dX5_holds_0 rfl (lv_at hl 0 rfl) ?_
  refine lv_iload_n hx hb dX5_holds_1 rfl (lv_at hl 1 rfl) ?_
  refine g_Vi (n := 1) (rest := []) S G hl (c_X5_isThing l R Kn t) gX5_holds_X5_isThing rfl (by decide +kernel) (Rm_m R) rfl rfl rfl (Nat.le_of_ble_eq_true rfl) ⟨Nat.le_of_ble_eq_true rfl, Nat.le_of_ble_eq_true rfl⟩ ⟨Nat.le_of_ble_eq_true rfl, Nat.le_of_ble_eq_true rfl⟩ dX5_holds_2 ?_
  clear G; intro r_ w1 H locs hp G
  obtain ⟨rfl, hq_⟩ := hp
  rw [if_pos (tin_e ek hk (by omega))] at hq_
  subst hq_
  refine lv_if_ne (tgt := 13) hx hb dX5_holds_5 (by decide) (fun c1 => ?_) (fun c1 => absurd c1 (by decide))
  refine lv_aload_n hx hb dX5_holds_13 rfl (lv_at hl 0 rfl) ?_
  refine g_get S G (Rm_m R) rfl (by decide +kernel) 4 (by decide) (by decide +kernel) rfl dX5_holds_14 ?_
  refine lv_iload_n hx hb dX5_holds_17 rfl (lv_at hl 1 rfl) ?_
  refine g_iald S G (Rm_H R) (vin_e ek (show k0 < 40 by omega) (by omega)) dX5_holds_18 ?_
  rw [show Int32.toNatClampNeg t = k0 by rw [ek]; exact nI_clamp (by omega)]
  refine lv_iconst (v := (-1)) hx hb dX5_holds_19 (by decide) ?_
  refine lv_icmp_ne (tgt := 27) hx hb dX5_holds_20 (by decide) (fun c2 => ?_) (fun c2 => absurd c2 (by rw [er]; exact nm1 (by omega)))
  refine lv_aload_n hx hb dX5_holds_27 rfl (lv_at hl 0 rfl) ?_
  refine g_get S G (Rm_m R) rfl (by decide +kernel) 6 (by decide) (by decide +kernel) rfl dX5_holds_28 ?_
  refine lv_aload_n hx hb dX5_holds_31 rfl (lv_at hl 0 rfl) ?_
  refine g_get S G (Rm_m R) rfl (by decide +kernel) 4 (by decide) (by decide +kernel) rfl dX5_holds_32 ?_
  refine lv_iload_n hx hb dX5_holds_35 rfl (lv_at hl 1 rfl) ?_
  refine g_iald S G (Rm_H R) (vin_e ek (show k0 < 40 by omega) (by omega)) dX5_holds_36 ?_
  rw [show Int32.toNatClampNeg t = k0 by rw [ek]; exact nI_clamp (by omega)]
  refine g_iald S G (Rm_S R) (vin_e er (show r < 520 by omega) (by omega)) dX5_holds_37 ?_
  rw [show Int32.toNatClampNeg (hd k0) = r by rw [er]; exact nI_clamp (by omega)]
  refine r_int S hret hlk G rfl (Nat.le_of_ble_eq_true rfl) (Nat.le_of_ble_eq_true rfl) dX5_holds_38 ?_
  exact ⟨rfl, rfl⟩

set_option maxHeartbeats 4000000 in
set_option maxRecDepth 100000 in
theorem M_share (l : Launch) {E : EV} {w : wo} {m : Nat} {σ : ST} (X : RmX E w m σ) (K : Gd σ) (t : Int32) (o : Int32) : ct_i l E yX5_share wsX5_share 3 0 0 [.ref m, .int t, .int o] w (fun r w' => r = (S_share t o σ).1 ∧ RmX E w' m (S_share t o σ).2) := by
  obtain ⟨aC, aV, aL, aH, aS, aZ, aI, aT, ⟨to, rs, nx⟩, R⟩ := X
  obtain ⟨n, cl, vs, lk, hd, nr, so, sz, it, oc, ow, bg, dp, td⟩ := σ
  have K9 := K
  obtain ⟨Kn, Kr, Kc, Kl, Kh, Ks, Kz, Ki⟩ := K9
  intro zz
  refine wo_body (Qc := fun A => va_Qi _ (wo_B E A) A) (ret := (some .int)) (by decide) rfl (Nat.le_of_ble_eq_true rfl) ?_
  intro p_ e_ s_ m_ args_ below_ meth_ code_ A_ ls S hret hlk hnm G hl
  have hl : lv_has ls 3 [(0, .ref m), (1, .int t), (2, .int o)] := hl
  have hx := S.1
  have hb := S.2.1
  refine lv_aload_n hx hb dX5_share_0 rfl (lv_at hl 0 rfl) ?_
  refine lv_iload_n hx hb dX5_share_1 rfl (lv_at hl 1 rfl) ?_
  rcases tin_c n t (by omega) with ⟨tk1, ok1⟩ | ⟨k1, hk1, ek1⟩
  · skip
    refine g_Vi (n := 1) (rest := []) S G hl (c_X5_isThing l R Kn t) gX5_share_X5_isThing rfl (by decide +kernel) (Rm_m R) rfl rfl rfl (Nat.le_of_ble_eq_true rfl) ⟨Nat.le_of_ble_eq_true rfl, Nat.le_of_ble_eq_true rfl⟩ ⟨Nat.le_of_ble_eq_true rfl, Nat.le_of_ble_eq_true rfl⟩ dX5_share_2 ?_
    clear G; intro r_ w1 H locs hp G
    obtain ⟨rfl, hq_⟩ := hp
    rw [tk1] at hq_
    simp only [Bool.false_eq_true, ↓reduceIte] at hq_
    subst hq_
    refine lv_if_eq (tgt := 16) hx hb dX5_share_5 (by decide) (fun c2 => ?_) (fun c2 => absurd (by decide) c2)
    refine lv_ldc hx hb S.2.2.2.1 (S.2.2.2.2 (.constant RX5 48 (-2000000001)) (by decide +kernel)) dX5_share_16 ?_
    refine r_int S hret hlk G rfl (Nat.le_of_ble_eq_true rfl) (Nat.le_of_ble_eq_true rfl) dX5_share_18 ?_
    refine ⟨by simp only [S_share, tk1, s_tell, put_lk, put_vs, put_hd, put_it, ↓reduceIte, Bool.false_eq_true, pk_us], ?_⟩
    simp only [S_share, tk1, s_tell, put_lk, put_vs, put_hd, put_it, ↓reduceIte, Bool.false_eq_true, pk_us]
    exact ⟨_, _, _, _, _, _, _, _, _, R⟩
  · skip
    refine g_Vi (n := 1) (rest := []) S G hl (c_X5_isThing l R Kn t) gX5_share_X5_isThing rfl (by decide +kernel) (Rm_m R) rfl rfl rfl (Nat.le_of_ble_eq_true rfl) ⟨Nat.le_of_ble_eq_true rfl, Nat.le_of_ble_eq_true rfl⟩ ⟨Nat.le_of_ble_eq_true rfl, Nat.le_of_ble_eq_true rfl⟩ dX5_share_2 ?_
    clear G; intro r_ w1 H locs hp G
    obtain ⟨rfl, hq_⟩ := hp
    rw [if_pos (tin_e ek1 hk1 (by omega))] at hq_
    subst hq_
    refine lv_if_eq (tgt := 16) hx hb dX5_share_5 (by decide) (fun c3 => absurd c3 (by decide)) (fun c3 => ?_)
    refine lv_aload_n hx hb dX5_share_8 rfl (lv_at hl 0 rfl) ?_
    refine lv_iload_n hx hb dX5_share_9 rfl (lv_at hl 2 rfl) ?_
    rcases tin_c n o (by omega) with ⟨tk4, ok4⟩ | ⟨k4, hk4, ek4⟩
    · skip
      refine g_Vi (n := 1) (rest := []) S G hl (c_X5_isThing l R Kn o) gX5_share_X5_isThing rfl (by decide +kernel) (Rm_m R) rfl rfl rfl (Nat.le_of_ble_eq_true rfl) ⟨Nat.le_of_ble_eq_true rfl, Nat.le_of_ble_eq_true rfl⟩ ⟨Nat.le_of_ble_eq_true rfl, Nat.le_of_ble_eq_true rfl⟩ dX5_share_10 ?_
      clear G; intro r_ w1 H locs hp G
      obtain ⟨rfl, hq_⟩ := hp
      rw [tk4] at hq_
      simp only [Bool.false_eq_true, ↓reduceIte] at hq_
      subst hq_
      refine lv_if_ne (tgt := 19) hx hb dX5_share_13 (by decide) (fun c5 => absurd (by decide) c5) (fun c5 => ?_)
      refine lv_ldc hx hb S.2.2.2.1 (S.2.2.2.2 (.constant RX5 48 (-2000000001)) (by decide +kernel)) dX5_share_16 ?_
      refine r_int S hret hlk G rfl (Nat.le_of_ble_eq_true rfl) (Nat.le_of_ble_eq_true rfl) dX5_share_18 ?_
      have yk1 := tin_e ek1 hk1 (show n ≤ 1000 by omega)
      have zk1 := cn_e ek1 (show k1 < 1000 by omega)
      refine ⟨by simp only [S_share, yk1, zk1, tk4, s_tell, put_lk, put_vs, put_hd, put_it, ↓reduceIte, Bool.false_eq_true, pk_us], ?_⟩
      simp only [S_share, yk1, zk1, tk4, s_tell, put_lk, put_vs, put_hd, put_it, ↓reduceIte, Bool.false_eq_true, pk_us]
      exact ⟨_, _, _, _, _, _, _, _, _, R⟩
    · skip
      refine g_Vi (n := 1) (rest := []) S G hl (c_X5_isThing l R Kn o) gX5_share_X5_isThing rfl (by decide +kernel) (Rm_m R) rfl rfl rfl (Nat.le_of_ble_eq_true rfl) ⟨Nat.le_of_ble_eq_true rfl, Nat.le_of_ble_eq_true rfl⟩ ⟨Nat.le_of_ble_eq_true rfl, Nat.le_of_ble_eq_true rfl⟩ dX5_share_10 ?_
      clear G; intro r_ w1 H locs hp G
      obtain ⟨rfl, hq_⟩ := hp
      rw [if_pos (tin_e ek4 hk4 (by omega))] at hq_
      subst hq_
      refine lv_if_ne (tgt := 19) hx hb dX5_share_13 (by decide) (fun c6 => ?_) (fun c6 => absurd c6 (by decide))
      refine lv_aload_n hx hb dX5_share_19 rfl (lv_at hl 0 rfl) ?_
      refine g_get S G (Rm_m R) rfl (by decide +kernel) 4 (by decide) (by decide +kernel) rfl dX5_share_20 ?_
      refine lv_iload_n hx hb dX5_share_23 rfl (lv_at hl 1 rfl) ?_
      refine lv_aload_n hx hb dX5_share_24 rfl (lv_at hl 0 rfl) ?_
      refine g_get S G (Rm_m R) rfl (by decide +kernel) 4 (by decide) (by decide +kernel) rfl dX5_share_25 ?_
      refine lv_iload_n hx hb dX5_share_28 rfl (lv_at hl 2 rfl) ?_
      refine g_iald S G (Rm_H R) (vin_e ek4 (show k4 < 40 by omega) (by omega)) dX5_share_29 ?_
      rw [show Int32.toNatClampNeg o = k4 by rw [ek4]; exact nI_clamp (by omega)]
      rcases Kh k4 hk4 with er7 | ⟨r7, hr7, er7⟩
      · skip
        refine g_iast S G (Rm_H R) (vin_e ek1 (show k1 < 40 by omega) (by omega)) dX5_share_30 (fun H locs G => ?_)
        rw [show Int32.toNatClampNeg t = k1 by rw [ek1]; exact nI_clamp (by omega)] at G
        obtain ⟨w, R, G⟩ := Rm_ex (Rm_p_hd R (upd hd k1 (hd k4))) G
        refine lv_aload_n hx hb dX5_share_31 rfl (lv_at hl 0 rfl) ?_
        refine lv_iload_n hx hb dX5_share_32 rfl (lv_at hl 1 rfl) ?_
        refine g_Vi (n := 1) (rest := []) S G hl (c_X5_holds_n l R ek1 hk1 Kn (pk_us.trans er7)) gX5_share_X5_holds rfl (by decide +kernel) (Rm_m R) rfl rfl rfl (Nat.le_of_ble_eq_true rfl) ⟨Nat.le_of_ble_eq_true rfl, Nat.le_of_ble_eq_true rfl⟩ ⟨Nat.le_of_ble_eq_true rfl, Nat.le_of_ble_eq_true rfl⟩ dX5_share_33 ?_
        clear G; intro r_ w1 H locs hp G
        obtain ⟨rfl, rfl⟩ := hp
        refine r_int S hret hlk G rfl (Nat.le_of_ble_eq_true rfl) (Nat.le_of_ble_eq_true rfl) dX5_share_36 ?_
        rw [er7] at R
        have yk1 := tin_e ek1 hk1 (show n ≤ 1000 by omega)
        have zk1 := cn_e ek1 (show k1 < 1000 by omega)
        have yk4 := tin_e ek4 hk4 (show n ≤ 1000 by omega)
        have zk4 := cn_e ek4 (show k4 < 1000 by omega)
        refine ⟨by simp only [S_share, yk1, zk1, yk4, zk4, er7, s_tell, put_lk, put_vs, put_hd, put_it, ↓reduceIte, Bool.false_eq_true, pk_us], ?_⟩
        simp only [S_share, yk1, zk1, yk4, zk4, er7, s_tell, put_lk, put_vs, put_hd, put_it, ↓reduceIte, Bool.false_eq_true, pk_us]
        exact ⟨_, _, _, _, _, _, _, _, _, R⟩
      · skip
        have zr7 := sz_le (Kz r7 hr7)
        refine g_iast S G (Rm_H R) (vin_e ek1 (show k1 < 40 by omega) (by omega)) dX5_share_30 (fun H locs G => ?_)
        rw [show Int32.toNatClampNeg t = k1 by rw [ek1]; exact nI_clamp (by omega)] at G
        obtain ⟨w, R, G⟩ := Rm_ex (Rm_p_hd R (upd hd k1 (hd k4))) G
        refine lv_aload_n hx hb dX5_share_31 rfl (lv_at hl 0 rfl) ?_
        refine lv_iload_n hx hb dX5_share_32 rfl (lv_at hl 1 rfl) ?_
        refine g_Vi (n := 1) (rest := []) S G hl (c_X5_holds_y l R ek1 hk1 Kn (pk_us.trans er7) hr7 Kr) gX5_share_X5_holds rfl (by decide +kernel) (Rm_m R) rfl rfl rfl (Nat.le_of_ble_eq_true rfl) ⟨Nat.le_of_ble_eq_true rfl, Nat.le_of_ble_eq_true rfl⟩ ⟨Nat.le_of_ble_eq_true rfl, Nat.le_of_ble_eq_true rfl⟩ dX5_share_33 ?_
        clear G; intro r_ w1 H locs hp G
        obtain ⟨rfl, rfl⟩ := hp
        refine r_int S hret hlk G rfl (Nat.le_of_ble_eq_true rfl) (Nat.le_of_ble_eq_true rfl) dX5_share_36 ?_
        rw [er7] at R
        have yk1 := tin_e ek1 hk1 (show n ≤ 1000 by omega)
        have zk1 := cn_e ek1 (show k1 < 1000 by omega)
        have yk4 := tin_e ek4 hk4 (show n ≤ 1000 by omega)
        have zk4 := cn_e ek4 (show k4 < 1000 by omega)
        have qr7 := nm1 (show r7 < 100000 by omega)
        refine ⟨by simp only [S_share, yk1, zk1, yk4, zk4, er7, qr7, cn_nI (show r7 < 2 ^ 31 by omega), s_tell, put_lk, put_vs, put_hd, put_it, ↓reduceIte, Bool.false_eq_true, pk_us], ?_⟩
        simp only [S_share, yk1, zk1, yk4, zk4, er7, qr7, cn_nI (show r7 < 2 ^ 31 by omega), s_tell, put_lk, put_vs, put_hd, put_it, ↓reduceIte, Bool.false_eq_true, pk_us]
        exact ⟨_, _, _, _, _, _, _, _, _, R⟩

set_option maxHeartbeats 4000000 in
set_option maxRecDepth 100000 in
theorem M_size (l : Launch) {E : EV} {w : wo} {m : Nat} {σ : ST} (X : RmX E w m σ) (K : Gd σ) (t : Int32) : ct_i l E yX5_size wsX5_size 2 0 0 [.ref m, .int t] w (fun r w' => r = (S_size t σ).1 ∧ RmX E w' m (S_size t σ).2) := by
  obtain ⟨aC, aV, aL, aH, aS, aZ, aI, aT, ⟨to, rs, nx⟩, R⟩ := X
  obtain ⟨n, cl, vs, lk, hd, nr, so, sz, it, oc, ow, bg, dp, td⟩ := σ
  have K9 := K
  obtain ⟨Kn, Kr, Kc, Kl, Kh, Ks, Kz, Ki⟩ := K9
  intro zz
  refine wo_body (Qc := fun A => va_Qi _ (wo_B E A) A) (ret := (some .int)) (by decide) rfl (Nat.le_of_ble_eq_true rfl) ?_
  intro p_ e_ s_ m_ args_ below_ meth_ code_ A_ ls S hret hlk hnm G hl
  have hl : lv_has ls 2 [(0, .ref m), (1, .int t)] := hl
  have hx := S.1
  have hb := S.2.1
  refine lv_aload_n hx hb dX5_size_0 rfl (lv_at hl 0 rfl) ?_
  refine lv_iload_n hx hb dX5_size_1 rfl (lv_at hl 1 rfl) ?_
  rcases tin_c n t (by omega) with ⟨tk1, ok1⟩ | ⟨k1, hk1, ek1⟩
  · skip
    refine g_Vi (n := 1) (rest := []) S G hl (c_X5_isThing l R Kn t) gX5_size_X5_isThing rfl (by decide +kernel) (Rm_m R) rfl rfl rfl (Nat.le_of_ble_eq_true rfl) ⟨Nat.le_of_ble_eq_true rfl, Nat.le_of_ble_eq_true rfl⟩ ⟨Nat.le_of_ble_eq_true rfl, Nat.le_of_ble_eq_true rfl⟩ dX5_size_2 ?_
    clear G; intro r_ w1 H locs hp G
    obtain ⟨rfl, hq_⟩ := hp
    rw [tk1] at hq_
    simp only [Bool.false_eq_true, ↓reduceIte] at hq_
    subst hq_
    refine lv_if_ne (tgt := 11) hx hb dX5_size_5 (by decide) (fun c2 => absurd (by decide) c2) (fun c2 => ?_)
    refine lv_ldc hx hb S.2.2.2.1 (S.2.2.2.2 (.constant RX5 48 (-2000000001)) (by decide +kernel)) dX5_size_8 ?_
    refine r_int S hret hlk G rfl (Nat.le_of_ble_eq_true rfl) (Nat.le_of_ble_eq_true rfl) dX5_size_10 ?_
    refine ⟨by simp only [S_size, tk1, s_tell, put_lk, put_vs, put_hd, put_it, ↓reduceIte, Bool.false_eq_true, pk_us], ?_⟩
    simp only [S_size, tk1, s_tell, put_lk, put_vs, put_hd, put_it, ↓reduceIte, Bool.false_eq_true, pk_us]
    exact ⟨_, _, _, _, _, _, _, _, _, R⟩
  · skip
    refine g_Vi (n := 1) (rest := []) S G hl (c_X5_isThing l R Kn t) gX5_size_X5_isThing rfl (by decide +kernel) (Rm_m R) rfl rfl rfl (Nat.le_of_ble_eq_true rfl) ⟨Nat.le_of_ble_eq_true rfl, Nat.le_of_ble_eq_true rfl⟩ ⟨Nat.le_of_ble_eq_true rfl, Nat.le_of_ble_eq_true rfl⟩ dX5_size_2 ?_
    clear G; intro r_ w1 H locs hp G
    obtain ⟨rfl, hq_⟩ := hp
    rw [if_pos (tin_e ek1 hk1 (by omega))] at hq_
    subst hq_
    refine lv_if_ne (tgt := 11) hx hb dX5_size_5 (by decide) (fun c3 => ?_) (fun c3 => absurd c3 (by decide))
    refine lv_aload_n hx hb dX5_size_11 rfl (lv_at hl 0 rfl) ?_
    refine lv_aload_n hx hb dX5_size_12 rfl (lv_at hl 0 rfl) ?_
    refine g_get S G (Rm_m R) rfl (by decide +kernel) 4 (by decide) (by decide +kernel) rfl dX5_size_13 ?_
    refine lv_iload_n hx hb dX5_size_16 rfl (lv_at hl 1 rfl) ?_
    refine g_iald S G (Rm_H R) (vin_e ek1 (show k1 < 40 by omega) (by omega)) dX5_size_17 ?_
    rw [show Int32.toNatClampNeg t = k1 by rw [ek1]; exact nI_clamp (by omega)]
    rcases Kh k1 hk1 with er4 | ⟨r4, hr4, er4⟩
    · skip
      refine lv_iconst (v := (-1)) hx hb dX5_size_18 (by decide) ?_
      refine lv_icmp_ne (tgt := 26) hx hb dX5_size_19 (by decide) (fun c5 => absurd er4 c5) (fun c5 => ?_)
      refine lv_iconst (v := 1) hx hb dX5_size_22 (by decide) ?_
      refine lv_goto (tgt := 27) hx hb dX5_size_23 (by decide) ?_
      refine g_Vi (n := 1) (rest := []) S G hl (c_X5_tell l R (j := 1) (o := 1) rfl (by decide)) gX5_size_X5_tell rfl (by decide +kernel) (Rm_m R) rfl rfl rfl (Nat.le_of_ble_eq_true rfl) ⟨Nat.le_of_ble_eq_true rfl, Nat.le_of_ble_eq_true rfl⟩ ⟨Nat.le_of_ble_eq_true rfl, Nat.le_of_ble_eq_true rfl⟩ dX5_size_27 ?_
      clear G; intro r_ w1 H locs hp G
      obtain ⟨hr_, R⟩ := hp
      subst r_
      refine lv_if_ne (tgt := 47) hx hb dX5_size_30 (by decide) (fun c6 => ?_) (fun c6 => absurd c6 (by decide))
      refine lv_iconst (v := 0) hx hb dX5_size_47 (by decide) ?_
      refine r_int S hret hlk G rfl (Nat.le_of_ble_eq_true rfl) (Nat.le_of_ble_eq_true rfl) dX5_size_48 ?_
      have yk1 := tin_e ek1 hk1 (show n ≤ 1000 by omega)
      have zk1 := cn_e ek1 (show k1 < 1000 by omega)
      refine ⟨by simp only [S_size, yk1, zk1, er4, s_tell, put_lk, put_vs, put_hd, put_it, ↓reduceIte, Bool.false_eq_true, pk_us], ?_⟩
      simp only [S_size, yk1, zk1, er4, s_tell, put_lk, put_vs, put_hd, put_it, ↓reduceIte, Bool.false_eq_true, pk_us]
      exact ⟨_, _, _, _, _, _, _, _, _, R⟩
    · skip
      have zr4 := sz_le (Kz r4 hr4)
      refine lv_iconst (v := (-1)) hx hb dX5_size_18 (by decide) ?_
      refine lv_icmp_ne (tgt := 26) hx hb dX5_size_19 (by decide) (fun c7 => ?_) (fun c7 => absurd c7 (by rw [er4]; exact nm1 (by omega)))
      refine lv_iconst (v := 0) hx hb dX5_size_26 (by decide) ?_
      refine g_Vi (n := 1) (rest := []) S G hl (c_X5_tell l R (j := 0) (o := 0) rfl (by decide)) gX5_size_X5_tell rfl (by decide +kernel) (Rm_m R) rfl rfl rfl (Nat.le_of_ble_eq_true rfl) ⟨Nat.le_of_ble_eq_true rfl, Nat.le_of_ble_eq_true rfl⟩ ⟨Nat.le_of_ble_eq_true rfl, Nat.le_of_ble_eq_true rfl⟩ dX5_size_27 ?_
      clear G; intro r_ w1 H locs hp G
      obtain ⟨hr_, R⟩ := hp
      subst r_
      refine lv_if_ne (tgt := 47) hx hb dX5_size_30 (by decide) (fun c8 => absurd (by decide) c8) (fun c8 => ?_)
      refine lv_aload_n hx hb dX5_size_33 rfl (lv_at hl 0 rfl) ?_
      refine g_get S G (Rm_m R) rfl (by decide +kernel) 7 (by decide) (by decide +kernel) rfl dX5_size_34 ?_
      refine lv_aload_n hx hb dX5_size_37 rfl (lv_at hl 0 rfl) ?_
      refine g_get S G (Rm_m R) rfl (by decide +kernel) 4 (by decide) (by decide +kernel) rfl dX5_size_38 ?_
      refine lv_iload_n hx hb dX5_size_41 rfl (lv_at hl 1 rfl) ?_
      refine g_iald S G (Rm_H R) (vin_e ek1 (show k1 < 40 by omega) (by omega)) dX5_size_42 ?_
      rw [show Int32.toNatClampNeg t = k1 by rw [ek1]; exact nI_clamp (by omega)]
      refine g_iald S G (Rm_Z R) (vin_e er4 (show r4 < 520 by omega) (by omega)) dX5_size_43 ?_
      rw [show Int32.toNatClampNeg (hd k1) = r4 by rw [er4]; exact nI_clamp (by omega)]
      refine lv_goto (tgt := 48) hx hb dX5_size_44 (by decide) ?_
      refine r_int S hret hlk G rfl (Nat.le_of_ble_eq_true rfl) (Nat.le_of_ble_eq_true rfl) dX5_size_48 ?_
      have yk1 := tin_e ek1 hk1 (show n ≤ 1000 by omega)
      have zk1 := cn_e ek1 (show k1 < 1000 by omega)
      have qr4 := nm1 (show r4 < 100000 by omega)
      refine ⟨by simp only [S_size, yk1, zk1, er4, qr4, cn_nI (show r4 < 2 ^ 31 by omega), s_tell, put_lk, put_vs, put_hd, put_it, ↓reduceIte, Bool.false_eq_true, pk_us], ?_⟩
      simp only [S_size, yk1, zk1, er4, qr4, cn_nI (show r4 < 2 ^ 31 by omega), s_tell, put_lk, put_vs, put_hd, put_it, ↓reduceIte, Bool.false_eq_true, pk_us]
      exact ⟨_, _, _, _, _, _, _, _, _, R⟩

set_option maxHeartbeats 4000000 in
set_option maxRecDepth 100000 in
theorem M_at (l : Launch) {E : EV} {w : wo} {m : Nat} {σ : ST} (X : RmX E w m σ) (K : Gd σ) (t : Int32) (k : Int32) : ct_l l E yX5_at wsX5_at 2 0 0 [.ref m, .int t, .int k] w (fun r w' => r = (S_at t k σ).1 ∧ RmX E w' m (S_at t k σ).2) := by
  obtain ⟨aC, aV, aL, aH, aS, aZ, aI, aT, ⟨to, rs, nx⟩, R⟩ := X
  obtain ⟨n, cl, vs, lk, hd, nr, so, sz, it, oc, ow, bg, dp, td⟩ := σ
  have K9 := K
  obtain ⟨Kn, Kr, Kc, Kl, Kh, Ks, Kz, Ki⟩ := K9
  intro zz
  refine wo_body (Qc := fun A => va_Ql _ (wo_B E A) A) (ret := (some .long)) (by decide) rfl (Nat.le_of_ble_eq_true rfl) ?_
  intro p_ e_ s_ m_ args_ below_ meth_ code_ A_ ls S hret hlk hnm G hl
  have hl : lv_has ls 4 [(0, .ref m), (1, .int t), (2, .int k)] := hl
  have hx := S.1
  have hb := S.2.1
  refine lv_aload_n hx hb dX5_at_0 rfl (lv_at hl 0 rfl) ?_
  refine lv_iload_n hx hb dX5_at_1 rfl (lv_at hl 1 rfl) ?_
  rcases tin_c n t (by omega) with ⟨tk1, ok1⟩ | ⟨k1, hk1, ek1⟩
  · skip
    refine g_Vi (n := 1) (rest := []) S G hl (c_X5_isThing l R Kn t) gX5_at_X5_isThing rfl (by decide +kernel) (Rm_m R) rfl rfl rfl (Nat.le_of_ble_eq_true rfl) ⟨Nat.le_of_ble_eq_true rfl, Nat.le_of_ble_eq_true rfl⟩ ⟨Nat.le_of_ble_eq_true rfl, Nat.le_of_ble_eq_true rfl⟩ dX5_at_2 ?_
    clear G; intro r_ w1 H locs hp G
    obtain ⟨rfl, hq_⟩ := hp
    rw [tk1] at hq_
    simp only [Bool.false_eq_true, ↓reduceIte] at hq_
    subst hq_
    refine lv_if_ne (tgt := 12) hx hb dX5_at_5 (by decide) (fun c2 => absurd (by decide) c2) (fun c2 => ?_)
    refine lv_ldc2 hx hb S.2.2.2.1 (S.2.2.2.2 (.constantLong RX5 78 (-2000000001)) (by decide +kernel)) dX5_at_8 ?_
    refine r_long S hret hlk G (Nat.le_of_ble_eq_true rfl) (Nat.le_of_ble_eq_true rfl) dX5_at_11 ?_
    refine ⟨by simp only [S_at, tk1, s_tell, put_lk, put_vs, put_hd, put_it, ↓reduceIte, Bool.false_eq_true, pk_us], ?_⟩
    simp only [S_at, tk1, s_tell, put_lk, put_vs, put_hd, put_it, ↓reduceIte, Bool.false_eq_true, pk_us]
    exact ⟨_, _, _, _, _, _, _, _, _, R⟩
  · skip
    refine g_Vi (n := 1) (rest := []) S G hl (c_X5_isThing l R Kn t) gX5_at_X5_isThing rfl (by decide +kernel) (Rm_m R) rfl rfl rfl (Nat.le_of_ble_eq_true rfl) ⟨Nat.le_of_ble_eq_true rfl, Nat.le_of_ble_eq_true rfl⟩ ⟨Nat.le_of_ble_eq_true rfl, Nat.le_of_ble_eq_true rfl⟩ dX5_at_2 ?_
    clear G; intro r_ w1 H locs hp G
    obtain ⟨rfl, hq_⟩ := hp
    rw [if_pos (tin_e ek1 hk1 (by omega))] at hq_
    subst hq_
    refine lv_if_ne (tgt := 12) hx hb dX5_at_5 (by decide) (fun c3 => ?_) (fun c3 => absurd c3 (by decide))
    refine lv_aload_n hx hb dX5_at_12 rfl (lv_at hl 0 rfl) ?_
    refine g_get S G (Rm_m R) rfl (by decide +kernel) 4 (by decide) (by decide +kernel) rfl dX5_at_13 ?_
    refine lv_iload_n hx hb dX5_at_16 rfl (lv_at hl 1 rfl) ?_
    refine g_iald S G (Rm_H R) (vin_e ek1 (show k1 < 40 by omega) (by omega)) dX5_at_17 ?_
    rw [show Int32.toNatClampNeg t = k1 by rw [ek1]; exact nI_clamp (by omega)]
    rcases Kh k1 hk1 with er4 | ⟨r4, hr4, er4⟩
    · skip
      refine lv_iconst (v := (-1)) hx hb dX5_at_18 (by decide) ?_
      refine lv_icmp_ne (tgt := 26) hx hb dX5_at_19 (by decide) (fun c5 => absurd er4 c5) (fun c5 => ?_)
      refine lv_iconst (v := 1) hx hb dX5_at_22 (by decide) ?_
      refine lv_goto (tgt := 40) hx hb dX5_at_23 (by decide) ?_
      refine lv_istore_n (lv' := [(3, .int 1), (0, .ref m), (1, .int t), (2, .int k)]) hx hb dX5_at_40 rfl hl (by decide) rfl (fun ls hl => ?_)
      refine lv_aload_n hx hb dX5_at_41 rfl (lv_at hl 1 rfl) ?_
      refine lv_iload_n hx hb dX5_at_42 rfl (lv_at hl 0 rfl) ?_
      refine g_Vi (n := 1) (rest := []) S G hl (c_X5_tell l R (j := 1) (o := 1) rfl (by decide)) gX5_at_X5_tell rfl (by decide +kernel) (Rm_m R) rfl rfl rfl (Nat.le_of_ble_eq_true rfl) ⟨Nat.le_of_ble_eq_true rfl, Nat.le_of_ble_eq_true rfl⟩ ⟨Nat.le_of_ble_eq_true rfl, Nat.le_of_ble_eq_true rfl⟩ dX5_at_43 ?_
      clear G; intro r_ w1 H locs hp G
      obtain ⟨hr_, R⟩ := hp
      subst r_
      refine lv_if_ne (tgt := 68) hx hb dX5_at_46 (by decide) (fun c6 => ?_) (fun c6 => absurd c6 (by decide))
      refine lv_lconst (v := 0) hx hb dX5_at_68 (by decide) ?_
      refine r_long S hret hlk G (Nat.le_of_ble_eq_true rfl) (Nat.le_of_ble_eq_true rfl) dX5_at_69 ?_
      have yk1 := tin_e ek1 hk1 (show n ≤ 1000 by omega)
      have zk1 := cn_e ek1 (show k1 < 1000 by omega)
      refine ⟨by simp only [S_at, yk1, zk1, er4, s_tell, put_lk, put_vs, put_hd, put_it, ↓reduceIte, Bool.false_eq_true, pk_us], ?_⟩
      simp only [S_at, yk1, zk1, er4, s_tell, put_lk, put_vs, put_hd, put_it, ↓reduceIte, Bool.false_eq_true, pk_us]
      exact ⟨_, _, _, _, _, _, _, _, _, R⟩
    · skip
      have zr4 := sz_le (Kz r4 hr4)
      refine lv_iconst (v := (-1)) hx hb dX5_at_18 (by decide) ?_
      refine lv_icmp_ne (tgt := 26) hx hb dX5_at_19 (by decide) (fun c7 => ?_) (fun c7 => absurd c7 (by rw [er4]; exact nm1 (by omega)))
      refine lv_aload_n hx hb dX5_at_26 rfl (lv_at hl 0 rfl) ?_
      refine lv_iload_n hx hb dX5_at_27 rfl (lv_at hl 1 rfl) ?_
      refine lv_iload_n hx hb dX5_at_28 rfl (lv_at hl 2 rfl) ?_
      rcases tin_c (cn (sz r4)) k (by omega) with ⟨tk8, ok8⟩ | ⟨k8, hk8, ek8⟩
      · skip
        refine g_Vi (n := 2) (rest := []) S G hl (c_X5_isItem l R ek1 hk1 Kn er4 hr4 Kr (Kz r4 hr4) k) gX5_at_X5_isItem rfl (by decide +kernel) (Rm_m R) rfl rfl rfl (Nat.le_of_ble_eq_true rfl) ⟨Nat.le_of_ble_eq_true rfl, Nat.le_of_ble_eq_true rfl⟩ ⟨Nat.le_of_ble_eq_true rfl, Nat.le_of_ble_eq_true rfl⟩ dX5_at_29 ?_
        clear G; intro r_ w1 H locs hp G
        obtain ⟨rfl, hq_⟩ := hp
        rw [tk8] at hq_
        simp only [Bool.false_eq_true, ↓reduceIte] at hq_
        subst hq_
        refine lv_if_eq (tgt := 39) hx hb dX5_at_32 (by decide) (fun c9 => ?_) (fun c9 => absurd (by decide) c9)
        refine lv_iconst (v := 3) hx hb dX5_at_39 (by decide) ?_
        refine lv_istore_n (lv' := [(3, .int 3), (0, .ref m), (1, .int t), (2, .int k)]) hx hb dX5_at_40 rfl hl (by decide) rfl (fun ls hl => ?_)
        refine lv_aload_n hx hb dX5_at_41 rfl (lv_at hl 1 rfl) ?_
        refine lv_iload_n hx hb dX5_at_42 rfl (lv_at hl 0 rfl) ?_
        refine g_Vi (n := 1) (rest := []) S G hl (c_X5_tell l R (j := 3) (o := 3) rfl (by decide)) gX5_at_X5_tell rfl (by decide +kernel) (Rm_m R) rfl rfl rfl (Nat.le_of_ble_eq_true rfl) ⟨Nat.le_of_ble_eq_true rfl, Nat.le_of_ble_eq_true rfl⟩ ⟨Nat.le_of_ble_eq_true rfl, Nat.le_of_ble_eq_true rfl⟩ dX5_at_43 ?_
        clear G; intro r_ w1 H locs hp G
        obtain ⟨hr_, R⟩ := hp
        subst r_
        refine lv_if_ne (tgt := 68) hx hb dX5_at_46 (by decide) (fun c10 => ?_) (fun c10 => absurd c10 (by decide))
        refine lv_lconst (v := 0) hx hb dX5_at_68 (by decide) ?_
        refine r_long S hret hlk G (Nat.le_of_ble_eq_true rfl) (Nat.le_of_ble_eq_true rfl) dX5_at_69 ?_
        have yk1 := tin_e ek1 hk1 (show n ≤ 1000 by omega)
        have zk1 := cn_e ek1 (show k1 < 1000 by omega)
        have qr4 := nm1 (show r4 < 100000 by omega)
        refine ⟨by simp only [S_at, yk1, zk1, er4, qr4, cn_nI (show r4 < 2 ^ 31 by omega), tk8, s_tell, put_lk, put_vs, put_hd, put_it, ↓reduceIte, Bool.false_eq_true, pk_us], ?_⟩
        simp only [S_at, yk1, zk1, er4, qr4, cn_nI (show r4 < 2 ^ 31 by omega), tk8, s_tell, put_lk, put_vs, put_hd, put_it, ↓reduceIte, Bool.false_eq_true, pk_us]
        exact ⟨_, _, _, _, _, _, _, _, _, R⟩
      · skip
        have yk8 := tin_e ek8 hk8 (show cn (sz r4) ≤ 1000 by omega)
        have zk8 := cn_e ek8 (show k8 < 1000 by omega)
        refine g_Vi (n := 2) (rest := []) S G hl (c_X5_isItem l R ek1 hk1 Kn er4 hr4 Kr (Kz r4 hr4) k) gX5_at_X5_isItem rfl (by decide +kernel) (Rm_m R) rfl rfl rfl (Nat.le_of_ble_eq_true rfl) ⟨Nat.le_of_ble_eq_true rfl, Nat.le_of_ble_eq_true rfl⟩ ⟨Nat.le_of_ble_eq_true rfl, Nat.le_of_ble_eq_true rfl⟩ dX5_at_29 ?_
        clear G; intro r_ w1 H locs hp G
        obtain ⟨rfl, hq_⟩ := hp
        rw [if_pos yk8] at hq_
        subst hq_
        refine lv_if_eq (tgt := 39) hx hb dX5_at_32 (by decide) (fun c11 => absurd c11 (by decide)) (fun c11 => ?_)
        refine lv_iconst (v := 0) hx hb dX5_at_35 (by decide) ?_
        refine lv_goto (tgt := 40) hx hb dX5_at_36 (by decide) ?_
        refine lv_istore_n (lv' := [(3, .int 0), (0, .ref m), (1, .int t), (2, .int k)]) hx hb dX5_at_40 rfl hl (by decide) rfl (fun ls hl => ?_)
        refine lv_aload_n hx hb dX5_at_41 rfl (lv_at hl 1 rfl) ?_
        refine lv_iload_n hx hb dX5_at_42 rfl (lv_at hl 0 rfl) ?_
        refine g_Vi (n := 1) (rest := []) S G hl (c_X5_tell l R (j := 0) (o := 0) rfl (by decide)) gX5_at_X5_tell rfl (by decide +kernel) (Rm_m R) rfl rfl rfl (Nat.le_of_ble_eq_true rfl) ⟨Nat.le_of_ble_eq_true rfl, Nat.le_of_ble_eq_true rfl⟩ ⟨Nat.le_of_ble_eq_true rfl, Nat.le_of_ble_eq_true rfl⟩ dX5_at_43 ?_
        clear G; intro r_ w1 H locs hp G
        obtain ⟨hr_, R⟩ := hp
        subst r_
        refine lv_if_ne (tgt := 68) hx hb dX5_at_46 (by decide) (fun c12 => absurd (by decide) c12) (fun c12 => ?_)
        refine lv_aload_n hx hb dX5_at_49 rfl (lv_at hl 1 rfl) ?_
        refine g_get S G (Rm_m R) rfl (by decide +kernel) 8 (by decide) (by decide +kernel) rfl dX5_at_50 ?_
        refine lv_bipush (v := 12) hx hb dX5_at_53 (by decide) ?_
        refine lv_aload_n hx hb dX5_at_55 rfl (lv_at hl 1 rfl) ?_
        refine g_get S G (Rm_m R) rfl (by decide +kernel) 4 (by decide) (by decide +kernel) rfl dX5_at_56 ?_
        refine lv_iload_n hx hb dX5_at_59 rfl (lv_at hl 2 rfl) ?_
        refine g_iald S G (Rm_H R) (vin_e ek1 (show k1 < 40 by omega) (by omega)) dX5_at_60 ?_
        rw [show Int32.toNatClampNeg t = k1 by rw [ek1]; exact nI_clamp (by omega)]
        refine lv_imul hx hb dX5_at_61 ?_
        refine lv_topi (fun a13 ea13 => ?_)
        have da13 : a13 = nI (12 * r4) := by rw [ea13, er4]; exact pk_mul 12 r4
        refine lv_iload_n hx hb dX5_at_62 rfl (lv_at hl 3 rfl) ?_
        refine lv_iadd hx hb dX5_at_63 ?_
        refine lv_topi (fun a14 ea14 => ?_)
        have da14 : a14 = nI (12 * r4 + k8) := by rw [ea14, da13, ek8]; exact nI_add (12 * r4) k8
        refine g_lald S G (Rm_I R) (vin_e da14 (show 12 * r4 + k8 < 6240 by omega) (by omega)) dX5_at_64 ?_
        rw [show Int32.toNatClampNeg a14 = 12 * r4 + k8 by rw [da14]; exact nI_clamp (by omega)]
        refine lv_goto (tgt := 69) hx hb dX5_at_65 (by decide) ?_
        refine r_long S hret hlk G (Nat.le_of_ble_eq_true rfl) (Nat.le_of_ble_eq_true rfl) dX5_at_69 ?_
        have yk1 := tin_e ek1 hk1 (show n ≤ 1000 by omega)
        have zk1 := cn_e ek1 (show k1 < 1000 by omega)
        have qr4 := nm1 (show r4 < 100000 by omega)
        refine ⟨by simp only [S_at, yk1, zk1, er4, qr4, cn_nI (show r4 < 2 ^ 31 by omega), yk8, zk8, s_tell, put_lk, put_vs, put_hd, put_it, ↓reduceIte, Bool.false_eq_true, pk_us], ?_⟩
        simp only [S_at, yk1, zk1, er4, qr4, cn_nI (show r4 < 2 ^ 31 by omega), yk8, zk8, s_tell, put_lk, put_vs, put_hd, put_it, ↓reduceIte, Bool.false_eq_true, pk_us]
        exact ⟨_, _, _, _, _, _, _, _, _, R⟩

set_option maxHeartbeats 4000000 in
set_option maxRecDepth 100000 in
theorem M_lay (l : Launch) {E : EV} {w : wo} {m : Nat} {σ : ST} (X : RmX E w m σ) (K : Gd σ) (t : Int32) (k : Int32) (v : Int64) : ct_l l E yX5_lay wsX5_lay 2 0 0 [.ref m, .int t, .int k, .long v] w (fun r w' => r = (S_lay t k v σ).1 ∧ RmX E w' m (S_lay t k v σ).2) := by
  obtain ⟨aC, aV, aL, aH, aS, aZ, aI, aT, ⟨to, rs, nx⟩, R⟩ := X
  obtain ⟨n, cl, vs, lk, hd, nr, so, sz, it, oc, ow, bg, dp, td⟩ := σ
  have K9 := K
  obtain ⟨Kn, Kr, Kc, Kl, Kh, Ks, Kz, Ki⟩ := K9
  intro zz
  refine wo_body (Qc := fun A => va_Ql _ (wo_B E A) A) (ret := (some .long)) (by decide) rfl (Nat.le_of_ble_eq_true rfl) ?_
  intro p_ e_ s_ m_ args_ below_ meth_ code_ A_ ls S hret hlk hnm G hl
  have hl : lv_has ls 9 [(0, .ref m), (1, .int t), (2, .int k), (3, .long v)] := hl
  have hx := S.1
  have hb := S.2.1
  refine lv_aload_n hx hb dX5_lay_0 rfl (lv_at hl 0 rfl) ?_
  refine lv_iload_n hx hb dX5_lay_1 rfl (lv_at hl 1 rfl) ?_
  rcases tin_c n t (by omega) with ⟨tk1, ok1⟩ | ⟨k1, hk1, ek1⟩
  · skip
    refine g_Vi (n := 1) (rest := []) S G hl (c_X5_isThing l R Kn t) gX5_lay_X5_isThing rfl (by decide +kernel) (Rm_m R) rfl rfl rfl (Nat.le_of_ble_eq_true rfl) ⟨Nat.le_of_ble_eq_true rfl, Nat.le_of_ble_eq_true rfl⟩ ⟨Nat.le_of_ble_eq_true rfl, Nat.le_of_ble_eq_true rfl⟩ dX5_lay_2 ?_
    clear G; intro r_ w1 H locs hp G
    obtain ⟨rfl, hq_⟩ := hp
    rw [tk1] at hq_
    simp only [Bool.false_eq_true, ↓reduceIte] at hq_
    subst hq_
    refine lv_if_ne (tgt := 12) hx hb dX5_lay_5 (by decide) (fun c2 => absurd (by decide) c2) (fun c2 => ?_)
    refine lv_ldc2 hx hb S.2.2.2.1 (S.2.2.2.2 (.constantLong RX5 78 (-2000000001)) (by decide +kernel)) dX5_lay_8 ?_
    refine r_long S hret hlk G (Nat.le_of_ble_eq_true rfl) (Nat.le_of_ble_eq_true rfl) dX5_lay_11 ?_
    refine ⟨by simp only [S_lay, tk1, s_tell, put_lk, put_vs, put_hd, put_it, ↓reduceIte, Bool.false_eq_true, pk_us, show ¬ (1 : Int32) < 0 by decide], ?_⟩
    simp only [S_lay, tk1, s_tell, put_lk, put_vs, put_hd, put_it, ↓reduceIte, Bool.false_eq_true, pk_us, show ¬ (1 : Int32) < 0 by decide]
    exact ⟨_, _, _, _, _, _, _, _, _, R⟩
  · skip
    refine g_Vi (n := 1) (rest := []) S G hl (c_X5_isThing l R Kn t) gX5_lay_X5_isThing rfl (by decide +kernel) (Rm_m R) rfl rfl rfl (Nat.le_of_ble_eq_true rfl) ⟨Nat.le_of_ble_eq_true rfl, Nat.le_of_ble_eq_true rfl⟩ ⟨Nat.le_of_ble_eq_true rfl, Nat.le_of_ble_eq_true rfl⟩ dX5_lay_2 ?_
    clear G; intro r_ w1 H locs hp G
    obtain ⟨rfl, hq_⟩ := hp
    rw [if_pos (tin_e ek1 hk1 (by omega))] at hq_
    subst hq_
    refine lv_if_ne (tgt := 12) hx hb dX5_lay_5 (by decide) (fun c3 => ?_) (fun c3 => absurd c3 (by decide))
    refine lv_aload_n hx hb dX5_lay_12 rfl (lv_at hl 0 rfl) ?_
    refine g_get S G (Rm_m R) rfl (by decide +kernel) 4 (by decide) (by decide +kernel) rfl dX5_lay_13 ?_
    refine lv_iload_n hx hb dX5_lay_16 rfl (lv_at hl 1 rfl) ?_
    refine g_iald S G (Rm_H R) (vin_e ek1 (show k1 < 40 by omega) (by omega)) dX5_lay_17 ?_
    rw [show Int32.toNatClampNeg t = k1 by rw [ek1]; exact nI_clamp (by omega)]
    rcases Kh k1 hk1 with er4 | ⟨r4, hr4, er4⟩
    · skip
      refine lv_iconst (v := (-1)) hx hb dX5_lay_18 (by decide) ?_
      refine lv_icmp_ne (tgt := 26) hx hb dX5_lay_19 (by decide) (fun c5 => absurd er4 c5) (fun c5 => ?_)
      refine lv_iconst (v := 1) hx hb dX5_lay_22 (by decide) ?_
      refine lv_goto (tgt := 59) hx hb dX5_lay_23 (by decide) ?_
      refine lv_istore (lv' := [(5, .int 1), (0, .ref m), (1, .int t), (2, .int k), (3, .long v)]) hx hb dX5_lay_59 hl (by decide) rfl (fun ls hl => ?_)
      refine lv_aload_n hx hb dX5_lay_61 rfl (lv_at hl 1 rfl) ?_
      refine lv_iload hx hb dX5_lay_62 (lv_at hl 0 rfl) ?_
      refine g_Vi (n := 1) (rest := []) S G hl (c_X5_tell l R (j := 1) (o := 1) rfl (by decide)) gX5_lay_X5_tell rfl (by decide +kernel) (Rm_m R) rfl rfl rfl (Nat.le_of_ble_eq_true rfl) ⟨Nat.le_of_ble_eq_true rfl, Nat.le_of_ble_eq_true rfl⟩ ⟨Nat.le_of_ble_eq_true rfl, Nat.le_of_ble_eq_true rfl⟩ dX5_lay_64 ?_
      clear G; intro r_ w1 H locs hp G
      obtain ⟨hr_, R⟩ := hp
      subst r_
      refine lv_if_eq (tgt := 72) hx hb dX5_lay_67 (by decide) (fun c6 => absurd c6 (by decide)) (fun c6 => ?_)
      refine lv_lconst (v := 0) hx hb dX5_lay_70 (by decide) ?_
      refine r_long S hret hlk G (Nat.le_of_ble_eq_true rfl) (Nat.le_of_ble_eq_true rfl) dX5_lay_71 ?_
      have yk1 := tin_e ek1 hk1 (show n ≤ 1000 by omega)
      have zk1 := cn_e ek1 (show k1 < 1000 by omega)
      refine ⟨by simp only [S_lay, yk1, zk1, er4, s_tell, put_lk, put_vs, put_hd, put_it, ↓reduceIte, Bool.false_eq_true, pk_us, show ¬ (1 : Int32) < 0 by decide], ?_⟩
      simp only [S_lay, yk1, zk1, er4, s_tell, put_lk, put_vs, put_hd, put_it, ↓reduceIte, Bool.false_eq_true, pk_us, show ¬ (1 : Int32) < 0 by decide]
      exact ⟨_, _, _, _, _, _, _, _, _, R⟩
    · skip
      have zr4 := sz_le (Kz r4 hr4)
      refine lv_iconst (v := (-1)) hx hb dX5_lay_18 (by decide) ?_
      refine lv_icmp_ne (tgt := 26) hx hb dX5_lay_19 (by decide) (fun c7 => ?_) (fun c7 => absurd c7 (by rw [er4]; exact nm1 (by omega)))
      refine lv_aload_n hx hb dX5_lay_26 rfl (lv_at hl 0 rfl) ?_
      refine g_get S G (Rm_m R) rfl (by decide +kernel) 6 (by decide) (by decide +kernel) rfl dX5_lay_27 ?_
      refine lv_aload_n hx hb dX5_lay_30 rfl (lv_at hl 0 rfl) ?_
      refine g_get S G (Rm_m R) rfl (by decide +kernel) 4 (by decide) (by decide +kernel) rfl dX5_lay_31 ?_
      refine lv_iload_n hx hb dX5_lay_34 rfl (lv_at hl 1 rfl) ?_
      refine g_iald S G (Rm_H R) (vin_e ek1 (show k1 < 40 by omega) (by omega)) dX5_lay_35 ?_
      rw [show Int32.toNatClampNeg t = k1 by rw [ek1]; exact nI_clamp (by omega)]
      refine g_iald S G (Rm_S R) (vin_e er4 (show r4 < 520 by omega) (by omega)) dX5_lay_36 ?_
      rw [show Int32.toNatClampNeg (hd k1) = r4 by rw [er4]; exact nI_clamp (by omega)]
      refine lv_iconst (v := 1) hx hb dX5_lay_37 (by decide) ?_
      refine lv_icmp_le (tgt := 45) hx hb dX5_lay_38 (by decide) (fun c8 => ?_) (fun c8 => ?_)
      · skip
        refine lv_aload_n hx hb dX5_lay_45 rfl (lv_at hl 0 rfl) ?_
        refine lv_iload_n hx hb dX5_lay_46 rfl (lv_at hl 1 rfl) ?_
        refine lv_iload_n hx hb dX5_lay_47 rfl (lv_at hl 2 rfl) ?_
        rcases tin_c (cn (sz r4)) k (by omega) with ⟨tk9, ok9⟩ | ⟨k9, hk9, ek9⟩
        · skip
          refine g_Vi (n := 2) (rest := []) S G hl (c_X5_isItem l R ek1 hk1 Kn er4 hr4 Kr (Kz r4 hr4) k) gX5_lay_X5_isItem rfl (by decide +kernel) (Rm_m R) rfl rfl rfl (Nat.le_of_ble_eq_true rfl) ⟨Nat.le_of_ble_eq_true rfl, Nat.le_of_ble_eq_true rfl⟩ ⟨Nat.le_of_ble_eq_true rfl, Nat.le_of_ble_eq_true rfl⟩ dX5_lay_48 ?_
          clear G; intro r_ w1 H locs hp G
          obtain ⟨rfl, hq_⟩ := hp
          rw [tk9] at hq_
          simp only [Bool.false_eq_true, ↓reduceIte] at hq_
          subst hq_
          refine lv_if_eq (tgt := 58) hx hb dX5_lay_51 (by decide) (fun c10 => ?_) (fun c10 => absurd (by decide) c10)
          refine lv_iconst (v := 3) hx hb dX5_lay_58 (by decide) ?_
          refine lv_istore (lv' := [(5, .int 3), (0, .ref m), (1, .int t), (2, .int k), (3, .long v)]) hx hb dX5_lay_59 hl (by decide) rfl (fun ls hl => ?_)
          refine lv_aload_n hx hb dX5_lay_61 rfl (lv_at hl 1 rfl) ?_
          refine lv_iload hx hb dX5_lay_62 (lv_at hl 0 rfl) ?_
          refine g_Vi (n := 1) (rest := []) S G hl (c_X5_tell l R (j := 3) (o := 3) rfl (by decide)) gX5_lay_X5_tell rfl (by decide +kernel) (Rm_m R) rfl rfl rfl (Nat.le_of_ble_eq_true rfl) ⟨Nat.le_of_ble_eq_true rfl, Nat.le_of_ble_eq_true rfl⟩ ⟨Nat.le_of_ble_eq_true rfl, Nat.le_of_ble_eq_true rfl⟩ dX5_lay_64 ?_
          clear G; intro r_ w1 H locs hp G
          obtain ⟨hr_, R⟩ := hp
          subst r_
          refine lv_if_eq (tgt := 72) hx hb dX5_lay_67 (by decide) (fun c11 => absurd c11 (by decide)) (fun c11 => ?_)
          refine lv_lconst (v := 0) hx hb dX5_lay_70 (by decide) ?_
          refine r_long S hret hlk G (Nat.le_of_ble_eq_true rfl) (Nat.le_of_ble_eq_true rfl) dX5_lay_71 ?_
          have g9 : ¬ 1 < so r4 := Int32.not_lt.mpr c8
          have yk1 := tin_e ek1 hk1 (show n ≤ 1000 by omega)
          have zk1 := cn_e ek1 (show k1 < 1000 by omega)
          have qr4 := nm1 (show r4 < 100000 by omega)
          refine ⟨by simp only [S_lay, yk1, zk1, er4, qr4, cn_nI (show r4 < 2 ^ 31 by omega), tk9, g9, s_tell, put_lk, put_vs, put_hd, put_it, ↓reduceIte, Bool.false_eq_true, pk_us, show ¬ (1 : Int32) < 0 by decide], ?_⟩
          simp only [S_lay, yk1, zk1, er4, qr4, cn_nI (show r4 < 2 ^ 31 by omega), tk9, g9, s_tell, put_lk, put_vs, put_hd, put_it, ↓reduceIte, Bool.false_eq_true, pk_us, show ¬ (1 : Int32) < 0 by decide]
          exact ⟨_, _, _, _, _, _, _, _, _, R⟩
        · skip
          have yk9 := tin_e ek9 hk9 (show cn (sz r4) ≤ 1000 by omega)
          have zk9 := cn_e ek9 (show k9 < 1000 by omega)
          refine g_Vi (n := 2) (rest := []) S G hl (c_X5_isItem l R ek1 hk1 Kn er4 hr4 Kr (Kz r4 hr4) k) gX5_lay_X5_isItem rfl (by decide +kernel) (Rm_m R) rfl rfl rfl (Nat.le_of_ble_eq_true rfl) ⟨Nat.le_of_ble_eq_true rfl, Nat.le_of_ble_eq_true rfl⟩ ⟨Nat.le_of_ble_eq_true rfl, Nat.le_of_ble_eq_true rfl⟩ dX5_lay_48 ?_
          clear G; intro r_ w1 H locs hp G
          obtain ⟨rfl, hq_⟩ := hp
          rw [if_pos yk9] at hq_
          subst hq_
          refine lv_if_eq (tgt := 58) hx hb dX5_lay_51 (by decide) (fun c12 => absurd c12 (by decide)) (fun c12 => ?_)
          refine lv_iconst (v := 0) hx hb dX5_lay_54 (by decide) ?_
          refine lv_goto (tgt := 59) hx hb dX5_lay_55 (by decide) ?_
          refine lv_istore (lv' := [(5, .int 0), (0, .ref m), (1, .int t), (2, .int k), (3, .long v)]) hx hb dX5_lay_59 hl (by decide) rfl (fun ls hl => ?_)
          refine lv_aload_n hx hb dX5_lay_61 rfl (lv_at hl 1 rfl) ?_
          refine lv_iload hx hb dX5_lay_62 (lv_at hl 0 rfl) ?_
          refine g_Vi (n := 1) (rest := []) S G hl (c_X5_tell l R (j := 0) (o := 0) rfl (by decide)) gX5_lay_X5_tell rfl (by decide +kernel) (Rm_m R) rfl rfl rfl (Nat.le_of_ble_eq_true rfl) ⟨Nat.le_of_ble_eq_true rfl, Nat.le_of_ble_eq_true rfl⟩ ⟨Nat.le_of_ble_eq_true rfl, Nat.le_of_ble_eq_true rfl⟩ dX5_lay_64 ?_
          clear G; intro r_ w1 H locs hp G
          obtain ⟨hr_, R⟩ := hp
          subst r_
          refine lv_if_eq (tgt := 72) hx hb dX5_lay_67 (by decide) (fun c13 => ?_) (fun c13 => absurd (by decide) c13)
          refine lv_bipush (v := 12) hx hb dX5_lay_72 (by decide) ?_
          refine lv_aload_n hx hb dX5_lay_74 rfl (lv_at hl 1 rfl) ?_
          refine g_get S G (Rm_m R) rfl (by decide +kernel) 4 (by decide) (by decide +kernel) rfl dX5_lay_75 ?_
          refine lv_iload_n hx hb dX5_lay_78 rfl (lv_at hl 2 rfl) ?_
          refine g_iald S G (Rm_H R) (vin_e ek1 (show k1 < 40 by omega) (by omega)) dX5_lay_79 ?_
          rw [show Int32.toNatClampNeg t = k1 by rw [ek1]; exact nI_clamp (by omega)]
          refine lv_imul hx hb dX5_lay_80 ?_
          refine lv_topi (fun a14 ea14 => ?_)
          have da14 : a14 = nI (12 * r4) := by rw [ea14, er4]; exact pk_mul 12 r4
          refine lv_iload_n hx hb dX5_lay_81 rfl (lv_at hl 3 rfl) ?_
          refine lv_iadd hx hb dX5_lay_82 ?_
          refine lv_topi (fun a15 ea15 => ?_)
          have da15 : a15 = nI (12 * r4 + k9) := by rw [ea15, da14, ek9]; exact nI_add (12 * r4) k9
          refine lv_istore (lv' := [(6, .int a15), (5, .int 0), (0, .ref m), (1, .int t), (2, .int k), (3, .long v)]) hx hb dX5_lay_83 hl (by decide) rfl (fun ls hl => ?_)
          refine lv_aload_n hx hb dX5_lay_85 rfl (lv_at hl 2 rfl) ?_
          refine g_get S G (Rm_m R) rfl (by decide +kernel) 8 (by decide) (by decide +kernel) rfl dX5_lay_86 ?_
          refine lv_iload hx hb dX5_lay_89 (lv_at hl 0 rfl) ?_
          refine g_lald S G (Rm_I R) (vin_e da15 (show 12 * r4 + k9 < 6240 by omega) (by omega)) dX5_lay_91 ?_
          rw [show Int32.toNatClampNeg a15 = 12 * r4 + k9 by rw [da15]; exact nI_clamp (by omega)]
          refine lv_lstore (lv' := [(7, .long (it (12 * r4 + k9))), (6, .int a15), (5, .int 0), (0, .ref m), (1, .int t), (2, .int k), (3, .long v)]) hx hb dX5_lay_92 hl (by decide) rfl (fun ls hl => ?_)
          refine lv_aload_n hx hb dX5_lay_94 rfl (lv_at hl 3 rfl) ?_
          refine g_get S G (Rm_m R) rfl (by decide +kernel) 8 (by decide) (by decide +kernel) rfl dX5_lay_95 ?_
          refine lv_iload hx hb dX5_lay_98 (lv_at hl 1 rfl) ?_
          refine lv_aload_n hx hb dX5_lay_100 rfl (lv_at hl 3 rfl) ?_
          refine g_get S G (Rm_m R) rfl (by decide +kernel) 6 (by decide) (by decide +kernel) rfl dX5_lay_101 ?_
          refine lv_aload_n hx hb dX5_lay_104 rfl (lv_at hl 3 rfl) ?_
          refine g_get S G (Rm_m R) rfl (by decide +kernel) 4 (by decide) (by decide +kernel) rfl dX5_lay_105 ?_
          refine lv_iload_n hx hb dX5_lay_108 rfl (lv_at hl 4 rfl) ?_
          refine g_iald S G (Rm_H R) (vin_e ek1 (show k1 < 40 by omega) (by omega)) dX5_lay_109 ?_
          rw [show Int32.toNatClampNeg t = k1 by rw [ek1]; exact nI_clamp (by omega)]
          refine g_iald S G (Rm_S R) (vin_e er4 (show r4 < 520 by omega) (by omega)) dX5_lay_110 ?_
          rw [show Int32.toNatClampNeg (hd k1) = r4 by rw [er4]; exact nI_clamp (by omega)]
          refine lv_if_ne (tgt := 120) hx hb dX5_lay_111 (by decide) (fun c16 => ?_) (fun c16 => ?_)
          · skip
            refine lv_lload_n hx hb dX5_lay_120 rfl (lv_at hl 6 rfl) ?_
            refine g_last S G (Rm_I R) (vin_e da15 (show 12 * r4 + k9 < 6240 by omega) (by omega)) dX5_lay_121 (fun H locs G => ?_)
            rw [show Int32.toNatClampNeg a15 = 12 * r4 + k9 by rw [da15]; exact nI_clamp (by omega)] at G
            obtain ⟨w, R, G⟩ := Rm_ex (Rm_p_it R (vp_updL it (12 * r4 + k9) v)) G
            refine lv_lload hx hb dX5_lay_122 (lv_at hl 0 rfl) ?_
            refine r_long S hret hlk G (Nat.le_of_ble_eq_true rfl) (Nat.le_of_ble_eq_true rfl) dX5_lay_124 ?_
            have g9 : ¬ 1 < so r4 := Int32.not_lt.mpr c8
            have yk1 := tin_e ek1 hk1 (show n ≤ 1000 by omega)
            have zk1 := cn_e ek1 (show k1 < 1000 by omega)
            have qr4 := nm1 (show r4 < 100000 by omega)
            refine ⟨by simp only [S_lay, yk1, zk1, er4, qr4, cn_nI (show r4 < 2 ^ 31 by omega), yk9, zk9, g9, c16, s_tell, put_lk, put_vs, put_hd, put_it, ↓reduceIte, Bool.false_eq_true, pk_us, show ¬ (1 : Int32) < 0 by decide], ?_⟩
            simp only [S_lay, yk1, zk1, er4, qr4, cn_nI (show r4 < 2 ^ 31 by omega), yk9, zk9, g9, c16, s_tell, put_lk, put_vs, put_hd, put_it, ↓reduceIte, Bool.false_eq_true, pk_us, show ¬ (1 : Int32) < 0 by decide]
            exact ⟨_, _, _, _, _, _, _, _, _, R⟩
          · skip
            refine lv_lload_n hx hb dX5_lay_114 rfl (lv_at hl 6 rfl) ?_
            refine lv_l2i (v := (Int64.toInt32 v)) hx hb dX5_lay_115 rfl ?_
            refine lv_i2l (v := (Int32.toInt64 (Int64.toInt32 v))) hx hb dX5_lay_116 rfl ?_
            refine lv_goto (tgt := 121) hx hb dX5_lay_117 (by decide) ?_
            refine g_last S G (Rm_I R) (vin_e da15 (show 12 * r4 + k9 < 6240 by omega) (by omega)) dX5_lay_121 (fun H locs G => ?_)
            rw [show Int32.toNatClampNeg a15 = 12 * r4 + k9 by rw [da15]; exact nI_clamp (by omega)] at G
            obtain ⟨w, R, G⟩ := Rm_ex (Rm_p_it R (vp_updL it (12 * r4 + k9) (Int32.toInt64 (Int64.toInt32 v)))) G
            refine lv_lload hx hb dX5_lay_122 (lv_at hl 0 rfl) ?_
            refine r_long S hret hlk G (Nat.le_of_ble_eq_true rfl) (Nat.le_of_ble_eq_true rfl) dX5_lay_124 ?_
            have g9 : ¬ 1 < so r4 := Int32.not_lt.mpr c8
            have yk1 := tin_e ek1 hk1 (show n ≤ 1000 by omega)
            have zk1 := cn_e ek1 (show k1 < 1000 by omega)
            have qr4 := nm1 (show r4 < 100000 by omega)
            refine ⟨by simp only [S_lay, yk1, zk1, er4, qr4, cn_nI (show r4 < 2 ^ 31 by omega), yk9, zk9, g9, c16, s_tell, put_lk, put_vs, put_hd, put_it, ↓reduceIte, Bool.false_eq_true, pk_us, show ¬ (1 : Int32) < 0 by decide], ?_⟩
            simp only [S_lay, yk1, zk1, er4, qr4, cn_nI (show r4 < 2 ^ 31 by omega), yk9, zk9, g9, c16, s_tell, put_lk, put_vs, put_hd, put_it, ↓reduceIte, Bool.false_eq_true, pk_us, show ¬ (1 : Int32) < 0 by decide]
            exact ⟨_, _, _, _, _, _, _, _, _, R⟩
      · skip
        refine lv_iconst (v := 2) hx hb dX5_lay_41 (by decide) ?_
        refine lv_goto (tgt := 59) hx hb dX5_lay_42 (by decide) ?_
        refine lv_istore (lv' := [(5, .int 2), (0, .ref m), (1, .int t), (2, .int k), (3, .long v)]) hx hb dX5_lay_59 hl (by decide) rfl (fun ls hl => ?_)
        refine lv_aload_n hx hb dX5_lay_61 rfl (lv_at hl 1 rfl) ?_
        refine lv_iload hx hb dX5_lay_62 (lv_at hl 0 rfl) ?_
        refine g_Vi (n := 1) (rest := []) S G hl (c_X5_tell l R (j := 2) (o := 2) rfl (by decide)) gX5_lay_X5_tell rfl (by decide +kernel) (Rm_m R) rfl rfl rfl (Nat.le_of_ble_eq_true rfl) ⟨Nat.le_of_ble_eq_true rfl, Nat.le_of_ble_eq_true rfl⟩ ⟨Nat.le_of_ble_eq_true rfl, Nat.le_of_ble_eq_true rfl⟩ dX5_lay_64 ?_
        clear G; intro r_ w1 H locs hp G
        obtain ⟨hr_, R⟩ := hp
        subst r_
        refine lv_if_eq (tgt := 72) hx hb dX5_lay_67 (by decide) (fun c17 => absurd c17 (by decide)) (fun c17 => ?_)
        refine lv_lconst (v := 0) hx hb dX5_lay_70 (by decide) ?_
        refine r_long S hret hlk G (Nat.le_of_ble_eq_true rfl) (Nat.le_of_ble_eq_true rfl) dX5_lay_71 ?_
        have g9 : 1 < so r4 := Int32.not_le.mp c8
        have yk1 := tin_e ek1 hk1 (show n ≤ 1000 by omega)
        have zk1 := cn_e ek1 (show k1 < 1000 by omega)
        have qr4 := nm1 (show r4 < 100000 by omega)
        refine ⟨by simp only [S_lay, yk1, zk1, er4, qr4, cn_nI (show r4 < 2 ^ 31 by omega), g9, s_tell, put_lk, put_vs, put_hd, put_it, ↓reduceIte, Bool.false_eq_true, pk_us, show ¬ (1 : Int32) < 0 by decide], ?_⟩
        simp only [S_lay, yk1, zk1, er4, qr4, cn_nI (show r4 < 2 ^ 31 by omega), g9, s_tell, put_lk, put_vs, put_hd, put_it, ↓reduceIte, Bool.false_eq_true, pk_us, show ¬ (1 : Int32) < 0 by decide]
        exact ⟨_, _, _, _, _, _, _, _, _, R⟩

set_option maxHeartbeats 4000000 in
set_option maxRecDepth 100000 in
theorem M_set (l : Launch) {E : EV} {w : wo} {m : Nat} {σ : ST} (X : RmX E w m σ) (K : Gd σ) (t : Int32) (k : Int32) (o : Int32) : ct_i l E yX5_set wsX5_set 2 0 0 [.ref m, .int t, .int k, .int o] w (fun r w' => r = (S_set t k o σ).1 ∧ RmX E w' m (S_set t k o σ).2) := by
  obtain ⟨aC, aV, aL, aH, aS, aZ, aI, aT, ⟨to, rs, nx⟩, R⟩ := X
  obtain ⟨n, cl, vs, lk, hd, nr, so, sz, it, oc, ow, bg, dp, td⟩ := σ
  have K9 := K
  obtain ⟨Kn, Kr, Kc, Kl, Kh, Ks, Kz, Ki⟩ := K9
  intro zz
  refine wo_body (Qc := fun A => va_Qi _ (wo_B E A) A) (ret := (some .int)) (by decide) rfl (Nat.le_of_ble_eq_true rfl) ?_
  intro p_ e_ s_ m_ args_ below_ meth_ code_ A_ ls S hret hlk hnm G hl
  have hl : lv_has ls 7 [(0, .ref m), (1, .int t), (2, .int k), (3, .int o)] := hl
  have hx := S.1
  have hb := S.2.1
  refine lv_aload_n hx hb dX5_set_0 rfl (lv_at hl 0 rfl) ?_
  refine lv_iload_n hx hb dX5_set_1 rfl (lv_at hl 1 rfl) ?_
  rcases tin_c n t (by omega) with ⟨tk1, ok1⟩ | ⟨k1, hk1, ek1⟩
  · skip
    refine g_Vi (n := 1) (rest := []) S G hl (c_X5_isThing l R Kn t) gX5_set_X5_isThing rfl (by decide +kernel) (Rm_m R) rfl rfl rfl (Nat.le_of_ble_eq_true rfl) ⟨Nat.le_of_ble_eq_true rfl, Nat.le_of_ble_eq_true rfl⟩ ⟨Nat.le_of_ble_eq_true rfl, Nat.le_of_ble_eq_true rfl⟩ dX5_set_2 ?_
    clear G; intro r_ w1 H locs hp G
    obtain ⟨rfl, hq_⟩ := hp
    rw [tk1] at hq_
    simp only [Bool.false_eq_true, ↓reduceIte] at hq_
    subst hq_
    refine lv_if_eq (tgt := 21) hx hb dX5_set_5 (by decide) (fun c2 => ?_) (fun c2 => absurd (by decide) c2)
    refine lv_ldc hx hb S.2.2.2.1 (S.2.2.2.2 (.constant RX5 48 (-2000000001)) (by decide +kernel)) dX5_set_21 ?_
    refine r_int S hret hlk G rfl (Nat.le_of_ble_eq_true rfl) (Nat.le_of_ble_eq_true rfl) dX5_set_23 ?_
    refine ⟨by simp only [S_set, tk1, s_tell, put_it, ↓reduceIte, Bool.false_eq_true, or_true, true_or, and_true, true_and, not_false_eq_true, false_or, show ¬ (3 : Int32) < 2 by decide], ?_⟩
    simp only [S_set, tk1, s_tell, put_it, ↓reduceIte, Bool.false_eq_true, or_true, true_or, and_true, true_and, not_false_eq_true, false_or, show ¬ (3 : Int32) < 2 by decide]
    exact ⟨_, _, _, _, _, _, _, _, _, R⟩
  · skip
    refine g_Vi (n := 1) (rest := []) S G hl (c_X5_isThing l R Kn t) gX5_set_X5_isThing rfl (by decide +kernel) (Rm_m R) rfl rfl rfl (Nat.le_of_ble_eq_true rfl) ⟨Nat.le_of_ble_eq_true rfl, Nat.le_of_ble_eq_true rfl⟩ ⟨Nat.le_of_ble_eq_true rfl, Nat.le_of_ble_eq_true rfl⟩ dX5_set_2 ?_
    clear G; intro r_ w1 H locs hp G
    obtain ⟨rfl, hq_⟩ := hp
    rw [if_pos (tin_e ek1 hk1 (by omega))] at hq_
    subst hq_
    refine lv_if_eq (tgt := 21) hx hb dX5_set_5 (by decide) (fun c3 => absurd c3 (by decide)) (fun c3 => ?_)
    refine lv_iload_n hx hb dX5_set_8 rfl (lv_at hl 3 rfl) ?_
    refine lv_iconst (v := (-1)) hx hb dX5_set_9 (by decide) ?_
    refine lv_icmp_eq (tgt := 24) hx hb dX5_set_10 (by decide) (fun c4 => ?_) (fun c4 => ?_)
    · skip
      refine lv_aload_n hx hb dX5_set_24 rfl (lv_at hl 0 rfl) ?_
      refine g_get S G (Rm_m R) rfl (by decide +kernel) 4 (by decide) (by decide +kernel) rfl dX5_set_25 ?_
      refine lv_iload_n hx hb dX5_set_28 rfl (lv_at hl 1 rfl) ?_
      refine g_iald S G (Rm_H R) (vin_e ek1 (show k1 < 40 by omega) (by omega)) dX5_set_29 ?_
      rw [show Int32.toNatClampNeg t = k1 by rw [ek1]; exact nI_clamp (by omega)]
      rcases Kh k1 hk1 with er5 | ⟨r5, hr5, er5⟩
      · skip
        refine lv_iconst (v := (-1)) hx hb dX5_set_30 (by decide) ?_
        refine lv_icmp_ne (tgt := 38) hx hb dX5_set_31 (by decide) (fun c6 => absurd er5 c6) (fun c6 => ?_)
        refine lv_iconst (v := 1) hx hb dX5_set_34 (by decide) ?_
        refine lv_goto (tgt := 103) hx hb dX5_set_35 (by decide) ?_
        refine lv_istore (lv' := [(4, .int 1), (0, .ref m), (1, .int t), (2, .int k), (3, .int o)]) hx hb dX5_set_103 hl (by decide) rfl (fun ls hl => ?_)
        refine lv_aload_n hx hb dX5_set_105 rfl (lv_at hl 1 rfl) ?_
        refine lv_iload hx hb dX5_set_106 (lv_at hl 0 rfl) ?_
        refine g_Vi (n := 1) (rest := []) S G hl (c_X5_tell l R (j := 1) (o := 1) rfl (by decide)) gX5_set_X5_tell rfl (by decide +kernel) (Rm_m R) rfl rfl rfl (Nat.le_of_ble_eq_true rfl) ⟨Nat.le_of_ble_eq_true rfl, Nat.le_of_ble_eq_true rfl⟩ ⟨Nat.le_of_ble_eq_true rfl, Nat.le_of_ble_eq_true rfl⟩ dX5_set_108 ?_
        clear G; intro r_ w1 H locs hp G
        obtain ⟨hr_, R⟩ := hp
        subst r_
        refine lv_if_eq (tgt := 116) hx hb dX5_set_111 (by decide) (fun c7 => absurd c7 (by decide)) (fun c7 => ?_)
        refine lv_iconst (v := 0) hx hb dX5_set_114 (by decide) ?_
        refine r_int S hret hlk G rfl (Nat.le_of_ble_eq_true rfl) (Nat.le_of_ble_eq_true rfl) dX5_set_115 ?_
        have yk1 := tin_e ek1 hk1 (show n ≤ 1000 by omega)
        have zk1 := cn_e ek1 (show k1 < 1000 by omega)
        have d8 : o = -1 ∨ tin n o = true := Or.inl c4
        refine ⟨by simp only [S_set, yk1, zk1, er5, d8, s_tell, put_it, ↓reduceIte, Bool.false_eq_true, or_true, true_or, and_true, true_and, not_false_eq_true, false_or, show ¬ (3 : Int32) < 2 by decide], ?_⟩
        simp only [S_set, yk1, zk1, er5, d8, s_tell, put_it, ↓reduceIte, Bool.false_eq_true, or_true, true_or, and_true, true_and, not_false_eq_true, false_or, show ¬ (3 : Int32) < 2 by decide]
        exact ⟨_, _, _, _, _, _, _, _, _, R⟩
      · skip
        have zr5 := sz_le (Kz r5 hr5)
        refine lv_iconst (v := (-1)) hx hb dX5_set_30 (by decide) ?_
        refine lv_icmp_ne (tgt := 38) hx hb dX5_set_31 (by decide) (fun c8 => ?_) (fun c8 => absurd c8 (by rw [er5]; exact nm1 (by omega)))
        refine lv_aload_n hx hb dX5_set_38 rfl (lv_at hl 0 rfl) ?_
        refine g_get S G (Rm_m R) rfl (by decide +kernel) 6 (by decide) (by decide +kernel) rfl dX5_set_39 ?_
        refine lv_aload_n hx hb dX5_set_42 rfl (lv_at hl 0 rfl) ?_
        refine g_get S G (Rm_m R) rfl (by decide +kernel) 4 (by decide) (by decide +kernel) rfl dX5_set_43 ?_
        refine lv_iload_n hx hb dX5_set_46 rfl (lv_at hl 1 rfl) ?_
        refine g_iald S G (Rm_H R) (vin_e ek1 (show k1 < 40 by omega) (by omega)) dX5_set_47 ?_
        rw [show Int32.toNatClampNeg t = k1 by rw [ek1]; exact nI_clamp (by omega)]
        refine g_iald S G (Rm_S R) (vin_e er5 (show r5 < 520 by omega) (by omega)) dX5_set_48 ?_
        rw [show Int32.toNatClampNeg (hd k1) = r5 by rw [er5]; exact nI_clamp (by omega)]
        refine lv_iconst (v := 2) hx hb dX5_set_49 (by decide) ?_
        refine lv_icmp_ge (tgt := 57) hx hb dX5_set_50 (by decide) (fun c9 => ?_) (fun c9 => ?_)
        · skip
          refine lv_aload_n hx hb dX5_set_57 rfl (lv_at hl 0 rfl) ?_
          refine lv_iload_n hx hb dX5_set_58 rfl (lv_at hl 1 rfl) ?_
          refine lv_iload_n hx hb dX5_set_59 rfl (lv_at hl 2 rfl) ?_
          rcases tin_c (cn (sz r5)) k (by omega) with ⟨tk10, ok10⟩ | ⟨k10, hk10, ek10⟩
          · skip
            refine g_Vi (n := 2) (rest := []) S G hl (c_X5_isItem l R ek1 hk1 Kn er5 hr5 Kr (Kz r5 hr5) k) gX5_set_X5_isItem rfl (by decide +kernel) (Rm_m R) rfl rfl rfl (Nat.le_of_ble_eq_true rfl) ⟨Nat.le_of_ble_eq_true rfl, Nat.le_of_ble_eq_true rfl⟩ ⟨Nat.le_of_ble_eq_true rfl, Nat.le_of_ble_eq_true rfl⟩ dX5_set_60 ?_
            clear G; intro r_ w1 H locs hp G
            obtain ⟨rfl, hq_⟩ := hp
            rw [tk10] at hq_
            simp only [Bool.false_eq_true, ↓reduceIte] at hq_
            subst hq_
            refine lv_if_ne (tgt := 70) hx hb dX5_set_63 (by decide) (fun c11 => absurd (by decide) c11) (fun c11 => ?_)
            refine lv_iconst (v := 3) hx hb dX5_set_66 (by decide) ?_
            refine lv_goto (tgt := 103) hx hb dX5_set_67 (by decide) ?_
            refine lv_istore (lv' := [(4, .int 3), (0, .ref m), (1, .int t), (2, .int k), (3, .int o)]) hx hb dX5_set_103 hl (by decide) rfl (fun ls hl => ?_)
            refine lv_aload_n hx hb dX5_set_105 rfl (lv_at hl 1 rfl) ?_
            refine lv_iload hx hb dX5_set_106 (lv_at hl 0 rfl) ?_
            refine g_Vi (n := 1) (rest := []) S G hl (c_X5_tell l R (j := 3) (o := 3) rfl (by decide)) gX5_set_X5_tell rfl (by decide +kernel) (Rm_m R) rfl rfl rfl (Nat.le_of_ble_eq_true rfl) ⟨Nat.le_of_ble_eq_true rfl, Nat.le_of_ble_eq_true rfl⟩ ⟨Nat.le_of_ble_eq_true rfl, Nat.le_of_ble_eq_true rfl⟩ dX5_set_108 ?_
            clear G; intro r_ w1 H locs hp G
            obtain ⟨hr_, R⟩ := hp
            subst r_
            refine lv_if_eq (tgt := 116) hx hb dX5_set_111 (by decide) (fun c12 => absurd c12 (by decide)) (fun c12 => ?_)
            refine lv_iconst (v := 0) hx hb dX5_set_114 (by decide) ?_
            refine r_int S hret hlk G rfl (Nat.le_of_ble_eq_true rfl) (Nat.le_of_ble_eq_true rfl) dX5_set_115 ?_
            have yk1 := tin_e ek1 hk1 (show n ≤ 1000 by omega)
            have zk1 := cn_e ek1 (show k1 < 1000 by omega)
            have qr5 := nm1 (show r5 < 100000 by omega)
            have d8 : o = -1 ∨ tin n o = true := Or.inl c4
            have g9 : ¬ so r5 < 2 := Int32.not_lt.mpr c9
            refine ⟨by simp only [S_set, yk1, zk1, er5, qr5, cn_nI (show r5 < 2 ^ 31 by omega), tk10, d8, g9, s_tell, put_it, ↓reduceIte, Bool.false_eq_true, or_true, true_or, and_true, true_and, not_false_eq_true, false_or, show ¬ (3 : Int32) < 2 by decide], ?_⟩
            simp only [S_set, yk1, zk1, er5, qr5, cn_nI (show r5 < 2 ^ 31 by omega), tk10, d8, g9, s_tell, put_it, ↓reduceIte, Bool.false_eq_true, or_true, true_or, and_true, true_and, not_false_eq_true, false_or, show ¬ (3 : Int32) < 2 by decide]
            exact ⟨_, _, _, _, _, _, _, _, _, R⟩
          · skip
            have yk10 := tin_e ek10 hk10 (show cn (sz r5) ≤ 1000 by omega)
            have zk10 := cn_e ek10 (show k10 < 1000 by omega)
            refine g_Vi (n := 2) (rest := []) S G hl (c_X5_isItem l R ek1 hk1 Kn er5 hr5 Kr (Kz r5 hr5) k) gX5_set_X5_isItem rfl (by decide +kernel) (Rm_m R) rfl rfl rfl (Nat.le_of_ble_eq_true rfl) ⟨Nat.le_of_ble_eq_true rfl, Nat.le_of_ble_eq_true rfl⟩ ⟨Nat.le_of_ble_eq_true rfl, Nat.le_of_ble_eq_true rfl⟩ dX5_set_60 ?_
            clear G; intro r_ w1 H locs hp G
            obtain ⟨rfl, hq_⟩ := hp
            rw [if_pos yk10] at hq_
            subst hq_
            refine lv_if_ne (tgt := 70) hx hb dX5_set_63 (by decide) (fun c13 => ?_) (fun c13 => absurd c13 (by decide))
            refine lv_aload_n hx hb dX5_set_70 rfl (lv_at hl 0 rfl) ?_
            refine g_get S G (Rm_m R) rfl (by decide +kernel) 6 (by decide) (by decide +kernel) rfl dX5_set_71 ?_
            refine lv_aload_n hx hb dX5_set_74 rfl (lv_at hl 0 rfl) ?_
            refine g_get S G (Rm_m R) rfl (by decide +kernel) 4 (by decide) (by decide +kernel) rfl dX5_set_75 ?_
            refine lv_iload_n hx hb dX5_set_78 rfl (lv_at hl 1 rfl) ?_
            refine g_iald S G (Rm_H R) (vin_e ek1 (show k1 < 40 by omega) (by omega)) dX5_set_79 ?_
            rw [show Int32.toNatClampNeg t = k1 by rw [ek1]; exact nI_clamp (by omega)]
            refine g_iald S G (Rm_S R) (vin_e er5 (show r5 < 520 by omega) (by omega)) dX5_set_80 ?_
            rw [show Int32.toNatClampNeg (hd k1) = r5 by rw [er5]; exact nI_clamp (by omega)]
            refine lv_iconst (v := 3) hx hb dX5_set_81 (by decide) ?_
            refine lv_icmp_ne (tgt := 102) hx hb dX5_set_82 (by decide) (fun c14 => ?_) (fun c14 => ?_)
            · skip
              refine lv_iconst (v := 0) hx hb dX5_set_102 (by decide) ?_
              refine lv_istore (lv' := [(4, .int 0), (0, .ref m), (1, .int t), (2, .int k), (3, .int o)]) hx hb dX5_set_103 hl (by decide) rfl (fun ls hl => ?_)
              refine lv_aload_n hx hb dX5_set_105 rfl (lv_at hl 1 rfl) ?_
              refine lv_iload hx hb dX5_set_106 (lv_at hl 0 rfl) ?_
              refine g_Vi (n := 1) (rest := []) S G hl (c_X5_tell l R (j := 0) (o := 0) rfl (by decide)) gX5_set_X5_tell rfl (by decide +kernel) (Rm_m R) rfl rfl rfl (Nat.le_of_ble_eq_true rfl) ⟨Nat.le_of_ble_eq_true rfl, Nat.le_of_ble_eq_true rfl⟩ ⟨Nat.le_of_ble_eq_true rfl, Nat.le_of_ble_eq_true rfl⟩ dX5_set_108 ?_
              clear G; intro r_ w1 H locs hp G
              obtain ⟨hr_, R⟩ := hp
              subst r_
              refine lv_if_eq (tgt := 116) hx hb dX5_set_111 (by decide) (fun c15 => ?_) (fun c15 => absurd (by decide) c15)
              refine lv_bipush (v := 12) hx hb dX5_set_116 (by decide) ?_
              refine lv_aload_n hx hb dX5_set_118 rfl (lv_at hl 1 rfl) ?_
              refine g_get S G (Rm_m R) rfl (by decide +kernel) 4 (by decide) (by decide +kernel) rfl dX5_set_119 ?_
              refine lv_iload_n hx hb dX5_set_122 rfl (lv_at hl 2 rfl) ?_
              refine g_iald S G (Rm_H R) (vin_e ek1 (show k1 < 40 by omega) (by omega)) dX5_set_123 ?_
              rw [show Int32.toNatClampNeg t = k1 by rw [ek1]; exact nI_clamp (by omega)]
              refine lv_imul hx hb dX5_set_124 ?_
              refine lv_topi (fun a16 ea16 => ?_)
              have da16 : a16 = nI (12 * r5) := by rw [ea16, er5]; exact pk_mul 12 r5
              refine lv_iload_n hx hb dX5_set_125 rfl (lv_at hl 3 rfl) ?_
              refine lv_iadd hx hb dX5_set_126 ?_
              refine lv_topi (fun a17 ea17 => ?_)
              have da17 : a17 = nI (12 * r5 + k10) := by rw [ea17, da16, ek10]; exact nI_add (12 * r5) k10
              refine lv_istore (lv' := [(5, .int a17), (4, .int 0), (0, .ref m), (1, .int t), (2, .int k), (3, .int o)]) hx hb dX5_set_127 hl (by decide) rfl (fun ls hl => ?_)
              refine lv_aload_n hx hb dX5_set_129 rfl (lv_at hl 2 rfl) ?_
              refine g_get S G (Rm_m R) rfl (by decide +kernel) 8 (by decide) (by decide +kernel) rfl dX5_set_130 ?_
              refine lv_iload hx hb dX5_set_133 (lv_at hl 0 rfl) ?_
              refine g_lald S G (Rm_I R) (vin_e da17 (show 12 * r5 + k10 < 6240 by omega) (by omega)) dX5_set_135 ?_
              rw [show Int32.toNatClampNeg a17 = 12 * r5 + k10 by rw [da17]; exact nI_clamp (by omega)]
              refine lv_l2i (v := (Int64.toInt32 (it (12 * r5 + k10)))) hx hb dX5_set_136 rfl ?_
              refine lv_istore (lv' := [(6, .int (Int64.toInt32 (it (12 * r5 + k10)))), (5, .int a17), (4, .int 0), (0, .ref m), (1, .int t), (2, .int k), (3, .int o)]) hx hb dX5_set_137 hl (by decide) rfl (fun ls hl => ?_)
              refine lv_aload_n hx hb dX5_set_139 rfl (lv_at hl 3 rfl) ?_
              refine g_get S G (Rm_m R) rfl (by decide +kernel) 8 (by decide) (by decide +kernel) rfl dX5_set_140 ?_
              refine lv_iload hx hb dX5_set_143 (lv_at hl 1 rfl) ?_
              refine lv_iload_n hx hb dX5_set_145 rfl (lv_at hl 6 rfl) ?_
              refine lv_i2l (v := (Int32.toInt64 o)) hx hb dX5_set_146 rfl ?_
              refine g_last S G (Rm_I R) (vin_e da17 (show 12 * r5 + k10 < 6240 by omega) (by omega)) dX5_set_147 (fun H locs G => ?_)
              rw [show Int32.toNatClampNeg a17 = 12 * r5 + k10 by rw [da17]; exact nI_clamp (by omega)] at G
              obtain ⟨w, R, G⟩ := Rm_ex (Rm_p_it R (vp_updL it (12 * r5 + k10) (Int32.toInt64 o))) G
              refine lv_iload hx hb dX5_set_148 (lv_at hl 0 rfl) ?_
              refine r_int S hret hlk G rfl (Nat.le_of_ble_eq_true rfl) (Nat.le_of_ble_eq_true rfl) dX5_set_150 ?_
              have yk1 := tin_e ek1 hk1 (show n ≤ 1000 by omega)
              have zk1 := cn_e ek1 (show k1 < 1000 by omega)
              have qr5 := nm1 (show r5 < 100000 by omega)
              have d8 : o = -1 ∨ tin n o = true := Or.inl c4
              have g9 : ¬ so r5 < 2 := Int32.not_lt.mpr c9
              have d9 : ¬ (so r5 = 3 ∧ ¬ o = -1 ∧ ¬ cl (cn o) ≤ 2) := fun z => c14 z.1
              refine ⟨by simp only [S_set, yk1, zk1, er5, qr5, cn_nI (show r5 < 2 ^ 31 by omega), yk10, zk10, d8, g9, d9, s_tell, put_it, ↓reduceIte, Bool.false_eq_true, or_true, true_or, and_true, true_and, not_false_eq_true, false_or, show ¬ (3 : Int32) < 2 by decide], ?_⟩
              simp only [S_set, yk1, zk1, er5, qr5, cn_nI (show r5 < 2 ^ 31 by omega), yk10, zk10, d8, g9, d9, s_tell, put_it, ↓reduceIte, Bool.false_eq_true, or_true, true_or, and_true, true_and, not_false_eq_true, false_or, show ¬ (3 : Int32) < 2 by decide]
              exact ⟨_, _, _, _, _, _, _, _, _, R⟩
            · skip
              refine lv_iload_n hx hb dX5_set_85 rfl (lv_at hl 3 rfl) ?_
              refine lv_iconst (v := (-1)) hx hb dX5_set_86 (by decide) ?_
              refine lv_icmp_eq (tgt := 102) hx hb dX5_set_87 (by decide) (fun c18 => ?_) (fun c18 => absurd c4 c18)
              refine lv_iconst (v := 0) hx hb dX5_set_102 (by decide) ?_
              refine lv_istore (lv' := [(4, .int 0), (0, .ref m), (1, .int t), (2, .int k), (3, .int o)]) hx hb dX5_set_103 hl (by decide) rfl (fun ls hl => ?_)
              refine lv_aload_n hx hb dX5_set_105 rfl (lv_at hl 1 rfl) ?_
              refine lv_iload hx hb dX5_set_106 (lv_at hl 0 rfl) ?_
              refine g_Vi (n := 1) (rest := []) S G hl (c_X5_tell l R (j := 0) (o := 0) rfl (by decide)) gX5_set_X5_tell rfl (by decide +kernel) (Rm_m R) rfl rfl rfl (Nat.le_of_ble_eq_true rfl) ⟨Nat.le_of_ble_eq_true rfl, Nat.le_of_ble_eq_true rfl⟩ ⟨Nat.le_of_ble_eq_true rfl, Nat.le_of_ble_eq_true rfl⟩ dX5_set_108 ?_
              clear G; intro r_ w1 H locs hp G
              obtain ⟨hr_, R⟩ := hp
              subst r_
              refine lv_if_eq (tgt := 116) hx hb dX5_set_111 (by decide) (fun c19 => ?_) (fun c19 => absurd (by decide) c19)
              refine lv_bipush (v := 12) hx hb dX5_set_116 (by decide) ?_
              refine lv_aload_n hx hb dX5_set_118 rfl (lv_at hl 1 rfl) ?_
              refine g_get S G (Rm_m R) rfl (by decide +kernel) 4 (by decide) (by decide +kernel) rfl dX5_set_119 ?_
              refine lv_iload_n hx hb dX5_set_122 rfl (lv_at hl 2 rfl) ?_
              refine g_iald S G (Rm_H R) (vin_e ek1 (show k1 < 40 by omega) (by omega)) dX5_set_123 ?_
              rw [show Int32.toNatClampNeg t = k1 by rw [ek1]; exact nI_clamp (by omega)]
              refine lv_imul hx hb dX5_set_124 ?_
              refine lv_topi (fun a20 ea20 => ?_)
              have da20 : a20 = nI (12 * r5) := by rw [ea20, er5]; exact pk_mul 12 r5
              refine lv_iload_n hx hb dX5_set_125 rfl (lv_at hl 3 rfl) ?_
              refine lv_iadd hx hb dX5_set_126 ?_
              refine lv_topi (fun a21 ea21 => ?_)
              have da21 : a21 = nI (12 * r5 + k10) := by rw [ea21, da20, ek10]; exact nI_add (12 * r5) k10
              refine lv_istore (lv' := [(5, .int a21), (4, .int 0), (0, .ref m), (1, .int t), (2, .int k), (3, .int o)]) hx hb dX5_set_127 hl (by decide) rfl (fun ls hl => ?_)
              refine lv_aload_n hx hb dX5_set_129 rfl (lv_at hl 2 rfl) ?_
              refine g_get S G (Rm_m R) rfl (by decide +kernel) 8 (by decide) (by decide +kernel) rfl dX5_set_130 ?_
              refine lv_iload hx hb dX5_set_133 (lv_at hl 0 rfl) ?_
              refine g_lald S G (Rm_I R) (vin_e da21 (show 12 * r5 + k10 < 6240 by omega) (by omega)) dX5_set_135 ?_
              rw [show Int32.toNatClampNeg a21 = 12 * r5 + k10 by rw [da21]; exact nI_clamp (by omega)]
              refine lv_l2i (v := (Int64.toInt32 (it (12 * r5 + k10)))) hx hb dX5_set_136 rfl ?_
              refine lv_istore (lv' := [(6, .int (Int64.toInt32 (it (12 * r5 + k10)))), (5, .int a21), (4, .int 0), (0, .ref m), (1, .int t), (2, .int k), (3, .int o)]) hx hb dX5_set_137 hl (by decide) rfl (fun ls hl => ?_)
              refine lv_aload_n hx hb dX5_set_139 rfl (lv_at hl 3 rfl) ?_
              refine g_get S G (Rm_m R) rfl (by decide +kernel) 8 (by decide) (by decide +kernel) rfl dX5_set_140 ?_
              refine lv_iload hx hb dX5_set_143 (lv_at hl 1 rfl) ?_
              refine lv_iload_n hx hb dX5_set_145 rfl (lv_at hl 6 rfl) ?_
              refine lv_i2l (v := (Int32.toInt64 o)) hx hb dX5_set_146 rfl ?_
              refine g_last S G (Rm_I R) (vin_e da21 (show 12 * r5 + k10 < 6240 by omega) (by omega)) dX5_set_147 (fun H locs G => ?_)
              rw [show Int32.toNatClampNeg a21 = 12 * r5 + k10 by rw [da21]; exact nI_clamp (by omega)] at G
              obtain ⟨w, R, G⟩ := Rm_ex (Rm_p_it R (vp_updL it (12 * r5 + k10) (Int32.toInt64 o))) G
              refine lv_iload hx hb dX5_set_148 (lv_at hl 0 rfl) ?_
              refine r_int S hret hlk G rfl (Nat.le_of_ble_eq_true rfl) (Nat.le_of_ble_eq_true rfl) dX5_set_150 ?_
              have yk1 := tin_e ek1 hk1 (show n ≤ 1000 by omega)
              have zk1 := cn_e ek1 (show k1 < 1000 by omega)
              have qr5 := nm1 (show r5 < 100000 by omega)
              have d8 : o = -1 ∨ tin n o = true := Or.inl c4
              have g9 : ¬ so r5 < 2 := Int32.not_lt.mpr c9
              have d9 : ¬ (so r5 = 3 ∧ ¬ o = -1 ∧ ¬ cl (cn o) ≤ 2) := fun z => z.2.1 c4
              refine ⟨by simp only [S_set, yk1, zk1, er5, qr5, cn_nI (show r5 < 2 ^ 31 by omega), yk10, zk10, d8, g9, d9, s_tell, put_it, ↓reduceIte, Bool.false_eq_true, or_true, true_or, and_true, true_and, not_false_eq_true, false_or, show ¬ (3 : Int32) < 2 by decide], ?_⟩
              simp only [S_set, yk1, zk1, er5, qr5, cn_nI (show r5 < 2 ^ 31 by omega), yk10, zk10, d8, g9, d9, s_tell, put_it, ↓reduceIte, Bool.false_eq_true, or_true, true_or, and_true, true_and, not_false_eq_true, false_or, show ¬ (3 : Int32) < 2 by decide]
              exact ⟨_, _, _, _, _, _, _, _, _, R⟩
        · skip
          refine lv_iconst (v := 2) hx hb dX5_set_53 (by decide) ?_
          refine lv_goto (tgt := 103) hx hb dX5_set_54 (by decide) ?_
          refine lv_istore (lv' := [(4, .int 2), (0, .ref m), (1, .int t), (2, .int k), (3, .int o)]) hx hb dX5_set_103 hl (by decide) rfl (fun ls hl => ?_)
          refine lv_aload_n hx hb dX5_set_105 rfl (lv_at hl 1 rfl) ?_
          refine lv_iload hx hb dX5_set_106 (lv_at hl 0 rfl) ?_
          refine g_Vi (n := 1) (rest := []) S G hl (c_X5_tell l R (j := 2) (o := 2) rfl (by decide)) gX5_set_X5_tell rfl (by decide +kernel) (Rm_m R) rfl rfl rfl (Nat.le_of_ble_eq_true rfl) ⟨Nat.le_of_ble_eq_true rfl, Nat.le_of_ble_eq_true rfl⟩ ⟨Nat.le_of_ble_eq_true rfl, Nat.le_of_ble_eq_true rfl⟩ dX5_set_108 ?_
          clear G; intro r_ w1 H locs hp G
          obtain ⟨hr_, R⟩ := hp
          subst r_
          refine lv_if_eq (tgt := 116) hx hb dX5_set_111 (by decide) (fun c22 => absurd c22 (by decide)) (fun c22 => ?_)
          refine lv_iconst (v := 0) hx hb dX5_set_114 (by decide) ?_
          refine r_int S hret hlk G rfl (Nat.le_of_ble_eq_true rfl) (Nat.le_of_ble_eq_true rfl) dX5_set_115 ?_
          have yk1 := tin_e ek1 hk1 (show n ≤ 1000 by omega)
          have zk1 := cn_e ek1 (show k1 < 1000 by omega)
          have qr5 := nm1 (show r5 < 100000 by omega)
          have d8 : o = -1 ∨ tin n o = true := Or.inl c4
          have g9 : so r5 < 2 := Int32.not_le.mp c9
          refine ⟨by simp only [S_set, yk1, zk1, er5, qr5, cn_nI (show r5 < 2 ^ 31 by omega), d8, g9, s_tell, put_it, ↓reduceIte, Bool.false_eq_true, or_true, true_or, and_true, true_and, not_false_eq_true, false_or, show ¬ (3 : Int32) < 2 by decide], ?_⟩
          simp only [S_set, yk1, zk1, er5, qr5, cn_nI (show r5 < 2 ^ 31 by omega), d8, g9, s_tell, put_it, ↓reduceIte, Bool.false_eq_true, or_true, true_or, and_true, true_and, not_false_eq_true, false_or, show ¬ (3 : Int32) < 2 by decide]
          exact ⟨_, _, _, _, _, _, _, _, _, R⟩
    · skip
      refine lv_aload_n hx hb dX5_set_13 rfl (lv_at hl 0 rfl) ?_
      refine lv_iload_n hx hb dX5_set_14 rfl (lv_at hl 3 rfl) ?_
      rcases tin_c n o (by omega) with ⟨tk23, ok23⟩ | ⟨k23, hk23, ek23⟩
      · skip
        refine g_Vi (n := 1) (rest := []) S G hl (c_X5_isThing l R Kn o) gX5_set_X5_isThing rfl (by decide +kernel) (Rm_m R) rfl rfl rfl (Nat.le_of_ble_eq_true rfl) ⟨Nat.le_of_ble_eq_true rfl, Nat.le_of_ble_eq_true rfl⟩ ⟨Nat.le_of_ble_eq_true rfl, Nat.le_of_ble_eq_true rfl⟩ dX5_set_15 ?_
        clear G; intro r_ w1 H locs hp G
        obtain ⟨rfl, hq_⟩ := hp
        rw [tk23] at hq_
        simp only [Bool.false_eq_true, ↓reduceIte] at hq_
        subst hq_
        refine lv_if_ne (tgt := 24) hx hb dX5_set_18 (by decide) (fun c24 => absurd (by decide) c24) (fun c24 => ?_)
        refine lv_ldc hx hb S.2.2.2.1 (S.2.2.2.2 (.constant RX5 48 (-2000000001)) (by decide +kernel)) dX5_set_21 ?_
        refine r_int S hret hlk G rfl (Nat.le_of_ble_eq_true rfl) (Nat.le_of_ble_eq_true rfl) dX5_set_23 ?_
        have yk1 := tin_e ek1 hk1 (show n ≤ 1000 by omega)
        have zk1 := cn_e ek1 (show k1 < 1000 by omega)
        have d8 : ¬ (o = -1 ∨ tin n o = true) := fun z => z.elim c4 (fun z => by rw [tk23] at z; cases z)
        refine ⟨by simp only [S_set, yk1, zk1, d8, s_tell, put_it, ↓reduceIte, Bool.false_eq_true, or_true, true_or, and_true, true_and, not_false_eq_true, false_or, show ¬ (3 : Int32) < 2 by decide], ?_⟩
        simp only [S_set, yk1, zk1, d8, s_tell, put_it, ↓reduceIte, Bool.false_eq_true, or_true, true_or, and_true, true_and, not_false_eq_true, false_or, show ¬ (3 : Int32) < 2 by decide]
        exact ⟨_, _, _, _, _, _, _, _, _, R⟩
      · skip
        refine g_Vi (n := 1) (rest := []) S G hl (c_X5_isThing l R Kn o) gX5_set_X5_isThing rfl (by decide +kernel) (Rm_m R) rfl rfl rfl (Nat.le_of_ble_eq_true rfl) ⟨Nat.le_of_ble_eq_true rfl, Nat.le_of_ble_eq_true rfl⟩ ⟨Nat.le_of_ble_eq_true rfl, Nat.le_of_ble_eq_true rfl⟩ dX5_set_15 ?_
        clear G; intro r_ w1 H locs hp G
        obtain ⟨rfl, hq_⟩ := hp
        rw [if_pos (tin_e ek23 hk23 (by omega))] at hq_
        subst hq_
        refine lv_if_ne (tgt := 24) hx hb dX5_set_18 (by decide) (fun c25 => ?_) (fun c25 => absurd c25 (by decide))
        refine lv_aload_n hx hb dX5_set_24 rfl (lv_at hl 0 rfl) ?_
        refine g_get S G (Rm_m R) rfl (by decide +kernel) 4 (by decide) (by decide +kernel) rfl dX5_set_25 ?_
        refine lv_iload_n hx hb dX5_set_28 rfl (lv_at hl 1 rfl) ?_
        refine g_iald S G (Rm_H R) (vin_e ek1 (show k1 < 40 by omega) (by omega)) dX5_set_29 ?_
        rw [show Int32.toNatClampNeg t = k1 by rw [ek1]; exact nI_clamp (by omega)]
        rcases Kh k1 hk1 with er26 | ⟨r26, hr26, er26⟩
        · skip
          refine lv_iconst (v := (-1)) hx hb dX5_set_30 (by decide) ?_
          refine lv_icmp_ne (tgt := 38) hx hb dX5_set_31 (by decide) (fun c27 => absurd er26 c27) (fun c27 => ?_)
          refine lv_iconst (v := 1) hx hb dX5_set_34 (by decide) ?_
          refine lv_goto (tgt := 103) hx hb dX5_set_35 (by decide) ?_
          refine lv_istore (lv' := [(4, .int 1), (0, .ref m), (1, .int t), (2, .int k), (3, .int o)]) hx hb dX5_set_103 hl (by decide) rfl (fun ls hl => ?_)
          refine lv_aload_n hx hb dX5_set_105 rfl (lv_at hl 1 rfl) ?_
          refine lv_iload hx hb dX5_set_106 (lv_at hl 0 rfl) ?_
          refine g_Vi (n := 1) (rest := []) S G hl (c_X5_tell l R (j := 1) (o := 1) rfl (by decide)) gX5_set_X5_tell rfl (by decide +kernel) (Rm_m R) rfl rfl rfl (Nat.le_of_ble_eq_true rfl) ⟨Nat.le_of_ble_eq_true rfl, Nat.le_of_ble_eq_true rfl⟩ ⟨Nat.le_of_ble_eq_true rfl, Nat.le_of_ble_eq_true rfl⟩ dX5_set_108 ?_
          clear G; intro r_ w1 H locs hp G
          obtain ⟨hr_, R⟩ := hp
          subst r_
          refine lv_if_eq (tgt := 116) hx hb dX5_set_111 (by decide) (fun c28 => absurd c28 (by decide)) (fun c28 => ?_)
          refine lv_iconst (v := 0) hx hb dX5_set_114 (by decide) ?_
          refine r_int S hret hlk G rfl (Nat.le_of_ble_eq_true rfl) (Nat.le_of_ble_eq_true rfl) dX5_set_115 ?_
          have yk1 := tin_e ek1 hk1 (show n ≤ 1000 by omega)
          have zk1 := cn_e ek1 (show k1 < 1000 by omega)
          have yk23 := tin_e ek23 hk23 (show n ≤ 1000 by omega)
          have zk23 := cn_e ek23 (show k23 < 1000 by omega)
          have d8 : o = -1 ∨ tin n o = true := Or.inr (tin_e ek23 hk23 (by omega))
          refine ⟨by simp only [S_set, yk1, zk1, er26, d8, yk23, zk23, s_tell, put_it, ↓reduceIte, Bool.false_eq_true, or_true, true_or, and_true, true_and, not_false_eq_true, false_or, show ¬ (3 : Int32) < 2 by decide], ?_⟩
          simp only [S_set, yk1, zk1, er26, d8, yk23, zk23, s_tell, put_it, ↓reduceIte, Bool.false_eq_true, or_true, true_or, and_true, true_and, not_false_eq_true, false_or, show ¬ (3 : Int32) < 2 by decide]
          exact ⟨_, _, _, _, _, _, _, _, _, R⟩
        · skip
          have zr26 := sz_le (Kz r26 hr26)
          refine lv_iconst (v := (-1)) hx hb dX5_set_30 (by decide) ?_
          refine lv_icmp_ne (tgt := 38) hx hb dX5_set_31 (by decide) (fun c29 => ?_) (fun c29 => absurd c29 (by rw [er26]; exact nm1 (by omega)))
          refine lv_aload_n hx hb dX5_set_38 rfl (lv_at hl 0 rfl) ?_
          refine g_get S G (Rm_m R) rfl (by decide +kernel) 6 (by decide) (by decide +kernel) rfl dX5_set_39 ?_
          refine lv_aload_n hx hb dX5_set_42 rfl (lv_at hl 0 rfl) ?_
          refine g_get S G (Rm_m R) rfl (by decide +kernel) 4 (by decide) (by decide +kernel) rfl dX5_set_43 ?_
          refine lv_iload_n hx hb dX5_set_46 rfl (lv_at hl 1 rfl) ?_
          refine g_iald S G (Rm_H R) (vin_e ek1 (show k1 < 40 by omega) (by omega)) dX5_set_47 ?_
          rw [show Int32.toNatClampNeg t = k1 by rw [ek1]; exact nI_clamp (by omega)]
          refine g_iald S G (Rm_S R) (vin_e er26 (show r26 < 520 by omega) (by omega)) dX5_set_48 ?_
          rw [show Int32.toNatClampNeg (hd k1) = r26 by rw [er26]; exact nI_clamp (by omega)]
          refine lv_iconst (v := 2) hx hb dX5_set_49 (by decide) ?_
          refine lv_icmp_ge (tgt := 57) hx hb dX5_set_50 (by decide) (fun c30 => ?_) (fun c30 => ?_)
          · skip
            refine lv_aload_n hx hb dX5_set_57 rfl (lv_at hl 0 rfl) ?_
            refine lv_iload_n hx hb dX5_set_58 rfl (lv_at hl 1 rfl) ?_
            refine lv_iload_n hx hb dX5_set_59 rfl (lv_at hl 2 rfl) ?_
            rcases tin_c (cn (sz r26)) k (by omega) with ⟨tk31, ok31⟩ | ⟨k31, hk31, ek31⟩
            · skip
              refine g_Vi (n := 2) (rest := []) S G hl (c_X5_isItem l R ek1 hk1 Kn er26 hr26 Kr (Kz r26 hr26) k) gX5_set_X5_isItem rfl (by decide +kernel) (Rm_m R) rfl rfl rfl (Nat.le_of_ble_eq_true rfl) ⟨Nat.le_of_ble_eq_true rfl, Nat.le_of_ble_eq_true rfl⟩ ⟨Nat.le_of_ble_eq_true rfl, Nat.le_of_ble_eq_true rfl⟩ dX5_set_60 ?_
              clear G; intro r_ w1 H locs hp G
              obtain ⟨rfl, hq_⟩ := hp
              rw [tk31] at hq_
              simp only [Bool.false_eq_true, ↓reduceIte] at hq_
              subst hq_
              refine lv_if_ne (tgt := 70) hx hb dX5_set_63 (by decide) (fun c32 => absurd (by decide) c32) (fun c32 => ?_)
              refine lv_iconst (v := 3) hx hb dX5_set_66 (by decide) ?_
              refine lv_goto (tgt := 103) hx hb dX5_set_67 (by decide) ?_
              refine lv_istore (lv' := [(4, .int 3), (0, .ref m), (1, .int t), (2, .int k), (3, .int o)]) hx hb dX5_set_103 hl (by decide) rfl (fun ls hl => ?_)
              refine lv_aload_n hx hb dX5_set_105 rfl (lv_at hl 1 rfl) ?_
              refine lv_iload hx hb dX5_set_106 (lv_at hl 0 rfl) ?_
              refine g_Vi (n := 1) (rest := []) S G hl (c_X5_tell l R (j := 3) (o := 3) rfl (by decide)) gX5_set_X5_tell rfl (by decide +kernel) (Rm_m R) rfl rfl rfl (Nat.le_of_ble_eq_true rfl) ⟨Nat.le_of_ble_eq_true rfl, Nat.le_of_ble_eq_true rfl⟩ ⟨Nat.le_of_ble_eq_true rfl, Nat.le_of_ble_eq_true rfl⟩ dX5_set_108 ?_
              clear G; intro r_ w1 H locs hp G
              obtain ⟨hr_, R⟩ := hp
              subst r_
              refine lv_if_eq (tgt := 116) hx hb dX5_set_111 (by decide) (fun c33 => absurd c33 (by decide)) (fun c33 => ?_)
              refine lv_iconst (v := 0) hx hb dX5_set_114 (by decide) ?_
              refine r_int S hret hlk G rfl (Nat.le_of_ble_eq_true rfl) (Nat.le_of_ble_eq_true rfl) dX5_set_115 ?_
              have yk1 := tin_e ek1 hk1 (show n ≤ 1000 by omega)
              have zk1 := cn_e ek1 (show k1 < 1000 by omega)
              have yk23 := tin_e ek23 hk23 (show n ≤ 1000 by omega)
              have zk23 := cn_e ek23 (show k23 < 1000 by omega)
              have qr26 := nm1 (show r26 < 100000 by omega)
              have d8 : o = -1 ∨ tin n o = true := Or.inr (tin_e ek23 hk23 (by omega))
              have g9 : ¬ so r26 < 2 := Int32.not_lt.mpr c30
              refine ⟨by simp only [S_set, yk1, zk1, er26, qr26, cn_nI (show r26 < 2 ^ 31 by omega), tk31, d8, yk23, zk23, g9, s_tell, put_it, ↓reduceIte, Bool.false_eq_true, or_true, true_or, and_true, true_and, not_false_eq_true, false_or, show ¬ (3 : Int32) < 2 by decide], ?_⟩
              simp only [S_set, yk1, zk1, er26, qr26, cn_nI (show r26 < 2 ^ 31 by omega), tk31, d8, yk23, zk23, g9, s_tell, put_it, ↓reduceIte, Bool.false_eq_true, or_true, true_or, and_true, true_and, not_false_eq_true, false_or, show ¬ (3 : Int32) < 2 by decide]
              exact ⟨_, _, _, _, _, _, _, _, _, R⟩
            · skip
              have yk31 := tin_e ek31 hk31 (show cn (sz r26) ≤ 1000 by omega)
              have zk31 := cn_e ek31 (show k31 < 1000 by omega)
              refine g_Vi (n := 2) (rest := []) S G hl (c_X5_isItem l R ek1 hk1 Kn er26 hr26 Kr (Kz r26 hr26) k) gX5_set_X5_isItem rfl (by decide +kernel) (Rm_m R) rfl rfl rfl (Nat.le_of_ble_eq_true rfl) ⟨Nat.le_of_ble_eq_true rfl, Nat.le_of_ble_eq_true rfl⟩ ⟨Nat.le_of_ble_eq_true rfl, Nat.le_of_ble_eq_true rfl⟩ dX5_set_60 ?_
              clear G; intro r_ w1 H locs hp G
              obtain ⟨rfl, hq_⟩ := hp
              rw [if_pos yk31] at hq_
              subst hq_
              refine lv_if_ne (tgt := 70) hx hb dX5_set_63 (by decide) (fun c34 => ?_) (fun c34 => absurd c34 (by decide))
              refine lv_aload_n hx hb dX5_set_70 rfl (lv_at hl 0 rfl) ?_
              refine g_get S G (Rm_m R) rfl (by decide +kernel) 6 (by decide) (by decide +kernel) rfl dX5_set_71 ?_
              refine lv_aload_n hx hb dX5_set_74 rfl (lv_at hl 0 rfl) ?_
              refine g_get S G (Rm_m R) rfl (by decide +kernel) 4 (by decide) (by decide +kernel) rfl dX5_set_75 ?_
              refine lv_iload_n hx hb dX5_set_78 rfl (lv_at hl 1 rfl) ?_
              refine g_iald S G (Rm_H R) (vin_e ek1 (show k1 < 40 by omega) (by omega)) dX5_set_79 ?_
              rw [show Int32.toNatClampNeg t = k1 by rw [ek1]; exact nI_clamp (by omega)]
              refine g_iald S G (Rm_S R) (vin_e er26 (show r26 < 520 by omega) (by omega)) dX5_set_80 ?_
              rw [show Int32.toNatClampNeg (hd k1) = r26 by rw [er26]; exact nI_clamp (by omega)]
              refine lv_iconst (v := 3) hx hb dX5_set_81 (by decide) ?_
              refine lv_icmp_ne (tgt := 102) hx hb dX5_set_82 (by decide) (fun c35 => ?_) (fun c35 => ?_)
              · skip
                refine lv_iconst (v := 0) hx hb dX5_set_102 (by decide) ?_
                refine lv_istore (lv' := [(4, .int 0), (0, .ref m), (1, .int t), (2, .int k), (3, .int o)]) hx hb dX5_set_103 hl (by decide) rfl (fun ls hl => ?_)
                refine lv_aload_n hx hb dX5_set_105 rfl (lv_at hl 1 rfl) ?_
                refine lv_iload hx hb dX5_set_106 (lv_at hl 0 rfl) ?_
                refine g_Vi (n := 1) (rest := []) S G hl (c_X5_tell l R (j := 0) (o := 0) rfl (by decide)) gX5_set_X5_tell rfl (by decide +kernel) (Rm_m R) rfl rfl rfl (Nat.le_of_ble_eq_true rfl) ⟨Nat.le_of_ble_eq_true rfl, Nat.le_of_ble_eq_true rfl⟩ ⟨Nat.le_of_ble_eq_true rfl, Nat.le_of_ble_eq_true rfl⟩ dX5_set_108 ?_
                clear G; intro r_ w1 H locs hp G
                obtain ⟨hr_, R⟩ := hp
                subst r_
                refine lv_if_eq (tgt := 116) hx hb dX5_set_111 (by decide) (fun c36 => ?_) (fun c36 => absurd (by decide) c36)
                refine lv_bipush (v := 12) hx hb dX5_set_116 (by decide) ?_
                refine lv_aload_n hx hb dX5_set_118 rfl (lv_at hl 1 rfl) ?_
                refine g_get S G (Rm_m R) rfl (by decide +kernel) 4 (by decide) (by decide +kernel) rfl dX5_set_119 ?_
                refine lv_iload_n hx hb dX5_set_122 rfl (lv_at hl 2 rfl) ?_
                refine g_iald S G (Rm_H R) (vin_e ek1 (show k1 < 40 by omega) (by omega)) dX5_set_123 ?_
                rw [show Int32.toNatClampNeg t = k1 by rw [ek1]; exact nI_clamp (by omega)]
                refine lv_imul hx hb dX5_set_124 ?_
                refine lv_topi (fun a37 ea37 => ?_)
                have da37 : a37 = nI (12 * r26) := by rw [ea37, er26]; exact pk_mul 12 r26
                refine lv_iload_n hx hb dX5_set_125 rfl (lv_at hl 3 rfl) ?_
                refine lv_iadd hx hb dX5_set_126 ?_
                refine lv_topi (fun a38 ea38 => ?_)
                have da38 : a38 = nI (12 * r26 + k31) := by rw [ea38, da37, ek31]; exact nI_add (12 * r26) k31
                refine lv_istore (lv' := [(5, .int a38), (4, .int 0), (0, .ref m), (1, .int t), (2, .int k), (3, .int o)]) hx hb dX5_set_127 hl (by decide) rfl (fun ls hl => ?_)
                refine lv_aload_n hx hb dX5_set_129 rfl (lv_at hl 2 rfl) ?_
                refine g_get S G (Rm_m R) rfl (by decide +kernel) 8 (by decide) (by decide +kernel) rfl dX5_set_130 ?_
                refine lv_iload hx hb dX5_set_133 (lv_at hl 0 rfl) ?_
                refine g_lald S G (Rm_I R) (vin_e da38 (show 12 * r26 + k31 < 6240 by omega) (by omega)) dX5_set_135 ?_
                rw [show Int32.toNatClampNeg a38 = 12 * r26 + k31 by rw [da38]; exact nI_clamp (by omega)]
                refine lv_l2i (v := (Int64.toInt32 (it (12 * r26 + k31)))) hx hb dX5_set_136 rfl ?_
                refine lv_istore (lv' := [(6, .int (Int64.toInt32 (it (12 * r26 + k31)))), (5, .int a38), (4, .int 0), (0, .ref m), (1, .int t), (2, .int k), (3, .int o)]) hx hb dX5_set_137 hl (by decide) rfl (fun ls hl => ?_)
                refine lv_aload_n hx hb dX5_set_139 rfl (lv_at hl 3 rfl) ?_
                refine g_get S G (Rm_m R) rfl (by decide +kernel) 8 (by decide) (by decide +kernel) rfl dX5_set_140 ?_
                refine lv_iload hx hb dX5_set_143 (lv_at hl 1 rfl) ?_
                refine lv_iload_n hx hb dX5_set_145 rfl (lv_at hl 6 rfl) ?_
                refine lv_i2l (v := (Int32.toInt64 o)) hx hb dX5_set_146 rfl ?_
                refine g_last S G (Rm_I R) (vin_e da38 (show 12 * r26 + k31 < 6240 by omega) (by omega)) dX5_set_147 (fun H locs G => ?_)
                rw [show Int32.toNatClampNeg a38 = 12 * r26 + k31 by rw [da38]; exact nI_clamp (by omega)] at G
                obtain ⟨w, R, G⟩ := Rm_ex (Rm_p_it R (vp_updL it (12 * r26 + k31) (Int32.toInt64 o))) G
                refine lv_iload hx hb dX5_set_148 (lv_at hl 0 rfl) ?_
                refine r_int S hret hlk G rfl (Nat.le_of_ble_eq_true rfl) (Nat.le_of_ble_eq_true rfl) dX5_set_150 ?_
                have yk1 := tin_e ek1 hk1 (show n ≤ 1000 by omega)
                have zk1 := cn_e ek1 (show k1 < 1000 by omega)
                have yk23 := tin_e ek23 hk23 (show n ≤ 1000 by omega)
                have zk23 := cn_e ek23 (show k23 < 1000 by omega)
                have qr26 := nm1 (show r26 < 100000 by omega)
                have d8 : o = -1 ∨ tin n o = true := Or.inr (tin_e ek23 hk23 (by omega))
                have g9 : ¬ so r26 < 2 := Int32.not_lt.mpr c30
                have d9 : ¬ (so r26 = 3 ∧ ¬ o = -1 ∧ ¬ cl k23 ≤ 2) := fun z => c35 z.1
                refine ⟨by simp only [S_set, yk1, zk1, er26, qr26, cn_nI (show r26 < 2 ^ 31 by omega), yk31, zk31, d8, yk23, zk23, g9, d9, s_tell, put_it, ↓reduceIte, Bool.false_eq_true, or_true, true_or, and_true, true_and, not_false_eq_true, false_or, show ¬ (3 : Int32) < 2 by decide], ?_⟩
                simp only [S_set, yk1, zk1, er26, qr26, cn_nI (show r26 < 2 ^ 31 by omega), yk31, zk31, d8, yk23, zk23, g9, d9, s_tell, put_it, ↓reduceIte, Bool.false_eq_true, or_true, true_or, and_true, true_and, not_false_eq_true, false_or, show ¬ (3 : Int32) < 2 by decide]
                exact ⟨_, _, _, _, _, _, _, _, _, R⟩
              · skip
                refine lv_iload_n hx hb dX5_set_85 rfl (lv_at hl 3 rfl) ?_
                refine lv_iconst (v := (-1)) hx hb dX5_set_86 (by decide) ?_
                refine lv_icmp_eq (tgt := 102) hx hb dX5_set_87 (by decide) (fun c39 => absurd c39 c4) (fun c39 => ?_)
                refine lv_aload_n hx hb dX5_set_90 rfl (lv_at hl 0 rfl) ?_
                refine lv_iload_n hx hb dX5_set_91 rfl (lv_at hl 3 rfl) ?_
                refine g_Vi (n := 1) (rest := []) S G hl (c_X5_isLeaf l R (o := o) ek23 (show k23 < 40 by omega)) gX5_set_X5_isLeaf rfl (by decide +kernel) (Rm_m R) rfl rfl rfl (Nat.le_of_ble_eq_true rfl) ⟨Nat.le_of_ble_eq_true rfl, Nat.le_of_ble_eq_true rfl⟩ ⟨Nat.le_of_ble_eq_true rfl, Nat.le_of_ble_eq_true rfl⟩ dX5_set_92 ?_
                clear G; intro r_ w1 H locs hp G
                obtain ⟨rfl, rfl⟩ := hp
                refine lv_if_ne (tgt := 102) hx hb dX5_set_95 (by decide) (fun c40 => ?_) (fun c40 => ?_)
                · skip
                  refine lv_iconst (v := 0) hx hb dX5_set_102 (by decide) ?_
                  refine lv_istore (lv' := [(4, .int 0), (0, .ref m), (1, .int t), (2, .int k), (3, .int o)]) hx hb dX5_set_103 hl (by decide) rfl (fun ls hl => ?_)
                  refine lv_aload_n hx hb dX5_set_105 rfl (lv_at hl 1 rfl) ?_
                  refine lv_iload hx hb dX5_set_106 (lv_at hl 0 rfl) ?_
                  refine g_Vi (n := 1) (rest := []) S G hl (c_X5_tell l R (j := 0) (o := 0) rfl (by decide)) gX5_set_X5_tell rfl (by decide +kernel) (Rm_m R) rfl rfl rfl (Nat.le_of_ble_eq_true rfl) ⟨Nat.le_of_ble_eq_true rfl, Nat.le_of_ble_eq_true rfl⟩ ⟨Nat.le_of_ble_eq_true rfl, Nat.le_of_ble_eq_true rfl⟩ dX5_set_108 ?_
                  clear G; intro r_ w1 H locs hp G
                  obtain ⟨hr_, R⟩ := hp
                  subst r_
                  refine lv_if_eq (tgt := 116) hx hb dX5_set_111 (by decide) (fun c41 => ?_) (fun c41 => absurd (by decide) c41)
                  refine lv_bipush (v := 12) hx hb dX5_set_116 (by decide) ?_
                  refine lv_aload_n hx hb dX5_set_118 rfl (lv_at hl 1 rfl) ?_
                  refine g_get S G (Rm_m R) rfl (by decide +kernel) 4 (by decide) (by decide +kernel) rfl dX5_set_119 ?_
                  refine lv_iload_n hx hb dX5_set_122 rfl (lv_at hl 2 rfl) ?_
                  refine g_iald S G (Rm_H R) (vin_e ek1 (show k1 < 40 by omega) (by omega)) dX5_set_123 ?_
                  rw [show Int32.toNatClampNeg t = k1 by rw [ek1]; exact nI_clamp (by omega)]
                  refine lv_imul hx hb dX5_set_124 ?_
                  refine lv_topi (fun a42 ea42 => ?_)
                  have da42 : a42 = nI (12 * r26) := by rw [ea42, er26]; exact pk_mul 12 r26
                  refine lv_iload_n hx hb dX5_set_125 rfl (lv_at hl 3 rfl) ?_
                  refine lv_iadd hx hb dX5_set_126 ?_
                  refine lv_topi (fun a43 ea43 => ?_)
                  have da43 : a43 = nI (12 * r26 + k31) := by rw [ea43, da42, ek31]; exact nI_add (12 * r26) k31
                  refine lv_istore (lv' := [(5, .int a43), (4, .int 0), (0, .ref m), (1, .int t), (2, .int k), (3, .int o)]) hx hb dX5_set_127 hl (by decide) rfl (fun ls hl => ?_)
                  refine lv_aload_n hx hb dX5_set_129 rfl (lv_at hl 2 rfl) ?_
                  refine g_get S G (Rm_m R) rfl (by decide +kernel) 8 (by decide) (by decide +kernel) rfl dX5_set_130 ?_
                  refine lv_iload hx hb dX5_set_133 (lv_at hl 0 rfl) ?_
                  refine g_lald S G (Rm_I R) (vin_e da43 (show 12 * r26 + k31 < 6240 by omega) (by omega)) dX5_set_135 ?_
                  rw [show Int32.toNatClampNeg a43 = 12 * r26 + k31 by rw [da43]; exact nI_clamp (by omega)]
                  refine lv_l2i (v := (Int64.toInt32 (it (12 * r26 + k31)))) hx hb dX5_set_136 rfl ?_
                  refine lv_istore (lv' := [(6, .int (Int64.toInt32 (it (12 * r26 + k31)))), (5, .int a43), (4, .int 0), (0, .ref m), (1, .int t), (2, .int k), (3, .int o)]) hx hb dX5_set_137 hl (by decide) rfl (fun ls hl => ?_)
                  refine lv_aload_n hx hb dX5_set_139 rfl (lv_at hl 3 rfl) ?_
                  refine g_get S G (Rm_m R) rfl (by decide +kernel) 8 (by decide) (by decide +kernel) rfl dX5_set_140 ?_
                  refine lv_iload hx hb dX5_set_143 (lv_at hl 1 rfl) ?_
                  refine lv_iload_n hx hb dX5_set_145 rfl (lv_at hl 6 rfl) ?_
                  refine lv_i2l (v := (Int32.toInt64 o)) hx hb dX5_set_146 rfl ?_
                  refine g_last S G (Rm_I R) (vin_e da43 (show 12 * r26 + k31 < 6240 by omega) (by omega)) dX5_set_147 (fun H locs G => ?_)
                  rw [show Int32.toNatClampNeg a43 = 12 * r26 + k31 by rw [da43]; exact nI_clamp (by omega)] at G
                  obtain ⟨w, R, G⟩ := Rm_ex (Rm_p_it R (vp_updL it (12 * r26 + k31) (Int32.toInt64 o))) G
                  refine lv_iload hx hb dX5_set_148 (lv_at hl 0 rfl) ?_
                  refine r_int S hret hlk G rfl (Nat.le_of_ble_eq_true rfl) (Nat.le_of_ble_eq_true rfl) dX5_set_150 ?_
                  have yk1 := tin_e ek1 hk1 (show n ≤ 1000 by omega)
                  have zk1 := cn_e ek1 (show k1 < 1000 by omega)
                  have yk23 := tin_e ek23 hk23 (show n ≤ 1000 by omega)
                  have zk23 := cn_e ek23 (show k23 < 1000 by omega)
                  have qr26 := nm1 (show r26 < 100000 by omega)
                  have d8 : o = -1 ∨ tin n o = true := Or.inr (tin_e ek23 hk23 (by omega))
                  have g9 : ¬ so r26 < 2 := Int32.not_lt.mpr c30
                  have d9 : ¬ (so r26 = 3 ∧ ¬ o = -1 ∧ ¬ cl k23 ≤ 2) := fun z => by
                    rw [if_neg z.2.2] at c40
                    exact c40 rfl
                  refine ⟨by simp only [S_set, yk1, zk1, er26, qr26, cn_nI (show r26 < 2 ^ 31 by omega), yk31, zk31, d8, yk23, zk23, g9, d9, s_tell, put_it, ↓reduceIte, Bool.false_eq_true, or_true, true_or, and_true, true_and, not_false_eq_true, false_or, show ¬ (3 : Int32) < 2 by decide], ?_⟩
                  simp only [S_set, yk1, zk1, er26, qr26, cn_nI (show r26 < 2 ^ 31 by omega), yk31, zk31, d8, yk23, zk23, g9, d9, s_tell, put_it, ↓reduceIte, Bool.false_eq_true, or_true, true_or, and_true, true_and, not_false_eq_true, false_or, show ¬ (3 : Int32) < 2 by decide]
                  exact ⟨_, _, _, _, _, _, _, _, _, R⟩
                · skip
                  refine lv_iconst (v := 5) hx hb dX5_set_98 (by decide) ?_
                  refine lv_goto (tgt := 103) hx hb dX5_set_99 (by decide) ?_
                  refine lv_istore (lv' := [(4, .int 5), (0, .ref m), (1, .int t), (2, .int k), (3, .int o)]) hx hb dX5_set_103 hl (by decide) rfl (fun ls hl => ?_)
                  refine lv_aload_n hx hb dX5_set_105 rfl (lv_at hl 1 rfl) ?_
                  refine lv_iload hx hb dX5_set_106 (lv_at hl 0 rfl) ?_
                  refine g_Vi (n := 1) (rest := []) S G hl (c_X5_tell l R (j := 5) (o := 5) rfl (by decide)) gX5_set_X5_tell rfl (by decide +kernel) (Rm_m R) rfl rfl rfl (Nat.le_of_ble_eq_true rfl) ⟨Nat.le_of_ble_eq_true rfl, Nat.le_of_ble_eq_true rfl⟩ ⟨Nat.le_of_ble_eq_true rfl, Nat.le_of_ble_eq_true rfl⟩ dX5_set_108 ?_
                  clear G; intro r_ w1 H locs hp G
                  obtain ⟨hr_, R⟩ := hp
                  subst r_
                  refine lv_if_eq (tgt := 116) hx hb dX5_set_111 (by decide) (fun c44 => absurd c44 (by decide)) (fun c44 => ?_)
                  refine lv_iconst (v := 0) hx hb dX5_set_114 (by decide) ?_
                  refine r_int S hret hlk G rfl (Nat.le_of_ble_eq_true rfl) (Nat.le_of_ble_eq_true rfl) dX5_set_115 ?_
                  have yk1 := tin_e ek1 hk1 (show n ≤ 1000 by omega)
                  have zk1 := cn_e ek1 (show k1 < 1000 by omega)
                  have yk23 := tin_e ek23 hk23 (show n ≤ 1000 by omega)
                  have zk23 := cn_e ek23 (show k23 < 1000 by omega)
                  have qr26 := nm1 (show r26 < 100000 by omega)
                  have d8 : o = -1 ∨ tin n o = true := Or.inr (tin_e ek23 hk23 (by omega))
                  have g9 : ¬ so r26 < 2 := Int32.not_lt.mpr c30
                  have d9 : (so r26 = 3 ∧ ¬ o = -1 ∧ ¬ cl k23 ≤ 2) := ⟨c35, c4, fun y => by
                    rw [if_pos y] at c40
                    exact absurd c40 (by decide)⟩
                  refine ⟨by simp only [S_set, yk1, zk1, er26, qr26, cn_nI (show r26 < 2 ^ 31 by omega), yk31, zk31, d8, yk23, zk23, g9, d9, s_tell, put_it, ↓reduceIte, Bool.false_eq_true, or_true, true_or, and_true, true_and, not_false_eq_true, false_or, show ¬ (3 : Int32) < 2 by decide], ?_⟩
                  simp only [S_set, yk1, zk1, er26, qr26, cn_nI (show r26 < 2 ^ 31 by omega), yk31, zk31, d8, yk23, zk23, g9, d9, s_tell, put_it, ↓reduceIte, Bool.false_eq_true, or_true, true_or, and_true, true_and, not_false_eq_true, false_or, show ¬ (3 : Int32) < 2 by decide]
                  exact ⟨_, _, _, _, _, _, _, _, _, R⟩
          · skip
            refine lv_iconst (v := 2) hx hb dX5_set_53 (by decide) ?_
            refine lv_goto (tgt := 103) hx hb dX5_set_54 (by decide) ?_
            refine lv_istore (lv' := [(4, .int 2), (0, .ref m), (1, .int t), (2, .int k), (3, .int o)]) hx hb dX5_set_103 hl (by decide) rfl (fun ls hl => ?_)
            refine lv_aload_n hx hb dX5_set_105 rfl (lv_at hl 1 rfl) ?_
            refine lv_iload hx hb dX5_set_106 (lv_at hl 0 rfl) ?_
            refine g_Vi (n := 1) (rest := []) S G hl (c_X5_tell l R (j := 2) (o := 2) rfl (by decide)) gX5_set_X5_tell rfl (by decide +kernel) (Rm_m R) rfl rfl rfl (Nat.le_of_ble_eq_true rfl) ⟨Nat.le_of_ble_eq_true rfl, Nat.le_of_ble_eq_true rfl⟩ ⟨Nat.le_of_ble_eq_true rfl, Nat.le_of_ble_eq_true rfl⟩ dX5_set_108 ?_
            clear G; intro r_ w1 H locs hp G
            obtain ⟨hr_, R⟩ := hp
            subst r_
            refine lv_if_eq (tgt := 116) hx hb dX5_set_111 (by decide) (fun c45 => absurd c45 (by decide)) (fun c45 => ?_)
            refine lv_iconst (v := 0) hx hb dX5_set_114 (by decide) ?_
            refine r_int S hret hlk G rfl (Nat.le_of_ble_eq_true rfl) (Nat.le_of_ble_eq_true rfl) dX5_set_115 ?_
            have yk1 := tin_e ek1 hk1 (show n ≤ 1000 by omega)
            have zk1 := cn_e ek1 (show k1 < 1000 by omega)
            have yk23 := tin_e ek23 hk23 (show n ≤ 1000 by omega)
            have zk23 := cn_e ek23 (show k23 < 1000 by omega)
            have qr26 := nm1 (show r26 < 100000 by omega)
            have d8 : o = -1 ∨ tin n o = true := Or.inr (tin_e ek23 hk23 (by omega))
            have g9 : so r26 < 2 := Int32.not_le.mp c30
            refine ⟨by simp only [S_set, yk1, zk1, er26, qr26, cn_nI (show r26 < 2 ^ 31 by omega), d8, yk23, zk23, g9, s_tell, put_it, ↓reduceIte, Bool.false_eq_true, or_true, true_or, and_true, true_and, not_false_eq_true, false_or, show ¬ (3 : Int32) < 2 by decide], ?_⟩
            simp only [S_set, yk1, zk1, er26, qr26, cn_nI (show r26 < 2 ^ 31 by omega), d8, yk23, zk23, g9, s_tell, put_it, ↓reduceIte, Bool.false_eq_true, or_true, true_or, and_true, true_and, not_false_eq_true, false_or, show ¬ (3 : Int32) < 2 by decide]
            exact ⟨_, _, _, _, _, _, _, _, _, R⟩
