/-! THE REFERENCE: hold, and its constructor -/
theorem fil_0 {it : Nat → Int64} {r : Nat} {v : Int64} : fil it r v 0 = it := by
  funext q
  unfold fil
  rw [if_neg (by omega)]
theorem fil_s {it : Nat → Int64} {r : Nat} {v : Int64} {j : Nat} : vp_updL (fil it r v j) (12 * r + j) v = fil it r v (j + 1) := by
  funext q
  unfold vp_updL fil
  by_cases h : q = 12 * r + j
  · rw [if_pos h, if_pos (by omega)]
  · rw [if_neg h]
    by_cases h2 : 12 * r ≤ q ∧ q < 12 * r + j
    · rw [if_pos h2, if_pos (by omega)]
    · rw [if_neg h2, if_neg (by omega)]
set_option maxHeartbeats 4000000 in
set_option maxRecDepth 100000 in
theorem lp_hold {p_ : Program} {l : Launch} {e_ : Env} {R_ : Room} {s_ : State} {m_ : MethodId} {args_ : Array Value} {below_ : List Frame} {meth_ : Method} {code_ : Code} {cells slots : Nat} {Q_ : State → Prop} {E : EV} {A_ : Nat → Prop} (S : CallFix p_ m_ code_ cX5_hold 5 s_ args_ wsX5_hold yX5_hold.cls) {m aC aV aL aH aS aZ aI aT : Nat} {n : Nat} {cl vs lk hd : Nat → Int32} {nr : Nat} {so sz : Nat → Int32} {it : Nat → Int64} {oc ow bg dp : Int32} {td : Nat → Int32} {to rs nx : Int32} (hnr : nr < 512) {t s z : Int32} {v : Int64} (hv : v = if s < 2 then 0 else -1) (kx : ∀ (ls : Array Slot) (w : wo) (H : Heap) (locs : List Loc), Rm E w (m, aC, aV, aL, aH, aS, aZ, aI, aT) (n, cl, vs, lk, hd, nr, so, sz, fil it nr v 12, oc, ow, bg, dp, td) (to, rs, nx) → wo_G E A_ s_ w H locs → lv_has ls 5 [(0, .ref m), (1, .int t), (2, .int s), (3, .int z)] → W p_ l e_ R_ s_ m_ args_ below_ meth_ code_ H locs cells slots Q_ (F0 m_ 134 ls [])) : ∀ (mm j : Nat) (jv : Int32), j + mm = 12 → jv = nI j → ∀ (w : wo) (H : Heap) (locs : List Loc), Rm E w (m, aC, aV, aL, aH, aS, aZ, aI, aT) (n, cl, vs, lk, hd, nr, so, sz, fil it nr v j, oc, ow, bg, dp, td) (to, rs, nx) → wo_G E A_ s_ w H locs → ∀ ls : Array Slot, lv_has ls 5 [(0, .ref m), (1, .int t), (2, .int s), (3, .int z), (4, .int jv)] → W p_ l e_ R_ s_ m_ args_ below_ meth_ code_ H locs cells slots Q_ (F0 m_ 94 ls []) := by
  have hx := S.1
  have hb := S.2.1
  intro mm
  induction mm with
  | zero =>
    intro j jv hj ej w H locs R G ls hl
    refine lv_iload hx hb dX5_hold_94 (lv_at hl 4 rfl) ?_
    refine lv_bipush (v := 12) hx hb dX5_hold_96 (by decide) ?_
    refine lv_icmp_ge (tgt := 134) hx hb dX5_hold_98 (by decide) (fun c1 => ?_) (fun c1 => absurd (by rw [ej]; exact nI_le (a := 12) (by omega) (by omega)) c1)
    exact kx ls w H locs (by rw [show (12 : Nat) = j by omega]; exact R) G (lv_sub hl [0, 1, 2, 3] rfl)
  | succ mm ih =>
    intro j jv hj ej w H locs R G ls hl
    refine lv_iload hx hb dX5_hold_94 (lv_at hl 4 rfl) ?_
    refine lv_bipush (v := 12) hx hb dX5_hold_96 (by decide) ?_
    refine lv_icmp_ge (tgt := 134) hx hb dX5_hold_98 (by decide) (fun c1 => absurd c1 (by rw [ej]; exact nI_ge (b := 12) (by omega) (by omega))) (fun c1 => ?_)
    refine lv_aload_n hx hb dX5_hold_101 rfl (lv_at hl 0 rfl) ?_
    refine g_get S G (Rm_m R) rfl (by decide +kernel) 8 (by decide) (by decide +kernel) rfl dX5_hold_102 ?_
    refine lv_bipush (v := 12) hx hb dX5_hold_105 (by decide) ?_
    refine lv_aload_n hx hb dX5_hold_107 rfl (lv_at hl 0 rfl) ?_
    refine g_get S G (Rm_m R) rfl (by decide +kernel) 5 (by decide) (by decide +kernel) rfl dX5_hold_108 ?_
    refine lv_imul hx hb dX5_hold_111 ?_
    refine lv_topi (fun a2 ea2 => ?_)
    have da2 : a2 = nI (12 * nr) := by rw [ea2]; exact pk_mul 12 nr
    refine lv_iload hx hb dX5_hold_112 (lv_at hl 4 rfl) ?_
    refine lv_iadd hx hb dX5_hold_114 ?_
    refine lv_topi (fun a3 ea3 => ?_)
    have da3 : a3 = nI (12 * nr + j) := by rw [ea3, da2, ej]; exact nI_add (12 * nr) j
    refine lv_iload_n hx hb dX5_hold_115 rfl (lv_at hl 2 rfl) ?_
    refine lv_iconst (v := 2) hx hb dX5_hold_116 (by decide) ?_
    refine lv_icmp_ge (tgt := 124) hx hb dX5_hold_117 (by decide) (fun c4 => ?_) (fun c4 => ?_)
    · skip
      refine lv_ldc2 hx hb S.2.2.2.1 (S.2.2.2.2 (.constantLong RX5 73 (-1)) (by decide +kernel)) dX5_hold_124 ?_
      refine g_last S G (Rm_I R) (vin_e da3 (show 12 * nr + j < 6240 by omega) (by omega)) dX5_hold_127 (fun H locs G => ?_)
      rw [show Int32.toNatClampNeg a3 = 12 * nr + j by rw [da3]; exact nI_clamp (by omega)] at G
      obtain ⟨w, R, G⟩ := Rm_ex (Rm_p_it R (vp_updL (fil it nr v j) (12 * nr + j) (-1))) G
      obtain ⟨a5, ea5⟩ : ∃ y : Int32, y = jv + 1 := ⟨_, rfl⟩
      refine lv_iinc (v := a5) (lv' := [(4, .int a5), (0, .ref m), (1, .int t), (2, .int s), (3, .int z)]) hx hb dX5_hold_128 hl (k := 4) rfl (by rw [ea5]; rfl) (by decide) rfl (fun ls hl => ?_)
      refine lv_goto (tgt := 94) hx hb dX5_hold_131 (by decide) ?_
      have ev : (-1 : Int64) = v := by rw [hv, if_neg (Int32.not_lt.mpr c4)]
      rw [ev, fil_s] at R
      exact ih (j + 1) a5 (by omega) (by rw [ea5, ej]; exact nI_1 j) w H locs R G ls (lv_sub hl [1, 2, 3, 4, 0] rfl)
    · skip
      refine lv_lconst (v := 0) hx hb dX5_hold_120 (by decide) ?_
      refine lv_goto (tgt := 127) hx hb dX5_hold_121 (by decide) ?_
      refine g_last S G (Rm_I R) (vin_e da3 (show 12 * nr + j < 6240 by omega) (by omega)) dX5_hold_127 (fun H locs G => ?_)
      rw [show Int32.toNatClampNeg a3 = 12 * nr + j by rw [da3]; exact nI_clamp (by omega)] at G
      obtain ⟨w, R, G⟩ := Rm_ex (Rm_p_it R (vp_updL (fil it nr v j) (12 * nr + j) 0)) G
      obtain ⟨a6, ea6⟩ : ∃ y : Int32, y = jv + 1 := ⟨_, rfl⟩
      refine lv_iinc (v := a6) (lv' := [(4, .int a6), (0, .ref m), (1, .int t), (2, .int s), (3, .int z)]) hx hb dX5_hold_128 hl (k := 4) rfl (by rw [ea6]; rfl) (by decide) rfl (fun ls hl => ?_)
      refine lv_goto (tgt := 94) hx hb dX5_hold_131 (by decide) ?_
      have ev : (0 : Int64) = v := by rw [hv, if_pos (Int32.not_le.mp c4)]
      rw [ev, fil_s] at R
      exact ih (j + 1) a6 (by omega) (by rw [ea6, ej]; exact nI_1 j) w H locs R G ls (lv_sub hl [1, 2, 3, 4, 0] rfl)
set_option maxHeartbeats 4000000 in
set_option maxRecDepth 100000 in
theorem M_hold (l : Launch) {E : EV} {w : wo} {m : Nat} {σ : ST} (X : RmX E w m σ) (K : Gd σ) (hnr : nr_of σ < 512) (t : Int32) (s : Int32) (z : Int32) : ct_i l E yX5_hold wsX5_hold 2 0 0 [.ref m, .int t, .int s, .int z] w (fun r w' => r = (S_hold t s z σ).1 ∧ RmX E w' m (S_hold t s z σ).2) := by
  obtain ⟨aC, aV, aL, aH, aS, aZ, aI, aT, ⟨to, rs, nx⟩, R⟩ := X
  obtain ⟨n, cl, vs, lk, hd, nr, so, sz, it, oc, ow, bg, dp, td⟩ := σ
  have K9 := K
  obtain ⟨Kn, Kr, Kc, Kl, Kh, Ks, Kz, Ki⟩ := K9
  replace hnr : nr < 512 := hnr
  intro zz
  refine wo_body (Qc := fun A => va_Qi _ (wo_B E A) A) (ret := (some .int)) (by decide) rfl (Nat.le_of_ble_eq_true rfl) ?_
  intro p_ e_ s_ m_ args_ below_ meth_ code_ A_ ls S hret hlk hnm G hl
  have hl : lv_has ls 5 [(0, .ref m), (1, .int t), (2, .int s), (3, .int z)] := hl
  have hx := S.1
  have hb := S.2.1
  refine lv_aload_n hx hb dX5_hold_0 rfl (lv_at hl 0 rfl) ?_
  refine lv_iload_n hx hb dX5_hold_1 rfl (lv_at hl 1 rfl) ?_
  rcases tin_c n t (by omega) with ⟨tk1, ok1⟩ | ⟨k1, hk1, ek1⟩
  · skip
    refine g_Vi (n := 1) (rest := []) S G hl (c_X5_isThing l R Kn t) gX5_hold_X5_isThing rfl (by decide +kernel) (Rm_m R) rfl rfl rfl (Nat.le_of_ble_eq_true rfl) ⟨Nat.le_of_ble_eq_true rfl, Nat.le_of_ble_eq_true rfl⟩ ⟨Nat.le_of_ble_eq_true rfl, Nat.le_of_ble_eq_true rfl⟩ dX5_hold_2 ?_
    clear G; intro r_ w1 H locs hp G
    obtain ⟨rfl, hq_⟩ := hp
    rw [tk1] at hq_
    simp only [Bool.false_eq_true, ↓reduceIte] at hq_
    subst hq_
    refine lv_if_eq (tgt := 31) hx hb dX5_hold_5 (by decide) (fun c2 => ?_) (fun c2 => absurd (by decide) c2)
    refine lv_ldc hx hb S.2.2.2.1 (S.2.2.2.2 (.constant RX5 48 (-2000000001)) (by decide +kernel)) dX5_hold_31 ?_
    refine r_int S hret hlk G rfl (Nat.le_of_ble_eq_true rfl) (Nat.le_of_ble_eq_true rfl) dX5_hold_33 ?_
    refine ⟨by simp only [S_hold, tk1, s_tell, put_hd, add_row, ↓reduceIte, Bool.false_eq_true], ?_⟩
    simp only [S_hold, tk1, s_tell, put_hd, add_row, ↓reduceIte, Bool.false_eq_true]
    exact ⟨_, _, _, _, _, _, _, _, _, R⟩
  · skip
    refine g_Vi (n := 1) (rest := []) S G hl (c_X5_isThing l R Kn t) gX5_hold_X5_isThing rfl (by decide +kernel) (Rm_m R) rfl rfl rfl (Nat.le_of_ble_eq_true rfl) ⟨Nat.le_of_ble_eq_true rfl, Nat.le_of_ble_eq_true rfl⟩ ⟨Nat.le_of_ble_eq_true rfl, Nat.le_of_ble_eq_true rfl⟩ dX5_hold_2 ?_
    clear G; intro r_ w1 H locs hp G
    obtain ⟨rfl, hq_⟩ := hp
    rw [if_pos (tin_e ek1 hk1 (by omega))] at hq_
    subst hq_
    refine lv_if_eq (tgt := 31) hx hb dX5_hold_5 (by decide) (fun c3 => absurd c3 (by decide)) (fun c3 => ?_)
    refine lv_iload_n hx hb dX5_hold_8 rfl (lv_at hl 2 rfl) ?_
    refine lv_iconst (v := (-1)) hx hb dX5_hold_9 (by decide) ?_
    refine lv_icmp_eq (tgt := 25) hx hb dX5_hold_10 (by decide) (fun c4 => ?_) (fun c4 => ?_)
    · skip
      refine lv_iload_n hx hb dX5_hold_25 rfl (lv_at hl 3 rfl) ?_
      refine lv_bipush (v := 12) hx hb dX5_hold_26 (by decide) ?_
      refine lv_icmp_le (tgt := 34) hx hb dX5_hold_28 (by decide) (fun c5 => ?_) (fun c5 => ?_)
      · skip
        refine lv_aload_n hx hb dX5_hold_34 rfl (lv_at hl 0 rfl) ?_
        refine lv_iload_n hx hb dX5_hold_35 rfl (lv_at hl 2 rfl) ?_
        refine lv_iconst (v := (-1)) hx hb dX5_hold_36 (by decide) ?_
        refine lv_icmp_eq (tgt := 48) hx hb dX5_hold_37 (by decide) (fun c6 => ?_) (fun c6 => absurd c4 c6)
        refine lv_iconst (v := 0) hx hb dX5_hold_48 (by decide) ?_
        refine g_Vi (n := 1) (rest := []) S G hl (c_X5_tell l R (j := 0) (o := 0) rfl (by decide)) gX5_hold_X5_tell rfl (by decide +kernel) (Rm_m R) rfl rfl rfl (Nat.le_of_ble_eq_true rfl) ⟨Nat.le_of_ble_eq_true rfl, Nat.le_of_ble_eq_true rfl⟩ ⟨Nat.le_of_ble_eq_true rfl, Nat.le_of_ble_eq_true rfl⟩ dX5_hold_49 ?_
        clear G; intro r_ w1 H locs hp G
        obtain ⟨hr_, R⟩ := hp
        subst r_
        refine lv_if_eq (tgt := 57) hx hb dX5_hold_52 (by decide) (fun c7 => ?_) (fun c7 => absurd (by decide) c7)
        refine lv_iload_n hx hb dX5_hold_57 rfl (lv_at hl 2 rfl) ?_
        refine lv_iconst (v := (-1)) hx hb dX5_hold_58 (by decide) ?_
        refine lv_icmp_ne (tgt := 71) hx hb dX5_hold_59 (by decide) (fun c8 => absurd c4 c8) (fun c8 => ?_)
        refine lv_aload_n hx hb dX5_hold_62 rfl (lv_at hl 0 rfl) ?_
        refine g_get S G (Rm_m R) rfl (by decide +kernel) 4 (by decide) (by decide +kernel) rfl dX5_hold_63 ?_
        refine lv_iload_n hx hb dX5_hold_66 rfl (lv_at hl 1 rfl) ?_
        refine lv_iconst (v := (-1)) hx hb dX5_hold_67 (by decide) ?_
        refine g_iast S G (Rm_H R) (vin_e ek1 (show k1 < 40 by omega) (by omega)) dX5_hold_68 (fun H locs G => ?_)
        rw [show Int32.toNatClampNeg t = k1 by rw [ek1]; exact nI_clamp (by omega)] at G
        obtain ⟨w, R, G⟩ := Rm_ex (Rm_p_hd R (upd hd k1 (-1))) G
        refine lv_iconst (v := 0) hx hb dX5_hold_69 (by decide) ?_
        refine r_int S hret hlk G rfl (Nat.le_of_ble_eq_true rfl) (Nat.le_of_ble_eq_true rfl) dX5_hold_70 ?_
        have yk1 := tin_e ek1 hk1 (show n ≤ 1000 by omega)
        have zk1 := cn_e ek1 (show k1 < 1000 by omega)
        have d8 : s = -1 ∨ tin 4 s = true := Or.inl c4
        refine ⟨by simp only [S_hold, yk1, zk1, d8, c5, if_pos c4, s_tell, put_hd, add_row, ↓reduceIte, Bool.false_eq_true], ?_⟩
        simp only [S_hold, yk1, zk1, d8, c5, if_pos c4, s_tell, put_hd, add_row, ↓reduceIte, Bool.false_eq_true]
        exact ⟨_, _, _, _, _, _, _, _, _, R⟩
      · skip
        refine lv_ldc hx hb S.2.2.2.1 (S.2.2.2.2 (.constant RX5 48 (-2000000001)) (by decide +kernel)) dX5_hold_31 ?_
        refine r_int S hret hlk G rfl (Nat.le_of_ble_eq_true rfl) (Nat.le_of_ble_eq_true rfl) dX5_hold_33 ?_
        have yk1 := tin_e ek1 hk1 (show n ≤ 1000 by omega)
        have zk1 := cn_e ek1 (show k1 < 1000 by omega)
        have d8 : s = -1 ∨ tin 4 s = true := Or.inl c4
        refine ⟨by simp only [S_hold, yk1, zk1, d8, c5, s_tell, put_hd, add_row, ↓reduceIte, Bool.false_eq_true], ?_⟩
        simp only [S_hold, yk1, zk1, d8, c5, s_tell, put_hd, add_row, ↓reduceIte, Bool.false_eq_true]
        exact ⟨_, _, _, _, _, _, _, _, _, R⟩
    · skip
      refine lv_iload_n hx hb dX5_hold_13 rfl (lv_at hl 2 rfl) ?_
      refine lv_i2l (v := (Int32.toInt64 s)) hx hb dX5_hold_14 rfl ?_
      refine lv_lconst (v := 0) hx hb dX5_hold_15 (by decide) ?_
      refine lv_ldc2 hx hb S.2.2.2.1 (S.2.2.2.2 (.constantLong RX5 68 (3)) (by decide +kernel)) dX5_hold_16 ?_
      by_cases i9 : tin 4 s = true
      · skip
        refine g_Si (n := 3) (rest := []) S G hl (c_X5_in l (Int32.toInt64 s) 0 (3)) gX5_hold_X5_in rfl (by decide +kernel) rfl rfl (Nat.le_of_ble_eq_true rfl) ⟨Nat.le_of_ble_eq_true rfl, Nat.le_of_ble_eq_true rfl⟩ ⟨Nat.le_of_ble_eq_true rfl, Nat.le_of_ble_eq_true rfl⟩ dX5_hold_19 ?_
        clear G; intro r_ w1 H locs hp G
        obtain ⟨rfl, hq_⟩ := hp
        rw [if_pos (show (0 : Int64) ≤ Int32.toInt64 s ∧ Int32.toInt64 s ≤ 3 from (in_k 3 (by omega) s).mpr i9)] at hq_
        subst hq_
        refine lv_if_eq (tgt := 31) hx hb dX5_hold_22 (by decide) (fun c10 => absurd c10 (by decide)) (fun c10 => ?_)
        refine lv_iload_n hx hb dX5_hold_25 rfl (lv_at hl 3 rfl) ?_
        refine lv_bipush (v := 12) hx hb dX5_hold_26 (by decide) ?_
        refine lv_icmp_le (tgt := 34) hx hb dX5_hold_28 (by decide) (fun c11 => ?_) (fun c11 => ?_)
        · skip
          refine lv_aload_n hx hb dX5_hold_34 rfl (lv_at hl 0 rfl) ?_
          refine lv_iload_n hx hb dX5_hold_35 rfl (lv_at hl 2 rfl) ?_
          refine lv_iconst (v := (-1)) hx hb dX5_hold_36 (by decide) ?_
          refine lv_icmp_eq (tgt := 48) hx hb dX5_hold_37 (by decide) (fun c12 => absurd c12 c4) (fun c12 => ?_)
          refine lv_iload_n hx hb dX5_hold_40 rfl (lv_at hl 3 rfl) ?_
          refine lv_if_ge (tgt := 48) hx hb dX5_hold_41 (by decide) (fun c13 => ?_) (fun c13 => ?_)
          · skip
            refine lv_iconst (v := 0) hx hb dX5_hold_48 (by decide) ?_
            refine g_Vi (n := 1) (rest := []) S G hl (c_X5_tell l R (j := 0) (o := 0) rfl (by decide)) gX5_hold_X5_tell rfl (by decide +kernel) (Rm_m R) rfl rfl rfl (Nat.le_of_ble_eq_true rfl) ⟨Nat.le_of_ble_eq_true rfl, Nat.le_of_ble_eq_true rfl⟩ ⟨Nat.le_of_ble_eq_true rfl, Nat.le_of_ble_eq_true rfl⟩ dX5_hold_49 ?_
            clear G; intro r_ w1 H locs hp G
            obtain ⟨hr_, R⟩ := hp
            subst r_
            refine lv_if_eq (tgt := 57) hx hb dX5_hold_52 (by decide) (fun c14 => ?_) (fun c14 => absurd (by decide) c14)
            refine lv_iload_n hx hb dX5_hold_57 rfl (lv_at hl 2 rfl) ?_
            refine lv_iconst (v := (-1)) hx hb dX5_hold_58 (by decide) ?_
            refine lv_icmp_ne (tgt := 71) hx hb dX5_hold_59 (by decide) (fun c15 => ?_) (fun c15 => absurd c15 c4)
            refine lv_aload_n hx hb dX5_hold_71 rfl (lv_at hl 0 rfl) ?_
            refine g_get S G (Rm_m R) rfl (by decide +kernel) 6 (by decide) (by decide +kernel) rfl dX5_hold_72 ?_
            refine lv_aload_n hx hb dX5_hold_75 rfl (lv_at hl 0 rfl) ?_
            refine g_get S G (Rm_m R) rfl (by decide +kernel) 5 (by decide) (by decide +kernel) rfl dX5_hold_76 ?_
            refine lv_iload_n hx hb dX5_hold_79 rfl (lv_at hl 2 rfl) ?_
            refine g_iast S G (Rm_S R) (vin_e rfl (show nr < 520 by omega) (by omega)) dX5_hold_80 (fun H locs G => ?_)
            rw [show Int32.toNatClampNeg (nI nr) = nr from nI_clamp (by omega)] at G
            obtain ⟨w, R, G⟩ := Rm_ex (Rm_p_so R (upd so nr s)) G
            refine lv_aload_n hx hb dX5_hold_81 rfl (lv_at hl 0 rfl) ?_
            refine g_get S G (Rm_m R) rfl (by decide +kernel) 7 (by decide) (by decide +kernel) rfl dX5_hold_82 ?_
            refine lv_aload_n hx hb dX5_hold_85 rfl (lv_at hl 0 rfl) ?_
            refine g_get S G (Rm_m R) rfl (by decide +kernel) 5 (by decide) (by decide +kernel) rfl dX5_hold_86 ?_
            refine lv_iload_n hx hb dX5_hold_89 rfl (lv_at hl 3 rfl) ?_
            refine g_iast S G (Rm_Z R) (vin_e rfl (show nr < 520 by omega) (by omega)) dX5_hold_90 (fun H locs G => ?_)
            rw [show Int32.toNatClampNeg (nI nr) = nr from nI_clamp (by omega)] at G
            obtain ⟨w, R, G⟩ := Rm_ex (Rm_p_sz R (upd sz nr z)) G
            refine lv_iconst (v := 0) hx hb dX5_hold_91 (by decide) ?_
            refine lv_istore (lv' := [(4, .int 0), (0, .ref m), (1, .int t), (2, .int s), (3, .int z)]) hx hb dX5_hold_92 hl (by decide) rfl (fun ls hl => ?_)
            rw [← fil_0 (it := it) (r := nr) (v := if s < 2 then 0 else -1)] at R
            refine lp_hold S hnr rfl (fun ls w H locs R G hl => ?_) 12 0 0 (by omega) rfl _ _ _ R G ls (lv_sub hl [1, 2, 3, 4, 0] rfl)
            refine lv_aload_n hx hb dX5_hold_134 rfl (lv_at hl 0 rfl) ?_
            refine g_get S G (Rm_m R) rfl (by decide +kernel) 4 (by decide) (by decide +kernel) rfl dX5_hold_135 ?_
            refine lv_iload_n hx hb dX5_hold_138 rfl (lv_at hl 1 rfl) ?_
            refine lv_aload_n hx hb dX5_hold_139 rfl (lv_at hl 0 rfl) ?_
            refine g_get S G (Rm_m R) rfl (by decide +kernel) 5 (by decide) (by decide +kernel) rfl dX5_hold_140 ?_
            refine g_iast S G (Rm_H R) (vin_e ek1 (show k1 < 40 by omega) (by omega)) dX5_hold_143 (fun H locs G => ?_)
            rw [show Int32.toNatClampNeg t = k1 by rw [ek1]; exact nI_clamp (by omega)] at G
            obtain ⟨w, R, G⟩ := Rm_ex (Rm_p_hd R (upd hd k1 (nI nr))) G
            refine lv_aload_n hx hb dX5_hold_144 rfl (lv_at hl 0 rfl) ?_
            refine lv_dup hx hb dX5_hold_145 rfl ?_
            refine g_get S G (Rm_m R) rfl (by decide +kernel) 5 (by decide) (by decide +kernel) rfl dX5_hold_146 ?_
            refine lv_iconst (v := 1) hx hb dX5_hold_149 (by decide) ?_
            refine lv_iadd hx hb dX5_hold_150 ?_
            refine lv_topi (fun a16 ea16 => ?_)
            have da16 : a16 = nI (nr + 1) := by rw [ea16]; exact nI_add nr 1
            refine g_put (fs' := [.int (nI n), .ref aC, .ref aV, .ref aL, .ref aH, .int a16, .ref aS, .ref aZ, .ref aI, .int 0, .int ow, .int bg, .int dp, .ref aT, .int to, .int rs, .int nx]) (ty := .int) (v := .int a16) S G (Rm_m R) rfl tyX5 tyX5_ok nmX5 (by decide +kernel) 5 (by decide) (by decide +kernel) rfl (by decide +kernel) rfl rfl (Nat.le_of_ble_eq_true rfl) rfl dX5_hold_151 (fun H locs G => ?_)
            rw [da16] at G
            obtain ⟨w, R, G⟩ := Rm_ex (Rm_p_nr R (nr + 1)) G
            refine lv_iload_n hx hb dX5_hold_154 rfl (lv_at hl 3 rfl) ?_
            refine r_int S hret hlk G rfl (Nat.le_of_ble_eq_true rfl) (Nat.le_of_ble_eq_true rfl) dX5_hold_155 ?_
            have yk1 := tin_e ek1 hk1 (show n ≤ 1000 by omega)
            have zk1 := cn_e ek1 (show k1 < 1000 by omega)
            have d8 : s = -1 ∨ tin 4 s = true := Or.inr i9
            refine ⟨by simp only [S_hold, yk1, zk1, d8, c11, if_neg c4, if_neg (Int32.not_lt.mpr c13), s_tell, put_hd, add_row, ↓reduceIte, Bool.false_eq_true], ?_⟩
            simp only [S_hold, yk1, zk1, d8, c11, if_neg c4, if_neg (Int32.not_lt.mpr c13), s_tell, put_hd, add_row, ↓reduceIte, Bool.false_eq_true]
            exact ⟨_, _, _, _, _, _, _, _, _, R⟩
          · skip
            refine lv_iconst (v := 4) hx hb dX5_hold_44 (by decide) ?_
            refine lv_goto (tgt := 49) hx hb dX5_hold_45 (by decide) ?_
            refine g_Vi (n := 1) (rest := []) S G hl (c_X5_tell l R (j := 4) (o := 4) rfl (by decide)) gX5_hold_X5_tell rfl (by decide +kernel) (Rm_m R) rfl rfl rfl (Nat.le_of_ble_eq_true rfl) ⟨Nat.le_of_ble_eq_true rfl, Nat.le_of_ble_eq_true rfl⟩ ⟨Nat.le_of_ble_eq_true rfl, Nat.le_of_ble_eq_true rfl⟩ dX5_hold_49 ?_
            clear G; intro r_ w1 H locs hp G
            obtain ⟨hr_, R⟩ := hp
            subst r_
            refine lv_if_eq (tgt := 57) hx hb dX5_hold_52 (by decide) (fun c17 => absurd c17 (by decide)) (fun c17 => ?_)
            refine lv_iconst (v := 0) hx hb dX5_hold_55 (by decide) ?_
            refine r_int S hret hlk G rfl (Nat.le_of_ble_eq_true rfl) (Nat.le_of_ble_eq_true rfl) dX5_hold_56 ?_
            have yk1 := tin_e ek1 hk1 (show n ≤ 1000 by omega)
            have zk1 := cn_e ek1 (show k1 < 1000 by omega)
            have d8 : s = -1 ∨ tin 4 s = true := Or.inr i9
            refine ⟨by simp only [S_hold, yk1, zk1, d8, c11, if_neg c4, if_pos (Int32.not_le.mp c13), s_tell, put_hd, add_row, ↓reduceIte, Bool.false_eq_true], ?_⟩
            simp only [S_hold, yk1, zk1, d8, c11, if_neg c4, if_pos (Int32.not_le.mp c13), s_tell, put_hd, add_row, ↓reduceIte, Bool.false_eq_true]
            exact ⟨_, _, _, _, _, _, _, _, _, R⟩
        · skip
          refine lv_ldc hx hb S.2.2.2.1 (S.2.2.2.2 (.constant RX5 48 (-2000000001)) (by decide +kernel)) dX5_hold_31 ?_
          refine r_int S hret hlk G rfl (Nat.le_of_ble_eq_true rfl) (Nat.le_of_ble_eq_true rfl) dX5_hold_33 ?_
          have yk1 := tin_e ek1 hk1 (show n ≤ 1000 by omega)
          have zk1 := cn_e ek1 (show k1 < 1000 by omega)
          have d8 : s = -1 ∨ tin 4 s = true := Or.inr i9
          refine ⟨by simp only [S_hold, yk1, zk1, d8, c11, s_tell, put_hd, add_row, ↓reduceIte, Bool.false_eq_true], ?_⟩
          simp only [S_hold, yk1, zk1, d8, c11, s_tell, put_hd, add_row, ↓reduceIte, Bool.false_eq_true]
          exact ⟨_, _, _, _, _, _, _, _, _, R⟩
      · skip
        refine g_Si (n := 3) (rest := []) S G hl (c_X5_in l (Int32.toInt64 s) 0 (3)) gX5_hold_X5_in rfl (by decide +kernel) rfl rfl (Nat.le_of_ble_eq_true rfl) ⟨Nat.le_of_ble_eq_true rfl, Nat.le_of_ble_eq_true rfl⟩ ⟨Nat.le_of_ble_eq_true rfl, Nat.le_of_ble_eq_true rfl⟩ dX5_hold_19 ?_
        clear G; intro r_ w1 H locs hp G
        obtain ⟨rfl, hq_⟩ := hp
        rw [if_neg (fun z : (0 : Int64) ≤ Int32.toInt64 s ∧ Int32.toInt64 s ≤ 3 => i9 ((in_k 3 (by omega) s).mp z))] at hq_
        subst hq_
        refine lv_if_eq (tgt := 31) hx hb dX5_hold_22 (by decide) (fun c18 => ?_) (fun c18 => absurd (by decide) c18)
        refine lv_ldc hx hb S.2.2.2.1 (S.2.2.2.2 (.constant RX5 48 (-2000000001)) (by decide +kernel)) dX5_hold_31 ?_
        refine r_int S hret hlk G rfl (Nat.le_of_ble_eq_true rfl) (Nat.le_of_ble_eq_true rfl) dX5_hold_33 ?_
        have yk1 := tin_e ek1 hk1 (show n ≤ 1000 by omega)
        have zk1 := cn_e ek1 (show k1 < 1000 by omega)
        have d8 : ¬ (s = -1 ∨ tin 4 s = true) := fun z => z.elim c4 (fun z => i9 z)
        refine ⟨by simp only [S_hold, yk1, zk1, d8, s_tell, put_hd, add_row, ↓reduceIte, Bool.false_eq_true], ?_⟩
        simp only [S_hold, yk1, zk1, d8, s_tell, put_hd, add_row, ↓reduceIte, Bool.false_eq_true]
        exact ⟨_, _, _, _, _, _, _, _, _, R⟩

set_option maxHeartbeats 4000000 in
set_option maxRecDepth 100000 in
theorem M_init (l : Launch) {E : EV} {w : wo} {m : Nat} (hw : w m = some (.inr (5, [.int 0, .null, .null, .null, .null, .int 0, .null, .null, .null, .int 0, .int 0, .int 0, .int 0, .null, .int 0, .int 0, .int 0]))) : ct_v l E yX5_init wsX5_init 1 8 7450 [.ref m] w (fun w' => RmX E w' m st0) := by
  intro zz
  refine wo_body (Qc := fun A => va_Qv _ (wo_B E A) A) (ret := none) (by decide) rfl (Nat.le_of_ble_eq_true rfl) ?_
  intro p_ e_ s_ m_ args_ below_ meth_ code_ A_ ls S hret hlk hnm G hl
  have hl : lv_has ls 1 [(0, .ref m)] := hl
  have hx := S.1
  have hb := S.2.1
  refine lv_aload_n hx hb dX5_init_0 rfl (lv_at hl 0 rfl) ?_
  refine g_obj S hl (by decide +kernel) (by decide +kernel) (by decide +kernel) (Nat.le_of_ble_eq_true rfl) ⟨Nat.le_of_ble_eq_true rfl, Nat.le_of_ble_eq_true rfl⟩ dX5_init_1 ?_
  refine lv_aload_n hx hb dX5_init_4 rfl (lv_at hl 0 rfl) ?_
  refine lv_bipush (v := 40) hx hb dX5_init_5 (by decide) ?_
  refine g_newi (N' := 40) S G (by decide +kernel) (by decide) rfl (by omega) (Nat.le_of_ble_eq_true rfl) (Nat.le_of_ble_eq_true rfl) dX5_init_7 (fun aC H hq G => ?_)
  have hw := wo_kn (e := .inl (E.2.1, 40, .inl (fun _ => 0))) hw hq
  have h_aC := wo_up_s (w := w) (a := aC) (e := .inl (E.2.1, 40, .inl (fun _ => 0)))
  generalize wo_up w aC (.inl (E.2.1, 40, .inl (fun _ => 0))) = w1 at G hw h_aC
  refine g_putF (fs' := [.int 0, .ref aC, .null, .null, .null, .int 0, .null, .null, .null, .int 0, .int 0, .int 0, .int 0, .null, .int 0, .int 0, .int 0]) (ty := .array .int) (v := .ref aC) S G hw rfl tyX5 tyX5_ok nmX5 (by decide +kernel) 1 (by decide) (by decide +kernel) rfl hnm rfl (by decide +kernel) rfl rfl (Nat.le_of_ble_eq_true rfl) rfl dX5_init_9 (fun H locs G => ?_)
  have h_aC := wo_kp (e := .inr (5, [.int 0, .ref aC, .null, .null, .null, .int 0, .null, .null, .null, .int 0, .int 0, .int 0, .int 0, .null, .int 0, .int 0, .int 0])) h_aC hw (by simp)
  have h_m := wo_up_s (w := w1) (a := m) (e := .inr (5, [.int 0, .ref aC, .null, .null, .null, .int 0, .null, .null, .null, .int 0, .int 0, .int 0, .int 0, .null, .int 0, .int 0, .int 0]))
  generalize wo_up w1 m (.inr (5, [.int 0, .ref aC, .null, .null, .null, .int 0, .null, .null, .null, .int 0, .int 0, .int 0, .int 0, .null, .int 0, .int 0, .int 0])) = w2 at G h_aC h_m
  refine lv_aload_n hx hb dX5_init_12 rfl (lv_at hl 0 rfl) ?_
  refine lv_bipush (v := 40) hx hb dX5_init_13 (by decide) ?_
  refine g_newi (N' := 40) S G (by decide +kernel) (by decide) rfl (by omega) (Nat.le_of_ble_eq_true rfl) (Nat.le_of_ble_eq_true rfl) dX5_init_15 (fun aV H hq G => ?_)
  have h_m := wo_kn (e := .inl (E.2.1, 40, .inl (fun _ => 0))) h_m hq
  have n_aC_aV : aC ≠ aV := fun e => by rw [e, hq] at h_aC; cases h_aC
  have h_aC := wo_kn (e := .inl (E.2.1, 40, .inl (fun _ => 0))) h_aC hq
  have h_aV := wo_up_s (w := w2) (a := aV) (e := .inl (E.2.1, 40, .inl (fun _ => 0)))
  generalize wo_up w2 aV (.inl (E.2.1, 40, .inl (fun _ => 0))) = w3 at G h_m h_aC h_aV
  refine g_putF (fs' := [.int 0, .ref aC, .ref aV, .null, .null, .int 0, .null, .null, .null, .int 0, .int 0, .int 0, .int 0, .null, .int 0, .int 0, .int 0]) (ty := .array .int) (v := .ref aV) S G h_m rfl tyX5 tyX5_ok nmX5 (by decide +kernel) 2 (by decide) (by decide +kernel) rfl hnm rfl (by decide +kernel) rfl rfl (Nat.le_of_ble_eq_true rfl) rfl dX5_init_17 (fun H locs G => ?_)
  have h_aC := wo_kp (e := .inr (5, [.int 0, .ref aC, .ref aV, .null, .null, .int 0, .null, .null, .null, .int 0, .int 0, .int 0, .int 0, .null, .int 0, .int 0, .int 0])) h_aC h_m (by simp)
  have h_aV := wo_kp (e := .inr (5, [.int 0, .ref aC, .ref aV, .null, .null, .int 0, .null, .null, .null, .int 0, .int 0, .int 0, .int 0, .null, .int 0, .int 0, .int 0])) h_aV h_m (by simp)
  have h_m := wo_up_s (w := w3) (a := m) (e := .inr (5, [.int 0, .ref aC, .ref aV, .null, .null, .int 0, .null, .null, .null, .int 0, .int 0, .int 0, .int 0, .null, .int 0, .int 0, .int 0]))
  generalize wo_up w3 m (.inr (5, [.int 0, .ref aC, .ref aV, .null, .null, .int 0, .null, .null, .null, .int 0, .int 0, .int 0, .int 0, .null, .int 0, .int 0, .int 0])) = w4 at G h_aC h_aV h_m
  refine lv_aload_n hx hb dX5_init_20 rfl (lv_at hl 0 rfl) ?_
  refine lv_bipush (v := 40) hx hb dX5_init_21 (by decide) ?_
  refine g_newi (N' := 40) S G (by decide +kernel) (by decide) rfl (by omega) (Nat.le_of_ble_eq_true rfl) (Nat.le_of_ble_eq_true rfl) dX5_init_23 (fun aL H hq G => ?_)
  have h_m := wo_kn (e := .inl (E.2.1, 40, .inl (fun _ => 0))) h_m hq
  have n_aC_aL : aC ≠ aL := fun e => by rw [e, hq] at h_aC; cases h_aC
  have h_aC := wo_kn (e := .inl (E.2.1, 40, .inl (fun _ => 0))) h_aC hq
  have n_aV_aL : aV ≠ aL := fun e => by rw [e, hq] at h_aV; cases h_aV
  have h_aV := wo_kn (e := .inl (E.2.1, 40, .inl (fun _ => 0))) h_aV hq
  have h_aL := wo_up_s (w := w4) (a := aL) (e := .inl (E.2.1, 40, .inl (fun _ => 0)))
  generalize wo_up w4 aL (.inl (E.2.1, 40, .inl (fun _ => 0))) = w5 at G h_m h_aC h_aV h_aL
  refine g_putF (fs' := [.int 0, .ref aC, .ref aV, .ref aL, .null, .int 0, .null, .null, .null, .int 0, .int 0, .int 0, .int 0, .null, .int 0, .int 0, .int 0]) (ty := .array .int) (v := .ref aL) S G h_m rfl tyX5 tyX5_ok nmX5 (by decide +kernel) 3 (by decide) (by decide +kernel) rfl hnm rfl (by decide +kernel) rfl rfl (Nat.le_of_ble_eq_true rfl) rfl dX5_init_25 (fun H locs G => ?_)
  have h_aC := wo_kp (e := .inr (5, [.int 0, .ref aC, .ref aV, .ref aL, .null, .int 0, .null, .null, .null, .int 0, .int 0, .int 0, .int 0, .null, .int 0, .int 0, .int 0])) h_aC h_m (by simp)
  have h_aV := wo_kp (e := .inr (5, [.int 0, .ref aC, .ref aV, .ref aL, .null, .int 0, .null, .null, .null, .int 0, .int 0, .int 0, .int 0, .null, .int 0, .int 0, .int 0])) h_aV h_m (by simp)
  have h_aL := wo_kp (e := .inr (5, [.int 0, .ref aC, .ref aV, .ref aL, .null, .int 0, .null, .null, .null, .int 0, .int 0, .int 0, .int 0, .null, .int 0, .int 0, .int 0])) h_aL h_m (by simp)
  have h_m := wo_up_s (w := w5) (a := m) (e := .inr (5, [.int 0, .ref aC, .ref aV, .ref aL, .null, .int 0, .null, .null, .null, .int 0, .int 0, .int 0, .int 0, .null, .int 0, .int 0, .int 0]))
  generalize wo_up w5 m (.inr (5, [.int 0, .ref aC, .ref aV, .ref aL, .null, .int 0, .null, .null, .null, .int 0, .int 0, .int 0, .int 0, .null, .int 0, .int 0, .int 0])) = w6 at G h_aC h_aV h_aL h_m
  refine lv_aload_n hx hb dX5_init_28 rfl (lv_at hl 0 rfl) ?_
  refine lv_bipush (v := 40) hx hb dX5_init_29 (by decide) ?_
  refine g_newi (N' := 40) S G (by decide +kernel) (by decide) rfl (by omega) (Nat.le_of_ble_eq_true rfl) (Nat.le_of_ble_eq_true rfl) dX5_init_31 (fun aH H hq G => ?_)
  have h_m := wo_kn (e := .inl (E.2.1, 40, .inl (fun _ => 0))) h_m hq
  have n_aC_aH : aC ≠ aH := fun e => by rw [e, hq] at h_aC; cases h_aC
  have h_aC := wo_kn (e := .inl (E.2.1, 40, .inl (fun _ => 0))) h_aC hq
  have n_aV_aH : aV ≠ aH := fun e => by rw [e, hq] at h_aV; cases h_aV
  have h_aV := wo_kn (e := .inl (E.2.1, 40, .inl (fun _ => 0))) h_aV hq
  have n_aL_aH : aL ≠ aH := fun e => by rw [e, hq] at h_aL; cases h_aL
  have h_aL := wo_kn (e := .inl (E.2.1, 40, .inl (fun _ => 0))) h_aL hq
  have h_aH := wo_up_s (w := w6) (a := aH) (e := .inl (E.2.1, 40, .inl (fun _ => 0)))
  generalize wo_up w6 aH (.inl (E.2.1, 40, .inl (fun _ => 0))) = w7 at G h_m h_aC h_aV h_aL h_aH
  refine g_putF (fs' := [.int 0, .ref aC, .ref aV, .ref aL, .ref aH, .int 0, .null, .null, .null, .int 0, .int 0, .int 0, .int 0, .null, .int 0, .int 0, .int 0]) (ty := .array .int) (v := .ref aH) S G h_m rfl tyX5 tyX5_ok nmX5 (by decide +kernel) 4 (by decide) (by decide +kernel) rfl hnm rfl (by decide +kernel) rfl rfl (Nat.le_of_ble_eq_true rfl) rfl dX5_init_33 (fun H locs G => ?_)
  have h_aC := wo_kp (e := .inr (5, [.int 0, .ref aC, .ref aV, .ref aL, .ref aH, .int 0, .null, .null, .null, .int 0, .int 0, .int 0, .int 0, .null, .int 0, .int 0, .int 0])) h_aC h_m (by simp)
  have h_aV := wo_kp (e := .inr (5, [.int 0, .ref aC, .ref aV, .ref aL, .ref aH, .int 0, .null, .null, .null, .int 0, .int 0, .int 0, .int 0, .null, .int 0, .int 0, .int 0])) h_aV h_m (by simp)
  have h_aL := wo_kp (e := .inr (5, [.int 0, .ref aC, .ref aV, .ref aL, .ref aH, .int 0, .null, .null, .null, .int 0, .int 0, .int 0, .int 0, .null, .int 0, .int 0, .int 0])) h_aL h_m (by simp)
  have h_aH := wo_kp (e := .inr (5, [.int 0, .ref aC, .ref aV, .ref aL, .ref aH, .int 0, .null, .null, .null, .int 0, .int 0, .int 0, .int 0, .null, .int 0, .int 0, .int 0])) h_aH h_m (by simp)
  have h_m := wo_up_s (w := w7) (a := m) (e := .inr (5, [.int 0, .ref aC, .ref aV, .ref aL, .ref aH, .int 0, .null, .null, .null, .int 0, .int 0, .int 0, .int 0, .null, .int 0, .int 0, .int 0]))
  generalize wo_up w7 m (.inr (5, [.int 0, .ref aC, .ref aV, .ref aL, .ref aH, .int 0, .null, .null, .null, .int 0, .int 0, .int 0, .int 0, .null, .int 0, .int 0, .int 0])) = w8 at G h_aC h_aV h_aL h_aH h_m
  refine lv_aload_n hx hb dX5_init_36 rfl (lv_at hl 0 rfl) ?_
  refine lv_sipush (v := 520) hx hb dX5_init_37 (by decide) ?_
  refine g_newi (N' := 520) S G (by decide +kernel) (by decide) rfl (by omega) (Nat.le_of_ble_eq_true rfl) (Nat.le_of_ble_eq_true rfl) dX5_init_40 (fun aS H hq G => ?_)
  have h_m := wo_kn (e := .inl (E.2.1, 520, .inl (fun _ => 0))) h_m hq
  have n_aC_aS : aC ≠ aS := fun e => by rw [e, hq] at h_aC; cases h_aC
  have h_aC := wo_kn (e := .inl (E.2.1, 520, .inl (fun _ => 0))) h_aC hq
  have n_aV_aS : aV ≠ aS := fun e => by rw [e, hq] at h_aV; cases h_aV
  have h_aV := wo_kn (e := .inl (E.2.1, 520, .inl (fun _ => 0))) h_aV hq
  have n_aL_aS : aL ≠ aS := fun e => by rw [e, hq] at h_aL; cases h_aL
  have h_aL := wo_kn (e := .inl (E.2.1, 520, .inl (fun _ => 0))) h_aL hq
  have n_aH_aS : aH ≠ aS := fun e => by rw [e, hq] at h_aH; cases h_aH
  have h_aH := wo_kn (e := .inl (E.2.1, 520, .inl (fun _ => 0))) h_aH hq
  have h_aS := wo_up_s (w := w8) (a := aS) (e := .inl (E.2.1, 520, .inl (fun _ => 0)))
  generalize wo_up w8 aS (.inl (E.2.1, 520, .inl (fun _ => 0))) = w9 at G h_m h_aC h_aV h_aL h_aH h_aS
  refine g_putF (fs' := [.int 0, .ref aC, .ref aV, .ref aL, .ref aH, .int 0, .ref aS, .null, .null, .int 0, .int 0, .int 0, .int 0, .null, .int 0, .int 0, .int 0]) (ty := .array .int) (v := .ref aS) S G h_m rfl tyX5 tyX5_ok nmX5 (by decide +kernel) 6 (by decide) (by decide +kernel) rfl hnm rfl (by decide +kernel) rfl rfl (Nat.le_of_ble_eq_true rfl) rfl dX5_init_42 (fun H locs G => ?_)
  have h_aC := wo_kp (e := .inr (5, [.int 0, .ref aC, .ref aV, .ref aL, .ref aH, .int 0, .ref aS, .null, .null, .int 0, .int 0, .int 0, .int 0, .null, .int 0, .int 0, .int 0])) h_aC h_m (by simp)
  have h_aV := wo_kp (e := .inr (5, [.int 0, .ref aC, .ref aV, .ref aL, .ref aH, .int 0, .ref aS, .null, .null, .int 0, .int 0, .int 0, .int 0, .null, .int 0, .int 0, .int 0])) h_aV h_m (by simp)
  have h_aL := wo_kp (e := .inr (5, [.int 0, .ref aC, .ref aV, .ref aL, .ref aH, .int 0, .ref aS, .null, .null, .int 0, .int 0, .int 0, .int 0, .null, .int 0, .int 0, .int 0])) h_aL h_m (by simp)
  have h_aH := wo_kp (e := .inr (5, [.int 0, .ref aC, .ref aV, .ref aL, .ref aH, .int 0, .ref aS, .null, .null, .int 0, .int 0, .int 0, .int 0, .null, .int 0, .int 0, .int 0])) h_aH h_m (by simp)
  have h_aS := wo_kp (e := .inr (5, [.int 0, .ref aC, .ref aV, .ref aL, .ref aH, .int 0, .ref aS, .null, .null, .int 0, .int 0, .int 0, .int 0, .null, .int 0, .int 0, .int 0])) h_aS h_m (by simp)
  have h_m := wo_up_s (w := w9) (a := m) (e := .inr (5, [.int 0, .ref aC, .ref aV, .ref aL, .ref aH, .int 0, .ref aS, .null, .null, .int 0, .int 0, .int 0, .int 0, .null, .int 0, .int 0, .int 0]))
  generalize wo_up w9 m (.inr (5, [.int 0, .ref aC, .ref aV, .ref aL, .ref aH, .int 0, .ref aS, .null, .null, .int 0, .int 0, .int 0, .int 0, .null, .int 0, .int 0, .int 0])) = w10 at G h_aC h_aV h_aL h_aH h_aS h_m
  refine lv_aload_n hx hb dX5_init_45 rfl (lv_at hl 0 rfl) ?_
  refine lv_sipush (v := 520) hx hb dX5_init_46 (by decide) ?_
  refine g_newi (N' := 520) S G (by decide +kernel) (by decide) rfl (by omega) (Nat.le_of_ble_eq_true rfl) (Nat.le_of_ble_eq_true rfl) dX5_init_49 (fun aZ H hq G => ?_)
  have h_m := wo_kn (e := .inl (E.2.1, 520, .inl (fun _ => 0))) h_m hq
  have n_aC_aZ : aC ≠ aZ := fun e => by rw [e, hq] at h_aC; cases h_aC
  have h_aC := wo_kn (e := .inl (E.2.1, 520, .inl (fun _ => 0))) h_aC hq
  have n_aV_aZ : aV ≠ aZ := fun e => by rw [e, hq] at h_aV; cases h_aV
  have h_aV := wo_kn (e := .inl (E.2.1, 520, .inl (fun _ => 0))) h_aV hq
  have n_aL_aZ : aL ≠ aZ := fun e => by rw [e, hq] at h_aL; cases h_aL
  have h_aL := wo_kn (e := .inl (E.2.1, 520, .inl (fun _ => 0))) h_aL hq
  have n_aH_aZ : aH ≠ aZ := fun e => by rw [e, hq] at h_aH; cases h_aH
  have h_aH := wo_kn (e := .inl (E.2.1, 520, .inl (fun _ => 0))) h_aH hq
  have n_aS_aZ : aS ≠ aZ := fun e => by rw [e, hq] at h_aS; cases h_aS
  have h_aS := wo_kn (e := .inl (E.2.1, 520, .inl (fun _ => 0))) h_aS hq
  have h_aZ := wo_up_s (w := w10) (a := aZ) (e := .inl (E.2.1, 520, .inl (fun _ => 0)))
  generalize wo_up w10 aZ (.inl (E.2.1, 520, .inl (fun _ => 0))) = w11 at G h_m h_aC h_aV h_aL h_aH h_aS h_aZ
  refine g_putF (fs' := [.int 0, .ref aC, .ref aV, .ref aL, .ref aH, .int 0, .ref aS, .ref aZ, .null, .int 0, .int 0, .int 0, .int 0, .null, .int 0, .int 0, .int 0]) (ty := .array .int) (v := .ref aZ) S G h_m rfl tyX5 tyX5_ok nmX5 (by decide +kernel) 7 (by decide) (by decide +kernel) rfl hnm rfl (by decide +kernel) rfl rfl (Nat.le_of_ble_eq_true rfl) rfl dX5_init_51 (fun H locs G => ?_)
  have h_aC := wo_kp (e := .inr (5, [.int 0, .ref aC, .ref aV, .ref aL, .ref aH, .int 0, .ref aS, .ref aZ, .null, .int 0, .int 0, .int 0, .int 0, .null, .int 0, .int 0, .int 0])) h_aC h_m (by simp)
  have h_aV := wo_kp (e := .inr (5, [.int 0, .ref aC, .ref aV, .ref aL, .ref aH, .int 0, .ref aS, .ref aZ, .null, .int 0, .int 0, .int 0, .int 0, .null, .int 0, .int 0, .int 0])) h_aV h_m (by simp)
  have h_aL := wo_kp (e := .inr (5, [.int 0, .ref aC, .ref aV, .ref aL, .ref aH, .int 0, .ref aS, .ref aZ, .null, .int 0, .int 0, .int 0, .int 0, .null, .int 0, .int 0, .int 0])) h_aL h_m (by simp)
  have h_aH := wo_kp (e := .inr (5, [.int 0, .ref aC, .ref aV, .ref aL, .ref aH, .int 0, .ref aS, .ref aZ, .null, .int 0, .int 0, .int 0, .int 0, .null, .int 0, .int 0, .int 0])) h_aH h_m (by simp)
  have h_aS := wo_kp (e := .inr (5, [.int 0, .ref aC, .ref aV, .ref aL, .ref aH, .int 0, .ref aS, .ref aZ, .null, .int 0, .int 0, .int 0, .int 0, .null, .int 0, .int 0, .int 0])) h_aS h_m (by simp)
  have h_aZ := wo_kp (e := .inr (5, [.int 0, .ref aC, .ref aV, .ref aL, .ref aH, .int 0, .ref aS, .ref aZ, .null, .int 0, .int 0, .int 0, .int 0, .null, .int 0, .int 0, .int 0])) h_aZ h_m (by simp)
  have h_m := wo_up_s (w := w11) (a := m) (e := .inr (5, [.int 0, .ref aC, .ref aV, .ref aL, .ref aH, .int 0, .ref aS, .ref aZ, .null, .int 0, .int 0, .int 0, .int 0, .null, .int 0, .int 0, .int 0]))
  generalize wo_up w11 m (.inr (5, [.int 0, .ref aC, .ref aV, .ref aL, .ref aH, .int 0, .ref aS, .ref aZ, .null, .int 0, .int 0, .int 0, .int 0, .null, .int 0, .int 0, .int 0])) = w12 at G h_aC h_aV h_aL h_aH h_aS h_aZ h_m
  refine lv_aload_n hx hb dX5_init_54 rfl (lv_at hl 0 rfl) ?_
  refine lv_sipush (v := 6240) hx hb dX5_init_55 (by decide) ?_
  refine g_newl (N' := 6240) S G (by decide +kernel) (by decide) rfl (by omega) (Nat.le_of_ble_eq_true rfl) (Nat.le_of_ble_eq_true rfl) dX5_init_58 (fun aI H hq G => ?_)
  have h_m := wo_kn (e := .inl (E.2.2.1, 6240, .inr (.inl (fun _ => 0)))) h_m hq
  have n_aC_aI : aC ≠ aI := fun e => by rw [e, hq] at h_aC; cases h_aC
  have h_aC := wo_kn (e := .inl (E.2.2.1, 6240, .inr (.inl (fun _ => 0)))) h_aC hq
  have n_aV_aI : aV ≠ aI := fun e => by rw [e, hq] at h_aV; cases h_aV
  have h_aV := wo_kn (e := .inl (E.2.2.1, 6240, .inr (.inl (fun _ => 0)))) h_aV hq
  have n_aL_aI : aL ≠ aI := fun e => by rw [e, hq] at h_aL; cases h_aL
  have h_aL := wo_kn (e := .inl (E.2.2.1, 6240, .inr (.inl (fun _ => 0)))) h_aL hq
  have n_aH_aI : aH ≠ aI := fun e => by rw [e, hq] at h_aH; cases h_aH
  have h_aH := wo_kn (e := .inl (E.2.2.1, 6240, .inr (.inl (fun _ => 0)))) h_aH hq
  have n_aS_aI : aS ≠ aI := fun e => by rw [e, hq] at h_aS; cases h_aS
  have h_aS := wo_kn (e := .inl (E.2.2.1, 6240, .inr (.inl (fun _ => 0)))) h_aS hq
  have n_aZ_aI : aZ ≠ aI := fun e => by rw [e, hq] at h_aZ; cases h_aZ
  have h_aZ := wo_kn (e := .inl (E.2.2.1, 6240, .inr (.inl (fun _ => 0)))) h_aZ hq
  have h_aI := wo_up_s (w := w12) (a := aI) (e := .inl (E.2.2.1, 6240, .inr (.inl (fun _ => 0))))
  generalize wo_up w12 aI (.inl (E.2.2.1, 6240, .inr (.inl (fun _ => 0)))) = w13 at G h_m h_aC h_aV h_aL h_aH h_aS h_aZ h_aI
  refine g_putF (fs' := [.int 0, .ref aC, .ref aV, .ref aL, .ref aH, .int 0, .ref aS, .ref aZ, .ref aI, .int 0, .int 0, .int 0, .int 0, .null, .int 0, .int 0, .int 0]) (ty := .array .long) (v := .ref aI) S G h_m rfl tyX5 tyX5_ok nmX5 (by decide +kernel) 8 (by decide) (by decide +kernel) rfl hnm rfl (by decide +kernel) rfl rfl (Nat.le_of_ble_eq_true rfl) rfl dX5_init_60 (fun H locs G => ?_)
  have h_aC := wo_kp (e := .inr (5, [.int 0, .ref aC, .ref aV, .ref aL, .ref aH, .int 0, .ref aS, .ref aZ, .ref aI, .int 0, .int 0, .int 0, .int 0, .null, .int 0, .int 0, .int 0])) h_aC h_m (by simp)
  have h_aV := wo_kp (e := .inr (5, [.int 0, .ref aC, .ref aV, .ref aL, .ref aH, .int 0, .ref aS, .ref aZ, .ref aI, .int 0, .int 0, .int 0, .int 0, .null, .int 0, .int 0, .int 0])) h_aV h_m (by simp)
  have h_aL := wo_kp (e := .inr (5, [.int 0, .ref aC, .ref aV, .ref aL, .ref aH, .int 0, .ref aS, .ref aZ, .ref aI, .int 0, .int 0, .int 0, .int 0, .null, .int 0, .int 0, .int 0])) h_aL h_m (by simp)
  have h_aH := wo_kp (e := .inr (5, [.int 0, .ref aC, .ref aV, .ref aL, .ref aH, .int 0, .ref aS, .ref aZ, .ref aI, .int 0, .int 0, .int 0, .int 0, .null, .int 0, .int 0, .int 0])) h_aH h_m (by simp)
  have h_aS := wo_kp (e := .inr (5, [.int 0, .ref aC, .ref aV, .ref aL, .ref aH, .int 0, .ref aS, .ref aZ, .ref aI, .int 0, .int 0, .int 0, .int 0, .null, .int 0, .int 0, .int 0])) h_aS h_m (by simp)
  have h_aZ := wo_kp (e := .inr (5, [.int 0, .ref aC, .ref aV, .ref aL, .ref aH, .int 0, .ref aS, .ref aZ, .ref aI, .int 0, .int 0, .int 0, .int 0, .null, .int 0, .int 0, .int 0])) h_aZ h_m (by simp)
  have h_aI := wo_kp (e := .inr (5, [.int 0, .ref aC, .ref aV, .ref aL, .ref aH, .int 0, .ref aS, .ref aZ, .ref aI, .int 0, .int 0, .int 0, .int 0, .null, .int 0, .int 0, .int 0])) h_aI h_m (by simp)
  have h_m := wo_up_s (w := w13) (a := m) (e := .inr (5, [.int 0, .ref aC, .ref aV, .ref aL, .ref aH, .int 0, .ref aS, .ref aZ, .ref aI, .int 0, .int 0, .int 0, .int 0, .null, .int 0, .int 0, .int 0]))
  generalize wo_up w13 m (.inr (5, [.int 0, .ref aC, .ref aV, .ref aL, .ref aH, .int 0, .ref aS, .ref aZ, .ref aI, .int 0, .int 0, .int 0, .int 0, .null, .int 0, .int 0, .int 0])) = w14 at G h_aC h_aV h_aL h_aH h_aS h_aZ h_aI h_m
  refine lv_aload_n hx hb dX5_init_63 rfl (lv_at hl 0 rfl) ?_
  refine lv_bipush (v := 10) hx hb dX5_init_64 (by decide) ?_
  refine g_newi (N' := 10) S G (by decide +kernel) (by decide) rfl (by omega) (Nat.le_of_ble_eq_true rfl) (Nat.le_of_ble_eq_true rfl) dX5_init_66 (fun aT H hq G => ?_)
  have h_m := wo_kn (e := .inl (E.2.1, 10, .inl (fun _ => 0))) h_m hq
  have n_aC_aT : aC ≠ aT := fun e => by rw [e, hq] at h_aC; cases h_aC
  have h_aC := wo_kn (e := .inl (E.2.1, 10, .inl (fun _ => 0))) h_aC hq
  have n_aV_aT : aV ≠ aT := fun e => by rw [e, hq] at h_aV; cases h_aV
  have h_aV := wo_kn (e := .inl (E.2.1, 10, .inl (fun _ => 0))) h_aV hq
  have n_aL_aT : aL ≠ aT := fun e => by rw [e, hq] at h_aL; cases h_aL
  have h_aL := wo_kn (e := .inl (E.2.1, 10, .inl (fun _ => 0))) h_aL hq
  have n_aH_aT : aH ≠ aT := fun e => by rw [e, hq] at h_aH; cases h_aH
  have h_aH := wo_kn (e := .inl (E.2.1, 10, .inl (fun _ => 0))) h_aH hq
  have n_aS_aT : aS ≠ aT := fun e => by rw [e, hq] at h_aS; cases h_aS
  have h_aS := wo_kn (e := .inl (E.2.1, 10, .inl (fun _ => 0))) h_aS hq
  have n_aZ_aT : aZ ≠ aT := fun e => by rw [e, hq] at h_aZ; cases h_aZ
  have h_aZ := wo_kn (e := .inl (E.2.1, 10, .inl (fun _ => 0))) h_aZ hq
  have n_aI_aT : aI ≠ aT := fun e => by rw [e, hq] at h_aI; cases h_aI
  have h_aI := wo_kn (e := .inl (E.2.1, 10, .inl (fun _ => 0))) h_aI hq
  have h_aT := wo_up_s (w := w14) (a := aT) (e := .inl (E.2.1, 10, .inl (fun _ => 0)))
  generalize wo_up w14 aT (.inl (E.2.1, 10, .inl (fun _ => 0))) = w15 at G h_m h_aC h_aV h_aL h_aH h_aS h_aZ h_aI h_aT
  refine g_putF (fs' := [.int 0, .ref aC, .ref aV, .ref aL, .ref aH, .int 0, .ref aS, .ref aZ, .ref aI, .int 0, .int 0, .int 0, .int 0, .ref aT, .int 0, .int 0, .int 0]) (ty := .array .int) (v := .ref aT) S G h_m rfl tyX5 tyX5_ok nmX5 (by decide +kernel) 13 (by decide) (by decide +kernel) rfl hnm rfl (by decide +kernel) rfl rfl (Nat.le_of_ble_eq_true rfl) rfl dX5_init_68 (fun H locs G => ?_)
  have h_aC := wo_kp (e := .inr (5, [.int 0, .ref aC, .ref aV, .ref aL, .ref aH, .int 0, .ref aS, .ref aZ, .ref aI, .int 0, .int 0, .int 0, .int 0, .ref aT, .int 0, .int 0, .int 0])) h_aC h_m (by simp)
  have h_aV := wo_kp (e := .inr (5, [.int 0, .ref aC, .ref aV, .ref aL, .ref aH, .int 0, .ref aS, .ref aZ, .ref aI, .int 0, .int 0, .int 0, .int 0, .ref aT, .int 0, .int 0, .int 0])) h_aV h_m (by simp)
  have h_aL := wo_kp (e := .inr (5, [.int 0, .ref aC, .ref aV, .ref aL, .ref aH, .int 0, .ref aS, .ref aZ, .ref aI, .int 0, .int 0, .int 0, .int 0, .ref aT, .int 0, .int 0, .int 0])) h_aL h_m (by simp)
  have h_aH := wo_kp (e := .inr (5, [.int 0, .ref aC, .ref aV, .ref aL, .ref aH, .int 0, .ref aS, .ref aZ, .ref aI, .int 0, .int 0, .int 0, .int 0, .ref aT, .int 0, .int 0, .int 0])) h_aH h_m (by simp)
  have h_aS := wo_kp (e := .inr (5, [.int 0, .ref aC, .ref aV, .ref aL, .ref aH, .int 0, .ref aS, .ref aZ, .ref aI, .int 0, .int 0, .int 0, .int 0, .ref aT, .int 0, .int 0, .int 0])) h_aS h_m (by simp)
  have h_aZ := wo_kp (e := .inr (5, [.int 0, .ref aC, .ref aV, .ref aL, .ref aH, .int 0, .ref aS, .ref aZ, .ref aI, .int 0, .int 0, .int 0, .int 0, .ref aT, .int 0, .int 0, .int 0])) h_aZ h_m (by simp)
  have h_aI := wo_kp (e := .inr (5, [.int 0, .ref aC, .ref aV, .ref aL, .ref aH, .int 0, .ref aS, .ref aZ, .ref aI, .int 0, .int 0, .int 0, .int 0, .ref aT, .int 0, .int 0, .int 0])) h_aI h_m (by simp)
  have h_aT := wo_kp (e := .inr (5, [.int 0, .ref aC, .ref aV, .ref aL, .ref aH, .int 0, .ref aS, .ref aZ, .ref aI, .int 0, .int 0, .int 0, .int 0, .ref aT, .int 0, .int 0, .int 0])) h_aT h_m (by simp)
  have h_m := wo_up_s (w := w15) (a := m) (e := .inr (5, [.int 0, .ref aC, .ref aV, .ref aL, .ref aH, .int 0, .ref aS, .ref aZ, .ref aI, .int 0, .int 0, .int 0, .int 0, .ref aT, .int 0, .int 0, .int 0]))
  generalize wo_up w15 m (.inr (5, [.int 0, .ref aC, .ref aV, .ref aL, .ref aH, .int 0, .ref aS, .ref aZ, .ref aI, .int 0, .int 0, .int 0, .int 0, .ref aT, .int 0, .int 0, .int 0])) = w16 at G h_aC h_aV h_aL h_aH h_aS h_aZ h_aI h_aT h_m
  refine r_void S hret hlk G (Nat.le_of_ble_eq_true rfl) (Nat.le_of_ble_eq_true rfl) dX5_init_71 ?_
  exact ⟨aC, aV, aL, aH, aS, aZ, aI, aT, (0, 0, 0), h_m, h_aC, h_aV, h_aL, h_aH, h_aS, h_aZ, h_aT, h_aI, by simp only [List.nodup_cons, List.mem_cons, List.not_mem_nil, not_or, or_false, not_false_eq_true, List.nodup_nil, and_true]; exact ⟨⟨n_aC_aV, n_aC_aL, n_aC_aH, n_aC_aS, n_aC_aZ, n_aC_aT⟩, ⟨n_aV_aL, n_aV_aH, n_aV_aS, n_aV_aZ, n_aV_aT⟩, ⟨n_aL_aH, n_aL_aS, n_aL_aZ, n_aL_aT⟩, ⟨n_aH_aS, n_aH_aZ, n_aH_aT⟩, ⟨n_aS_aZ, n_aS_aT⟩, n_aZ_aT⟩⟩
