/-! THE REFERENCE: the numbers -/
set_option maxHeartbeats 4000000 in
set_option maxRecDepth 100000 in
theorem lp_summed {p_ : Program} {l : Launch} {e_ : Env} {R_ : Room} {s_ : State} {m_ : MethodId} {args_ : Array Value} {below_ : List Frame} {meth_ : Method} {code_ : Code} {cells slots : Nat} {Q_ : State → Prop} {E : EV} {A_ : Nat → Prop} (S : CallFix p_ m_ code_ cX5_summed 3 s_ args_ wsX5_summed yX5_summed.cls) {m aC aV aL aH aS aZ aI aT : Nat} {n : Nat} {cl vs lk hd : Nat → Int32} {nr : Nat} {so sz : Nat → Int32} {it : Nat → Int64} {oc ow bg dp : Int32} {td : Nat → Int32} {to rs nx : Int32} {r : Nat} (hr : r < nr) (Kr : nr ≤ 512) (hz : ∃ z, z < 13 ∧ sz r = nI z) {rv : Int32} (er : rv = nI r) (kx : ∀ (ls : Array Slot) (w : wo) (H : Heap) (locs : List Loc), Rm E w (m, aC, aV, aL, aH, aS, aZ, aI, aT) (n, cl, vs, lk, hd, nr, so, sz, it, oc, ow, bg, dp, td) (to, sm it (12 * r) (cn (sz r)), nx) → wo_G E A_ s_ w H locs → W p_ l e_ R_ s_ m_ args_ below_ meth_ code_ H locs cells slots Q_ (F0 m_ 44 ls [])) : ∀ (mm j : Nat) (jv sj : Int32), j + mm = cn (sz r) → sj = sm it (12 * r) j → jv = nI j → ∀ (w : wo) (H : Heap) (locs : List Loc), Rm E w (m, aC, aV, aL, aH, aS, aZ, aI, aT) (n, cl, vs, lk, hd, nr, so, sz, it, oc, ow, bg, dp, td) (to, sj, nx) → wo_G E A_ s_ w H locs → ∀ ls : Array Slot, lv_has ls 3 [(0, .ref m), (1, .int rv), (2, .int jv)] → W p_ l e_ R_ s_ m_ args_ below_ meth_ code_ H locs cells slots Q_ (F0 m_ 7 ls []) := by
  have hx := S.1
  have hb := S.2.1
  have e9 := sz_eq hz
  have e8 := sz_le hz
  intro mm
  induction mm with
  | zero =>
    intro j jv sj hj es ej w H locs R G ls hl
    refine lv_iload_n hx hb dX5_summed_7 rfl (lv_at hl 2 rfl) ?_
    refine lv_aload_n hx hb dX5_summed_8 rfl (lv_at hl 0 rfl) ?_
    refine g_get S G (Rm_m R) rfl (by decide +kernel) 7 (by decide) (by decide +kernel) rfl dX5_summed_9 ?_
    refine lv_iload_n hx hb dX5_summed_12 rfl (lv_at hl 1 rfl) ?_
    refine g_iald S G (Rm_Z R) (vin_e er (show r < 520 by omega) (by omega)) dX5_summed_13 ?_
    rw [show Int32.toNatClampNeg rv = r by rw [er]; exact nI_clamp (by omega)]
    refine lv_icmp_ge (tgt := 44) hx hb dX5_summed_14 (by decide) (fun c1 => ?_) (fun c1 => absurd (by rw [ej, ← e9]; exact nI_le (by omega) (by omega)) c1)
    exact kx ls w H locs (by rw [es, show j = cn (sz r) by omega] at R; exact R) G
  | succ mm ih =>
    intro j jv sj hj es ej w H locs R G ls hl
    refine lv_iload_n hx hb dX5_summed_7 rfl (lv_at hl 2 rfl) ?_
    refine lv_aload_n hx hb dX5_summed_8 rfl (lv_at hl 0 rfl) ?_
    refine g_get S G (Rm_m R) rfl (by decide +kernel) 7 (by decide) (by decide +kernel) rfl dX5_summed_9 ?_
    refine lv_iload_n hx hb dX5_summed_12 rfl (lv_at hl 1 rfl) ?_
    refine g_iald S G (Rm_Z R) (vin_e er (show r < 520 by omega) (by omega)) dX5_summed_13 ?_
    rw [show Int32.toNatClampNeg rv = r by rw [er]; exact nI_clamp (by omega)]
    refine lv_icmp_ge (tgt := 44) hx hb dX5_summed_14 (by decide) (fun c1 => absurd c1 (by rw [ej, ← e9]; exact nI_ge (by omega) (by omega))) (fun c1 => ?_)
    refine lv_aload_n hx hb dX5_summed_17 rfl (lv_at hl 0 rfl) ?_
    refine lv_dup hx hb dX5_summed_18 rfl ?_
    refine g_get S G (Rm_m R) rfl (by decide +kernel) 15 (by decide) (by decide +kernel) rfl dX5_summed_19 ?_
    refine lv_aload_n hx hb dX5_summed_22 rfl (lv_at hl 0 rfl) ?_
    refine g_get S G (Rm_m R) rfl (by decide +kernel) 8 (by decide) (by decide +kernel) rfl dX5_summed_23 ?_
    refine lv_bipush (v := 12) hx hb dX5_summed_26 (by decide) ?_
    refine lv_iload_n hx hb dX5_summed_28 rfl (lv_at hl 1 rfl) ?_
    refine lv_imul hx hb dX5_summed_29 ?_
    refine lv_topi (fun a2 ea2 => ?_)
    have da2 : a2 = nI (12 * r) := by rw [ea2, er]; exact pk_mul 12 r
    refine lv_iload_n hx hb dX5_summed_30 rfl (lv_at hl 2 rfl) ?_
    refine lv_iadd hx hb dX5_summed_31 ?_
    refine lv_topi (fun a3 ea3 => ?_)
    have da3 : a3 = nI (12 * r + j) := by rw [ea3, da2, ej]; exact nI_add (12 * r) j
    refine g_lald S G (Rm_I R) (vin_e da3 (show 12 * r + j < 6240 by omega) (by omega)) dX5_summed_32 ?_
    rw [show Int32.toNatClampNeg a3 = 12 * r + j by rw [da3]; exact nI_clamp (by omega)]
    refine lv_l2i (v := (Int64.toInt32 (it (12 * r + j)))) hx hb dX5_summed_33 rfl ?_
    refine lv_iadd hx hb dX5_summed_34 ?_
    refine lv_topi (fun a4 ea4 => ?_)
    refine g_put (fs' := [.int (nI n), .ref aC, .ref aV, .ref aL, .ref aH, .int (nI nr), .ref aS, .ref aZ, .ref aI, .int oc, .int ow, .int bg, .int dp, .ref aT, .int to, .int a4, .int nx]) (ty := .int) (v := .int a4) S G (Rm_m R) rfl tyX5 tyX5_ok nmX5 (by decide +kernel) 15 (by decide) (by decide +kernel) rfl (by decide +kernel) rfl rfl (Nat.le_of_ble_eq_true rfl) rfl dX5_summed_35 (fun H locs G => ?_)
    obtain ⟨w, R, G⟩ := Rm_ex (Rm_p_rs R a4) G
    obtain ⟨a5, ea5⟩ : ∃ y : Int32, y = jv + 1 := ⟨_, rfl⟩
    refine lv_iinc (v := a5) (lv' := [(2, .int a5), (0, .ref m), (1, .int rv)]) hx hb dX5_summed_38 hl (k := 2) rfl (by rw [ea5]; rfl) (by decide) rfl (fun ls hl => ?_)
    refine lv_goto (tgt := 7) hx hb dX5_summed_41 (by decide) ?_
    exact ih (j + 1) a5 a4 (by omega) (by rw [ea4, es]; rfl) (by rw [ea5, ej]; exact nI_1 j) w H locs R G ls (lv_sub hl [1, 2, 0] rfl)
set_option maxHeartbeats 4000000 in
set_option maxRecDepth 100000 in
theorem c_X5_summed (l : Launch) {E : EV} {w : wo} {m aC aV aL aH aS aZ aI aT : Nat} {n : Nat} {cl vs lk hd : Nat → Int32} {nr : Nat} {so sz : Nat → Int32} {it : Nat → Int64} {oc ow bg dp : Int32} {td : Nat → Int32} {to rs nx : Int32} (R : Rm E w (m, aC, aV, aL, aH, aS, aZ, aI, aT) (n, cl, vs, lk, hd, nr, so, sz, it, oc, ow, bg, dp, td) (to, rs, nx)) {r : Nat} (hr : r < nr) (Kr : nr ≤ 512) (hz : ∃ z, z < 13 ∧ sz r = nI z) {rv : Int32} (er : rv = nI r) : ct_i l E yX5_summed wsX5_summed 1 0 0 [.ref m, .int rv] w (fun q w' => q = 0 ∧ Rm E w' (m, aC, aV, aL, aH, aS, aZ, aI, aT) (n, cl, vs, lk, hd, nr, so, sz, it, oc, ow, bg, dp, td) (to, sm it (12 * r) (cn (sz r)), nx)) := by
  intro zz
  refine wo_body (Qc := fun A => va_Qi _ (wo_B E A) A) (ret := (some .int)) (by decide) rfl (Nat.le_of_ble_eq_true rfl) ?_
  intro p_ e_ s_ m_ args_ below_ meth_ code_ A_ ls S hret hlk hnm G hl
  have hl : lv_has ls 3 [(0, .ref m), (1, .int rv)] := hl
  have hx := S.1
  have hb := S.2.1
  refine lv_aload_n hx hb dX5_summed_0 rfl (lv_at hl 0 rfl) ?_
  refine lv_iconst (v := 0) hx hb dX5_summed_1 (by decide) ?_
  refine g_put (fs' := [.int (nI n), .ref aC, .ref aV, .ref aL, .ref aH, .int (nI nr), .ref aS, .ref aZ, .ref aI, .int oc, .int ow, .int bg, .int dp, .ref aT, .int to, .int 0, .int nx]) (ty := .int) (v := .int 0) S G (Rm_m R) rfl tyX5 tyX5_ok nmX5 (by decide +kernel) 15 (by decide) (by decide +kernel) rfl (by decide +kernel) rfl rfl (Nat.le_of_ble_eq_true rfl) rfl dX5_summed_2 (fun H locs G => ?_)
  obtain ⟨w, R, G⟩ := Rm_ex (Rm_p_rs R 0) G
  refine lv_iconst (v := 0) hx hb dX5_summed_5 (by decide) ?_
  refine lv_istore_n (lv' := [(2, .int 0), (0, .ref m), (1, .int rv)]) hx hb dX5_summed_6 rfl hl (by decide) rfl (fun ls hl => ?_)
  refine lp_summed (rs := 0) S hr Kr hz er (fun ls w H locs R G => ?_) (cn (sz r)) 0 0 0 (by omega) rfl rfl _ _ _ R G ls (lv_sub hl [1, 2, 0] rfl)
  refine lv_iconst (v := 0) hx hb dX5_summed_44 (by decide) ?_
  refine r_int S hret hlk G rfl (Nat.le_of_ble_eq_true rfl) (Nat.le_of_ble_eq_true rfl) dX5_summed_45 ?_
  exact ⟨rfl, R⟩

set_option maxHeartbeats 4000000 in
set_option maxRecDepth 100000 in
theorem c_X5_takes (l : Launch) {E : EV} {w : wo} {m aC aV aL aH aS aZ aI aT : Nat} {n : Nat} {cl vs lk hd : Nat → Int32} {nr : Nat} {so sz : Nat → Int32} {it : Nat → Int64} {oc ow bg dp : Int32} {td : Nat → Int32} {to rs nx : Int32} (R : Rm E w (m, aC, aV, aL, aH, aS, aZ, aI, aT) (n, cl, vs, lk, hd, nr, so, sz, it, oc, ow, bg, dp, td) (to, rs, nx)) (K : Gd (n, cl, vs, lk, hd, nr, so, sz, it, oc, ow, bg, dp, td)) {t : Int32} {a : Nat} (ea : t = nI a) (ha : a < n) : ct_i l E yX5_takes wsX5_takes 1 0 0 [.ref m, .int t] w (fun q w' => q = (tk cl lk hd so sz it a).1 ∧ Rm E w' (m, aC, aV, aL, aH, aS, aZ, aI, aT) (n, cl, vs, lk, hd, nr, so, sz, it, oc, ow, bg, dp, td) (to, rs, (tk cl lk hd so sz it a).2)) := by
  obtain ⟨Kn, Kr, Kc, Kl, Kh, Ks, Kz, Ki⟩ := K
  intro zz
  refine wo_body (Qc := fun A => va_Qi _ (wo_B E A) A) (ret := (some .int)) (by decide) rfl (Nat.le_of_ble_eq_true rfl) ?_
  intro p_ e_ s_ m_ args_ below_ meth_ code_ A_ ls S hret hlk hnm G hl
  have hl : lv_has ls 3 [(0, .ref m), (1, .int t)] := hl
  have hx := S.1
  have hb := S.2.1
  refine lv_aload_n hx hb dX5_takes_0 rfl (lv_at hl 0 rfl) ?_
  refine lv_iconst (v := (-1)) hx hb dX5_takes_1 (by decide) ?_
  refine g_put (fs' := [.int (nI n), .ref aC, .ref aV, .ref aL, .ref aH, .int (nI nr), .ref aS, .ref aZ, .ref aI, .int oc, .int ow, .int bg, .int dp, .ref aT, .int to, .int rs, .int (-1)]) (ty := .int) (v := .int (-1)) S G (Rm_m R) rfl tyX5 tyX5_ok nmX5 (by decide +kernel) 16 (by decide) (by decide +kernel) rfl (by decide +kernel) rfl rfl (Nat.le_of_ble_eq_true rfl) rfl dX5_takes_2 (fun H locs G => ?_)
  obtain ⟨w, R, G⟩ := Rm_ex (Rm_p_nx R (-1)) G
  refine lv_aload_n hx hb dX5_takes_5 rfl (lv_at hl 0 rfl) ?_
  refine g_get S G (Rm_m R) rfl (by decide +kernel) 1 (by decide) (by decide +kernel) rfl dX5_takes_6 ?_
  refine lv_iload_n hx hb dX5_takes_9 rfl (lv_at hl 1 rfl) ?_
  refine g_iald S G (Rm_C R) (vin_e ea (show a < 40 by omega) (by omega)) dX5_takes_10 ?_
  rw [show Int32.toNatClampNeg t = a by rw [ea]; exact nI_clamp (by omega)]
  refine lv_iconst (v := 4) hx hb dX5_takes_11 (by decide) ?_
  refine lv_icmp_ne (tgt := 39) hx hb dX5_takes_12 (by decide) (fun c1 => ?_) (fun c1 => ?_)
  · skip
    refine lv_aload_n hx hb dX5_takes_39 rfl (lv_at hl 0 rfl) ?_
    refine g_get S G (Rm_m R) rfl (by decide +kernel) 4 (by decide) (by decide +kernel) rfl dX5_takes_40 ?_
    refine lv_iload_n hx hb dX5_takes_43 rfl (lv_at hl 1 rfl) ?_
    refine g_iald S G (Rm_H R) (vin_e ea (show a < 40 by omega) (by omega)) dX5_takes_44 ?_
    rw [show Int32.toNatClampNeg t = a by rw [ea]; exact nI_clamp (by omega)]
    rcases Kh a ha with er2 | ⟨r2, hr2, er2⟩
    · skip
      refine lv_istore_n (lv' := [(2, .int (hd a)), (0, .ref m), (1, .int t)]) hx hb dX5_takes_45 rfl hl (by decide) rfl (fun ls hl => ?_)
      refine lv_aload_n hx hb dX5_takes_46 rfl (lv_at hl 1 rfl) ?_
      refine g_get S G (Rm_m R) rfl (by decide +kernel) 1 (by decide) (by decide +kernel) rfl dX5_takes_47 ?_
      refine lv_iload_n hx hb dX5_takes_50 rfl (lv_at hl 2 rfl) ?_
      refine g_iald S G (Rm_C R) (vin_e ea (show a < 40 by omega) (by omega)) dX5_takes_51 ?_
      rw [show Int32.toNatClampNeg t = a by rw [ea]; exact nI_clamp (by omega)]
      refine lv_bipush (v := 6) hx hb dX5_takes_52 (by decide) ?_
      refine lv_icmp_eq (tgt := 59) hx hb dX5_takes_54 (by decide) (fun c3 => ?_) (fun c3 => ?_)
      · skip
        refine lv_iload_n hx hb dX5_takes_59 rfl (lv_at hl 0 rfl) ?_
        refine lv_iconst (v := (-1)) hx hb dX5_takes_60 (by decide) ?_
        refine lv_icmp_eq (tgt := 73) hx hb dX5_takes_61 (by decide) (fun c4 => ?_) (fun c4 => absurd er2 c4)
        refine lv_iload_n hx hb dX5_takes_73 rfl (lv_at hl 0 rfl) ?_
        refine lv_iconst (v := (-1)) hx hb dX5_takes_74 (by decide) ?_
        refine lv_icmp_ne (tgt := 82) hx hb dX5_takes_75 (by decide) (fun c5 => absurd er2 c5) (fun c5 => ?_)
        refine lv_iconst (v := 1) hx hb dX5_takes_78 (by decide) ?_
        refine lv_goto (tgt := 83) hx hb dX5_takes_79 (by decide) ?_
        refine r_int S hret hlk G rfl (Nat.le_of_ble_eq_true rfl) (Nat.le_of_ble_eq_true rfl) dX5_takes_83 ?_
        have e9 : tk cl lk hd so sz it a = (1, (-1)) := by simp only [tk, er2, c1, c3, ↓reduceIte, show ¬ ((6 : Int32) = 4) by decide]
        rw [e9]
        exact ⟨rfl, R⟩
      · skip
        refine lv_iconst (v := 0) hx hb dX5_takes_57 (by decide) ?_
        refine r_int S hret hlk G rfl (Nat.le_of_ble_eq_true rfl) (Nat.le_of_ble_eq_true rfl) dX5_takes_58 ?_
        have e9 : tk cl lk hd so sz it a = (0, (-1)) := by simp only [tk, er2, c1, c3, ↓reduceIte, show ¬ ((6 : Int32) = 4) by decide]
        rw [e9]
        exact ⟨rfl, R⟩
    · skip
      have zr2 := sz_le (Kz r2 hr2)
      refine lv_istore_n (lv' := [(2, .int (hd a)), (0, .ref m), (1, .int t)]) hx hb dX5_takes_45 rfl hl (by decide) rfl (fun ls hl => ?_)
      refine lv_aload_n hx hb dX5_takes_46 rfl (lv_at hl 1 rfl) ?_
      refine g_get S G (Rm_m R) rfl (by decide +kernel) 1 (by decide) (by decide +kernel) rfl dX5_takes_47 ?_
      refine lv_iload_n hx hb dX5_takes_50 rfl (lv_at hl 2 rfl) ?_
      refine g_iald S G (Rm_C R) (vin_e ea (show a < 40 by omega) (by omega)) dX5_takes_51 ?_
      rw [show Int32.toNatClampNeg t = a by rw [ea]; exact nI_clamp (by omega)]
      refine lv_bipush (v := 6) hx hb dX5_takes_52 (by decide) ?_
      refine lv_icmp_eq (tgt := 59) hx hb dX5_takes_54 (by decide) (fun c6 => ?_) (fun c6 => ?_)
      · skip
        refine lv_iload_n hx hb dX5_takes_59 rfl (lv_at hl 0 rfl) ?_
        refine lv_iconst (v := (-1)) hx hb dX5_takes_60 (by decide) ?_
        refine lv_icmp_eq (tgt := 73) hx hb dX5_takes_61 (by decide) (fun c7 => absurd c7 (by rw [er2]; exact nm1 (by omega))) (fun c7 => ?_)
        refine lv_aload_n hx hb dX5_takes_64 rfl (lv_at hl 1 rfl) ?_
        refine g_get S G (Rm_m R) rfl (by decide +kernel) 7 (by decide) (by decide +kernel) rfl dX5_takes_65 ?_
        refine lv_iload_n hx hb dX5_takes_68 rfl (lv_at hl 0 rfl) ?_
        refine g_iald S G (Rm_Z R) (vin_e er2 (show r2 < 520 by omega) (by omega)) dX5_takes_69 ?_
        rw [show Int32.toNatClampNeg (hd a) = r2 by rw [er2]; exact nI_clamp (by omega)]
        refine lv_if_ne (tgt := 84) hx hb dX5_takes_70 (by decide) (fun c8 => ?_) (fun c8 => ?_)
        · skip
          refine lv_aload_n hx hb dX5_takes_84 rfl (lv_at hl 1 rfl) ?_
          refine g_get S G (Rm_m R) rfl (by decide +kernel) 6 (by decide) (by decide +kernel) rfl dX5_takes_85 ?_
          refine lv_iload_n hx hb dX5_takes_88 rfl (lv_at hl 0 rfl) ?_
          refine g_iald S G (Rm_S R) (vin_e er2 (show r2 < 520 by omega) (by omega)) dX5_takes_89 ?_
          rw [show Int32.toNatClampNeg (hd a) = r2 by rw [er2]; exact nI_clamp (by omega)]
          refine lv_iconst (v := 2) hx hb dX5_takes_90 (by decide) ?_
          refine lv_icmp_ge (tgt := 96) hx hb dX5_takes_91 (by decide) (fun c9 => ?_) (fun c9 => ?_)
          · skip
            refine lv_aload_n hx hb dX5_takes_96 rfl (lv_at hl 1 rfl) ?_
            refine lv_aload_n hx hb dX5_takes_97 rfl (lv_at hl 1 rfl) ?_
            refine g_get S G (Rm_m R) rfl (by decide +kernel) 8 (by decide) (by decide +kernel) rfl dX5_takes_98 ?_
            refine lv_bipush (v := 12) hx hb dX5_takes_101 (by decide) ?_
            refine lv_iload_n hx hb dX5_takes_103 rfl (lv_at hl 0 rfl) ?_
            refine lv_imul hx hb dX5_takes_104 ?_
            refine lv_topi (fun a10 ea10 => ?_)
            have da10 : a10 = nI (12 * r2) := by rw [ea10, er2]; exact pk_mul 12 r2
            refine g_lald S G (Rm_I R) (vin_e da10 (show 12 * r2 < 6240 by omega) (by omega)) dX5_takes_105 ?_
            rw [show Int32.toNatClampNeg a10 = 12 * r2 by rw [da10]; exact nI_clamp (by omega)]
            refine lv_l2i (v := (Int64.toInt32 (it (12 * r2)))) hx hb dX5_takes_106 rfl ?_
            refine g_put (fs' := [.int (nI n), .ref aC, .ref aV, .ref aL, .ref aH, .int (nI nr), .ref aS, .ref aZ, .ref aI, .int oc, .int ow, .int bg, .int dp, .ref aT, .int to, .int rs, .int (Int64.toInt32 (it (12 * r2)))]) (ty := .int) (v := .int (Int64.toInt32 (it (12 * r2)))) S G (Rm_m R) rfl tyX5 tyX5_ok nmX5 (by decide +kernel) 16 (by decide) (by decide +kernel) rfl (by decide +kernel) rfl rfl (Nat.le_of_ble_eq_true rfl) rfl dX5_takes_107 (fun H locs G => ?_)
            obtain ⟨w, R, G⟩ := Rm_ex (Rm_p_nx R (Int64.toInt32 (it (12 * r2)))) G
            refine lv_aload_n hx hb dX5_takes_110 rfl (lv_at hl 1 rfl) ?_
            refine g_get S G (Rm_m R) rfl (by decide +kernel) 16 (by decide) (by decide +kernel) rfl dX5_takes_111 ?_
            refine lv_iconst (v := (-1)) hx hb dX5_takes_114 (by decide) ?_
            refine lv_icmp_ne (tgt := 122) hx hb dX5_takes_115 (by decide) (fun c11 => ?_) (fun c11 => ?_)
            · skip
              refine lv_iconst (v := 0) hx hb dX5_takes_122 (by decide) ?_
              refine r_int S hret hlk G rfl (Nat.le_of_ble_eq_true rfl) (Nat.le_of_ble_eq_true rfl) dX5_takes_123 ?_
              have qr2 := nm1 (show r2 < 100000 by omega)
              have g9 : ¬ so r2 < 2 := Int32.not_lt.mpr c9
              have e9 : tk cl lk hd so sz it a = (0, (Int64.toInt32 (it (12 * r2)))) := by simp only [tk, er2, qr2, cn_nI (show r2 < 2 ^ 31 by omega), c1, c6, c8, g9, c11, ↓reduceIte, show ¬ ((6 : Int32) = 4) by decide]
              rw [e9]
              exact ⟨rfl, R⟩
            · skip
              refine lv_iconst (v := 1) hx hb dX5_takes_118 (by decide) ?_
              refine lv_goto (tgt := 123) hx hb dX5_takes_119 (by decide) ?_
              refine r_int S hret hlk G rfl (Nat.le_of_ble_eq_true rfl) (Nat.le_of_ble_eq_true rfl) dX5_takes_123 ?_
              have qr2 := nm1 (show r2 < 100000 by omega)
              have g9 : ¬ so r2 < 2 := Int32.not_lt.mpr c9
              have e9 : tk cl lk hd so sz it a = (1, (Int64.toInt32 (it (12 * r2)))) := by simp only [tk, er2, qr2, cn_nI (show r2 < 2 ^ 31 by omega), c1, c6, c8, g9, c11, ↓reduceIte, show ¬ ((6 : Int32) = 4) by decide]
              rw [e9]
              exact ⟨rfl, R⟩
          · skip
            refine lv_iconst (v := 0) hx hb dX5_takes_94 (by decide) ?_
            refine r_int S hret hlk G rfl (Nat.le_of_ble_eq_true rfl) (Nat.le_of_ble_eq_true rfl) dX5_takes_95 ?_
            have qr2 := nm1 (show r2 < 100000 by omega)
            have g9 : so r2 < 2 := Int32.not_le.mp c9
            have e9 : tk cl lk hd so sz it a = (0, (-1)) := by simp only [tk, er2, qr2, cn_nI (show r2 < 2 ^ 31 by omega), c1, c6, c8, g9, ↓reduceIte, show ¬ ((6 : Int32) = 4) by decide]
            rw [e9]
            exact ⟨rfl, R⟩
        · skip
          refine lv_iload_n hx hb dX5_takes_73 rfl (lv_at hl 0 rfl) ?_
          refine lv_iconst (v := (-1)) hx hb dX5_takes_74 (by decide) ?_
          refine lv_icmp_ne (tgt := 82) hx hb dX5_takes_75 (by decide) (fun c12 => ?_) (fun c12 => absurd c12 (by rw [er2]; exact nm1 (by omega)))
          refine lv_iconst (v := 3) hx hb dX5_takes_82 (by decide) ?_
          refine r_int S hret hlk G rfl (Nat.le_of_ble_eq_true rfl) (Nat.le_of_ble_eq_true rfl) dX5_takes_83 ?_
          have qr2 := nm1 (show r2 < 100000 by omega)
          have e9 : tk cl lk hd so sz it a = (3, (-1)) := by simp only [tk, er2, qr2, cn_nI (show r2 < 2 ^ 31 by omega), c1, c6, c8, ↓reduceIte, show ¬ ((6 : Int32) = 4) by decide]
          rw [e9]
          exact ⟨rfl, R⟩
      · skip
        refine lv_iconst (v := 0) hx hb dX5_takes_57 (by decide) ?_
        refine r_int S hret hlk G rfl (Nat.le_of_ble_eq_true rfl) (Nat.le_of_ble_eq_true rfl) dX5_takes_58 ?_
        have qr2 := nm1 (show r2 < 100000 by omega)
        have e9 : tk cl lk hd so sz it a = (0, (-1)) := by simp only [tk, er2, qr2, cn_nI (show r2 < 2 ^ 31 by omega), c1, c6, ↓reduceIte, show ¬ ((6 : Int32) = 4) by decide]
        rw [e9]
        exact ⟨rfl, R⟩
  · skip
    refine lv_aload_n hx hb dX5_takes_15 rfl (lv_at hl 0 rfl) ?_
    refine lv_aload_n hx hb dX5_takes_16 rfl (lv_at hl 0 rfl) ?_
    refine g_get S G (Rm_m R) rfl (by decide +kernel) 3 (by decide) (by decide +kernel) rfl dX5_takes_17 ?_
    refine lv_iload_n hx hb dX5_takes_20 rfl (lv_at hl 1 rfl) ?_
    refine g_iald S G (Rm_L R) (vin_e ea (show a < 40 by omega) (by omega)) dX5_takes_21 ?_
    rw [show Int32.toNatClampNeg t = a by rw [ea]; exact nI_clamp (by omega)]
    rcases Kl a ha with ek13 | ⟨k13, hk13, ek13⟩
    · skip
      refine g_put (fs' := [.int (nI n), .ref aC, .ref aV, .ref aL, .ref aH, .int (nI nr), .ref aS, .ref aZ, .ref aI, .int oc, .int ow, .int bg, .int dp, .ref aT, .int to, .int rs, .int (lk a)]) (ty := .int) (v := .int (lk a)) S G (Rm_m R) rfl tyX5 tyX5_ok nmX5 (by decide +kernel) 16 (by decide) (by decide +kernel) rfl (by decide +kernel) rfl rfl (Nat.le_of_ble_eq_true rfl) rfl dX5_takes_22 (fun H locs G => ?_)
      obtain ⟨w, R, G⟩ := Rm_ex (Rm_p_nx R (lk a)) G
      refine lv_aload_n hx hb dX5_takes_25 rfl (lv_at hl 0 rfl) ?_
      refine g_get S G (Rm_m R) rfl (by decide +kernel) 16 (by decide) (by decide +kernel) rfl dX5_takes_26 ?_
      refine lv_iconst (v := (-1)) hx hb dX5_takes_29 (by decide) ?_
      refine lv_icmp_ne (tgt := 37) hx hb dX5_takes_30 (by decide) (fun c14 => absurd ek13 c14) (fun c14 => ?_)
      refine lv_iconst (v := 1) hx hb dX5_takes_33 (by decide) ?_
      refine lv_goto (tgt := 38) hx hb dX5_takes_34 (by decide) ?_
      refine r_int S hret hlk G rfl (Nat.le_of_ble_eq_true rfl) (Nat.le_of_ble_eq_true rfl) dX5_takes_38 ?_
      have e9 : tk cl lk hd so sz it a = (1, (lk a)) := by simp only [tk, ek13, c1, ↓reduceIte, show ¬ ((6 : Int32) = 4) by decide]
      rw [e9]
      exact ⟨rfl, R⟩
    · skip
      refine g_put (fs' := [.int (nI n), .ref aC, .ref aV, .ref aL, .ref aH, .int (nI nr), .ref aS, .ref aZ, .ref aI, .int oc, .int ow, .int bg, .int dp, .ref aT, .int to, .int rs, .int (lk a)]) (ty := .int) (v := .int (lk a)) S G (Rm_m R) rfl tyX5 tyX5_ok nmX5 (by decide +kernel) 16 (by decide) (by decide +kernel) rfl (by decide +kernel) rfl rfl (Nat.le_of_ble_eq_true rfl) rfl dX5_takes_22 (fun H locs G => ?_)
      obtain ⟨w, R, G⟩ := Rm_ex (Rm_p_nx R (lk a)) G
      refine lv_aload_n hx hb dX5_takes_25 rfl (lv_at hl 0 rfl) ?_
      refine g_get S G (Rm_m R) rfl (by decide +kernel) 16 (by decide) (by decide +kernel) rfl dX5_takes_26 ?_
      refine lv_iconst (v := (-1)) hx hb dX5_takes_29 (by decide) ?_
      refine lv_icmp_ne (tgt := 37) hx hb dX5_takes_30 (by decide) (fun c15 => ?_) (fun c15 => absurd c15 (by rw [ek13]; exact nm1 (by omega)))
      refine lv_iconst (v := 0) hx hb dX5_takes_37 (by decide) ?_
      refine r_int S hret hlk G rfl (Nat.le_of_ble_eq_true rfl) (Nat.le_of_ble_eq_true rfl) dX5_takes_38 ?_
      have qk13 := nm1 (show k13 < 100000 by omega)
      have e9 : tk cl lk hd so sz it a = (0, (lk a)) := by simp only [tk, ek13, qk13, cn_nI (show k13 < 2 ^ 31 by omega), c1, ↓reduceIte, show ¬ ((6 : Int32) = 4) by decide]
      rw [e9]
      exact ⟨rfl, R⟩

set_option maxHeartbeats 4000000 in
set_option maxRecDepth 100000 in
theorem c_X5_plain (l : Launch) {E : EV} {w : wo} {m aC aV aL aH aS aZ aI aT : Nat} {n : Nat} {cl vs lk hd : Nat → Int32} {nr : Nat} {so sz : Nat → Int32} {it : Nat → Int64} {oc ow bg dp : Int32} {td : Nat → Int32} {to rs nx : Int32} (R : Rm E w (m, aC, aV, aL, aH, aS, aZ, aI, aT) (n, cl, vs, lk, hd, nr, so, sz, it, oc, ow, bg, dp, td) (to, rs, nx)) (K : Gd (n, cl, vs, lk, hd, nr, so, sz, it, oc, ow, bg, dp, td)) {t : Int32} {a : Nat} (ea : t = nI a) (ha : a < n) (h4 : ¬ cl a = 4) (h6 : cl a = 6 → ¬ hd a = -1) : ct_i l E yX5_plain wsX5_plain 2 0 0 [.ref m, .int t] w (fun q w' => q = (pl cl vs hd so sz it a).1 ∧ ∃ to2 rs2 : Int32, Rm E w' (m, aC, aV, aL, aH, aS, aZ, aI, aT) (n, cl, vs, lk, hd, nr, so, sz, it, oc, ow, bg, dp, td) (to2, rs2, nx) ∧ ((pl cl vs hd so sz it a).1 = 0 → rs2 = (pl cl vs hd so sz it a).2.1) ∧ ((pl cl vs hd so sz it a).1 = 7 → to2 = (pl cl vs hd so sz it a).2.2)) := by
  obtain ⟨Kn, Kr, Kc, Kl, Kh, Ks, Kz, Ki⟩ := K
  intro zz
  refine wo_body (Qc := fun A => va_Qi _ (wo_B E A) A) (ret := (some .int)) (by decide) rfl (Nat.le_of_ble_eq_true rfl) ?_
  intro p_ e_ s_ m_ args_ below_ meth_ code_ A_ ls S hret hlk hnm G hl
  have hl : lv_has ls 4 [(0, .ref m), (1, .int t)] := hl
  have hx := S.1
  have hb := S.2.1
  refine lv_aload_n hx hb dX5_plain_0 rfl (lv_at hl 0 rfl) ?_
  refine g_get S G (Rm_m R) rfl (by decide +kernel) 2 (by decide) (by decide +kernel) rfl dX5_plain_1 ?_
  refine lv_iload_n hx hb dX5_plain_4 rfl (lv_at hl 1 rfl) ?_
  refine g_iald S G (Rm_V R) (vin_e ea (show a < 40 by omega) (by omega)) dX5_plain_5 ?_
  rw [show Int32.toNatClampNeg t = a by rw [ea]; exact nI_clamp (by omega)]
  refine lv_istore_n (lv' := [(2, .int (vs a)), (0, .ref m), (1, .int t)]) hx hb dX5_plain_6 rfl hl (by decide) rfl (fun ls hl => ?_)
  refine lv_aload_n hx hb dX5_plain_7 rfl (lv_at hl 1 rfl) ?_
  refine g_get S G (Rm_m R) rfl (by decide +kernel) 4 (by decide) (by decide +kernel) rfl dX5_plain_8 ?_
  refine lv_iload_n hx hb dX5_plain_11 rfl (lv_at hl 2 rfl) ?_
  refine g_iald S G (Rm_H R) (vin_e ea (show a < 40 by omega) (by omega)) dX5_plain_12 ?_
  rw [show Int32.toNatClampNeg t = a by rw [ea]; exact nI_clamp (by omega)]
  rcases Kh a ha with er1 | ⟨r1, hr1, er1⟩
  · skip
    refine lv_istore_n (lv' := [(3, .int (hd a)), (2, .int (vs a)), (0, .ref m), (1, .int t)]) hx hb dX5_plain_13 rfl hl (by decide) rfl (fun ls hl => ?_)
    refine lv_aload_n hx hb dX5_plain_14 rfl (lv_at hl 2 rfl) ?_
    refine g_get S G (Rm_m R) rfl (by decide +kernel) 1 (by decide) (by decide +kernel) rfl dX5_plain_15 ?_
    refine lv_iload_n hx hb dX5_plain_18 rfl (lv_at hl 3 rfl) ?_
    refine g_iald S G (Rm_C R) (vin_e ea (show a < 40 by omega) (by omega)) dX5_plain_19 ?_
    rw [show Int32.toNatClampNeg t = a by rw [ea]; exact nI_clamp (by omega)]
    obtain ⟨cc, hcc, ec⟩ := Kc a ha
    rcases (show cc = 0 ∨ cc = 1 ∨ cc = 2 ∨ cc = 3 ∨ cc = 4 ∨ cc = 5 ∨ cc = 6 ∨ cc = 7 by omega) with rfl | rfl | rfl | rfl | rfl | rfl | rfl | rfl
    · skip
      replace ec : cl a = 0 := ec
      refine lv_tableIn (off := 44) (tgt := 64) hx hb dX5_plain_20 (by rw [ec]; decide) (by rw [ec]; decide) (by rw [ec]; rfl) (by decide) ?_
      refine lv_aload_n hx hb dX5_plain_64 rfl (lv_at hl 2 rfl) ?_
      refine lv_iload_n hx hb dX5_plain_65 rfl (lv_at hl 1 rfl) ?_
      refine g_put (fs' := [.int (nI n), .ref aC, .ref aV, .ref aL, .ref aH, .int (nI nr), .ref aS, .ref aZ, .ref aI, .int oc, .int ow, .int bg, .int dp, .ref aT, .int to, .int (vs a), .int nx]) (ty := .int) (v := .int (vs a)) S G (Rm_m R) rfl tyX5 tyX5_ok nmX5 (by decide +kernel) 15 (by decide) (by decide +kernel) rfl (by decide +kernel) rfl rfl (Nat.le_of_ble_eq_true rfl) rfl dX5_plain_66 (fun H locs G => ?_)
      obtain ⟨w, R, G⟩ := Rm_ex (Rm_p_rs R (vs a)) G
      refine lv_iconst (v := 0) hx hb dX5_plain_69 (by decide) ?_
      refine r_int S hret hlk G rfl (Nat.le_of_ble_eq_true rfl) (Nat.le_of_ble_eq_true rfl) dX5_plain_70 ?_
      have e9 : pl cl vs hd so sz it a = (0, vs a, 0) := by simp only [pl, ec, er1, ↓reduceIte, show ¬ ((0 : Int32) = 1) by decide, show ¬ ((0 : Int32) = 2) by decide, show ¬ ((0 : Int32) = 3) by decide, show ¬ ((0 : Int32) = 4) by decide, show ¬ ((0 : Int32) = 5) by decide, show ¬ ((0 : Int32) = 6) by decide, show ¬ ((0 : Int32) = 7) by decide]
      rw [e9]
      exact ⟨rfl, _, _, R, fun _ => rfl, fun z => absurd z (by dsimp only; decide)⟩
    · skip
      replace ec : cl a = 1 := ec
      refine lv_tableIn (off := 51) (tgt := 71) hx hb dX5_plain_20 (by rw [ec]; decide) (by rw [ec]; decide) (by rw [ec]; rfl) (by decide) ?_
      refine lv_aload_n hx hb dX5_plain_71 rfl (lv_at hl 2 rfl) ?_
      refine lv_iconst (v := 2) hx hb dX5_plain_72 (by decide) ?_
      refine lv_iload_n hx hb dX5_plain_73 rfl (lv_at hl 1 rfl) ?_
      refine lv_imul hx hb dX5_plain_74 ?_
      refine lv_topi (fun a2 ea2 => ?_)
      refine g_put (fs' := [.int (nI n), .ref aC, .ref aV, .ref aL, .ref aH, .int (nI nr), .ref aS, .ref aZ, .ref aI, .int oc, .int ow, .int bg, .int dp, .ref aT, .int to, .int a2, .int nx]) (ty := .int) (v := .int a2) S G (Rm_m R) rfl tyX5 tyX5_ok nmX5 (by decide +kernel) 15 (by decide) (by decide +kernel) rfl (by decide +kernel) rfl rfl (Nat.le_of_ble_eq_true rfl) rfl dX5_plain_75 (fun H locs G => ?_)
      obtain ⟨w, R, G⟩ := Rm_ex (Rm_p_rs R a2) G
      refine lv_iconst (v := 0) hx hb dX5_plain_78 (by decide) ?_
      refine r_int S hret hlk G rfl (Nat.le_of_ble_eq_true rfl) (Nat.le_of_ble_eq_true rfl) dX5_plain_79 ?_
      have e9 : pl cl vs hd so sz it a = (0, 2 * vs a, 0) := by simp only [pl, ec, er1, ↓reduceIte, show ¬ ((1 : Int32) = 0) by decide, show ¬ ((1 : Int32) = 2) by decide, show ¬ ((1 : Int32) = 3) by decide, show ¬ ((1 : Int32) = 4) by decide, show ¬ ((1 : Int32) = 5) by decide, show ¬ ((1 : Int32) = 6) by decide, show ¬ ((1 : Int32) = 7) by decide]
      rw [e9]
      exact ⟨rfl, _, _, R, fun _ => ea2, fun z => absurd z (by dsimp only; decide)⟩
    · skip
      replace ec : cl a = 2 := ec
      refine lv_tableIn (off := 60) (tgt := 80) hx hb dX5_plain_20 (by rw [ec]; decide) (by rw [ec]; decide) (by rw [ec]; rfl) (by decide) ?_
      refine lv_aload_n hx hb dX5_plain_80 rfl (lv_at hl 2 rfl) ?_
      refine lv_iconst (v := 3) hx hb dX5_plain_81 (by decide) ?_
      refine lv_iload_n hx hb dX5_plain_82 rfl (lv_at hl 1 rfl) ?_
      refine lv_imul hx hb dX5_plain_83 ?_
      refine lv_topi (fun a3 ea3 => ?_)
      refine g_put (fs' := [.int (nI n), .ref aC, .ref aV, .ref aL, .ref aH, .int (nI nr), .ref aS, .ref aZ, .ref aI, .int oc, .int ow, .int bg, .int dp, .ref aT, .int to, .int a3, .int nx]) (ty := .int) (v := .int a3) S G (Rm_m R) rfl tyX5 tyX5_ok nmX5 (by decide +kernel) 15 (by decide) (by decide +kernel) rfl (by decide +kernel) rfl rfl (Nat.le_of_ble_eq_true rfl) rfl dX5_plain_84 (fun H locs G => ?_)
      obtain ⟨w, R, G⟩ := Rm_ex (Rm_p_rs R a3) G
      refine lv_iconst (v := 0) hx hb dX5_plain_87 (by decide) ?_
      refine r_int S hret hlk G rfl (Nat.le_of_ble_eq_true rfl) (Nat.le_of_ble_eq_true rfl) dX5_plain_88 ?_
      have e9 : pl cl vs hd so sz it a = (0, 3 * vs a, 0) := by simp only [pl, ec, er1, ↓reduceIte, show ¬ ((2 : Int32) = 0) by decide, show ¬ ((2 : Int32) = 1) by decide, show ¬ ((2 : Int32) = 3) by decide, show ¬ ((2 : Int32) = 4) by decide, show ¬ ((2 : Int32) = 5) by decide, show ¬ ((2 : Int32) = 6) by decide, show ¬ ((2 : Int32) = 7) by decide]
      rw [e9]
      exact ⟨rfl, _, _, R, fun _ => ea3, fun z => absurd z (by dsimp only; decide)⟩
    · skip
      replace ec : cl a = 3 := ec
      refine lv_tableIn (off := 69) (tgt := 89) hx hb dX5_plain_20 (by rw [ec]; decide) (by rw [ec]; decide) (by rw [ec]; rfl) (by decide) ?_
      refine lv_aload_n hx hb dX5_plain_89 rfl (lv_at hl 2 rfl) ?_
      refine lv_iload_n hx hb dX5_plain_90 rfl (lv_at hl 1 rfl) ?_
      refine lv_if_ne (tgt := 98) hx hb dX5_plain_91 (by decide) (fun c4 => ?_) (fun c4 => ?_)
      · skip
        refine lv_sipush (v := 1000) hx hb dX5_plain_98 (by decide) ?_
        refine lv_iload_n hx hb dX5_plain_101 rfl (lv_at hl 1 rfl) ?_
        refine lv_idiv hx hb dX5_plain_102 c4 ?_
        refine lv_topi (fun a5 ea5 => ?_)
        refine g_put (fs' := [.int (nI n), .ref aC, .ref aV, .ref aL, .ref aH, .int (nI nr), .ref aS, .ref aZ, .ref aI, .int oc, .int ow, .int bg, .int dp, .ref aT, .int to, .int a5, .int nx]) (ty := .int) (v := .int a5) S G (Rm_m R) rfl tyX5 tyX5_ok nmX5 (by decide +kernel) 15 (by decide) (by decide +kernel) rfl (by decide +kernel) rfl rfl (Nat.le_of_ble_eq_true rfl) rfl dX5_plain_103 (fun H locs G => ?_)
        obtain ⟨w, R, G⟩ := Rm_ex (Rm_p_rs R a5) G
        refine lv_iload_n hx hb dX5_plain_106 rfl (lv_at hl 1 rfl) ?_
        refine lv_if_ne (tgt := 115) hx hb dX5_plain_107 (by decide) (fun c6 => ?_) (fun c6 => absurd c6 c4)
        refine lv_iconst (v := 0) hx hb dX5_plain_115 (by decide) ?_
        refine r_int S hret hlk G rfl (Nat.le_of_ble_eq_true rfl) (Nat.le_of_ble_eq_true rfl) dX5_plain_116 ?_
        have e9 : pl cl vs hd so sz it a = (0, 1000 / vs a, 0) := by simp only [pl, ec, er1, c4, ↓reduceIte, show ¬ ((3 : Int32) = 0) by decide, show ¬ ((3 : Int32) = 1) by decide, show ¬ ((3 : Int32) = 2) by decide, show ¬ ((3 : Int32) = 4) by decide, show ¬ ((3 : Int32) = 5) by decide, show ¬ ((3 : Int32) = 6) by decide, show ¬ ((3 : Int32) = 7) by decide]
        rw [e9]
        exact ⟨rfl, _, _, R, fun _ => ea5, fun z => absurd z (by dsimp only; decide)⟩
      · skip
        refine lv_iconst (v := 0) hx hb dX5_plain_94 (by decide) ?_
        refine lv_goto (tgt := 103) hx hb dX5_plain_95 (by decide) ?_
        refine g_put (fs' := [.int (nI n), .ref aC, .ref aV, .ref aL, .ref aH, .int (nI nr), .ref aS, .ref aZ, .ref aI, .int oc, .int ow, .int bg, .int dp, .ref aT, .int to, .int 0, .int nx]) (ty := .int) (v := .int 0) S G (Rm_m R) rfl tyX5 tyX5_ok nmX5 (by decide +kernel) 15 (by decide) (by decide +kernel) rfl (by decide +kernel) rfl rfl (Nat.le_of_ble_eq_true rfl) rfl dX5_plain_103 (fun H locs G => ?_)
        obtain ⟨w, R, G⟩ := Rm_ex (Rm_p_rs R 0) G
        refine lv_iload_n hx hb dX5_plain_106 rfl (lv_at hl 1 rfl) ?_
        refine lv_if_ne (tgt := 115) hx hb dX5_plain_107 (by decide) (fun c7 => absurd c4 c7) (fun c7 => ?_)
        refine lv_bipush (v := 6) hx hb dX5_plain_110 (by decide) ?_
        refine lv_goto (tgt := 116) hx hb dX5_plain_112 (by decide) ?_
        refine r_int S hret hlk G rfl (Nat.le_of_ble_eq_true rfl) (Nat.le_of_ble_eq_true rfl) dX5_plain_116 ?_
        have e9 : pl cl vs hd so sz it a = (6, 0, 0) := by simp only [pl, ec, er1, c4, ↓reduceIte, show ¬ ((3 : Int32) = 0) by decide, show ¬ ((3 : Int32) = 1) by decide, show ¬ ((3 : Int32) = 2) by decide, show ¬ ((3 : Int32) = 4) by decide, show ¬ ((3 : Int32) = 5) by decide, show ¬ ((3 : Int32) = 6) by decide, show ¬ ((3 : Int32) = 7) by decide]
        rw [e9]
        exact ⟨rfl, _, _, R, fun z => absurd z (by dsimp only; decide), fun z => absurd z (by dsimp only; decide)⟩
    · skip
      replace ec : cl a = 4 := ec
      exact absurd ec h4
    · skip
      replace ec : cl a = 5 := ec
      refine lv_tableIn (off := 97) (tgt := 117) hx hb dX5_plain_20 (by rw [ec]; decide) (by rw [ec]; decide) (by rw [ec]; rfl) (by decide) ?_
      refine lv_aload_n hx hb dX5_plain_117 rfl (lv_at hl 2 rfl) ?_
      refine lv_iload_n hx hb dX5_plain_118 rfl (lv_at hl 1 rfl) ?_
      refine g_put (fs' := [.int (nI n), .ref aC, .ref aV, .ref aL, .ref aH, .int (nI nr), .ref aS, .ref aZ, .ref aI, .int oc, .int ow, .int bg, .int dp, .ref aT, .int (vs a), .int rs, .int nx]) (ty := .int) (v := .int (vs a)) S G (Rm_m R) rfl tyX5 tyX5_ok nmX5 (by decide +kernel) 14 (by decide) (by decide +kernel) rfl (by decide +kernel) rfl rfl (Nat.le_of_ble_eq_true rfl) rfl dX5_plain_119 (fun H locs G => ?_)
      obtain ⟨w, R, G⟩ := Rm_ex (Rm_p_to R (vs a)) G
      refine lv_iload_n hx hb dX5_plain_122 rfl (lv_at hl 1 rfl) ?_
      refine lv_if_ne (tgt := 130) hx hb dX5_plain_123 (by decide) (fun c8 => ?_) (fun c8 => ?_)
      · skip
        refine lv_bipush (v := 7) hx hb dX5_plain_130 (by decide) ?_
        refine r_int S hret hlk G rfl (Nat.le_of_ble_eq_true rfl) (Nat.le_of_ble_eq_true rfl) dX5_plain_132 ?_
        have e9 : pl cl vs hd so sz it a = (7, 0, vs a) := by simp only [pl, ec, er1, c8, ↓reduceIte, show ¬ ((5 : Int32) = 0) by decide, show ¬ ((5 : Int32) = 1) by decide, show ¬ ((5 : Int32) = 2) by decide, show ¬ ((5 : Int32) = 3) by decide, show ¬ ((5 : Int32) = 4) by decide, show ¬ ((5 : Int32) = 6) by decide, show ¬ ((5 : Int32) = 7) by decide]
        rw [e9]
        exact ⟨rfl, _, _, R, fun z => absurd z (by dsimp only; decide), fun _ => rfl⟩
      · skip
        refine lv_iconst (v := 1) hx hb dX5_plain_126 (by decide) ?_
        refine lv_goto (tgt := 132) hx hb dX5_plain_127 (by decide) ?_
        refine r_int S hret hlk G rfl (Nat.le_of_ble_eq_true rfl) (Nat.le_of_ble_eq_true rfl) dX5_plain_132 ?_
        have e9 : pl cl vs hd so sz it a = (1, 0, 0) := by simp only [pl, ec, er1, c8, ↓reduceIte, show ¬ ((5 : Int32) = 0) by decide, show ¬ ((5 : Int32) = 1) by decide, show ¬ ((5 : Int32) = 2) by decide, show ¬ ((5 : Int32) = 3) by decide, show ¬ ((5 : Int32) = 4) by decide, show ¬ ((5 : Int32) = 6) by decide, show ¬ ((5 : Int32) = 7) by decide]
        rw [e9]
        exact ⟨rfl, _, _, R, fun z => absurd z (by dsimp only; decide), fun z => absurd z (by dsimp only; decide)⟩
    · skip
      replace ec : cl a = 6 := ec
      exact absurd er1 (h6 ec)
    · skip
      replace ec : cl a = 7 := ec
      refine lv_tableOut (tgt := 149) hx hb dX5_plain_20 (by rw [ec]; decide) (by decide) ?_
      refine lv_iload_n hx hb dX5_plain_149 rfl (lv_at hl 0 rfl) ?_
      refine lv_iconst (v := (-1)) hx hb dX5_plain_150 (by decide) ?_
      refine lv_icmp_ne (tgt := 158) hx hb dX5_plain_151 (by decide) (fun c9 => absurd er1 c9) (fun c9 => ?_)
      refine lv_iconst (v := 1) hx hb dX5_plain_154 (by decide) ?_
      refine lv_goto (tgt := 176) hx hb dX5_plain_155 (by decide) ?_
      refine r_int S hret hlk G rfl (Nat.le_of_ble_eq_true rfl) (Nat.le_of_ble_eq_true rfl) dX5_plain_176 ?_
      have e9 : pl cl vs hd so sz it a = (1, 0, 0) := by simp only [pl, ec, er1, ↓reduceIte, show ¬ ((7 : Int32) = 0) by decide, show ¬ ((7 : Int32) = 1) by decide, show ¬ ((7 : Int32) = 2) by decide, show ¬ ((7 : Int32) = 3) by decide, show ¬ ((7 : Int32) = 4) by decide, show ¬ ((7 : Int32) = 5) by decide, show ¬ ((7 : Int32) = 6) by decide]
      rw [e9]
      exact ⟨rfl, _, _, R, fun z => absurd z (by dsimp only; decide), fun z => absurd z (by dsimp only; decide)⟩
  · skip
    have zr1 := sz_le (Kz r1 hr1)
    refine lv_istore_n (lv' := [(3, .int (hd a)), (2, .int (vs a)), (0, .ref m), (1, .int t)]) hx hb dX5_plain_13 rfl hl (by decide) rfl (fun ls hl => ?_)
    refine lv_aload_n hx hb dX5_plain_14 rfl (lv_at hl 2 rfl) ?_
    refine g_get S G (Rm_m R) rfl (by decide +kernel) 1 (by decide) (by decide +kernel) rfl dX5_plain_15 ?_
    refine lv_iload_n hx hb dX5_plain_18 rfl (lv_at hl 3 rfl) ?_
    refine g_iald S G (Rm_C R) (vin_e ea (show a < 40 by omega) (by omega)) dX5_plain_19 ?_
    rw [show Int32.toNatClampNeg t = a by rw [ea]; exact nI_clamp (by omega)]
    obtain ⟨cc, hcc, ec⟩ := Kc a ha
    rcases (show cc = 0 ∨ cc = 1 ∨ cc = 2 ∨ cc = 3 ∨ cc = 4 ∨ cc = 5 ∨ cc = 6 ∨ cc = 7 by omega) with rfl | rfl | rfl | rfl | rfl | rfl | rfl | rfl
    · skip
      replace ec : cl a = 0 := ec
      refine lv_tableIn (off := 44) (tgt := 64) hx hb dX5_plain_20 (by rw [ec]; decide) (by rw [ec]; decide) (by rw [ec]; rfl) (by decide) ?_
      refine lv_aload_n hx hb dX5_plain_64 rfl (lv_at hl 2 rfl) ?_
      refine lv_iload_n hx hb dX5_plain_65 rfl (lv_at hl 1 rfl) ?_
      refine g_put (fs' := [.int (nI n), .ref aC, .ref aV, .ref aL, .ref aH, .int (nI nr), .ref aS, .ref aZ, .ref aI, .int oc, .int ow, .int bg, .int dp, .ref aT, .int to, .int (vs a), .int nx]) (ty := .int) (v := .int (vs a)) S G (Rm_m R) rfl tyX5 tyX5_ok nmX5 (by decide +kernel) 15 (by decide) (by decide +kernel) rfl (by decide +kernel) rfl rfl (Nat.le_of_ble_eq_true rfl) rfl dX5_plain_66 (fun H locs G => ?_)
      obtain ⟨w, R, G⟩ := Rm_ex (Rm_p_rs R (vs a)) G
      refine lv_iconst (v := 0) hx hb dX5_plain_69 (by decide) ?_
      refine r_int S hret hlk G rfl (Nat.le_of_ble_eq_true rfl) (Nat.le_of_ble_eq_true rfl) dX5_plain_70 ?_
      have qr1 := nm1 (show r1 < 100000 by omega)
      have e9 : pl cl vs hd so sz it a = (0, vs a, 0) := by simp only [pl, ec, er1, qr1, cn_nI (show r1 < 2 ^ 31 by omega), ↓reduceIte, show ¬ ((0 : Int32) = 1) by decide, show ¬ ((0 : Int32) = 2) by decide, show ¬ ((0 : Int32) = 3) by decide, show ¬ ((0 : Int32) = 4) by decide, show ¬ ((0 : Int32) = 5) by decide, show ¬ ((0 : Int32) = 6) by decide, show ¬ ((0 : Int32) = 7) by decide]
      rw [e9]
      exact ⟨rfl, _, _, R, fun _ => rfl, fun z => absurd z (by dsimp only; decide)⟩
    · skip
      replace ec : cl a = 1 := ec
      refine lv_tableIn (off := 51) (tgt := 71) hx hb dX5_plain_20 (by rw [ec]; decide) (by rw [ec]; decide) (by rw [ec]; rfl) (by decide) ?_
      refine lv_aload_n hx hb dX5_plain_71 rfl (lv_at hl 2 rfl) ?_
      refine lv_iconst (v := 2) hx hb dX5_plain_72 (by decide) ?_
      refine lv_iload_n hx hb dX5_plain_73 rfl (lv_at hl 1 rfl) ?_
      refine lv_imul hx hb dX5_plain_74 ?_
      refine lv_topi (fun a10 ea10 => ?_)
      refine g_put (fs' := [.int (nI n), .ref aC, .ref aV, .ref aL, .ref aH, .int (nI nr), .ref aS, .ref aZ, .ref aI, .int oc, .int ow, .int bg, .int dp, .ref aT, .int to, .int a10, .int nx]) (ty := .int) (v := .int a10) S G (Rm_m R) rfl tyX5 tyX5_ok nmX5 (by decide +kernel) 15 (by decide) (by decide +kernel) rfl (by decide +kernel) rfl rfl (Nat.le_of_ble_eq_true rfl) rfl dX5_plain_75 (fun H locs G => ?_)
      obtain ⟨w, R, G⟩ := Rm_ex (Rm_p_rs R a10) G
      refine lv_iconst (v := 0) hx hb dX5_plain_78 (by decide) ?_
      refine r_int S hret hlk G rfl (Nat.le_of_ble_eq_true rfl) (Nat.le_of_ble_eq_true rfl) dX5_plain_79 ?_
      have qr1 := nm1 (show r1 < 100000 by omega)
      have e9 : pl cl vs hd so sz it a = (0, 2 * vs a, 0) := by simp only [pl, ec, er1, qr1, cn_nI (show r1 < 2 ^ 31 by omega), ↓reduceIte, show ¬ ((1 : Int32) = 0) by decide, show ¬ ((1 : Int32) = 2) by decide, show ¬ ((1 : Int32) = 3) by decide, show ¬ ((1 : Int32) = 4) by decide, show ¬ ((1 : Int32) = 5) by decide, show ¬ ((1 : Int32) = 6) by decide, show ¬ ((1 : Int32) = 7) by decide]
      rw [e9]
      exact ⟨rfl, _, _, R, fun _ => ea10, fun z => absurd z (by dsimp only; decide)⟩
    · skip
      replace ec : cl a = 2 := ec
      refine lv_tableIn (off := 60) (tgt := 80) hx hb dX5_plain_20 (by rw [ec]; decide) (by rw [ec]; decide) (by rw [ec]; rfl) (by decide) ?_
      refine lv_aload_n hx hb dX5_plain_80 rfl (lv_at hl 2 rfl) ?_
      refine lv_iconst (v := 3) hx hb dX5_plain_81 (by decide) ?_
      refine lv_iload_n hx hb dX5_plain_82 rfl (lv_at hl 1 rfl) ?_
      refine lv_imul hx hb dX5_plain_83 ?_
      refine lv_topi (fun a11 ea11 => ?_)
      refine g_put (fs' := [.int (nI n), .ref aC, .ref aV, .ref aL, .ref aH, .int (nI nr), .ref aS, .ref aZ, .ref aI, .int oc, .int ow, .int bg, .int dp, .ref aT, .int to, .int a11, .int nx]) (ty := .int) (v := .int a11) S G (Rm_m R) rfl tyX5 tyX5_ok nmX5 (by decide +kernel) 15 (by decide) (by decide +kernel) rfl (by decide +kernel) rfl rfl (Nat.le_of_ble_eq_true rfl) rfl dX5_plain_84 (fun H locs G => ?_)
      obtain ⟨w, R, G⟩ := Rm_ex (Rm_p_rs R a11) G
      refine lv_iconst (v := 0) hx hb dX5_plain_87 (by decide) ?_
      refine r_int S hret hlk G rfl (Nat.le_of_ble_eq_true rfl) (Nat.le_of_ble_eq_true rfl) dX5_plain_88 ?_
      have qr1 := nm1 (show r1 < 100000 by omega)
      have e9 : pl cl vs hd so sz it a = (0, 3 * vs a, 0) := by simp only [pl, ec, er1, qr1, cn_nI (show r1 < 2 ^ 31 by omega), ↓reduceIte, show ¬ ((2 : Int32) = 0) by decide, show ¬ ((2 : Int32) = 1) by decide, show ¬ ((2 : Int32) = 3) by decide, show ¬ ((2 : Int32) = 4) by decide, show ¬ ((2 : Int32) = 5) by decide, show ¬ ((2 : Int32) = 6) by decide, show ¬ ((2 : Int32) = 7) by decide]
      rw [e9]
      exact ⟨rfl, _, _, R, fun _ => ea11, fun z => absurd z (by dsimp only; decide)⟩
    · skip
      replace ec : cl a = 3 := ec
      refine lv_tableIn (off := 69) (tgt := 89) hx hb dX5_plain_20 (by rw [ec]; decide) (by rw [ec]; decide) (by rw [ec]; rfl) (by decide) ?_
      refine lv_aload_n hx hb dX5_plain_89 rfl (lv_at hl 2 rfl) ?_
      refine lv_iload_n hx hb dX5_plain_90 rfl (lv_at hl 1 rfl) ?_
      refine lv_if_ne (tgt := 98) hx hb dX5_plain_91 (by decide) (fun c12 => ?_) (fun c12 => ?_)
      · skip
        refine lv_sipush (v := 1000) hx hb dX5_plain_98 (by decide) ?_
        refine lv_iload_n hx hb dX5_plain_101 rfl (lv_at hl 1 rfl) ?_
        refine lv_idiv hx hb dX5_plain_102 c12 ?_
        refine lv_topi (fun a13 ea13 => ?_)
        refine g_put (fs' := [.int (nI n), .ref aC, .ref aV, .ref aL, .ref aH, .int (nI nr), .ref aS, .ref aZ, .ref aI, .int oc, .int ow, .int bg, .int dp, .ref aT, .int to, .int a13, .int nx]) (ty := .int) (v := .int a13) S G (Rm_m R) rfl tyX5 tyX5_ok nmX5 (by decide +kernel) 15 (by decide) (by decide +kernel) rfl (by decide +kernel) rfl rfl (Nat.le_of_ble_eq_true rfl) rfl dX5_plain_103 (fun H locs G => ?_)
        obtain ⟨w, R, G⟩ := Rm_ex (Rm_p_rs R a13) G
        refine lv_iload_n hx hb dX5_plain_106 rfl (lv_at hl 1 rfl) ?_
        refine lv_if_ne (tgt := 115) hx hb dX5_plain_107 (by decide) (fun c14 => ?_) (fun c14 => absurd c14 c12)
        refine lv_iconst (v := 0) hx hb dX5_plain_115 (by decide) ?_
        refine r_int S hret hlk G rfl (Nat.le_of_ble_eq_true rfl) (Nat.le_of_ble_eq_true rfl) dX5_plain_116 ?_
        have qr1 := nm1 (show r1 < 100000 by omega)
        have e9 : pl cl vs hd so sz it a = (0, 1000 / vs a, 0) := by simp only [pl, ec, er1, qr1, cn_nI (show r1 < 2 ^ 31 by omega), c12, ↓reduceIte, show ¬ ((3 : Int32) = 0) by decide, show ¬ ((3 : Int32) = 1) by decide, show ¬ ((3 : Int32) = 2) by decide, show ¬ ((3 : Int32) = 4) by decide, show ¬ ((3 : Int32) = 5) by decide, show ¬ ((3 : Int32) = 6) by decide, show ¬ ((3 : Int32) = 7) by decide]
        rw [e9]
        exact ⟨rfl, _, _, R, fun _ => ea13, fun z => absurd z (by dsimp only; decide)⟩
      · skip
        refine lv_iconst (v := 0) hx hb dX5_plain_94 (by decide) ?_
        refine lv_goto (tgt := 103) hx hb dX5_plain_95 (by decide) ?_
        refine g_put (fs' := [.int (nI n), .ref aC, .ref aV, .ref aL, .ref aH, .int (nI nr), .ref aS, .ref aZ, .ref aI, .int oc, .int ow, .int bg, .int dp, .ref aT, .int to, .int 0, .int nx]) (ty := .int) (v := .int 0) S G (Rm_m R) rfl tyX5 tyX5_ok nmX5 (by decide +kernel) 15 (by decide) (by decide +kernel) rfl (by decide +kernel) rfl rfl (Nat.le_of_ble_eq_true rfl) rfl dX5_plain_103 (fun H locs G => ?_)
        obtain ⟨w, R, G⟩ := Rm_ex (Rm_p_rs R 0) G
        refine lv_iload_n hx hb dX5_plain_106 rfl (lv_at hl 1 rfl) ?_
        refine lv_if_ne (tgt := 115) hx hb dX5_plain_107 (by decide) (fun c15 => absurd c12 c15) (fun c15 => ?_)
        refine lv_bipush (v := 6) hx hb dX5_plain_110 (by decide) ?_
        refine lv_goto (tgt := 116) hx hb dX5_plain_112 (by decide) ?_
        refine r_int S hret hlk G rfl (Nat.le_of_ble_eq_true rfl) (Nat.le_of_ble_eq_true rfl) dX5_plain_116 ?_
        have qr1 := nm1 (show r1 < 100000 by omega)
        have e9 : pl cl vs hd so sz it a = (6, 0, 0) := by simp only [pl, ec, er1, qr1, cn_nI (show r1 < 2 ^ 31 by omega), c12, ↓reduceIte, show ¬ ((3 : Int32) = 0) by decide, show ¬ ((3 : Int32) = 1) by decide, show ¬ ((3 : Int32) = 2) by decide, show ¬ ((3 : Int32) = 4) by decide, show ¬ ((3 : Int32) = 5) by decide, show ¬ ((3 : Int32) = 6) by decide, show ¬ ((3 : Int32) = 7) by decide]
        rw [e9]
        exact ⟨rfl, _, _, R, fun z => absurd z (by dsimp only; decide), fun z => absurd z (by dsimp only; decide)⟩
    · skip
      replace ec : cl a = 4 := ec
      exact absurd ec h4
    · skip
      replace ec : cl a = 5 := ec
      refine lv_tableIn (off := 97) (tgt := 117) hx hb dX5_plain_20 (by rw [ec]; decide) (by rw [ec]; decide) (by rw [ec]; rfl) (by decide) ?_
      refine lv_aload_n hx hb dX5_plain_117 rfl (lv_at hl 2 rfl) ?_
      refine lv_iload_n hx hb dX5_plain_118 rfl (lv_at hl 1 rfl) ?_
      refine g_put (fs' := [.int (nI n), .ref aC, .ref aV, .ref aL, .ref aH, .int (nI nr), .ref aS, .ref aZ, .ref aI, .int oc, .int ow, .int bg, .int dp, .ref aT, .int (vs a), .int rs, .int nx]) (ty := .int) (v := .int (vs a)) S G (Rm_m R) rfl tyX5 tyX5_ok nmX5 (by decide +kernel) 14 (by decide) (by decide +kernel) rfl (by decide +kernel) rfl rfl (Nat.le_of_ble_eq_true rfl) rfl dX5_plain_119 (fun H locs G => ?_)
      obtain ⟨w, R, G⟩ := Rm_ex (Rm_p_to R (vs a)) G
      refine lv_iload_n hx hb dX5_plain_122 rfl (lv_at hl 1 rfl) ?_
      refine lv_if_ne (tgt := 130) hx hb dX5_plain_123 (by decide) (fun c16 => ?_) (fun c16 => ?_)
      · skip
        refine lv_bipush (v := 7) hx hb dX5_plain_130 (by decide) ?_
        refine r_int S hret hlk G rfl (Nat.le_of_ble_eq_true rfl) (Nat.le_of_ble_eq_true rfl) dX5_plain_132 ?_
        have qr1 := nm1 (show r1 < 100000 by omega)
        have e9 : pl cl vs hd so sz it a = (7, 0, vs a) := by simp only [pl, ec, er1, qr1, cn_nI (show r1 < 2 ^ 31 by omega), c16, ↓reduceIte, show ¬ ((5 : Int32) = 0) by decide, show ¬ ((5 : Int32) = 1) by decide, show ¬ ((5 : Int32) = 2) by decide, show ¬ ((5 : Int32) = 3) by decide, show ¬ ((5 : Int32) = 4) by decide, show ¬ ((5 : Int32) = 6) by decide, show ¬ ((5 : Int32) = 7) by decide]
        rw [e9]
        exact ⟨rfl, _, _, R, fun z => absurd z (by dsimp only; decide), fun _ => rfl⟩
      · skip
        refine lv_iconst (v := 1) hx hb dX5_plain_126 (by decide) ?_
        refine lv_goto (tgt := 132) hx hb dX5_plain_127 (by decide) ?_
        refine r_int S hret hlk G rfl (Nat.le_of_ble_eq_true rfl) (Nat.le_of_ble_eq_true rfl) dX5_plain_132 ?_
        have qr1 := nm1 (show r1 < 100000 by omega)
        have e9 : pl cl vs hd so sz it a = (1, 0, 0) := by simp only [pl, ec, er1, qr1, cn_nI (show r1 < 2 ^ 31 by omega), c16, ↓reduceIte, show ¬ ((5 : Int32) = 0) by decide, show ¬ ((5 : Int32) = 1) by decide, show ¬ ((5 : Int32) = 2) by decide, show ¬ ((5 : Int32) = 3) by decide, show ¬ ((5 : Int32) = 4) by decide, show ¬ ((5 : Int32) = 6) by decide, show ¬ ((5 : Int32) = 7) by decide]
        rw [e9]
        exact ⟨rfl, _, _, R, fun z => absurd z (by dsimp only; decide), fun z => absurd z (by dsimp only; decide)⟩
    · skip
      replace ec : cl a = 6 := ec
      refine lv_tableIn (off := 113) (tgt := 133) hx hb dX5_plain_20 (by rw [ec]; decide) (by rw [ec]; decide) (by rw [ec]; rfl) (by decide) ?_
      refine lv_aload_n hx hb dX5_plain_133 rfl (lv_at hl 2 rfl) ?_
      refine lv_aload_n hx hb dX5_plain_134 rfl (lv_at hl 2 rfl) ?_
      refine g_get S G (Rm_m R) rfl (by decide +kernel) 8 (by decide) (by decide +kernel) rfl dX5_plain_135 ?_
      refine lv_bipush (v := 12) hx hb dX5_plain_138 (by decide) ?_
      refine lv_iload_n hx hb dX5_plain_140 rfl (lv_at hl 0 rfl) ?_
      refine lv_imul hx hb dX5_plain_141 ?_
      refine lv_topi (fun a17 ea17 => ?_)
      have da17 : a17 = nI (12 * r1) := by rw [ea17, er1]; exact pk_mul 12 r1
      refine g_lald S G (Rm_I R) (vin_e da17 (show 12 * r1 < 6240 by omega) (by omega)) dX5_plain_142 ?_
      rw [show Int32.toNatClampNeg a17 = 12 * r1 by rw [da17]; exact nI_clamp (by omega)]
      refine lv_l2i (v := (Int64.toInt32 (it (12 * r1)))) hx hb dX5_plain_143 rfl ?_
      refine g_put (fs' := [.int (nI n), .ref aC, .ref aV, .ref aL, .ref aH, .int (nI nr), .ref aS, .ref aZ, .ref aI, .int oc, .int ow, .int bg, .int dp, .ref aT, .int to, .int (Int64.toInt32 (it (12 * r1))), .int nx]) (ty := .int) (v := .int (Int64.toInt32 (it (12 * r1)))) S G (Rm_m R) rfl tyX5 tyX5_ok nmX5 (by decide +kernel) 15 (by decide) (by decide +kernel) rfl (by decide +kernel) rfl rfl (Nat.le_of_ble_eq_true rfl) rfl dX5_plain_144 (fun H locs G => ?_)
      obtain ⟨w, R, G⟩ := Rm_ex (Rm_p_rs R (Int64.toInt32 (it (12 * r1)))) G
      refine lv_iconst (v := 0) hx hb dX5_plain_147 (by decide) ?_
      refine r_int S hret hlk G rfl (Nat.le_of_ble_eq_true rfl) (Nat.le_of_ble_eq_true rfl) dX5_plain_148 ?_
      have qr1 := nm1 (show r1 < 100000 by omega)
      have e9 : pl cl vs hd so sz it a = (0, (it (12 * r1)).toInt32, 0) := by simp only [pl, ec, er1, qr1, cn_nI (show r1 < 2 ^ 31 by omega), ↓reduceIte, show ¬ ((6 : Int32) = 0) by decide, show ¬ ((6 : Int32) = 1) by decide, show ¬ ((6 : Int32) = 2) by decide, show ¬ ((6 : Int32) = 3) by decide, show ¬ ((6 : Int32) = 4) by decide, show ¬ ((6 : Int32) = 5) by decide, show ¬ ((6 : Int32) = 7) by decide]
      rw [e9]
      exact ⟨rfl, _, _, R, fun _ => rfl, fun z => absurd z (by dsimp only; decide)⟩
    · skip
      replace ec : cl a = 7 := ec
      refine lv_tableOut (tgt := 149) hx hb dX5_plain_20 (by rw [ec]; decide) (by decide) ?_
      refine lv_iload_n hx hb dX5_plain_149 rfl (lv_at hl 0 rfl) ?_
      refine lv_iconst (v := (-1)) hx hb dX5_plain_150 (by decide) ?_
      refine lv_icmp_ne (tgt := 158) hx hb dX5_plain_151 (by decide) (fun c18 => ?_) (fun c18 => absurd c18 (by rw [er1]; exact nm1 (by omega)))
      refine lv_aload_n hx hb dX5_plain_158 rfl (lv_at hl 2 rfl) ?_
      refine g_get S G (Rm_m R) rfl (by decide +kernel) 6 (by decide) (by decide +kernel) rfl dX5_plain_159 ?_
      refine lv_iload_n hx hb dX5_plain_162 rfl (lv_at hl 0 rfl) ?_
      refine g_iald S G (Rm_S R) (vin_e er1 (show r1 < 520 by omega) (by omega)) dX5_plain_163 ?_
      rw [show Int32.toNatClampNeg (hd a) = r1 by rw [er1]; exact nI_clamp (by omega)]
      refine lv_if_eq (tgt := 171) hx hb dX5_plain_164 (by decide) (fun c19 => ?_) (fun c19 => ?_)
      · skip
        refine lv_aload_n hx hb dX5_plain_171 rfl (lv_at hl 2 rfl) ?_
        refine lv_iload_n hx hb dX5_plain_172 rfl (lv_at hl 0 rfl) ?_
        refine g_Vi (n := 1) (rest := []) S G hl (c_X5_summed l R hr1 Kr (Kz r1 hr1) er1) gX5_plain_X5_summed rfl (by decide +kernel) (Rm_m R) rfl rfl rfl (Nat.le_of_ble_eq_true rfl) ⟨Nat.le_of_ble_eq_true rfl, Nat.le_of_ble_eq_true rfl⟩ ⟨Nat.le_of_ble_eq_true rfl, Nat.le_of_ble_eq_true rfl⟩ dX5_plain_173 ?_
        clear G; intro r_ w1 H locs hp G
        obtain ⟨rfl, R⟩ := hp
        refine r_int S hret hlk G rfl (Nat.le_of_ble_eq_true rfl) (Nat.le_of_ble_eq_true rfl) dX5_plain_176 ?_
        have qr1 := nm1 (show r1 < 100000 by omega)
        have e9 : pl cl vs hd so sz it a = (0, sm it (12 * r1) (cn (sz r1)), 0) := by simp only [pl, ec, er1, qr1, cn_nI (show r1 < 2 ^ 31 by omega), c19, ↓reduceIte, show ¬ ((7 : Int32) = 0) by decide, show ¬ ((7 : Int32) = 1) by decide, show ¬ ((7 : Int32) = 2) by decide, show ¬ ((7 : Int32) = 3) by decide, show ¬ ((7 : Int32) = 4) by decide, show ¬ ((7 : Int32) = 5) by decide, show ¬ ((7 : Int32) = 6) by decide]
        rw [e9]
        exact ⟨rfl, _, _, R, fun _ => rfl, fun z => absurd z (by dsimp only; decide)⟩
      · skip
        refine lv_iconst (v := 2) hx hb dX5_plain_167 (by decide) ?_
        refine lv_goto (tgt := 176) hx hb dX5_plain_168 (by decide) ?_
        refine r_int S hret hlk G rfl (Nat.le_of_ble_eq_true rfl) (Nat.le_of_ble_eq_true rfl) dX5_plain_176 ?_
        have qr1 := nm1 (show r1 < 100000 by omega)
        have e9 : pl cl vs hd so sz it a = (2, 0, 0) := by simp only [pl, ec, er1, qr1, cn_nI (show r1 < 2 ^ 31 by omega), c19, ↓reduceIte, show ¬ ((7 : Int32) = 0) by decide, show ¬ ((7 : Int32) = 1) by decide, show ¬ ((7 : Int32) = 2) by decide, show ¬ ((7 : Int32) = 3) by decide, show ¬ ((7 : Int32) = 4) by decide, show ¬ ((7 : Int32) = 5) by decide, show ¬ ((7 : Int32) = 6) by decide]
        rw [e9]
        exact ⟨rfl, _, _, R, fun z => absurd z (by dsimp only; decide), fun z => absurd z (by dsimp only; decide)⟩

set_option maxHeartbeats 4000000 in
set_option maxRecDepth 100000 in
theorem c_X5_ended (l : Launch) {E : EV} {w : wo} {m aC aV aL aH aS aZ aI aT : Nat} {n : Nat} {cl vs lk hd : Nat → Int32} {nr : Nat} {so sz : Nat → Int32} {it : Nat → Int64} {oc ow bg dp : Int32} {td : Nat → Int32} {to rs nx : Int32} (R : Rm E w (m, aC, aV, aL, aH, aS, aZ, aI, aT) (n, cl, vs, lk, hd, nr, so, sz, it, oc, ow, bg, dp, td) (to, rs, nx)) {o : Int32} {j : Nat} (ej : o = nI j) (hj : j < 10) (an : Int32) : ct_i l E yX5_ended wsX5_ended 1 0 0 [.ref m, .int o, .int an] w (fun q w' => q = (if o = 0 then an else 0) ∧ Rm E w' (m, aC, aV, aL, aH, aS, aZ, aI, aT) (n, cl, vs, lk, hd, nr, so, sz, it, o, if o = 7 then to else ow, bg, dp, upd td (cn o) (td (cn o) + 1)) (to, rs, nx)) := by
  intro zz
  refine wo_body (Qc := fun A => va_Qi _ (wo_B E A) A) (ret := (some .int)) (by decide) rfl (Nat.le_of_ble_eq_true rfl) ?_
  intro p_ e_ s_ m_ args_ below_ meth_ code_ A_ ls S hret hlk hnm G hl
  have hl : lv_has ls 3 [(0, .ref m), (1, .int o), (2, .int an)] := hl
  have hx := S.1
  have hb := S.2.1
  refine lv_aload_n hx hb dX5_ended_0 rfl (lv_at hl 0 rfl) ?_
  refine lv_iload_n hx hb dX5_ended_1 rfl (lv_at hl 1 rfl) ?_
  refine lv_bipush (v := 7) hx hb dX5_ended_2 (by decide) ?_
  refine lv_icmp_ne (tgt := 14) hx hb dX5_ended_4 (by decide) (fun c1 => ?_) (fun c1 => ?_)
  · skip
    refine lv_aload_n hx hb dX5_ended_14 rfl (lv_at hl 0 rfl) ?_
    refine g_get S G (Rm_m R) rfl (by decide +kernel) 10 (by decide) (by decide +kernel) rfl dX5_ended_15 ?_
    refine g_put (fs' := [.int (nI n), .ref aC, .ref aV, .ref aL, .ref aH, .int (nI nr), .ref aS, .ref aZ, .ref aI, .int oc, .int ow, .int bg, .int dp, .ref aT, .int to, .int rs, .int nx]) (ty := .int) (v := .int ow) S G (Rm_m R) rfl tyX5 tyX5_ok nmX5 (by decide +kernel) 10 (by decide) (by decide +kernel) rfl (by decide +kernel) rfl rfl (Nat.le_of_ble_eq_true rfl) rfl dX5_ended_18 (fun H locs G => ?_)
    obtain ⟨w, R, G⟩ := Rm_ex (Rm_p_ow R ow) G
    refine lv_aload_n hx hb dX5_ended_21 rfl (lv_at hl 0 rfl) ?_
    refine lv_iload_n hx hb dX5_ended_22 rfl (lv_at hl 1 rfl) ?_
    refine g_Vi (n := 1) (rest := []) S G hl (c_X5_tell l R (o := o) ej hj) gX5_ended_X5_tell rfl (by decide +kernel) (Rm_m R) rfl rfl rfl (Nat.le_of_ble_eq_true rfl) ⟨Nat.le_of_ble_eq_true rfl, Nat.le_of_ble_eq_true rfl⟩ ⟨Nat.le_of_ble_eq_true rfl, Nat.le_of_ble_eq_true rfl⟩ dX5_ended_23 ?_
    clear G; intro r_ w1 H locs hp G
    obtain ⟨hr_, R⟩ := hp
    subst r_
    refine lv_if_ne (tgt := 33) hx hb dX5_ended_26 (by decide) (fun c2 => ?_) (fun c2 => ?_)
    · skip
      refine lv_iconst (v := 0) hx hb dX5_ended_33 (by decide) ?_
      refine r_int S hret hlk G rfl (Nat.le_of_ble_eq_true rfl) (Nat.le_of_ble_eq_true rfl) dX5_ended_34 ?_
      rw [if_neg c1]
      exact ⟨by rw [if_neg c2], R⟩
    · skip
      refine lv_iload_n hx hb dX5_ended_29 rfl (lv_at hl 2 rfl) ?_
      refine lv_goto (tgt := 34) hx hb dX5_ended_30 (by decide) ?_
      refine r_int S hret hlk G rfl (Nat.le_of_ble_eq_true rfl) (Nat.le_of_ble_eq_true rfl) dX5_ended_34 ?_
      rw [if_neg c1]
      exact ⟨by rw [if_pos c2], R⟩
  · skip
    refine lv_aload_n hx hb dX5_ended_7 rfl (lv_at hl 0 rfl) ?_
    refine g_get S G (Rm_m R) rfl (by decide +kernel) 14 (by decide) (by decide +kernel) rfl dX5_ended_8 ?_
    refine lv_goto (tgt := 18) hx hb dX5_ended_11 (by decide) ?_
    refine g_put (fs' := [.int (nI n), .ref aC, .ref aV, .ref aL, .ref aH, .int (nI nr), .ref aS, .ref aZ, .ref aI, .int oc, .int to, .int bg, .int dp, .ref aT, .int to, .int rs, .int nx]) (ty := .int) (v := .int to) S G (Rm_m R) rfl tyX5 tyX5_ok nmX5 (by decide +kernel) 10 (by decide) (by decide +kernel) rfl (by decide +kernel) rfl rfl (Nat.le_of_ble_eq_true rfl) rfl dX5_ended_18 (fun H locs G => ?_)
    obtain ⟨w, R, G⟩ := Rm_ex (Rm_p_ow R to) G
    refine lv_aload_n hx hb dX5_ended_21 rfl (lv_at hl 0 rfl) ?_
    refine lv_iload_n hx hb dX5_ended_22 rfl (lv_at hl 1 rfl) ?_
    refine g_Vi (n := 1) (rest := []) S G hl (c_X5_tell l R (o := o) ej hj) gX5_ended_X5_tell rfl (by decide +kernel) (Rm_m R) rfl rfl rfl (Nat.le_of_ble_eq_true rfl) ⟨Nat.le_of_ble_eq_true rfl, Nat.le_of_ble_eq_true rfl⟩ ⟨Nat.le_of_ble_eq_true rfl, Nat.le_of_ble_eq_true rfl⟩ dX5_ended_23 ?_
    clear G; intro r_ w1 H locs hp G
    obtain ⟨hr_, R⟩ := hp
    subst r_
    refine lv_if_ne (tgt := 33) hx hb dX5_ended_26 (by decide) (fun c3 => ?_) (fun c3 => ?_)
    · skip
      refine lv_iconst (v := 0) hx hb dX5_ended_33 (by decide) ?_
      refine r_int S hret hlk G rfl (Nat.le_of_ble_eq_true rfl) (Nat.le_of_ble_eq_true rfl) dX5_ended_34 ?_
      rw [if_pos c1]
      exact ⟨by rw [if_neg c3], R⟩
    · skip
      refine lv_iload_n hx hb dX5_ended_29 rfl (lv_at hl 2 rfl) ?_
      refine lv_goto (tgt := 34) hx hb dX5_ended_30 (by decide) ?_
      refine r_int S hret hlk G rfl (Nat.le_of_ble_eq_true rfl) (Nat.le_of_ble_eq_true rfl) dX5_ended_34 ?_
      rw [if_pos c1]
      exact ⟨by rw [if_pos c3], R⟩
