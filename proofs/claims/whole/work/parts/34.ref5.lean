/-! THE REFERENCE: number -/
theorem tk_c {cl lk hd so sz : Nat → Int32} {it : Nat → Int64} {a : Nat} (h1 : (tk cl lk hd so sz it a).1 = 0) (h2 : (tk cl lk hd so sz it a).2 = -1) : (¬ cl a = 4) ∧ (cl a = 6 → ¬ hd a = -1) := by
  constructor
  · intro e
    rw [tk, if_pos e] at h1 h2
    dsimp only at h1 h2
    rw [if_pos h2] at h1
    exact absurd h1 (by decide)
  · intro e z
    rw [tk, if_neg (by rw [e]; decide), if_pos e, if_pos z] at h1
    exact absurd h1 (by decide)
theorem tk_n {n : Nat} {cl vs lk hd so sz : Nat → Int32} {nr : Nat} {it : Nat → Int64} {oc ow bg dp : Int32} {td : Nat → Int32} (K : Gd (n, cl, vs, lk, hd, nr, so, sz, it, oc, ow, bg, dp, td)) {a : Nat} (ha : a < n) (h1 : (tk cl lk hd so sz it a).1 = 0) (h2 : ¬ (tk cl lk hd so sz it a).2 = -1) : ∃ j, j < n ∧ (tk cl lk hd so sz it a).2 = nI j := by
  obtain ⟨Kn, Kr, Kc, Kl, Kh, Ks, Kz, Ki⟩ := K
  unfold tk at h1 h2 ⊢
  by_cases e4 : cl a = 4
  · rw [if_pos e4] at h1 h2 ⊢
    rcases Kl a ha with e | ⟨j, hj, e⟩
    · exact absurd e h2
    · exact ⟨j, hj, e⟩
  · rw [if_neg e4] at h1 h2 ⊢
    by_cases e6 : cl a = 6
    · rw [if_pos e6] at h1 h2 ⊢
      rcases Kh a ha with e | ⟨r, hr, e⟩
      · rw [if_pos e] at h2; exact absurd rfl h2
      · have q : ¬ hd a = -1 := by rw [e]; exact nm1 (by omega)
        rw [if_neg q] at h1 h2 ⊢
        have cr : cn (hd a) = r := cn_e e (by omega)
        rw [cr] at h1 h2 ⊢
        by_cases ez : sz r = 0
        · rw [if_pos ez] at h2; exact absurd rfl h2
        · rw [if_neg ez] at h1 h2 ⊢
          by_cases es : so r < 2
          · rw [if_pos es] at h2; exact absurd rfl h2
          · rw [if_neg es] at h1 h2 ⊢
            rcases Ki r hr (Int32.not_lt.mp es) 0 (sz_pos (Kz r hr) ez) with i | ⟨j, hj, i, -⟩
            · rw [Nat.add_zero] at i
              exact absurd (show (it (12 * r)).toInt32 = -1 by rw [i]; decide) h2
            · rw [Nat.add_zero] at i
              exact ⟨j, hj, show (it (12 * r)).toInt32 = nI j by rw [i]; exact lN_i j⟩
    · rw [if_neg e6] at h2; exact absurd rfl h2
theorem add3 (x m k : Int32) : x + (m + k) = x + k + m := by
  rw [Int32.add_assoc, Int32.add_comm m k]
theorem tk_7 {cl lk hd so sz : Nat → Int32} {it : Nat → Int64} (a : Nat) : ¬ (tk cl lk hd so sz it a).1 = 7 := by
  unfold tk
  repeat' split
  all_goals first | (dsimp only; decide) | (dsimp only; split <;> decide)
set_option maxHeartbeats 4000000 in
set_option maxRecDepth 100000 in
theorem lp_number {p_ : Program} {l : Launch} {e_ : Env} {R_ : Room} {s_ : State} {m_ : MethodId} {args_ : Array Value} {below_ : List Frame} {meth_ : Method} {code_ : Code} {cells slots : Nat} {Q_ : State → Prop} {E : EV} {A_ : Nat → Prop} (S : CallFix p_ m_ code_ cX5_number 7 s_ args_ wsX5_number yX5_number.cls) {m aC aV aL aH aS aZ aI aT : Nat} {n : Nat} {cl vs lk hd : Nat → Int32} {nr : Nat} {so sz : Nat → Int32} {it : Nat → Int64} {oc ow : Int32} {td : Nat → Int32} {lim t0 : Int32} (K : Gd (n, cl, vs, lk, hd, nr, so, sz, it, 0, 0, 0, 0, fun _ => 0)) (hR : 3 ≤ R_.frames ∧ 120 ≤ R_.locals) (hf : cells + 0 ≤ R_.cells ∧ slots + 0 ≤ R_.slots) : ∀ (d u a : Nat) (bg dp to rs nx uv mo av : Int32), u + d = 30 → uv = nI u → a < n → av = nI a → (∀ (pc : Nat) (ls : Array Slot) (q : Int32) (to2 rs2 nx2 : Int32) (w : wo) (H : Heap) (locs : List Loc), decode cX5_number pc = .ok (.ireturn, 1) → q = (nm cl vs lk hd so sz it lim d a bg).1 → Rm E w (m, aC, aV, aL, aH, aS, aZ, aI, aT) (n, cl, vs, lk, hd, nr, so, sz, it, oc, ow, (nm cl vs lk hd so sz it lim d a bg).2.2.1, (nm cl vs lk hd so sz it lim d a bg).2.2.2.1, td) (to2, rs2, nx2) → ((nm cl vs lk hd so sz it lim d a bg).1 = 0 → rs2 = (nm cl vs lk hd so sz it lim d a bg).2.1 + mo) → ((nm cl vs lk hd so sz it lim d a bg).1 = 7 → to2 = (nm cl vs lk hd so sz it lim d a bg).2.2.2.2) → wo_G E A_ s_ w H locs → W p_ l e_ R_ s_ m_ args_ below_ meth_ code_ H locs cells slots Q_ (F0 m_ pc ls [.int q])) → ∀ (w : wo) (H : Heap) (locs : List Loc), Rm E w (m, aC, aV, aL, aH, aS, aZ, aI, aT) (n, cl, vs, lk, hd, nr, so, sz, it, oc, ow, bg, dp, td) (to, rs, nx) → wo_G E A_ s_ w H locs → ∀ ls : Array Slot, lv_has ls 7 [(0, .ref m), (1, .int t0), (2, .int lim), (3, .int uv), (4, .int mo), (5, .int av)] → W p_ l e_ R_ s_ m_ args_ below_ meth_ code_ H locs cells slots Q_ (F0 m_ 8 ls []) := by
  have K9 := K
  obtain ⟨Kn, Kr, Kc, Kl, Kh, Ks, Kz, Ki⟩ := K9
  have hx := S.1
  have hb := S.2.1
  intro d
  induction d with
  | zero =>
    intro u a bg dp to rs nx uv mo av hu eu ha ea kx w H locs R G ls hl
    refine lv_aload_n hx hb dX5_number_8 rfl (lv_at hl 0 rfl) ?_
    refine lv_iload_n hx hb dX5_number_9 rfl (lv_at hl 3 rfl) ?_
    refine g_put (fs' := [.int (nI n), .ref aC, .ref aV, .ref aL, .ref aH, .int (nI nr), .ref aS, .ref aZ, .ref aI, .int oc, .int ow, .int bg, .int uv, .ref aT, .int to, .int rs, .int nx]) (ty := .int) (v := .int uv) S G (Rm_m R) rfl tyX5 tyX5_ok nmX5 (by decide +kernel) 12 (by decide) (by decide +kernel) rfl (by decide +kernel) rfl rfl (Nat.le_of_ble_eq_true rfl) rfl dX5_number_10 (fun H locs G => ?_)
    obtain ⟨w, R, G⟩ := Rm_ex (Rm_p_dp R uv) G
    refine lv_aload_n hx hb dX5_number_13 rfl (lv_at hl 0 rfl) ?_
    refine g_get S G (Rm_m R) rfl (by decide +kernel) 11 (by decide) (by decide +kernel) rfl dX5_number_14 ?_
    refine lv_iload_n hx hb dX5_number_17 rfl (lv_at hl 2 rfl) ?_
    refine lv_icmp_eq (tgt := 27) hx hb dX5_number_18 (by decide) (fun c1 => ?_) (fun c1 => ?_)
    · skip
      refine lv_aload_n hx hb dX5_number_27 rfl (lv_at hl 0 rfl) ?_
      refine g_get S G (Rm_m R) rfl (by decide +kernel) 11 (by decide) (by decide +kernel) rfl dX5_number_28 ?_
      refine lv_iload_n hx hb dX5_number_31 rfl (lv_at hl 2 rfl) ?_
      refine lv_icmp_ne (tgt := 40) hx hb dX5_number_32 (by decide) (fun c2 => absurd c1 c2) (fun c2 => ?_)
      refine lv_bipush (v := 9) hx hb dX5_number_35 (by decide) ?_
      refine lv_goto (tgt := 42) hx hb dX5_number_37 (by decide) ?_
      have e9 : (nm cl vs lk hd so sz it lim 0 a bg) = (9, 0, bg, 30, 0) := by simp [nm, c1]
      have e8 : uv = 30 := by rw [eu, show u = 30 by omega]; rfl
      rw [e8] at R
      rw [e9] at kx
      exact kx 42 ls 9 _ _ _ _ _ _ dX5_number_42 rfl R (fun z => absurd z (by dsimp only; decide)) (fun z => absurd z (by dsimp only; decide)) G
    · skip
      refine lv_iload_n hx hb dX5_number_21 rfl (lv_at hl 3 rfl) ?_
      refine lv_bipush (v := 30) hx hb dX5_number_22 (by decide) ?_
      refine lv_icmp_ne (tgt := 43) hx hb dX5_number_24 (by decide) (fun c3 => absurd (by rw [eu, show u = 30 by omega]; rfl) c3) (fun c3 => ?_)
      refine lv_aload_n hx hb dX5_number_27 rfl (lv_at hl 0 rfl) ?_
      refine g_get S G (Rm_m R) rfl (by decide +kernel) 11 (by decide) (by decide +kernel) rfl dX5_number_28 ?_
      refine lv_iload_n hx hb dX5_number_31 rfl (lv_at hl 2 rfl) ?_
      refine lv_icmp_ne (tgt := 40) hx hb dX5_number_32 (by decide) (fun c4 => ?_) (fun c4 => absurd c4 c1)
      refine lv_bipush (v := 8) hx hb dX5_number_40 (by decide) ?_
      have e9 : (nm cl vs lk hd so sz it lim 0 a bg) = (8, 0, bg, 30, 0) := by simp [nm, c1]
      have e8 : uv = 30 := by rw [eu, show u = 30 by omega]; rfl
      rw [e8] at R
      rw [e9] at kx
      exact kx 42 ls 8 _ _ _ _ _ _ dX5_number_42 rfl R (fun z => absurd z (by dsimp only; decide)) (fun z => absurd z (by dsimp only; decide)) G
  | succ d ih =>
    intro u a bg dp to rs nx uv mo av hu eu ha ea kx w H locs R G ls hl
    refine lv_aload_n hx hb dX5_number_8 rfl (lv_at hl 0 rfl) ?_
    refine lv_iload_n hx hb dX5_number_9 rfl (lv_at hl 3 rfl) ?_
    refine g_put (fs' := [.int (nI n), .ref aC, .ref aV, .ref aL, .ref aH, .int (nI nr), .ref aS, .ref aZ, .ref aI, .int oc, .int ow, .int bg, .int uv, .ref aT, .int to, .int rs, .int nx]) (ty := .int) (v := .int uv) S G (Rm_m R) rfl tyX5 tyX5_ok nmX5 (by decide +kernel) 12 (by decide) (by decide +kernel) rfl (by decide +kernel) rfl rfl (Nat.le_of_ble_eq_true rfl) rfl dX5_number_10 (fun H locs G => ?_)
    obtain ⟨w, R, G⟩ := Rm_ex (Rm_p_dp R uv) G
    refine lv_aload_n hx hb dX5_number_13 rfl (lv_at hl 0 rfl) ?_
    refine g_get S G (Rm_m R) rfl (by decide +kernel) 11 (by decide) (by decide +kernel) rfl dX5_number_14 ?_
    refine lv_iload_n hx hb dX5_number_17 rfl (lv_at hl 2 rfl) ?_
    refine lv_icmp_eq (tgt := 27) hx hb dX5_number_18 (by decide) (fun c1 => ?_) (fun c1 => ?_)
    · skip
      refine lv_aload_n hx hb dX5_number_27 rfl (lv_at hl 0 rfl) ?_
      refine g_get S G (Rm_m R) rfl (by decide +kernel) 11 (by decide) (by decide +kernel) rfl dX5_number_28 ?_
      refine lv_iload_n hx hb dX5_number_31 rfl (lv_at hl 2 rfl) ?_
      refine lv_icmp_ne (tgt := 40) hx hb dX5_number_32 (by decide) (fun c2 => absurd c1 c2) (fun c2 => ?_)
      refine lv_bipush (v := 9) hx hb dX5_number_35 (by decide) ?_
      refine lv_goto (tgt := 42) hx hb dX5_number_37 (by decide) ?_
      have e9 : (nm cl vs lk hd so sz it lim (d + 1) a bg) = (9, 0, bg, nI (29 - d), 0) := nm_spent c1
      have e8 : uv = nI (29 - d) := by rw [eu, show 29 - d = u by omega]
      rw [e8] at R
      rw [e9] at kx
      exact kx 42 ls 9 _ _ _ _ _ _ dX5_number_42 rfl R (fun z => absurd z (by dsimp only; decide)) (fun z => absurd z (by dsimp only; decide)) G
    · skip
      refine lv_iload_n hx hb dX5_number_21 rfl (lv_at hl 3 rfl) ?_
      refine lv_bipush (v := 30) hx hb dX5_number_22 (by decide) ?_
      refine lv_icmp_ne (tgt := 43) hx hb dX5_number_24 (by decide) (fun c3 => ?_) (fun c3 => absurd c3 (by rw [eu]; exact fun z => absurd ((nI_eq (b := 30) (by omega) (by omega)).mp z) (by omega)))
      refine lv_aload_n hx hb dX5_number_43 rfl (lv_at hl 0 rfl) ?_
      refine lv_dup hx hb dX5_number_44 rfl ?_
      refine g_get S G (Rm_m R) rfl (by decide +kernel) 11 (by decide) (by decide +kernel) rfl dX5_number_45 ?_
      refine lv_iconst (v := 1) hx hb dX5_number_48 (by decide) ?_
      refine lv_iadd hx hb dX5_number_49 ?_
      refine lv_topi (fun a4 ea4 => ?_)
      refine g_put (fs' := [.int (nI n), .ref aC, .ref aV, .ref aL, .ref aH, .int (nI nr), .ref aS, .ref aZ, .ref aI, .int oc, .int ow, .int a4, .int uv, .ref aT, .int to, .int rs, .int nx]) (ty := .int) (v := .int a4) S G (Rm_m R) rfl tyX5 tyX5_ok nmX5 (by decide +kernel) 11 (by decide) (by decide +kernel) rfl (by decide +kernel) rfl rfl (Nat.le_of_ble_eq_true rfl) rfl dX5_number_50 (fun H locs G => ?_)
      obtain ⟨w, R, G⟩ := Rm_ex (Rm_p_bg R a4) G
      obtain ⟨a5, ea5⟩ : ∃ y : Int32, y = uv + 1 := ⟨_, rfl⟩
      refine lv_iinc (v := a5) (lv' := [(3, .int a5), (0, .ref m), (1, .int t0), (2, .int lim), (4, .int mo), (5, .int av)]) hx hb dX5_number_53 hl (k := 3) rfl (by rw [ea5]; rfl) (by decide) rfl (fun ls hl => ?_)
      refine lv_aload_n hx hb dX5_number_56 rfl (lv_at hl 1 rfl) ?_
      refine lv_iload_n hx hb dX5_number_57 rfl (lv_at hl 0 rfl) ?_
      refine g_put (fs' := [.int (nI n), .ref aC, .ref aV, .ref aL, .ref aH, .int (nI nr), .ref aS, .ref aZ, .ref aI, .int oc, .int ow, .int a4, .int a5, .ref aT, .int to, .int rs, .int nx]) (ty := .int) (v := .int a5) S G (Rm_m R) rfl tyX5 tyX5_ok nmX5 (by decide +kernel) 12 (by decide) (by decide +kernel) rfl (by decide +kernel) rfl rfl (Nat.le_of_ble_eq_true rfl) rfl dX5_number_58 (fun H locs G => ?_)
      obtain ⟨w, R, G⟩ := Rm_ex (Rm_p_dp R a5) G
      refine lv_aload_n hx hb dX5_number_61 rfl (lv_at hl 1 rfl) ?_
      refine lv_iload hx hb dX5_number_62 (lv_at hl 5 rfl) ?_
      refine g_Vi (n := 1) (rest := []) S G hl (c_X5_takes l R K ea ha) gX5_number_X5_takes rfl (by decide +kernel) (Rm_m R) rfl rfl rfl (Nat.le_of_ble_eq_true rfl) ⟨Nat.le_trans (by decide) hR.1, Nat.le_trans (by decide) hR.2⟩ hf dX5_number_64 ?_
      clear G; intro r_ w1 H locs hp G
      obtain ⟨hr_, R⟩ := hp
      subst r_
      refine lv_istore (lv' := [(6, .int (tk cl lk hd so sz it a).1), (3, .int a5), (0, .ref m), (1, .int t0), (2, .int lim), (4, .int mo), (5, .int av)]) hx hb dX5_number_67 hl (by decide) rfl (fun ls hl => ?_)
      refine lv_iload hx hb dX5_number_69 (lv_at hl 0 rfl) ?_
      refine lv_if_ne (tgt := 118) hx hb dX5_number_71 (by decide) (fun c6 => ?_) (fun c6 => ?_)
      · skip
        refine lv_iload hx hb dX5_number_118 (lv_at hl 0 rfl) ?_
        refine lv_if_eq (tgt := 126) hx hb dX5_number_120 (by decide) (fun c7 => absurd c7 c6) (fun c7 => ?_)
        refine lv_iload hx hb dX5_number_123 (lv_at hl 0 rfl) ?_
        have e8 : a5 = nI (30 - d) := by rw [ea5, eu, show 30 - d = u + 1 by omega]; exact nI_1 u
        have e9 : (nm cl vs lk hd so sz it lim (d + 1) a bg) = ((tk cl lk hd so sz it a).1, 0, bg + 1, nI (30 - d), 0) := by rw [nm, if_neg c1, if_neg c6]
        rw [e8, ea4] at R
        rw [e9] at kx
        exact kx 125 ls _ _ _ _ _ _ _ dX5_number_125 rfl R (fun z => absurd z c6) (fun z => absurd z (tk_7 a)) G
      · skip
        refine lv_aload_n hx hb dX5_number_74 rfl (lv_at hl 2 rfl) ?_
        refine g_get S G (Rm_m R) rfl (by decide +kernel) 16 (by decide) (by decide +kernel) rfl dX5_number_75 ?_
        refine lv_iconst (v := (-1)) hx hb dX5_number_78 (by decide) ?_
        refine lv_icmp_ne (tgt := 118) hx hb dX5_number_79 (by decide) (fun c8 => ?_) (fun c8 => ?_)
        · skip
          refine lv_iload hx hb dX5_number_118 (lv_at hl 0 rfl) ?_
          refine lv_if_eq (tgt := 126) hx hb dX5_number_120 (by decide) (fun c9 => ?_) (fun c9 => absurd c6 c9)
          refine lv_iload hx hb dX5_number_126 (lv_at hl 5 rfl) ?_
          refine lv_aload_n hx hb dX5_number_128 rfl (lv_at hl 2 rfl) ?_
          refine g_get S G (Rm_m R) rfl (by decide +kernel) 1 (by decide) (by decide +kernel) rfl dX5_number_129 ?_
          refine lv_iload hx hb dX5_number_132 (lv_at hl 6 rfl) ?_
          refine g_iald S G (Rm_C R) (vin_e ea (show a < 40 by omega) (by omega)) dX5_number_134 ?_
          rw [show Int32.toNatClampNeg av = a by rw [ea]; exact nI_clamp (by omega)]
          refine lv_iconst (v := 4) hx hb dX5_number_135 (by decide) ?_
          refine lv_icmp_ne (tgt := 143) hx hb dX5_number_136 (by decide) (fun c10 => ?_) (fun c10 => ?_)
          · skip
            refine lv_iconst (v := 0) hx hb dX5_number_143 (by decide) ?_
            refine lv_iadd hx hb dX5_number_144 ?_
            refine lv_topi (fun a11 ea11 => ?_)
            refine lv_istore (lv' := [(4, .int a11), (6, .int (tk cl lk hd so sz it a).1), (3, .int a5), (0, .ref m), (1, .int t0), (2, .int lim), (5, .int av)]) hx hb dX5_number_145 hl (by decide) rfl (fun ls hl => ?_)
            refine lv_aload_n hx hb dX5_number_147 rfl (lv_at hl 3 rfl) ?_
            refine g_get S G (Rm_m R) rfl (by decide +kernel) 16 (by decide) (by decide +kernel) rfl dX5_number_148 ?_
            refine lv_istore (lv' := [(5, .int ((tk cl lk hd so sz it a).2)), (4, .int a11), (6, .int (tk cl lk hd so sz it a).1), (3, .int a5), (0, .ref m), (1, .int t0), (2, .int lim)]) hx hb dX5_number_151 hl (by decide) rfl (fun ls hl => ?_)
            refine lv_goto (tgt := 8) hx hb dX5_number_153 (by decide) ?_
            obtain ⟨j, hj, ej⟩ := tk_n K ha c6 c8
            have e9 : (nm cl vs lk hd so sz it lim (d + 1) a bg) = ((nm cl vs lk hd so sz it lim d j (bg + 1)).1, (nm cl vs lk hd so sz it lim d j (bg + 1)).2.1 + 0, (nm cl vs lk hd so sz it lim d j (bg + 1)).2.2) := by rw [nm, if_neg c1, if_pos c6, if_neg c8, ej, cn_nI (by omega), if_neg c10]
            rw [e9] at kx
            rw [ea4] at R
            refine ih (u + 1) j (bg + 1) _ _ _ _ a5 a11 _ (by omega) (by rw [ea5, eu]; exact nI_1 u) hj ej (fun pc ls q to2 rs2 nx2 w H locs h1 h2 R h3 h4 G => ?_) _ _ _ R G ls (lv_sub hl [4, 5, 6, 3, 1, 0] rfl)
            exact kx pc ls q to2 rs2 nx2 w H locs h1 h2 R (fun z => by rw [h3 z, ea11]; exact add3 _ _ _) h4 G
          · skip
            refine lv_iconst (v := 1) hx hb dX5_number_139 (by decide) ?_
            refine lv_goto (tgt := 144) hx hb dX5_number_140 (by decide) ?_
            refine lv_iadd hx hb dX5_number_144 ?_
            refine lv_topi (fun a12 ea12 => ?_)
            refine lv_istore (lv' := [(4, .int a12), (6, .int (tk cl lk hd so sz it a).1), (3, .int a5), (0, .ref m), (1, .int t0), (2, .int lim), (5, .int av)]) hx hb dX5_number_145 hl (by decide) rfl (fun ls hl => ?_)
            refine lv_aload_n hx hb dX5_number_147 rfl (lv_at hl 3 rfl) ?_
            refine g_get S G (Rm_m R) rfl (by decide +kernel) 16 (by decide) (by decide +kernel) rfl dX5_number_148 ?_
            refine lv_istore (lv' := [(5, .int ((tk cl lk hd so sz it a).2)), (4, .int a12), (6, .int (tk cl lk hd so sz it a).1), (3, .int a5), (0, .ref m), (1, .int t0), (2, .int lim)]) hx hb dX5_number_151 hl (by decide) rfl (fun ls hl => ?_)
            refine lv_goto (tgt := 8) hx hb dX5_number_153 (by decide) ?_
            obtain ⟨j, hj, ej⟩ := tk_n K ha c6 c8
            have e9 : (nm cl vs lk hd so sz it lim (d + 1) a bg) = ((nm cl vs lk hd so sz it lim d j (bg + 1)).1, (nm cl vs lk hd so sz it lim d j (bg + 1)).2.1 + 1, (nm cl vs lk hd so sz it lim d j (bg + 1)).2.2) := by rw [nm, if_neg c1, if_pos c6, if_neg c8, ej, cn_nI (by omega), if_pos c10]
            rw [e9] at kx
            rw [ea4] at R
            refine ih (u + 1) j (bg + 1) _ _ _ _ a5 a12 _ (by omega) (by rw [ea5, eu]; exact nI_1 u) hj ej (fun pc ls q to2 rs2 nx2 w H locs h1 h2 R h3 h4 G => ?_) _ _ _ R G ls (lv_sub hl [4, 5, 6, 3, 1, 0] rfl)
            exact kx pc ls q to2 rs2 nx2 w H locs h1 h2 R (fun z => by rw [h3 z, ea12]; exact add3 _ _ _) h4 G
        · skip
          refine lv_aload_n hx hb dX5_number_82 rfl (lv_at hl 2 rfl) ?_
          refine lv_iload hx hb dX5_number_83 (lv_at hl 6 rfl) ?_
          have q9 := tk_c c6 c8
          refine g_Vi (n := 1) (rest := []) S G hl (c_X5_plain l R K ea ha q9.1 q9.2) gX5_number_X5_plain rfl (by decide +kernel) (Rm_m R) rfl rfl rfl (Nat.le_of_ble_eq_true rfl) ⟨Nat.le_trans (by decide) hR.1, Nat.le_trans (by decide) hR.2⟩ hf dX5_number_85 ?_
          clear G; intro r_ w1 H locs hp G
          obtain ⟨hr_, to2, rs2, R, hp1, hp2⟩ := hp
          subst r_
          refine lv_istore (lv' := [(6, .int (pl cl vs hd so sz it a).1), (3, .int a5), (0, .ref m), (1, .int t0), (2, .int lim), (4, .int mo), (5, .int av)]) hx hb dX5_number_88 hl (by decide) rfl (fun ls hl => ?_)
          refine lv_aload_n hx hb dX5_number_90 rfl (lv_at hl 2 rfl) ?_
          refine lv_dup hx hb dX5_number_91 rfl ?_
          refine g_get S G (Rm_m R) rfl (by decide +kernel) 15 (by decide) (by decide +kernel) rfl dX5_number_92 ?_
          refine lv_iload hx hb dX5_number_95 (lv_at hl 5 rfl) ?_
          refine lv_iadd hx hb dX5_number_97 ?_
          refine lv_topi (fun a13 ea13 => ?_)
          refine g_put (fs' := [.int (nI n), .ref aC, .ref aV, .ref aL, .ref aH, .int (nI nr), .ref aS, .ref aZ, .ref aI, .int oc, .int ow, .int a4, .int a5, .ref aT, .int to2, .int a13, .int ((tk cl lk hd so sz it a).2)]) (ty := .int) (v := .int a13) S G (Rm_m R) rfl tyX5 tyX5_ok nmX5 (by decide +kernel) 15 (by decide) (by decide +kernel) rfl (by decide +kernel) rfl rfl (Nat.le_of_ble_eq_true rfl) rfl dX5_number_98 (fun H locs G => ?_)
          obtain ⟨w, R, G⟩ := Rm_ex (Rm_p_rs R a13) G
          refine lv_aload_n hx hb dX5_number_101 rfl (lv_at hl 2 rfl) ?_
          refine lv_iload hx hb dX5_number_102 (lv_at hl 0 rfl) ?_
          refine lv_if_ne (tgt := 111) hx hb dX5_number_104 (by decide) (fun c14 => ?_) (fun c14 => ?_)
          · skip
            refine lv_iload_n hx hb dX5_number_111 rfl (lv_at hl 1 rfl) ?_
            refine g_put (fs' := [.int (nI n), .ref aC, .ref aV, .ref aL, .ref aH, .int (nI nr), .ref aS, .ref aZ, .ref aI, .int oc, .int ow, .int a4, .int a5, .ref aT, .int to2, .int a13, .int ((tk cl lk hd so sz it a).2)]) (ty := .int) (v := .int a5) S G (Rm_m R) rfl tyX5 tyX5_ok nmX5 (by decide +kernel) 12 (by decide) (by decide +kernel) rfl (by decide +kernel) rfl rfl (Nat.le_of_ble_eq_true rfl) rfl dX5_number_112 (fun H locs G => ?_)
            obtain ⟨w, R, G⟩ := Rm_ex (Rm_p_dp R a5) G
            refine lv_iload hx hb dX5_number_115 (lv_at hl 0 rfl) ?_
            have e8 : a5 = nI (30 - d) := by rw [ea5, eu, show 30 - d = u + 1 by omega]; exact nI_1 u
            have e9 : (nm cl vs lk hd so sz it lim (d + 1) a bg) = ((pl cl vs hd so sz it a).1, (pl cl vs hd so sz it a).2.1, bg + 1, if (pl cl vs hd so sz it a).1 = 0 then 0 else nI (30 - d), (pl cl vs hd so sz it a).2.2) := by rw [nm, if_neg c1, if_pos c6, if_pos c8]
            rw [if_neg c14] at e9
            rw [e8, ea4] at R
            rw [e9] at kx
            exact kx 117 ls _ _ _ _ _ _ _ dX5_number_117 rfl R (fun z => by rw [ea13, hp1 z]) hp2 G
          · skip
            refine lv_iconst (v := 0) hx hb dX5_number_107 (by decide) ?_
            refine lv_goto (tgt := 112) hx hb dX5_number_108 (by decide) ?_
            refine g_put (fs' := [.int (nI n), .ref aC, .ref aV, .ref aL, .ref aH, .int (nI nr), .ref aS, .ref aZ, .ref aI, .int oc, .int ow, .int a4, .int 0, .ref aT, .int to2, .int a13, .int ((tk cl lk hd so sz it a).2)]) (ty := .int) (v := .int 0) S G (Rm_m R) rfl tyX5 tyX5_ok nmX5 (by decide +kernel) 12 (by decide) (by decide +kernel) rfl (by decide +kernel) rfl rfl (Nat.le_of_ble_eq_true rfl) rfl dX5_number_112 (fun H locs G => ?_)
            obtain ⟨w, R, G⟩ := Rm_ex (Rm_p_dp R 0) G
            refine lv_iload hx hb dX5_number_115 (lv_at hl 0 rfl) ?_
            have e8 : a5 = nI (30 - d) := by rw [ea5, eu, show 30 - d = u + 1 by omega]; exact nI_1 u
            have e9 : (nm cl vs lk hd so sz it lim (d + 1) a bg) = ((pl cl vs hd so sz it a).1, (pl cl vs hd so sz it a).2.1, bg + 1, if (pl cl vs hd so sz it a).1 = 0 then 0 else nI (30 - d), (pl cl vs hd so sz it a).2.2) := by rw [nm, if_neg c1, if_pos c6, if_pos c8]
            rw [if_pos c14] at e9
            rw [ea4] at R
            rw [e9] at kx
            exact kx 117 ls _ _ _ _ _ _ _ dX5_number_117 rfl R (fun z => by rw [ea13, hp1 z]) hp2 G