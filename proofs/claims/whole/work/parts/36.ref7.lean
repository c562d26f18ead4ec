/-! THE REFERENCE: going, move -/
set_option maxHeartbeats 4000000 in
set_option maxRecDepth 100000 in
theorem lp_goingN {p_ : Program} {l : Launch} {e_ : Env} {R_ : Room} {s_ : State} {m_ : MethodId} {args_ : Array Value} {below_ : List Frame} {meth_ : Method} {code_ : Code} {cells slots : Nat} {Q_ : State → Prop} {E : EV} {A_ : Nat → Prop} (S : CallFix p_ m_ code_ cX5_going 6 s_ args_ wsX5_going yX5_going.cls) {w : wo} {m aC aV aL aH aS aZ aI aT : Nat} {n : Nat} {cl vs lk hd : Nat → Int32} {nr : Nat} {so sz : Nat → Int32} {it : Nat → Int64} {oc ow bg dp : Int32} {td : Nat → Int32} {to rs nx : Int32} (R : Rm E w (m, aC, aV, aL, aH, aS, aZ, aI, aT) (n, cl, vs, lk, hd, nr, so, sz, it, oc, ow, bg, dp, td) (to, rs, nx)) (K : Gd (n, cl, vs, lk, hd, nr, so, sz, it, oc, ow, bg, dp, td)) {r r2 a b : Nat} (hr : r < nr) (hr2 : r2 < nr) (hab : a + b ≤ cn (sz r)) {fv tv i z : Int32} (ef : fv = nI r) (et : tv = nI r2) (ei : i = nI a) (ez : z = nI b) (h3 : ¬ so r2 = 3) (kx : ∀ (ls : Array Slot) (H : Heap) (locs : List Loc), wo_G E A_ s_ w H locs → lv_has ls 6 [(5, .int (nI b))] → W p_ l e_ R_ s_ m_ args_ below_ meth_ code_ H locs cells slots Q_ (F0 m_ 69 ls [])) : ∀ (mm j : Nat) (jv : Int32), j + mm = b → jv = nI j → ∀ (H : Heap) (locs : List Loc), wo_G E A_ s_ w H locs → ∀ ls : Array Slot, lv_has ls 6 [(0, .ref m), (1, .int fv), (2, .int i), (3, .int tv), (4, .int z), (5, .int jv)] → W p_ l e_ R_ s_ m_ args_ below_ meth_ code_ H locs cells slots Q_ (F0 m_ 3 ls []) := by
  obtain ⟨Kn, Kr, Kc, Kl, Kh, Ks, Kz, Ki⟩ := K
  have hx := S.1
  have hb := S.2.1
  have hz := sz_le (Kz r hr)
  intro mm
  induction mm with
  | zero =>
    intro j jv hj ej H locs G ls hl
    refine lv_iload hx hb dX5_going_3 (lv_at hl 5 rfl) ?_
    refine lv_iload hx hb dX5_going_5 (lv_at hl 4 rfl) ?_
    refine lv_icmp_ge (tgt := 69) hx hb dX5_going_7 (by decide) (fun c1 => ?_) (fun c1 => absurd (by rw [ej, ez]; exact nI_le (by omega) (by omega)) c1)
    exact kx ls H locs G (by rw [ej, show j = b by omega] at hl; exact lv_sub hl [5] rfl)
  | succ mm ih =>
    intro j jv hj ej H locs G ls hl
    refine lv_iload hx hb dX5_going_3 (lv_at hl 5 rfl) ?_
    refine lv_iload hx hb dX5_going_5 (lv_at hl 4 rfl) ?_
    refine lv_icmp_ge (tgt := 69) hx hb dX5_going_7 (by decide) (fun c1 => absurd c1 (by rw [ej, ez]; exact nI_ge (by omega) (by omega))) (fun c1 => ?_)
    refine lv_aload_n hx hb dX5_going_10 rfl (lv_at hl 0 rfl) ?_
    refine g_get S G (Rm_m R) rfl (by decide +kernel) 6 (by decide) (by decide +kernel) rfl dX5_going_11 ?_
    refine lv_iload_n hx hb dX5_going_14 rfl (lv_at hl 3 rfl) ?_
    refine g_iald S G (Rm_S R) (vin_e et (show r2 < 520 by omega) (by omega)) dX5_going_15 ?_
    rw [show Int32.toNatClampNeg tv = r2 by rw [et]; exact nI_clamp (by omega)]
    refine lv_iconst (v := 3) hx hb dX5_going_16 (by decide) ?_
    refine lv_icmp_ne (tgt := 63) hx hb dX5_going_17 (by decide) (fun c2 => ?_) (fun c2 => absurd c2 h3)
    obtain ⟨a3, ea3⟩ : ∃ y : Int32, y = jv + 1 := ⟨_, rfl⟩
    refine lv_iinc (v := a3) (lv' := [(5, .int a3), (0, .ref m), (1, .int fv), (2, .int i), (3, .int tv), (4, .int z)]) hx hb dX5_going_63 hl (k := 5) rfl (by rw [ea3]; rfl) (by decide) rfl (fun ls hl => ?_)
    refine lv_goto (tgt := 3) hx hb dX5_going_66 (by decide) ?_
    exact ih (j + 1) a3 (by omega) (by rw [ea3, ej]; exact nI_1 j) H locs G ls (lv_sub hl [1, 2, 3, 4, 5, 0] rfl)
set_option maxHeartbeats 4000000 in
set_option maxRecDepth 100000 in
theorem lp_goingY {p_ : Program} {l : Launch} {e_ : Env} {R_ : Room} {s_ : State} {m_ : MethodId} {args_ : Array Value} {below_ : List Frame} {meth_ : Method} {code_ : Code} {cells slots : Nat} {Q_ : State → Prop} {E : EV} {A_ : Nat → Prop} (S : CallFix p_ m_ code_ cX5_going 6 s_ args_ wsX5_going yX5_going.cls) {w : wo} {m aC aV aL aH aS aZ aI aT : Nat} {n : Nat} {cl vs lk hd : Nat → Int32} {nr : Nat} {so sz : Nat → Int32} {it : Nat → Int64} {oc ow bg dp : Int32} {td : Nat → Int32} {to rs nx : Int32} (R : Rm E w (m, aC, aV, aL, aH, aS, aZ, aI, aT) (n, cl, vs, lk, hd, nr, so, sz, it, oc, ow, bg, dp, td) (to, rs, nx)) (K : Gd (n, cl, vs, lk, hd, nr, so, sz, it, oc, ow, bg, dp, td)) {r r2 a b : Nat} (hr : r < nr) (hr2 : r2 < nr) (hab : a + b ≤ cn (sz r)) {fv tv i z : Int32} (ef : fv = nI r) (et : tv = nI r2) (ei : i = nI a) (ez : z = nI b) (h3 : so r2 = 3) (hs : 2 ≤ so r) (hR : 1 ≤ R_.frames ∧ 40 ≤ R_.locals) (hf : cells + 0 ≤ R_.cells ∧ slots + 0 ≤ R_.slots) (kx : ∀ (ls : Array Slot) (H : Heap) (locs : List Loc), wo_G E A_ s_ w H locs → lv_has ls 6 [(5, .int (nI (gon cl it (12 * r + a) b)))] → W p_ l e_ R_ s_ m_ args_ below_ meth_ code_ H locs cells slots Q_ (F0 m_ 69 ls [])) : ∀ (mm j : Nat) (jv : Int32), j + mm = b → gon cl it (12 * r + a) b = j + gon cl it (12 * r + a + j) mm → jv = nI j → ∀ (H : Heap) (locs : List Loc), wo_G E A_ s_ w H locs → ∀ ls : Array Slot, lv_has ls 6 [(0, .ref m), (1, .int fv), (2, .int i), (3, .int tv), (4, .int z), (5, .int jv)] → W p_ l e_ R_ s_ m_ args_ below_ meth_ code_ H locs cells slots Q_ (F0 m_ 3 ls []) := by
  obtain ⟨Kn, Kr, Kc, Kl, Kh, Ks, Kz, Ki⟩ := K
  have hx := S.1
  have hb := S.2.1
  have hz := sz_le (Kz r hr)
  intro mm
  induction mm with
  | zero =>
    intro j jv hj eg ej H locs G ls hl
    refine lv_iload hx hb dX5_going_3 (lv_at hl 5 rfl) ?_
    refine lv_iload hx hb dX5_going_5 (lv_at hl 4 rfl) ?_
    refine lv_icmp_ge (tgt := 69) hx hb dX5_going_7 (by decide) (fun c1 => ?_) (fun c1 => absurd (by rw [ej, ez]; exact nI_le (by omega) (by omega)) c1)
    exact kx ls H locs G (by rw [eg, show gon cl it (12 * r + a + j) 0 = 0 from rfl, Nat.add_zero, ← ej]; exact lv_sub hl [5] rfl)
  | succ mm ih =>
    intro j jv hj eg ej H locs G ls hl
    refine lv_iload hx hb dX5_going_3 (lv_at hl 5 rfl) ?_
    refine lv_iload hx hb dX5_going_5 (lv_at hl 4 rfl) ?_
    refine lv_icmp_ge (tgt := 69) hx hb dX5_going_7 (by decide) (fun c1 => absurd c1 (by rw [ej, ez]; exact nI_ge (by omega) (by omega))) (fun c1 => ?_)
    refine lv_aload_n hx hb dX5_going_10 rfl (lv_at hl 0 rfl) ?_
    refine g_get S G (Rm_m R) rfl (by decide +kernel) 6 (by decide) (by decide +kernel) rfl dX5_going_11 ?_
    refine lv_iload_n hx hb dX5_going_14 rfl (lv_at hl 3 rfl) ?_
    refine g_iald S G (Rm_S R) (vin_e et (show r2 < 520 by omega) (by omega)) dX5_going_15 ?_
    rw [show Int32.toNatClampNeg tv = r2 by rw [et]; exact nI_clamp (by omega)]
    refine lv_iconst (v := 3) hx hb dX5_going_16 (by decide) ?_
    refine lv_icmp_ne (tgt := 63) hx hb dX5_going_17 (by decide) (fun c2 => absurd h3 c2) (fun c2 => ?_)
    refine lv_aload_n hx hb dX5_going_20 rfl (lv_at hl 0 rfl) ?_
    refine g_get S G (Rm_m R) rfl (by decide +kernel) 8 (by decide) (by decide +kernel) rfl dX5_going_21 ?_
    refine lv_bipush (v := 12) hx hb dX5_going_24 (by decide) ?_
    refine lv_iload_n hx hb dX5_going_26 rfl (lv_at hl 1 rfl) ?_
    refine lv_imul hx hb dX5_going_27 ?_
    refine lv_topi (fun a3 ea3 => ?_)
    have da3 : a3 = nI (12 * r) := by rw [ea3, ef]; exact pk_mul 12 r
    refine lv_iload_n hx hb dX5_going_28 rfl (lv_at hl 2 rfl) ?_
    refine lv_iadd hx hb dX5_going_29 ?_
    refine lv_topi (fun a4 ea4 => ?_)
    have da4 : a4 = nI (12 * r + a) := by rw [ea4, da3, ei]; exact nI_add (12 * r) a
    refine lv_iload hx hb dX5_going_30 (lv_at hl 5 rfl) ?_
    refine lv_iadd hx hb dX5_going_32 ?_
    refine lv_topi (fun a5 ea5 => ?_)
    have da5 : a5 = nI ((12 * r + a) + j) := by rw [ea5, da4, ej]; exact nI_add (12 * r + a) j
    refine g_lald S G (Rm_I R) (vin_e da5 (show (12 * r + a) + j < 6240 by omega) (by omega)) dX5_going_33 ?_
    rw [show Int32.toNatClampNeg a5 = (12 * r + a) + j by rw [da5]; exact nI_clamp (by omega)]
    refine lv_ldc2 hx hb S.2.2.2.1 (S.2.2.2.2 (.constantLong RX5 73 (-1)) (by decide +kernel)) dX5_going_34 ?_
    refine W.lcmp hx hb dX5_going_37 ?_
    refine lv_if_eq (tgt := 63) hx hb dX5_going_38 (by decide) (fun c6 => ?_) (fun c6 => ?_)
    · skip
      obtain ⟨a7, ea7⟩ : ∃ y : Int32, y = jv + 1 := ⟨_, rfl⟩
      refine lv_iinc (v := a7) (lv' := [(5, .int a7), (0, .ref m), (1, .int fv), (2, .int i), (3, .int tv), (4, .int z)]) hx hb dX5_going_63 hl (k := 5) rfl (by rw [ea7]; rfl) (by decide) rfl (fun ls hl => ?_)
      refine lv_goto (tgt := 3) hx hb dX5_going_66 (by decide) ?_
      have g0 : it (12 * r + a + j) = -1 ∨ cl (cn (it (12 * r + a + j)).toInt32) ≤ 2 := Or.inl ((lg_cmp_eq _ _).mp c6)
      exact ih (j + 1) a7 (by omega) (by rw [eg, gon_s g0, show 12 * r + a + (j + 1) = 12 * r + a + j + 1 by omega]; omega) (by rw [ea7, ej]; exact nI_1 j) H locs G ls (lv_sub hl [1, 2, 3, 4, 5, 0] rfl)
    · skip
      refine lv_aload_n hx hb dX5_going_41 rfl (lv_at hl 0 rfl) ?_
      refine lv_aload_n hx hb dX5_going_42 rfl (lv_at hl 0 rfl) ?_
      refine g_get S G (Rm_m R) rfl (by decide +kernel) 8 (by decide) (by decide +kernel) rfl dX5_going_43 ?_
      refine lv_bipush (v := 12) hx hb dX5_going_46 (by decide) ?_
      refine lv_iload_n hx hb dX5_going_48 rfl (lv_at hl 1 rfl) ?_
      refine lv_imul hx hb dX5_going_49 ?_
      refine lv_topi (fun a8 ea8 => ?_)
      have da8 : a8 = nI (12 * r) := by rw [ea8, ef]; exact pk_mul 12 r
      refine lv_iload_n hx hb dX5_going_50 rfl (lv_at hl 2 rfl) ?_
      refine lv_iadd hx hb dX5_going_51 ?_
      refine lv_topi (fun a9 ea9 => ?_)
      have da9 : a9 = nI (12 * r + a) := by rw [ea9, da8, ei]; exact nI_add (12 * r) a
      refine lv_iload hx hb dX5_going_52 (lv_at hl 5 rfl) ?_
      refine lv_iadd hx hb dX5_going_54 ?_
      refine lv_topi (fun a10 ea10 => ?_)
      have da10 : a10 = nI ((12 * r + a) + j) := by rw [ea10, da9, ej]; exact nI_add (12 * r + a) j
      refine g_lald S G (Rm_I R) (vin_e da10 (show (12 * r + a) + j < 6240 by omega) (by omega)) dX5_going_55 ?_
      rw [show Int32.toNatClampNeg a10 = (12 * r + a) + j by rw [da10]; exact nI_clamp (by omega)]
      refine lv_l2i (v := (Int64.toInt32 (it ((12 * r + a) + j)))) hx hb dX5_going_56 rfl ?_
      have q1 : ¬ it (12 * r + a + j) = -1 := fun y => c6 ((lg_cmp_eq _ _).mpr y)
      have q2 := Ki r hr hs (a + j) (by omega)
      rw [show 12 * r + (a + j) = 12 * r + a + j by omega] at q2
      obtain ⟨q, hq, q3, -⟩ := q2.resolve_left q1
      have eq : (it (12 * r + a + j)).toInt32 = nI q := by rw [q3]; exact lN_i q
      refine g_Vi (n := 1) (rest := []) S G hl (c_X5_isLeaf l R eq (show q < 40 by omega)) gX5_going_X5_isLeaf rfl (by decide +kernel) (Rm_m R) rfl rfl rfl (Nat.le_of_ble_eq_true rfl) ⟨hR.1, Nat.le_trans (by decide) hR.2⟩ hf dX5_going_57 ?_
      clear G; intro r_ w1 H locs hp G
      obtain ⟨rfl, rfl⟩ := hp
      refine lv_if_eq (tgt := 69) hx hb dX5_going_60 (by decide) (fun c11 => ?_) (fun c11 => ?_)
      · skip
        have g0 : ¬ (it (12 * r + a + j) = -1 ∨ cl (cn (it (12 * r + a + j)).toInt32) ≤ 2) := fun y => y.elim q1 (fun y => by rw [eq, cn_nI (by omega)] at y; rw [if_pos y] at c11; exact absurd c11 (by decide))
        exact kx ls H locs G (by rw [eg, gon_e g0, Nat.add_zero, ← ej]; exact lv_sub hl [5] rfl)
      · skip
        obtain ⟨a12, ea12⟩ : ∃ y : Int32, y = jv + 1 := ⟨_, rfl⟩
        refine lv_iinc (v := a12) (lv' := [(5, .int a12), (0, .ref m), (1, .int fv), (2, .int i), (3, .int tv), (4, .int z)]) hx hb dX5_going_63 hl (k := 5) rfl (by rw [ea12]; rfl) (by decide) rfl (fun ls hl => ?_)
        refine lv_goto (tgt := 3) hx hb dX5_going_66 (by decide) ?_
        have g0 : it (12 * r + a + j) = -1 ∨ cl (cn (it (12 * r + a + j)).toInt32) ≤ 2 := Or.inr (by rw [eq, cn_nI (by omega)]; exact if_two c11)
        exact ih (j + 1) a12 (by omega) (by rw [eg, gon_s g0, show 12 * r + a + (j + 1) = 12 * r + a + j + 1 by omega]; omega) (by rw [ea12, ej]; exact nI_1 j) H locs G ls (lv_sub hl [1, 2, 3, 4, 5, 0] rfl)
set_option maxHeartbeats 4000000 in
set_option maxRecDepth 100000 in
theorem c_X5_going (l : Launch) {E : EV} {w : wo} {m aC aV aL aH aS aZ aI aT : Nat} {n : Nat} {cl vs lk hd : Nat → Int32} {nr : Nat} {so sz : Nat → Int32} {it : Nat → Int64} {oc ow bg dp : Int32} {td : Nat → Int32} {to rs nx : Int32} (R : Rm E w (m, aC, aV, aL, aH, aS, aZ, aI, aT) (n, cl, vs, lk, hd, nr, so, sz, it, oc, ow, bg, dp, td) (to, rs, nx)) (K : Gd (n, cl, vs, lk, hd, nr, so, sz, it, oc, ow, bg, dp, td)) {r r2 a b : Nat} (hr : r < nr) (hr2 : r2 < nr) (hab : a + b ≤ cn (sz r)) {fv tv i z : Int32} (ef : fv = nI r) (et : tv = nI r2) (ei : i = nI a) (ez : z = nI b) (hs : so r2 = 3 → 2 ≤ so r) : ct_i l E yX5_going wsX5_going 1 0 0 [.ref m, .int fv, .int i, .int tv, .int z] w (fun q w' => w' = w ∧ q = nI (if so r2 = 3 then gon cl it (12 * r + a) b else b)) := by
  intro zz
  refine wo_body (Qc := fun A => va_Qi _ (wo_B E A) A) (ret := (some .int)) (by decide) rfl (Nat.le_of_ble_eq_true rfl) ?_
  intro p_ e_ s_ m_ args_ below_ meth_ code_ A_ ls S hret hlk hnm G hl
  have hl : lv_has ls 6 [(0, .ref m), (1, .int fv), (2, .int i), (3, .int tv), (4, .int z)] := hl
  have hx := S.1
  have hb := S.2.1
  refine lv_iconst (v := 0) hx hb dX5_going_0 (by decide) ?_
  refine lv_istore (lv' := [(5, .int 0), (0, .ref m), (1, .int fv), (2, .int i), (3, .int tv), (4, .int z)]) hx hb dX5_going_1 hl (by decide) rfl (fun ls hl => ?_)
  by_cases h3 : so r2 = 3
  · skip
    refine lp_goingY S R K hr hr2 hab ef et ei ez h3 (hs h3) ⟨Nat.le_of_ble_eq_true rfl, Nat.le_of_ble_eq_true rfl⟩ ⟨Nat.le_of_ble_eq_true rfl, Nat.le_of_ble_eq_true rfl⟩ (fun ls H locs G hl => ?_) b 0 0 (by omega) (by rw [Nat.zero_add, Nat.add_zero]) rfl _ _ G ls (lv_sub hl [1, 2, 3, 4, 5, 0] rfl)
    refine lv_iload hx hb dX5_going_69 (lv_at hl 0 rfl) ?_
    refine r_int S hret hlk G rfl (Nat.le_of_ble_eq_true rfl) (Nat.le_of_ble_eq_true rfl) dX5_going_71 ?_
    exact ⟨rfl, by rw [if_pos h3]⟩
  · skip
    refine lp_goingN S R K hr hr2 hab ef et ei ez h3 (fun ls H locs G hl => ?_) b 0 0 (by omega) rfl _ _ G ls (lv_sub hl [1, 2, 3, 4, 5, 0] rfl)
    refine lv_iload hx hb dX5_going_69 (lv_at hl 0 rfl) ?_
    refine r_int S hret hlk G rfl (Nat.le_of_ble_eq_true rfl) (Nat.le_of_ble_eq_true rfl) dX5_going_71 ?_
    exact ⟨rfl, by rw [if_neg h3]⟩

theorem cpy_0 {it : Nat → Int64} {s d : Nat} : va_cpy it it s d 0 = it := by
  funext q
  unfold va_cpy
  rw [if_neg (by omega)]
theorem cpy_s {it : Nat → Int64} {s d k : Nat} (h : va_cpy it it s d k (s + k) = it (s + k)) : vp_updL (va_cpy it it s d k) (d + k) (va_cpy it it s d k (s + k)) = va_cpy it it s d (k + 1) := by
  funext q
  rw [h]
  unfold vp_updL va_cpy
  by_cases h1 : q = d + k
  · rw [if_pos h1, if_pos (by omega)]
    congr 1
    omega
  · rw [if_neg h1]
    by_cases h2 : d ≤ q ∧ q < d + k
    · rw [if_pos h2, if_pos (by omega)]
    · rw [if_neg h2, if_neg (by omega)]
def bcp (it : Nat → Int64) (s d g k : Nat) : Nat → Int64 := fun q => if d + (g - k) ≤ q ∧ q < d + g then it (s + (q - d)) else it q
theorem bcp_0 {it : Nat → Int64} {s d g : Nat} : bcp it s d g 0 = it := by
  funext q
  unfold bcp
  rw [if_neg (by omega)]
theorem bcp_g {it : Nat → Int64} {s d g : Nat} : bcp it s d g g = va_cpy it it s d g := by
  funext q
  unfold bcp va_cpy
  rw [Nat.sub_self, Nat.add_zero]
theorem bcp_s {it : Nat → Int64} {s d g k : Nat} (hk : k < g) (hsd : s < d) : vp_updL (bcp it s d g k) (d + (g - 1 - k)) (bcp it s d g k (s + (g - 1 - k))) = bcp it s d g (k + 1) := by
  funext q
  have h : bcp it s d g k (s + (g - 1 - k)) = it (s + (g - 1 - k)) := by
    unfold bcp
    rw [if_neg (by omega)]
  rw [h]
  unfold vp_updL bcp
  by_cases h1 : q = d + (g - 1 - k)
  · rw [if_pos h1, if_pos (by omega)]
    congr 1
    omega
  · rw [if_neg h1]
    by_cases h2 : d + (g - k) ≤ q ∧ q < d + g
    · rw [if_pos h2, if_pos (by omega)]
    · rw [if_neg h2, if_neg (by omega)]
set_option maxHeartbeats 4000000 in
set_option maxRecDepth 100000 in
theorem lp_copyF {p_ : Program} {l : Launch} {e_ : Env} {R_ : Room} {s_ : State} {m_ : MethodId} {args_ : Array Value} {below_ : List Frame} {meth_ : Method} {code_ : Code} {cells slots : Nat} {Q_ : State → Prop} {E : EV} {A_ : Nat → Prop} (S : CallFix p_ m_ code_ cX5_move 13 s_ args_ wsX5_move yX5_move.cls) {m aC aV aL aH aS aZ aI aT : Nat} {n : Nat} {cl vs lk hd : Nat → Int32} {nr : Nat} {so sz : Nat → Int32} {it : Nat → Int64} {oc ow bg dp : Int32} {td : Nat → Int32} {to rs nx : Int32} {r r2 a b g : Nat} (hr : r < 512) (hr2 : r2 < 512) (hag : a + g ≤ 12) (hbg : b + g ≤ 12) {fv tv i j z gv : Int32} (ef : fv = nI r) (et : tv = nI r2) (ei : i = nI a) (ejj : j = nI b) (egv : gv = nI g) (hm : ¬ (fv = tv ∧ i < j)) (kx : ∀ (ls : Array Slot) (w : wo) (H : Heap) (locs : List Loc), Rm E w (m, aC, aV, aL, aH, aS, aZ, aI, aT) (n, cl, vs, lk, hd, nr, so, sz, va_cpy it it (12 * r + a) (12 * r2 + b) g, oc, ow, bg, dp, td) (to, rs, nx) → wo_G E A_ s_ w H locs → lv_has ls 13 [(0, .ref m), (5, .int z), (10, .int gv)] → W p_ l e_ R_ s_ m_ args_ below_ meth_ code_ H locs cells slots Q_ (F0 m_ 273 ls [])) : ∀ (mm k : Nat) (kv : Int32), k + mm = g → kv = nI k → ∀ (w : wo) (H : Heap) (locs : List Loc), Rm E w (m, aC, aV, aL, aH, aS, aZ, aI, aT) (n, cl, vs, lk, hd, nr, so, sz, va_cpy it it (12 * r + a) (12 * r2 + b) k, oc, ow, bg, dp, td) (to, rs, nx) → wo_G E A_ s_ w H locs → ∀ ls : Array Slot, lv_has ls 13 [(0, .ref m), (2, .int i), (4, .int j), (5, .int z), (6, .int fv), (7, .int tv), (10, .int gv), (11, .int kv)] → W p_ l e_ R_ s_ m_ args_ below_ meth_ code_ H locs cells slots Q_ (F0 m_ 202 ls []) := by
  have hx := S.1
  have hb := S.2.1
  intro mm
  induction mm with
  | zero =>
    intro k kv hk ek w H locs R G ls hl
    refine lv_iload hx hb dX5_move_202 (lv_at hl 7 rfl) ?_
    refine lv_iload hx hb dX5_move_204 (lv_at hl 6 rfl) ?_
    refine lv_icmp_ge (tgt := 273) hx hb dX5_move_206 (by decide) (fun c1 => ?_) (fun c1 => absurd (by rw [ek, egv]; exact nI_le (by omega) (by omega)) c1)
    exact kx ls w H locs (by rw [show k = g by omega] at R; exact R) G (lv_sub hl [0, 3, 6] rfl)
  | succ mm ih =>
    intro k kv hk ek w H locs R G ls hl
    refine lv_iload hx hb dX5_move_202 (lv_at hl 7 rfl) ?_
    refine lv_iload hx hb dX5_move_204 (lv_at hl 6 rfl) ?_
    refine lv_icmp_ge (tgt := 273) hx hb dX5_move_206 (by decide) (fun c1 => absurd c1 (by rw [ek, egv]; exact nI_ge (by omega) (by omega))) (fun c1 => ?_)
    refine lv_iload hx hb dX5_move_209 (lv_at hl 4 rfl) ?_
    refine lv_iload hx hb dX5_move_211 (lv_at hl 5 rfl) ?_
    refine lv_icmp_ne (tgt := 232) hx hb dX5_move_213 (by decide) (fun c2 => ?_) (fun c2 => ?_)
    · skip
      refine lv_iload hx hb dX5_move_232 (lv_at hl 7 rfl) ?_
      refine lv_istore (lv' := [(12, .int kv), (0, .ref m), (2, .int i), (4, .int j), (5, .int z), (6, .int fv), (7, .int tv), (10, .int gv), (11, .int kv)]) hx hb dX5_move_234 hl (by decide) rfl (fun ls hl => ?_)
      refine lv_aload_n hx hb dX5_move_236 rfl (lv_at hl 1 rfl) ?_
      refine g_get S G (Rm_m R) rfl (by decide +kernel) 8 (by decide) (by decide +kernel) rfl dX5_move_237 ?_
      refine lv_bipush (v := 12) hx hb dX5_move_240 (by decide) ?_
      refine lv_iload hx hb dX5_move_242 (lv_at hl 6 rfl) ?_
      refine lv_imul hx hb dX5_move_244 ?_
      refine lv_topi (fun a3 ea3 => ?_)
      have da3 : a3 = nI (12 * r2) := by rw [ea3, et]; exact pk_mul 12 r2
      refine lv_iload hx hb dX5_move_245 (lv_at hl 3 rfl) ?_
      refine lv_iadd hx hb dX5_move_247 ?_
      refine lv_topi (fun a4 ea4 => ?_)
      have da4 : a4 = nI (12 * r2 + b) := by rw [ea4, da3, ejj]; exact nI_add (12 * r2) b
      refine lv_iload hx hb dX5_move_248 (lv_at hl 0 rfl) ?_
      refine lv_iadd hx hb dX5_move_250 ?_
      refine lv_topi (fun a5 ea5 => ?_)
      have da5 : a5 = nI ((12 * r2 + b) + k) := by rw [ea5, da4, ek]; exact nI_add (12 * r2 + b) k
      refine lv_aload_n hx hb dX5_move_251 rfl (lv_at hl 1 rfl) ?_
      refine g_get S G (Rm_m R) rfl (by decide +kernel) 8 (by decide) (by decide +kernel) rfl dX5_move_252 ?_
      refine lv_bipush (v := 12) hx hb dX5_move_255 (by decide) ?_
      refine lv_iload hx hb dX5_move_257 (lv_at hl 5 rfl) ?_
      refine lv_imul hx hb dX5_move_259 ?_
      refine lv_topi (fun a6 ea6 => ?_)
      have da6 : a6 = nI (12 * r) := by rw [ea6, ef]; exact pk_mul 12 r
      refine lv_iload_n hx hb dX5_move_260 rfl (lv_at hl 2 rfl) ?_
      refine lv_iadd hx hb dX5_move_261 ?_
      refine lv_topi (fun a7 ea7 => ?_)
      have da7 : a7 = nI (12 * r + a) := by rw [ea7, da6, ei]; exact nI_add (12 * r) a
      refine lv_iload hx hb dX5_move_262 (lv_at hl 0 rfl) ?_
      refine lv_iadd hx hb dX5_move_264 ?_
      refine lv_topi (fun a8 ea8 => ?_)
      have da8 : a8 = nI ((12 * r + a) + k) := by rw [ea8, da7, ek]; exact nI_add (12 * r + a) k
      refine g_lald S G (Rm_I R) (vin_e da8 (show (12 * r + a) + k < 6240 by omega) (by omega)) dX5_move_265 ?_
      rw [show Int32.toNatClampNeg a8 = (12 * r + a) + k by rw [da8]; exact nI_clamp (by omega)]
      refine g_last S G (Rm_I R) (vin_e da5 (show (12 * r2 + b) + k < 6240 by omega) (by omega)) dX5_move_266 (fun H locs G => ?_)
      rw [show Int32.toNatClampNeg a5 = (12 * r2 + b) + k by rw [da5]; exact nI_clamp (by omega)] at G
      obtain ⟨w, R, G⟩ := Rm_ex (Rm_p_it R (vp_updL (va_cpy it it (12 * r + a) (12 * r2 + b) k) ((12 * r2 + b) + k) ((va_cpy it it (12 * r + a) (12 * r2 + b) k) ((12 * r + a) + k)))) G
      have dis : r ≠ r2 := fun y => c2 (by rw [ef, et, y])
      rw [show 12 * r2 + b + k = (12 * r2 + b) + k from rfl, cpy_s (by unfold va_cpy; rw [if_neg (by omega)])] at R
      obtain ⟨a9, ea9⟩ : ∃ y : Int32, y = kv + 1 := ⟨_, rfl⟩
      refine lv_iinc (v := a9) (lv' := [(11, .int a9), (12, .int kv), (0, .ref m), (2, .int i), (4, .int j), (5, .int z), (6, .int fv), (7, .int tv), (10, .int gv)]) hx hb dX5_move_267 hl (k := 8) rfl (by rw [ea9]; rfl) (by decide) rfl (fun ls hl => ?_)
      refine lv_goto (tgt := 202) hx hb dX5_move_270 (by decide) ?_
      exact ih (k + 1) a9 (by omega) (by rw [ea9, ek]; exact nI_1 k) _ _ _ R G ls (lv_sub hl [2, 3, 4, 5, 6, 7, 8, 0] rfl)
    · skip
      refine lv_iload_n hx hb dX5_move_216 rfl (lv_at hl 1 rfl) ?_
      refine lv_iload hx hb dX5_move_217 (lv_at hl 2 rfl) ?_
      refine lv_icmp_ge (tgt := 232) hx hb dX5_move_219 (by decide) (fun c10 => ?_) (fun c10 => ?_)
      · skip
        refine lv_iload hx hb dX5_move_232 (lv_at hl 7 rfl) ?_
        refine lv_istore (lv' := [(12, .int kv), (0, .ref m), (2, .int i), (4, .int j), (5, .int z), (6, .int fv), (7, .int tv), (10, .int gv), (11, .int kv)]) hx hb dX5_move_234 hl (by decide) rfl (fun ls hl => ?_)
        refine lv_aload_n hx hb dX5_move_236 rfl (lv_at hl 1 rfl) ?_
        refine g_get S G (Rm_m R) rfl (by decide +kernel) 8 (by decide) (by decide +kernel) rfl dX5_move_237 ?_
        refine lv_bipush (v := 12) hx hb dX5_move_240 (by decide) ?_
        refine lv_iload hx hb dX5_move_242 (lv_at hl 6 rfl) ?_
        refine lv_imul hx hb dX5_move_244 ?_
        refine lv_topi (fun a11 ea11 => ?_)
        have da11 : a11 = nI (12 * r2) := by rw [ea11, et]; exact pk_mul 12 r2
        refine lv_iload hx hb dX5_move_245 (lv_at hl 3 rfl) ?_
        refine lv_iadd hx hb dX5_move_247 ?_
        refine lv_topi (fun a12 ea12 => ?_)
        have da12 : a12 = nI (12 * r2 + b) := by rw [ea12, da11, ejj]; exact nI_add (12 * r2) b
        refine lv_iload hx hb dX5_move_248 (lv_at hl 0 rfl) ?_
        refine lv_iadd hx hb dX5_move_250 ?_
        refine lv_topi (fun a13 ea13 => ?_)
        have da13 : a13 = nI ((12 * r2 + b) + k) := by rw [ea13, da12, ek]; exact nI_add (12 * r2 + b) k
        refine lv_aload_n hx hb dX5_move_251 rfl (lv_at hl 1 rfl) ?_
        refine g_get S G (Rm_m R) rfl (by decide +kernel) 8 (by decide) (by decide +kernel) rfl dX5_move_252 ?_
        refine lv_bipush (v := 12) hx hb dX5_move_255 (by decide) ?_
        refine lv_iload hx hb dX5_move_257 (lv_at hl 5 rfl) ?_
        refine lv_imul hx hb dX5_move_259 ?_
        refine lv_topi (fun a14 ea14 => ?_)
        have da14 : a14 = nI (12 * r) := by rw [ea14, ef]; exact pk_mul 12 r
        refine lv_iload_n hx hb dX5_move_260 rfl (lv_at hl 2 rfl) ?_
        refine lv_iadd hx hb dX5_move_261 ?_
        refine lv_topi (fun a15 ea15 => ?_)
        have da15 : a15 = nI (12 * r + a) := by rw [ea15, da14, ei]; exact nI_add (12 * r) a
        refine lv_iload hx hb dX5_move_262 (lv_at hl 0 rfl) ?_
        refine lv_iadd hx hb dX5_move_264 ?_
        refine lv_topi (fun a16 ea16 => ?_)
        have da16 : a16 = nI ((12 * r + a) + k) := by rw [ea16, da15, ek]; exact nI_add (12 * r + a) k
        refine g_lald S G (Rm_I R) (vin_e da16 (show (12 * r + a) + k < 6240 by omega) (by omega)) dX5_move_265 ?_
        rw [show Int32.toNatClampNeg a16 = (12 * r + a) + k by rw [da16]; exact nI_clamp (by omega)]
        refine g_last S G (Rm_I R) (vin_e da13 (show (12 * r2 + b) + k < 6240 by omega) (by omega)) dX5_move_266 (fun H locs G => ?_)
        rw [show Int32.toNatClampNeg a13 = (12 * r2 + b) + k by rw [da13]; exact nI_clamp (by omega)] at G
        obtain ⟨w, R, G⟩ := Rm_ex (Rm_p_it R (vp_updL (va_cpy it it (12 * r + a) (12 * r2 + b) k) ((12 * r2 + b) + k) ((va_cpy it it (12 * r + a) (12 * r2 + b) k) ((12 * r + a) + k)))) G
        have dis : b ≤ a := (nI_leI (by omega) (by omega)).mp (by rw [← ejj, ← ei]; exact c10)
        have rr : r = r2 := (nI_eq (by omega) (by omega)).mp (by rw [← ef, ← et]; exact c2)
        rw [cpy_s (by unfold va_cpy; rw [if_neg (by omega)])] at R
        obtain ⟨a17, ea17⟩ : ∃ y : Int32, y = kv + 1 := ⟨_, rfl⟩
        refine lv_iinc (v := a17) (lv' := [(11, .int a17), (12, .int kv), (0, .ref m), (2, .int i), (4, .int j), (5, .int z), (6, .int fv), (7, .int tv), (10, .int gv)]) hx hb dX5_move_267 hl (k := 8) rfl (by rw [ea17]; rfl) (by decide) rfl (fun ls hl => ?_)
        refine lv_goto (tgt := 202) hx hb dX5_move_270 (by decide) ?_
        exact ih (k + 1) a17 (by omega) (by rw [ea17, ek]; exact nI_1 k) _ _ _ R G ls (lv_sub hl [2, 3, 4, 5, 6, 7, 8, 0] rfl)
      · skip
        exact absurd ⟨c2, Int32.not_le.mp c10⟩ hm
set_option maxHeartbeats 4000000 in
set_option maxRecDepth 100000 in
theorem lp_copyB {p_ : Program} {l : Launch} {e_ : Env} {R_ : Room} {s_ : State} {m_ : MethodId} {args_ : Array Value} {below_ : List Frame} {meth_ : Method} {code_ : Code} {cells slots : Nat} {Q_ : State → Prop} {E : EV} {A_ : Nat → Prop} (S : CallFix p_ m_ code_ cX5_move 13 s_ args_ wsX5_move yX5_move.cls) {m aC aV aL aH aS aZ aI aT : Nat} {n : Nat} {cl vs lk hd : Nat → Int32} {nr : Nat} {so sz : Nat → Int32} {it : Nat → Int64} {oc ow bg dp : Int32} {td : Nat → Int32} {to rs nx : Int32} {r r2 a b g : Nat} (hr : r < 512) (hr2 : r2 < 512) (hag : a + g ≤ 12) (hbg : b + g ≤ 12) {fv tv i j z gv : Int32} (ef : fv = nI r) (et : tv = nI r2) (ei : i = nI a) (ejj : j = nI b) (egv : gv = nI g) (hm : fv = tv ∧ i < j) (kx : ∀ (ls : Array Slot) (w : wo) (H : Heap) (locs : List Loc), Rm E w (m, aC, aV, aL, aH, aS, aZ, aI, aT) (n, cl, vs, lk, hd, nr, so, sz, va_cpy it it (12 * r + a) (12 * r2 + b) g, oc, ow, bg, dp, td) (to, rs, nx) → wo_G E A_ s_ w H locs → lv_has ls 13 [(0, .ref m), (5, .int z), (10, .int gv)] → W p_ l e_ R_ s_ m_ args_ below_ meth_ code_ H locs cells slots Q_ (F0 m_ 273 ls [])) : ∀ (mm k : Nat) (kv : Int32), k + mm = g → kv = nI k → ∀ (w : wo) (H : Heap) (locs : List Loc), Rm E w (m, aC, aV, aL, aH, aS, aZ, aI, aT) (n, cl, vs, lk, hd, nr, so, sz, bcp it (12 * r + a) (12 * r2 + b) g k, oc, ow, bg, dp, td) (to, rs, nx) → wo_G E A_ s_ w H locs → ∀ ls : Array Slot, lv_has ls 13 [(0, .ref m), (2, .int i), (4, .int j), (5, .int z), (6, .int fv), (7, .int tv), (10, .int gv), (11, .int kv)] → W p_ l e_ R_ s_ m_ args_ below_ meth_ code_ H locs cells slots Q_ (F0 m_ 202 ls []) := by
  have hx := S.1
  have hb := S.2.1
  have hrr : r = r2 := (nI_eq (by omega) (by omega)).mp (by rw [← ef, ← et]; exact hm.1)
  have hlt : a < b := (nI_ltI (by omega) (by omega)).mp (by rw [← ei, ← ejj]; exact hm.2)
  intro mm
  induction mm with
  | zero =>
    intro k kv hk ek w H locs R G ls hl
    refine lv_iload hx hb dX5_move_202 (lv_at hl 7 rfl) ?_
    refine lv_iload hx hb dX5_move_204 (lv_at hl 6 rfl) ?_
    refine lv_icmp_ge (tgt := 273) hx hb dX5_move_206 (by decide) (fun c1 => ?_) (fun c1 => absurd (by rw [ek, egv]; exact nI_le (by omega) (by omega)) c1)
    exact kx ls w H locs (by rw [show k = g by omega, bcp_g] at R; exact R) G (lv_sub hl [0, 3, 6] rfl)
  | succ mm ih =>
    intro k kv hk ek w H locs R G ls hl
    refine lv_iload hx hb dX5_move_202 (lv_at hl 7 rfl) ?_
    refine lv_iload hx hb dX5_move_204 (lv_at hl 6 rfl) ?_
    refine lv_icmp_ge (tgt := 273) hx hb dX5_move_206 (by decide) (fun c1 => absurd c1 (by rw [ek, egv]; exact nI_ge (by omega) (by omega))) (fun c1 => ?_)
    refine lv_iload hx hb dX5_move_209 (lv_at hl 4 rfl) ?_
    refine lv_iload hx hb dX5_move_211 (lv_at hl 5 rfl) ?_
    refine lv_icmp_ne (tgt := 232) hx hb dX5_move_213 (by decide) (fun c2 => absurd hm.1 c2) (fun c2 => ?_)
    refine lv_iload_n hx hb dX5_move_216 rfl (lv_at hl 1 rfl) ?_
    refine lv_iload hx hb dX5_move_217 (lv_at hl 2 rfl) ?_
    refine lv_icmp_ge (tgt := 232) hx hb dX5_move_219 (by decide) (fun c3 => absurd c3 (Int32.not_le.mpr hm.2)) (fun c3 => ?_)
    refine lv_iload hx hb dX5_move_222 (lv_at hl 6 rfl) ?_
    refine lv_iconst (v := 1) hx hb dX5_move_224 (by decide) ?_
    refine lv_isub hx hb dX5_move_225 ?_
    refine lv_topi (fun a4 ea4 => ?_)
    refine lv_iload hx hb dX5_move_226 (lv_at hl 7 rfl) ?_
    refine lv_isub hx hb dX5_move_228 ?_
    refine lv_topi (fun a5 ea5 => ?_)
    have da5 : a5 = nI (g - 1 - k) := by rw [ea5, ea4, egv, ek, show nI g - 1 = nI (g - 1) from pk_sub (a := g) (b := 1) (by omega)]; exact pk_sub (by omega)
    refine lv_goto (tgt := 234) hx hb dX5_move_229 (by decide) ?_
    refine lv_istore (lv' := [(12, .int a5), (0, .ref m), (2, .int i), (4, .int j), (5, .int z), (6, .int fv), (7, .int tv), (10, .int gv), (11, .int kv)]) hx hb dX5_move_234 hl (by decide) rfl (fun ls hl => ?_)
    refine lv_aload_n hx hb dX5_move_236 rfl (lv_at hl 1 rfl) ?_
    refine g_get S G (Rm_m R) rfl (by decide +kernel) 8 (by decide) (by decide +kernel) rfl dX5_move_237 ?_
    refine lv_bipush (v := 12) hx hb dX5_move_240 (by decide) ?_
    refine lv_iload hx hb dX5_move_242 (lv_at hl 6 rfl) ?_
    refine lv_imul hx hb dX5_move_244 ?_
    refine lv_topi (fun a6 ea6 => ?_)
    have da6 : a6 = nI (12 * r2) := by rw [ea6, et]; exact pk_mul 12 r2
    refine lv_iload hx hb dX5_move_245 (lv_at hl 3 rfl) ?_
    refine lv_iadd hx hb dX5_move_247 ?_
    refine lv_topi (fun a7 ea7 => ?_)
    have da7 : a7 = nI (12 * r2 + b) := by rw [ea7, da6, ejj]; exact nI_add (12 * r2) b
    refine lv_iload hx hb dX5_move_248 (lv_at hl 0 rfl) ?_
    refine lv_iadd hx hb dX5_move_250 ?_
    refine lv_topi (fun a8 ea8 => ?_)
    have da8 : a8 = nI ((12 * r2 + b) + (g - 1 - k)) := by rw [ea8, da7, da5]; exact nI_add (12 * r2 + b) (g - 1 - k)
    refine lv_aload_n hx hb dX5_move_251 rfl (lv_at hl 1 rfl) ?_
    refine g_get S G (Rm_m R) rfl (by decide +kernel) 8 (by decide) (by decide +kernel) rfl dX5_move_252 ?_
    refine lv_bipush (v := 12) hx hb dX5_move_255 (by decide) ?_
    refine lv_iload hx hb dX5_move_257 (lv_at hl 5 rfl) ?_
    refine lv_imul hx hb dX5_move_259 ?_
    refine lv_topi (fun a9 ea9 => ?_)
    have da9 : a9 = nI (12 * r) := by rw [ea9, ef]; exact pk_mul 12 r
    refine lv_iload_n hx hb dX5_move_260 rfl (lv_at hl 2 rfl) ?_
    refine lv_iadd hx hb dX5_move_261 ?_
    refine lv_topi (fun a10 ea10 => ?_)
    have da10 : a10 = nI (12 * r + a) := by rw [ea10, da9, ei]; exact nI_add (12 * r) a
    refine lv_iload hx hb dX5_move_262 (lv_at hl 0 rfl) ?_
    refine lv_iadd hx hb dX5_move_264 ?_
    refine lv_topi (fun a11 ea11 => ?_)
    have da11 : a11 = nI ((12 * r + a) + (g - 1 - k)) := by rw [ea11, da10, da5]; exact nI_add (12 * r + a) (g - 1 - k)
    refine g_lald S G (Rm_I R) (vin_e da11 (show (12 * r + a) + (g - 1 - k) < 6240 by omega) (by omega)) dX5_move_265 ?_
    rw [show Int32.toNatClampNeg a11 = (12 * r + a) + (g - 1 - k) by rw [da11]; exact nI_clamp (by omega)]
    refine g_last S G (Rm_I R) (vin_e da8 (show (12 * r2 + b) + (g - 1 - k) < 6240 by omega) (by omega)) dX5_move_266 (fun H locs G => ?_)
    rw [show Int32.toNatClampNeg a8 = (12 * r2 + b) + (g - 1 - k) by rw [da8]; exact nI_clamp (by omega)] at G
    obtain ⟨w, R, G⟩ := Rm_ex (Rm_p_it R (vp_updL (bcp it (12 * r + a) (12 * r2 + b) g k) ((12 * r2 + b) + (g - 1 - k)) ((bcp it (12 * r + a) (12 * r2 + b) g k) ((12 * r + a) + (g - 1 - k))))) G
    rw [bcp_s (by omega) (by omega)] at R
    obtain ⟨a12, ea12⟩ : ∃ y : Int32, y = kv + 1 := ⟨_, rfl⟩
    refine lv_iinc (v := a12) (lv' := [(11, .int a12), (12, .int a5), (0, .ref m), (2, .int i), (4, .int j), (5, .int z), (6, .int fv), (7, .int tv), (10, .int gv)]) hx hb dX5_move_267 hl (k := 8) rfl (by rw [ea12]; rfl) (by decide) rfl (fun ls hl => ?_)
    refine lv_goto (tgt := 202) hx hb dX5_move_270 (by decide) ?_
    exact ih (k + 1) a12 (by omega) (by rw [ea12, ek]; exact nI_1 k) _ _ _ R G ls (lv_sub hl [2, 3, 4, 5, 6, 7, 8, 0] rfl)