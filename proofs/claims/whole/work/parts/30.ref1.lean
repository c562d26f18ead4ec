/-! THE REFERENCE: in, isThing, isLeaf, tell, isItem; the simple public methods -/
theorem ifc {p q : Prop} [Decidable p] [Decidable q] (h : p ↔ q) : (if p then (1 : Int32) else 0) = if q then 1 else 0 := by
  by_cases z : q
  · rw [if_pos z, if_pos (h.mpr z)]
  · rw [if_neg z, if_neg (fun y => z (h.mp y))]
theorem i64_le {a b : Int32} : (a.toInt64 ≤ b.toInt64) ↔ a.toInt ≤ b.toInt := by
  rw [Int64.le_iff_toInt_le, Int32.toInt_toInt64, Int32.toInt_toInt64]
theorem in_k (K : Nat) (hK : K < 1000) (a : Int32) : ((0 : Int64) ≤ a.toInt64 ∧ a.toInt64 ≤ lN K) ↔ tin (K + 1) a = true := by
  rw [Int64.le_iff_toInt_le, Int64.le_iff_toInt_le, Int32.toInt_toInt64, lN_toInt (by omega)]
  have h0 : (0 : Int64).toInt = 0 := by decide
  rw [h0]
  rcases tin_c (K + 1) a (by omega) with ⟨h, q⟩ | ⟨k, hk, rfl⟩
  · rw [h]
    constructor
    · rintro ⟨z1, z2⟩
      rcases q with q | q
      · have h1 := Int32.lt_iff_toInt_lt.mp q
        have h2 : (0 : Int32).toInt = 0 := by decide
        omega
      · have h1 := Int32.le_iff_toInt_le.mp q
        rw [nI_toInt (by omega)] at h1
        omega
    · intro z; cases z
  · rw [tin_y hk (by omega), nI_toInt (by omega)]
    exact ⟨fun _ => rfl, fun _ => ⟨by omega, by omega⟩⟩
theorem in_lim (a : Int32) : ((1 : Int64) ≤ a.toInt64 ∧ a.toInt64 ≤ 100) ↔ lin a = true := by
  rw [Int64.le_iff_toInt_le, Int64.le_iff_toInt_le, Int32.toInt_toInt64, linc]
  have h0 : (1 : Int64).toInt = 1 := by decide
  have h1 : (100 : Int64).toInt = 100 := by decide
  have h2 : (1 : Int32).toInt = 1 := by decide
  have h3 : (100 : Int32).toInt = 100 := by decide
  rw [h0, h1, Int32.lt_iff_toInt_lt, Int32.lt_iff_toInt_lt, h2, h3]
  omega
theorem in_n {n : Nat} (hn : n ≤ 1000) (t : Int32) : ((0 : Int64) ≤ t.toInt64 ∧ t.toInt64 ≤ (nI n - 1).toInt64) ↔ tin n t = true := by
  have e0 : (nI n - 1).toInt = (n : Int) - 1 := pk_sub_toInt (a := n) (b := 1) (by omega) (by omega)
  rw [i64_le, e0, Int64.le_iff_toInt_le, Int32.toInt_toInt64]
  have h0 : (0 : Int64).toInt = 0 := by decide
  rw [h0]
  rcases tin_c n t hn with ⟨h, q⟩ | ⟨k, hk, rfl⟩
  · rw [h]
    constructor
    · rintro ⟨z1, z2⟩
      rcases q with q | q
      · have h1 := Int32.lt_iff_toInt_lt.mp q
        have h2 : (0 : Int32).toInt = 0 := by decide
        omega
      · have h1 := Int32.le_iff_toInt_le.mp q
        rw [nI_toInt (by omega)] at h1
        omega
    · intro z; cases z
  · rw [tin_y hk hn, nI_toInt (by omega)]
    exact ⟨fun _ => rfl, fun _ => ⟨by omega, by omega⟩⟩
set_option maxHeartbeats 4000000 in
set_option maxRecDepth 100000 in
theorem c_X5_in (l : Launch) {E : EV} {w : wo} (v lo hi : Int64) : ct_i l E yX5_in wsX5_in 0 0 0 [.long v, .long lo, .long hi] w (fun r w' => w' = w ∧ r = if lo ≤ v ∧ v ≤ hi then 1 else 0) := by
  intro zz
  refine wo_body (Qc := fun A => va_Qi _ (wo_B E A) A) (ret := (some .boolean)) (by decide) rfl (Nat.le_of_ble_eq_true rfl) ?_
  intro p_ e_ s_ m_ args_ below_ meth_ code_ A_ ls S hret hlk hnm G hl
  have hl : lv_has ls 6 [(0, .long v), (2, .long lo), (4, .long hi)] := hl
  have hx := S.1
  have hb := S.2.1
  refine lv_lload_n hx hb dX5_in_0 rfl (lv_at hl 0 rfl) ?_
  refine lv_lload_n hx hb dX5_in_1 rfl (lv_at hl 1 rfl) ?_
  refine W.lcmp hx hb dX5_in_2 ?_
  refine lv_if_lt (tgt := 17) hx hb dX5_in_3 (by decide) (fun c1 => ?_) (fun c1 => ?_)
  · skip
    refine lv_iconst (v := 0) hx hb dX5_in_17 (by decide) ?_
    refine r_int S hret hlk G rfl (Nat.le_of_ble_eq_true rfl) (Nat.le_of_ble_eq_true rfl) dX5_in_18 ?_
    exact ⟨rfl, by rw [if_neg (fun z => Int64.not_lt.mpr z.1 ((lg_cmp_lt _ _).mp c1))]⟩
  · skip
    refine lv_lload_n hx hb dX5_in_6 rfl (lv_at hl 0 rfl) ?_
    refine lv_lload hx hb dX5_in_7 (lv_at hl 2 rfl) ?_
    refine W.lcmp hx hb dX5_in_9 ?_
    refine lv_if_gt (tgt := 17) hx hb dX5_in_10 (by decide) (fun c2 => ?_) (fun c2 => ?_)
    · skip
      refine lv_iconst (v := 0) hx hb dX5_in_17 (by decide) ?_
      refine r_int S hret hlk G rfl (Nat.le_of_ble_eq_true rfl) (Nat.le_of_ble_eq_true rfl) dX5_in_18 ?_
      exact ⟨rfl, by rw [if_neg (fun z => Int64.not_lt.mpr z.2 ((lg_cmp_gt _ _).mp c2))]⟩
    · skip
      refine lv_iconst (v := 1) hx hb dX5_in_13 (by decide) ?_
      refine lv_goto (tgt := 18) hx hb dX5_in_14 (by decide) ?_
      refine r_int S hret hlk G rfl (Nat.le_of_ble_eq_true rfl) (Nat.le_of_ble_eq_true rfl) dX5_in_18 ?_
      exact ⟨rfl, by rw [if_pos ⟨Int64.not_lt.mp (fun z => c1 ((lg_cmp_lt _ _).mpr z)), Int64.not_lt.mp (fun z => c2 ((lg_cmp_gt _ _).mpr z))⟩]⟩

set_option maxHeartbeats 4000000 in
set_option maxRecDepth 100000 in
theorem c_X5_isThing (l : Launch) {E : EV} {w : wo} {m aC aV aL aH aS aZ aI aT : Nat} {n : Nat} {cl vs lk hd : Nat → Int32} {nr : Nat} {so sz : Nat → Int32} {it : Nat → Int64} {oc ow bg dp : Int32} {td : Nat → Int32} {to rs nx : Int32} (R : Rm E w (m, aC, aV, aL, aH, aS, aZ, aI, aT) (n, cl, vs, lk, hd, nr, so, sz, it, oc, ow, bg, dp, td) (to, rs, nx)) (Kn : n ≤ 40) (t : Int32) : ct_i l E yX5_isThing wsX5_isThing 1 0 0 [.ref m, .int t] w (fun r w' => w' = w ∧ r = if tin n t = true then 1 else 0) := by
  intro zz
  refine wo_body (Qc := fun A => va_Qi _ (wo_B E A) A) (ret := (some .boolean)) (by decide) rfl (Nat.le_of_ble_eq_true rfl) ?_
  intro p_ e_ s_ m_ args_ below_ meth_ code_ A_ ls S hret hlk hnm G hl
  have hl : lv_has ls 2 [(0, .ref m), (1, .int t)] := hl
  have hx := S.1
  have hb := S.2.1
  refine lv_iload_n hx hb dX5_isThing_0 rfl (lv_at hl 1 rfl) ?_
  refine lv_i2l (v := (Int32.toInt64 t)) hx hb dX5_isThing_1 rfl ?_
  refine lv_lconst (v := 0) hx hb dX5_isThing_2 (by decide) ?_
  refine lv_aload_n hx hb dX5_isThing_3 rfl (lv_at hl 0 rfl) ?_
  refine g_get S G (Rm_m R) rfl (by decide +kernel) 0 (by decide) (by decide +kernel) rfl dX5_isThing_4 ?_
  refine lv_iconst (v := 1) hx hb dX5_isThing_7 (by decide) ?_
  refine lv_isub hx hb dX5_isThing_8 ?_
  refine lv_topi (fun a1 ea1 => ?_)
  refine lv_i2l (v := (Int32.toInt64 a1)) hx hb dX5_isThing_9 rfl ?_
  refine g_Si (n := 3) (rest := []) S G hl (c_X5_in l (Int32.toInt64 t) 0 (Int32.toInt64 a1)) gX5_isThing_X5_in rfl (by decide +kernel) rfl rfl (Nat.le_of_ble_eq_true rfl) ⟨Nat.le_of_ble_eq_true rfl, Nat.le_of_ble_eq_true rfl⟩ ⟨Nat.le_of_ble_eq_true rfl, Nat.le_of_ble_eq_true rfl⟩ dX5_isThing_10 ?_
  clear G; intro r_ w1 H locs hp G
  obtain ⟨rfl, hq_⟩ := hp
  rw [ea1] at hq_
  have hb01 : narrow .boolean (.int r_) = .int r_ := by rw [hq_]; split <;> rfl
  refine r_int S hret hlk G hb01 (Nat.le_of_ble_eq_true rfl) (Nat.le_of_ble_eq_true rfl) dX5_isThing_13 ?_
  refine ⟨rfl, ?_⟩
  rw [hq_]
  exact ifc (in_n (by omega) t)

set_option maxHeartbeats 4000000 in
set_option maxRecDepth 100000 in
theorem c_X5_isLeaf (l : Launch) {E : EV} {w : wo} {m aC aV aL aH aS aZ aI aT : Nat} {n : Nat} {cl vs lk hd : Nat → Int32} {nr : Nat} {so sz : Nat → Int32} {it : Nat → Int64} {oc ow bg dp : Int32} {td : Nat → Int32} {to rs nx : Int32} (R : Rm E w (m, aC, aV, aL, aH, aS, aZ, aI, aT) (n, cl, vs, lk, hd, nr, so, sz, it, oc, ow, bg, dp, td) (to, rs, nx)) {o : Int32} {j : Nat} (ej : o = nI j) (hj : j < 40) : ct_i l E yX5_isLeaf wsX5_isLeaf 0 0 0 [.ref m, .int o] w (fun r w' => w' = w ∧ r = if cl j ≤ 2 then 1 else 0) := by
  intro zz
  refine wo_body (Qc := fun A => va_Qi _ (wo_B E A) A) (ret := (some .boolean)) (by decide) rfl (Nat.le_of_ble_eq_true rfl) ?_
  intro p_ e_ s_ m_ args_ below_ meth_ code_ A_ ls S hret hlk hnm G hl
  have hl : lv_has ls 2 [(0, .ref m), (1, .int o)] := hl
  have hx := S.1
  have hb := S.2.1
  refine lv_aload_n hx hb dX5_isLeaf_0 rfl (lv_at hl 0 rfl) ?_
  refine g_get S G (Rm_m R) rfl (by decide +kernel) 1 (by decide) (by decide +kernel) rfl dX5_isLeaf_1 ?_
  refine lv_iload_n hx hb dX5_isLeaf_4 rfl (lv_at hl 1 rfl) ?_
  refine g_iald S G (Rm_C R) (vin_e ej (show j < 40 by omega) (by omega)) dX5_isLeaf_5 ?_
  rw [show Int32.toNatClampNeg o = j by rw [ej]; exact nI_clamp (by omega)]
  refine lv_iconst (v := 2) hx hb dX5_isLeaf_6 (by decide) ?_
  refine lv_icmp_gt (tgt := 14) hx hb dX5_isLeaf_7 (by decide) (fun c1 => ?_) (fun c1 => ?_)
  · skip
    refine lv_iconst (v := 0) hx hb dX5_isLeaf_14 (by decide) ?_
    refine r_int S hret hlk G rfl (Nat.le_of_ble_eq_true rfl) (Nat.le_of_ble_eq_true rfl) dX5_isLeaf_15 ?_
    exact ⟨rfl, by rw [if_neg (Int32.not_le.mpr c1)]⟩
  · skip
    refine lv_iconst (v := 1) hx hb dX5_isLeaf_10 (by decide) ?_
    refine lv_goto (tgt := 15) hx hb dX5_isLeaf_11 (by decide) ?_
    refine r_int S hret hlk G rfl (Nat.le_of_ble_eq_true rfl) (Nat.le_of_ble_eq_true rfl) dX5_isLeaf_15 ?_
    exact ⟨rfl, by simp [c1, Int32.not_lt]⟩

set_option maxHeartbeats 4000000 in
set_option maxRecDepth 100000 in
theorem c_X5_tell (l : Launch) {E : EV} {w : wo} {m aC aV aL aH aS aZ aI aT : Nat} {n : Nat} {cl vs lk hd : Nat → Int32} {nr : Nat} {so sz : Nat → Int32} {it : Nat → Int64} {oc ow bg dp : Int32} {td : Nat → Int32} {to rs nx : Int32} (R : Rm E w (m, aC, aV, aL, aH, aS, aZ, aI, aT) (n, cl, vs, lk, hd, nr, so, sz, it, oc, ow, bg, dp, td) (to, rs, nx)) {o : Int32} {j : Nat} (ej : o = nI j) (hj : j < 10) : ct_i l E yX5_tell wsX5_tell 0 0 0 [.ref m, .int o] w (fun r w' => r = o ∧ Rm E w' (m, aC, aV, aL, aH, aS, aZ, aI, aT) (n, cl, vs, lk, hd, nr, so, sz, it, o, ow, bg, dp, upd td (cn o) (td (cn o) + 1)) (to, rs, nx)) := by
  intro zz
  refine wo_body (Qc := fun A => va_Qi _ (wo_B E A) A) (ret := (some .int)) (by decide) rfl (Nat.le_of_ble_eq_true rfl) ?_
  intro p_ e_ s_ m_ args_ below_ meth_ code_ A_ ls S hret hlk hnm G hl
  have hl : lv_has ls 2 [(0, .ref m), (1, .int o)] := hl
  have hx := S.1
  have hb := S.2.1
  refine lv_aload_n hx hb dX5_tell_0 rfl (lv_at hl 0 rfl) ?_
  refine lv_iload_n hx hb dX5_tell_1 rfl (lv_at hl 1 rfl) ?_
  refine g_put (fs' := [.int (nI n), .ref aC, .ref aV, .ref aL, .ref aH, .int (nI nr), .ref aS, .ref aZ, .ref aI, .int o, .int ow, .int bg, .int dp, .ref aT, .int to, .int rs, .int nx]) (ty := .int) (v := .int o) S G (Rm_m R) rfl tyX5 tyX5_ok nmX5 (by decide +kernel) 9 (by decide) (by decide +kernel) rfl (by decide +kernel) rfl rfl (Nat.le_of_ble_eq_true rfl) rfl dX5_tell_2 (fun H locs G => ?_)
  obtain ⟨w, R, G⟩ := Rm_ex (Rm_p_oc R o) G
  refine lv_aload_n hx hb dX5_tell_5 rfl (lv_at hl 0 rfl) ?_
  refine g_get S G (Rm_m R) rfl (by decide +kernel) 13 (by decide) (by decide +kernel) rfl dX5_tell_6 ?_
  refine lv_iload_n hx hb dX5_tell_9 rfl (lv_at hl 1 rfl) ?_
  refine lv_dup2_11 hx hb dX5_tell_10 rfl rfl ?_
  refine g_iald S G (Rm_T R) (vin_e ej (show j < 10 by omega) (by omega)) dX5_tell_11 ?_
  refine lv_iconst (v := 1) hx hb dX5_tell_12 (by decide) ?_
  refine lv_iadd hx hb dX5_tell_13 ?_
  refine g_iast S G (Rm_T R) (vin_e ej (show j < 10 by omega) (by omega)) dX5_tell_14 (fun H locs G => ?_)
  obtain ⟨w, R, G⟩ := Rm_ex (Rm_p_td R (upd td (Int32.toNatClampNeg o) ((td (Int32.toNatClampNeg o)) + 1))) G
  refine lv_iload_n hx hb dX5_tell_15 rfl (lv_at hl 1 rfl) ?_
  refine r_int S hret hlk G rfl (Nat.le_of_ble_eq_true rfl) (Nat.le_of_ble_eq_true rfl) dX5_tell_16 ?_
  exact ⟨rfl, R⟩

set_option maxHeartbeats 4000000 in
set_option maxRecDepth 100000 in
theorem c_X5_isItem (l : Launch) {E : EV} {w : wo} {m aC aV aL aH aS aZ aI aT : Nat} {n : Nat} {cl vs lk hd : Nat → Int32} {nr : Nat} {so sz : Nat → Int32} {it : Nat → Int64} {oc ow bg dp : Int32} {td : Nat → Int32} {to rs nx : Int32} (R : Rm E w (m, aC, aV, aL, aH, aS, aZ, aI, aT) (n, cl, vs, lk, hd, nr, so, sz, it, oc, ow, bg, dp, td) (to, rs, nx)) {t : Int32} {k0 : Nat} (ek : t = nI k0) (hk : k0 < n) (Kn : n ≤ 40) {r : Nat} (er : hd k0 = nI r) (hr : r < nr) (Kr : nr ≤ 512) (hz : ∃ z, z < 13 ∧ sz r = nI z) (k : Int32) : ct_i l E yX5_isItem wsX5_isItem 1 0 0 [.ref m, .int t, .int k] w (fun q w' => w' = w ∧ q = if tin (cn (sz r)) k = true then 1 else 0) := by
  intro zz
  refine wo_body (Qc := fun A => va_Qi _ (wo_B E A) A) (ret := (some .boolean)) (by decide) rfl (Nat.le_of_ble_eq_true rfl) ?_
  intro p_ e_ s_ m_ args_ below_ meth_ code_ A_ ls S hret hlk hnm G hl
  have hl : lv_has ls 3 [(0, .ref m), (1, .int t), (2, .int k)] := hl
  have hx := S.1
  have hb := S.2.1
  refine lv_iload_n hx hb dX5_isItem_0 rfl (lv_at hl 2 rfl) ?_
  refine lv_i2l (v := (Int32.toInt64 k)) hx hb dX5_isItem_1 rfl ?_
  refine lv_lconst (v := 0) hx hb dX5_isItem_2 (by decide) ?_
  refine lv_aload_n hx hb dX5_isItem_3 rfl (lv_at hl 0 rfl) ?_
  refine g_get S G (Rm_m R) rfl (by decide +kernel) 7 (by decide) (by decide +kernel) rfl dX5_isItem_4 ?_
  refine lv_aload_n hx hb dX5_isItem_7 rfl (lv_at hl 0 rfl) ?_
  refine g_get S G (Rm_m R) rfl (by decide +kernel) 4 (by decide) (by decide +kernel) rfl dX5_isItem_8 ?_
  refine lv_iload_n hx hb dX5_isItem_11 rfl (lv_at hl 1 rfl) ?_
  refine g_iald S G (Rm_H R) (vin_e ek (show k0 < 40 by omega) (by omega)) dX5_isItem_12 ?_
  rw [show Int32.toNatClampNeg t = k0 by rw [ek]; exact nI_clamp (by omega)]
  refine g_iald S G (Rm_Z R) (vin_e er (show r < 520 by omega) (by omega)) dX5_isItem_13 ?_
  rw [show Int32.toNatClampNeg (hd k0) = r by rw [er]; exact nI_clamp (by omega)]
  refine lv_iconst (v := 1) hx hb dX5_isItem_14 (by decide) ?_
  refine lv_isub hx hb dX5_isItem_15 ?_
  refine lv_topi (fun a1 ea1 => ?_)
  refine lv_i2l (v := (Int32.toInt64 a1)) hx hb dX5_isItem_16 rfl ?_
  refine g_Si (n := 3) (rest := []) S G hl (c_X5_in l (Int32.toInt64 k) 0 (Int32.toInt64 a1)) gX5_isItem_X5_in rfl (by decide +kernel) rfl rfl (Nat.le_of_ble_eq_true rfl) ⟨Nat.le_of_ble_eq_true rfl, Nat.le_of_ble_eq_true rfl⟩ ⟨Nat.le_of_ble_eq_true rfl, Nat.le_of_ble_eq_true rfl⟩ dX5_isItem_17 ?_
  clear G; intro r_ w1 H locs hp G
  obtain ⟨rfl, hq_⟩ := hp
  rw [ea1] at hq_
  have hb01 : narrow .boolean (.int r_) = .int r_ := by rw [hq_]; split <;> rfl
  refine r_int S hret hlk G hb01 (Nat.le_of_ble_eq_true rfl) (Nat.le_of_ble_eq_true rfl) dX5_isItem_20 ?_
  have e9 := sz_eq hz
  have e8 := sz_le hz
  refine ⟨rfl, ?_⟩
  rw [hq_, ← e9, cn_nI (by omega)]
  exact ifc (in_n (by omega) k)

set_option maxHeartbeats 4000000 in
set_option maxRecDepth 100000 in
theorem M_outcome (l : Launch) {E : EV} {w : wo} {m : Nat} {σ : ST} (X : RmX E w m σ) (K : Gd σ)  : ct_i l E yX5_outcome wsX5_outcome 2 0 0 [.ref m] w (fun r w' => r = oc_of σ ∧ RmX E w' m σ) := by
  obtain ⟨aC, aV, aL, aH, aS, aZ, aI, aT, ⟨to, rs, nx⟩, R⟩ := X
  obtain ⟨n, cl, vs, lk, hd, nr, so, sz, it, oc, ow, bg, dp, td⟩ := σ
  have K9 := K
  obtain ⟨Kn, Kr, Kc, Kl, Kh, Ks, Kz, Ki⟩ := K9
  intro zz
  refine wo_body (Qc := fun A => va_Qi _ (wo_B E A) A) (ret := (some .int)) (by decide) rfl (Nat.le_of_ble_eq_true rfl) ?_
  intro p_ e_ s_ m_ args_ below_ meth_ code_ A_ ls S hret hlk hnm G hl
  have hl : lv_has ls 1 [(0, .ref m)] := hl
  have hx := S.1
  have hb := S.2.1
  refine lv_aload_n hx hb dX5_outcome_0 rfl (lv_at hl 0 rfl) ?_
  refine g_get S G (Rm_m R) rfl (by decide +kernel) 9 (by decide) (by decide +kernel) rfl dX5_outcome_1 ?_
  refine r_int S hret hlk G rfl (Nat.le_of_ble_eq_true rfl) (Nat.le_of_ble_eq_true rfl) dX5_outcome_4 ?_
  exact ⟨rfl, ⟨_, _, _, _, _, _, _, _, _, R⟩⟩

set_option maxHeartbeats 4000000 in
set_option maxRecDepth 100000 in
theorem M_own (l : Launch) {E : EV} {w : wo} {m : Nat} {σ : ST} (X : RmX E w m σ) (K : Gd σ)  : ct_i l E yX5_own wsX5_own 2 0 0 [.ref m] w (fun r w' => r = ow_of σ ∧ RmX E w' m σ) := by
  obtain ⟨aC, aV, aL, aH, aS, aZ, aI, aT, ⟨to, rs, nx⟩, R⟩ := X
  obtain ⟨n, cl, vs, lk, hd, nr, so, sz, it, oc, ow, bg, dp, td⟩ := σ
  have K9 := K
  obtain ⟨Kn, Kr, Kc, Kl, Kh, Ks, Kz, Ki⟩ := K9
  intro zz
  refine wo_body (Qc := fun A => va_Qi _ (wo_B E A) A) (ret := (some .int)) (by decide) rfl (Nat.le_of_ble_eq_true rfl) ?_
  intro p_ e_ s_ m_ args_ below_ meth_ code_ A_ ls S hret hlk hnm G hl
  have hl : lv_has ls 1 [(0, .ref m)] := hl
  have hx := S.1
  have hb := S.2.1
  refine lv_aload_n hx hb dX5_own_0 rfl (lv_at hl 0 rfl) ?_
  refine g_get S G (Rm_m R) rfl (by decide +kernel) 10 (by decide) (by decide +kernel) rfl dX5_own_1 ?_
  refine r_int S hret hlk G rfl (Nat.le_of_ble_eq_true rfl) (Nat.le_of_ble_eq_true rfl) dX5_own_4 ?_
  exact ⟨rfl, ⟨_, _, _, _, _, _, _, _, _, R⟩⟩

set_option maxHeartbeats 4000000 in
set_option maxRecDepth 100000 in
theorem M_begun (l : Launch) {E : EV} {w : wo} {m : Nat} {σ : ST} (X : RmX E w m σ) (K : Gd σ)  : ct_i l E yX5_begun wsX5_begun 2 0 0 [.ref m] w (fun r w' => r = bg_of σ ∧ RmX E w' m σ) := by
  obtain ⟨aC, aV, aL, aH, aS, aZ, aI, aT, ⟨to, rs, nx⟩, R⟩ := X
  obtain ⟨n, cl, vs, lk, hd, nr, so, sz, it, oc, ow, bg, dp, td⟩ := σ
  have K9 := K
  obtain ⟨Kn, Kr, Kc, Kl, Kh, Ks, Kz, Ki⟩ := K9
  intro zz
  refine wo_body (Qc := fun A => va_Qi _ (wo_B E A) A) (ret := (some .int)) (by decide) rfl (Nat.le_of_ble_eq_true rfl) ?_
  intro p_ e_ s_ m_ args_ below_ meth_ code_ A_ ls S hret hlk hnm G hl
  have hl : lv_has ls 1 [(0, .ref m)] := hl
  have hx := S.1
  have hb := S.2.1
  refine lv_aload_n hx hb dX5_begun_0 rfl (lv_at hl 0 rfl) ?_
  refine g_get S G (Rm_m R) rfl (by decide +kernel) 11 (by decide) (by decide +kernel) rfl dX5_begun_1 ?_
  refine r_int S hret hlk G rfl (Nat.le_of_ble_eq_true rfl) (Nat.le_of_ble_eq_true rfl) dX5_begun_4 ?_
  exact ⟨rfl, ⟨_, _, _, _, _, _, _, _, _, R⟩⟩

set_option maxHeartbeats 4000000 in
set_option maxRecDepth 100000 in
theorem M_deep (l : Launch) {E : EV} {w : wo} {m : Nat} {σ : ST} (X : RmX E w m σ) (K : Gd σ)  : ct_i l E yX5_deep wsX5_deep 2 0 0 [.ref m] w (fun r w' => r = dp_of σ ∧ RmX E w' m σ) := by
  obtain ⟨aC, aV, aL, aH, aS, aZ, aI, aT, ⟨to, rs, nx⟩, R⟩ := X
  obtain ⟨n, cl, vs, lk, hd, nr, so, sz, it, oc, ow, bg, dp, td⟩ := σ
  have K9 := K
  obtain ⟨Kn, Kr, Kc, Kl, Kh, Ks, Kz, Ki⟩ := K9
  intro zz
  refine wo_body (Qc := fun A => va_Qi _ (wo_B E A) A) (ret := (some .int)) (by decide) rfl (Nat.le_of_ble_eq_true rfl) ?_
  intro p_ e_ s_ m_ args_ below_ meth_ code_ A_ ls S hret hlk hnm G hl
  have hl : lv_has ls 1 [(0, .ref m)] := hl
  have hx := S.1
  have hb := S.2.1
  refine lv_aload_n hx hb dX5_deep_0 rfl (lv_at hl 0 rfl) ?_
  refine g_get S G (Rm_m R) rfl (by decide +kernel) 12 (by decide) (by decide +kernel) rfl dX5_deep_1 ?_
  refine r_int S hret hlk G rfl (Nat.le_of_ble_eq_true rfl) (Nat.le_of_ble_eq_true rfl) dX5_deep_4 ?_
  exact ⟨rfl, ⟨_, _, _, _, _, _, _, _, _, R⟩⟩

set_option maxHeartbeats 4000000 in
set_option maxRecDepth 100000 in
theorem M_things (l : Launch) {E : EV} {w : wo} {m : Nat} {σ : ST} (X : RmX E w m σ) (K : Gd σ)  : ct_i l E yX5_things wsX5_things 2 0 0 [.ref m] w (fun r w' => r = nn_of σ ∧ RmX E w' m σ) := by
  obtain ⟨aC, aV, aL, aH, aS, aZ, aI, aT, ⟨to, rs, nx⟩, R⟩ := X
  obtain ⟨n, cl, vs, lk, hd, nr, so, sz, it, oc, ow, bg, dp, td⟩ := σ
  have K9 := K
  obtain ⟨Kn, Kr, Kc, Kl, Kh, Ks, Kz, Ki⟩ := K9
  intro zz
  refine wo_body (Qc := fun A => va_Qi _ (wo_B E A) A) (ret := (some .int)) (by decide) rfl (Nat.le_of_ble_eq_true rfl) ?_
  intro p_ e_ s_ m_ args_ below_ meth_ code_ A_ ls S hret hlk hnm G hl
  have hl : lv_has ls 1 [(0, .ref m)] := hl
  have hx := S.1
  have hb := S.2.1
  refine lv_aload_n hx hb dX5_things_0 rfl (lv_at hl 0 rfl) ?_
  refine g_get S G (Rm_m R) rfl (by decide +kernel) 0 (by decide) (by decide +kernel) rfl dX5_things_1 ?_
  refine r_int S hret hlk G rfl (Nat.le_of_ble_eq_true rfl) (Nat.le_of_ble_eq_true rfl) dX5_things_4 ?_
  exact ⟨rfl, ⟨_, _, _, _, _, _, _, _, _, R⟩⟩

set_option maxHeartbeats 4000000 in
set_option maxRecDepth 100000 in
theorem M_told (l : Launch) {E : EV} {w : wo} {m : Nat} {σ : ST} (X : RmX E w m σ) (K : Gd σ) (o : Int32) : ct_i l E yX5_told wsX5_told 2 0 0 [.ref m, .int o] w (fun r w' => r = S_told o σ ∧ RmX E w' m σ) := by
  obtain ⟨aC, aV, aL, aH, aS, aZ, aI, aT, ⟨to, rs, nx⟩, R⟩ := X
  obtain ⟨n, cl, vs, lk, hd, nr, so, sz, it, oc, ow, bg, dp, td⟩ := σ
  have K9 := K
  obtain ⟨Kn, Kr, Kc, Kl, Kh, Ks, Kz, Ki⟩ := K9
  intro zz
  refine wo_body (Qc := fun A => va_Qi _ (wo_B E A) A) (ret := (some .int)) (by decide) rfl (Nat.le_of_ble_eq_true rfl) ?_
  intro p_ e_ s_ m_ args_ below_ meth_ code_ A_ ls S hret hlk hnm G hl
  have hl : lv_has ls 2 [(0, .ref m), (1, .int o)] := hl
  have hx := S.1
  have hb := S.2.1
  refine lv_iload_n hx hb dX5_told_0 rfl (lv_at hl 1 rfl) ?_
  refine lv_i2l (v := (Int32.toInt64 o)) hx hb dX5_told_1 rfl ?_
  refine lv_lconst (v := 0) hx hb dX5_told_2 (by decide) ?_
  refine lv_ldc2 hx hb S.2.2.2.1 (S.2.2.2.2 (.constantLong RX5 58 (9)) (by decide +kernel)) dX5_told_3 ?_
  by_cases i1 : tin 10 o = true
  · skip
    refine g_Si (n := 3) (rest := []) S G hl (c_X5_in l (Int32.toInt64 o) 0 (9)) gX5_told_X5_in rfl (by decide +kernel) rfl rfl (Nat.le_of_ble_eq_true rfl) ⟨Nat.le_of_ble_eq_true rfl, Nat.le_of_ble_eq_true rfl⟩ ⟨Nat.le_of_ble_eq_true rfl, Nat.le_of_ble_eq_true rfl⟩ dX5_told_6 ?_
    clear G; intro r_ w1 H locs hp G
    obtain ⟨rfl, hq_⟩ := hp
    rw [if_pos (show (0 : Int64) ≤ Int32.toInt64 o ∧ Int32.toInt64 o ≤ 9 from (in_k 9 (by omega) o).mpr i1)] at hq_
    subst hq_
    refine lv_if_eq (tgt := 21) hx hb dX5_told_9 (by decide) (fun c2 => absurd c2 (by decide)) (fun c2 => ?_)
    rcases tin_c 10 o (by omega) with ⟨q1, -⟩ | ⟨k9, hk9, ek9⟩
    · rw [q1] at i1; cases i1
    refine lv_aload_n hx hb dX5_told_12 rfl (lv_at hl 0 rfl) ?_
    refine g_get S G (Rm_m R) rfl (by decide +kernel) 13 (by decide) (by decide +kernel) rfl dX5_told_13 ?_
    refine lv_iload_n hx hb dX5_told_16 rfl (lv_at hl 1 rfl) ?_
    refine g_iald S G (Rm_T R) (vin_e ek9 (show k9 < 10 by omega) (by omega)) dX5_told_17 ?_
    rw [show Int32.toNatClampNeg o = k9 by rw [ek9]; exact nI_clamp (by omega)]
    refine lv_goto (tgt := 23) hx hb dX5_told_18 (by decide) ?_
    refine r_int S hret hlk G rfl (Nat.le_of_ble_eq_true rfl) (Nat.le_of_ble_eq_true rfl) dX5_told_23 ?_
    refine ⟨by simp only [S_told, i1, show cn o = k9 from cn_e ek9 (by omega), ↓reduceIte, Bool.false_eq_true], ?_⟩
    exact ⟨_, _, _, _, _, _, _, _, _, R⟩
  · skip
    refine g_Si (n := 3) (rest := []) S G hl (c_X5_in l (Int32.toInt64 o) 0 (9)) gX5_told_X5_in rfl (by decide +kernel) rfl rfl (Nat.le_of_ble_eq_true rfl) ⟨Nat.le_of_ble_eq_true rfl, Nat.le_of_ble_eq_true rfl⟩ ⟨Nat.le_of_ble_eq_true rfl, Nat.le_of_ble_eq_true rfl⟩ dX5_told_6 ?_
    clear G; intro r_ w1 H locs hp G
    obtain ⟨rfl, hq_⟩ := hp
    rw [if_neg (fun z : (0 : Int64) ≤ Int32.toInt64 o ∧ Int32.toInt64 o ≤ 9 => i1 ((in_k 9 (by omega) o).mp z))] at hq_
    subst hq_
    refine lv_if_eq (tgt := 21) hx hb dX5_told_9 (by decide) (fun c3 => ?_) (fun c3 => absurd (by decide) c3)
    refine lv_ldc hx hb S.2.2.2.1 (S.2.2.2.2 (.constant RX5 48 (-2000000001)) (by decide +kernel)) dX5_told_21 ?_
    refine r_int S hret hlk G rfl (Nat.le_of_ble_eq_true rfl) (Nat.le_of_ble_eq_true rfl) dX5_told_23 ?_
    refine ⟨by simp only [S_told, i1, ↓reduceIte, Bool.false_eq_true], ?_⟩
    exact ⟨_, _, _, _, _, _, _, _, _, R⟩

set_option maxHeartbeats 4000000 in
set_option maxRecDepth 100000 in
theorem M_cls (l : Launch) {E : EV} {w : wo} {m : Nat} {σ : ST} (X : RmX E w m σ) (K : Gd σ) (t : Int32) : ct_i l E yX5_cls wsX5_cls 2 0 0 [.ref m, .int t] w (fun r w' => r = S_cls t σ ∧ RmX E w' m σ) := by
  obtain ⟨aC, aV, aL, aH, aS, aZ, aI, aT, ⟨to, rs, nx⟩, R⟩ := X
  obtain ⟨n, cl, vs, lk, hd, nr, so, sz, it, oc, ow, bg, dp, td⟩ := σ
  have K9 := K
  obtain ⟨Kn, Kr, Kc, Kl, Kh, Ks, Kz, Ki⟩ := K9
  intro zz
  refine wo_body (Qc := fun A => va_Qi _ (wo_B E A) A) (ret := (some .int)) (by decide) rfl (Nat.le_of_ble_eq_true rfl) ?_
  intro p_ e_ s_ m_ args_ below_ meth_ code_ A_ ls S hret hlk hnm G hl
  have hl : lv_has ls 2 [(0, .ref m), (1, .int t)] := hl
  have hx := S.1
  have hb := S.2.1
  refine lv_aload_n hx hb dX5_cls_0 rfl (lv_at hl 0 rfl) ?_
  refine lv_iload_n hx hb dX5_cls_1 rfl (lv_at hl 1 rfl) ?_
  rcases tin_c n t (by omega) with ⟨tk1, ok1⟩ | ⟨k1, hk1, ek1⟩
  · skip
    refine g_Vi (n := 1) (rest := []) S G hl (c_X5_isThing l R Kn t) gX5_cls_X5_isThing rfl (by decide +kernel) (Rm_m R) rfl rfl rfl (Nat.le_of_ble_eq_true rfl) ⟨Nat.le_of_ble_eq_true rfl, Nat.le_of_ble_eq_true rfl⟩ ⟨Nat.le_of_ble_eq_true rfl, Nat.le_of_ble_eq_true rfl⟩ dX5_cls_2 ?_
    clear G; intro r_ w1 H locs hp G
    obtain ⟨rfl, hq_⟩ := hp
    rw [tk1] at hq_
    simp only [Bool.false_eq_true, ↓reduceIte] at hq_
    subst hq_
    refine lv_if_eq (tgt := 17) hx hb dX5_cls_5 (by decide) (fun c2 => ?_) (fun c2 => absurd (by decide) c2)
    refine lv_ldc hx hb S.2.2.2.1 (S.2.2.2.2 (.constant RX5 48 (-2000000001)) (by decide +kernel)) dX5_cls_17 ?_
    refine r_int S hret hlk G rfl (Nat.le_of_ble_eq_true rfl) (Nat.le_of_ble_eq_true rfl) dX5_cls_19 ?_
    refine ⟨by simp only [S_cls, tk1, s_tell, put_lk, put_vs, put_hd, put_it, ↓reduceIte, Bool.false_eq_true, pk_us], ?_⟩
    exact ⟨_, _, _, _, _, _, _, _, _, R⟩
  · skip
    refine g_Vi (n := 1) (rest := []) S G hl (c_X5_isThing l R Kn t) gX5_cls_X5_isThing rfl (by decide +kernel) (Rm_m R) rfl rfl rfl (Nat.le_of_ble_eq_true rfl) ⟨Nat.le_of_ble_eq_true rfl, Nat.le_of_ble_eq_true rfl⟩ ⟨Nat.le_of_ble_eq_true rfl, Nat.le_of_ble_eq_true rfl⟩ dX5_cls_2 ?_
    clear G; intro r_ w1 H locs hp G
    obtain ⟨rfl, hq_⟩ := hp
    rw [if_pos (tin_e ek1 hk1 (by omega))] at hq_
    subst hq_
    refine lv_if_eq (tgt := 17) hx hb dX5_cls_5 (by decide) (fun c3 => absurd c3 (by decide)) (fun c3 => ?_)
    refine lv_aload_n hx hb dX5_cls_8 rfl (lv_at hl 0 rfl) ?_
    refine g_get S G (Rm_m R) rfl (by decide +kernel) 1 (by decide) (by decide +kernel) rfl dX5_cls_9 ?_
    refine lv_iload_n hx hb dX5_cls_12 rfl (lv_at hl 1 rfl) ?_
    refine g_iald S G (Rm_C R) (vin_e ek1 (show k1 < 40 by omega) (by omega)) dX5_cls_13 ?_
    rw [show Int32.toNatClampNeg t = k1 by rw [ek1]; exact nI_clamp (by omega)]
    refine lv_goto (tgt := 19) hx hb dX5_cls_14 (by decide) ?_
    refine r_int S hret hlk G rfl (Nat.le_of_ble_eq_true rfl) (Nat.le_of_ble_eq_true rfl) dX5_cls_19 ?_
    have yk1 := tin_e ek1 hk1 (show n ≤ 1000 by omega)
    have zk1 := cn_e ek1 (show k1 < 1000 by omega)
    refine ⟨by simp only [S_cls, yk1, zk1, s_tell, put_lk, put_vs, put_hd, put_it, ↓reduceIte, Bool.false_eq_true, pk_us], ?_⟩
    exact ⟨_, _, _, _, _, _, _, _, _, R⟩

set_option maxHeartbeats 4000000 in
set_option maxRecDepth 100000 in
theorem M_v (l : Launch) {E : EV} {w : wo} {m : Nat} {σ : ST} (X : RmX E w m σ) (K : Gd σ) (t : Int32) : ct_i l E yX5_v wsX5_v 2 0 0 [.ref m, .int t] w (fun r w' => r = S_v t σ ∧ RmX E w' m σ) := by
  obtain ⟨aC, aV, aL, aH, aS, aZ, aI, aT, ⟨to, rs, nx⟩, R⟩ := X
  obtain ⟨n, cl, vs, lk, hd, nr, so, sz, it, oc, ow, bg, dp, td⟩ := σ
  have K9 := K
  obtain ⟨Kn, Kr, Kc, Kl, Kh, Ks, Kz, Ki⟩ := K9
  intro zz
  refine wo_body (Qc := fun A => va_Qi _ (wo_B E A) A) (ret := (some .int)) (by decide) rfl (Nat.le_of_ble_eq_true rfl) ?_
  intro p_ e_ s_ m_ args_ below_ meth_ code_ A_ ls S hret hlk hnm G hl
  have hl : lv_has ls 2 [(0, .ref m), (1, .int t)] := hl
  have hx := S.1
  have hb := S.2.1
  refine lv_aload_n hx hb dX5_v_0 rfl (lv_at hl 0 rfl) ?_
  refine lv_iload_n hx hb dX5_v_1 rfl (lv_at hl 1 rfl) ?_
  rcases tin_c n t (by omega) with ⟨tk1, ok1⟩ | ⟨k1, hk1, ek1⟩
  · skip
    refine g_Vi (n := 1) (rest := []) S G hl (c_X5_isThing l R Kn t) gX5_v_X5_isThing rfl (by decide +kernel) (Rm_m R) rfl rfl rfl (Nat.le_of_ble_eq_true rfl) ⟨Nat.le_of_ble_eq_true rfl, Nat.le_of_ble_eq_true rfl⟩ ⟨Nat.le_of_ble_eq_true rfl, Nat.le_of_ble_eq_true rfl⟩ dX5_v_2 ?_
    clear G; intro r_ w1 H locs hp G
    obtain ⟨rfl, hq_⟩ := hp
    rw [tk1] at hq_
    simp only [Bool.false_eq_true, ↓reduceIte] at hq_
    subst hq_
    refine lv_if_eq (tgt := 17) hx hb dX5_v_5 (by decide) (fun c2 => ?_) (fun c2 => absurd (by decide) c2)
    refine lv_ldc hx hb S.2.2.2.1 (S.2.2.2.2 (.constant RX5 48 (-2000000001)) (by decide +kernel)) dX5_v_17 ?_
    refine r_int S hret hlk G rfl (Nat.le_of_ble_eq_true rfl) (Nat.le_of_ble_eq_true rfl) dX5_v_19 ?_
    refine ⟨by simp only [S_v, tk1, s_tell, put_lk, put_vs, put_hd, put_it, ↓reduceIte, Bool.false_eq_true, pk_us], ?_⟩
    exact ⟨_, _, _, _, _, _, _, _, _, R⟩
  · skip
    refine g_Vi (n := 1) (rest := []) S G hl (c_X5_isThing l R Kn t) gX5_v_X5_isThing rfl (by decide +kernel) (Rm_m R) rfl rfl rfl (Nat.le_of_ble_eq_true rfl) ⟨Nat.le_of_ble_eq_true rfl, Nat.le_of_ble_eq_true rfl⟩ ⟨Nat.le_of_ble_eq_true rfl, Nat.le_of_ble_eq_true rfl⟩ dX5_v_2 ?_
    clear G; intro r_ w1 H locs hp G
    obtain ⟨rfl, hq_⟩ := hp
    rw [if_pos (tin_e ek1 hk1 (by omega))] at hq_
    subst hq_
    refine lv_if_eq (tgt := 17) hx hb dX5_v_5 (by decide) (fun c3 => absurd c3 (by decide)) (fun c3 => ?_)
    refine lv_aload_n hx hb dX5_v_8 rfl (lv_at hl 0 rfl) ?_
    refine g_get S G (Rm_m R) rfl (by decide +kernel) 2 (by decide) (by decide +kernel) rfl dX5_v_9 ?_
    refine lv_iload_n hx hb dX5_v_12 rfl (lv_at hl 1 rfl) ?_
    refine g_iald S G (Rm_V R) (vin_e ek1 (show k1 < 40 by omega) (by omega)) dX5_v_13 ?_
    rw [show Int32.toNatClampNeg t = k1 by rw [ek1]; exact nI_clamp (by omega)]
    refine lv_goto (tgt := 19) hx hb dX5_v_14 (by decide) ?_
    refine r_int S hret hlk G rfl (Nat.le_of_ble_eq_true rfl) (Nat.le_of_ble_eq_true rfl) dX5_v_19 ?_
    have yk1 := tin_e ek1 hk1 (show n ≤ 1000 by omega)
    have zk1 := cn_e ek1 (show k1 < 1000 by omega)
    refine ⟨by simp only [S_v, yk1, zk1, s_tell, put_lk, put_vs, put_hd, put_it, ↓reduceIte, Bool.false_eq_true, pk_us], ?_⟩
    exact ⟨_, _, _, _, _, _, _, _, _, R⟩

set_option maxHeartbeats 4000000 in
set_option maxRecDepth 100000 in
theorem M_linked (l : Launch) {E : EV} {w : wo} {m : Nat} {σ : ST} (X : RmX E w m σ) (K : Gd σ) (t : Int32) : ct_i l E yX5_linked wsX5_linked 2 0 0 [.ref m, .int t] w (fun r w' => r = S_linked t σ ∧ RmX E w' m σ) := by
  obtain ⟨aC, aV, aL, aH, aS, aZ, aI, aT, ⟨to, rs, nx⟩, R⟩ := X
  obtain ⟨n, cl, vs, lk, hd, nr, so, sz, it, oc, ow, bg, dp, td⟩ := σ
  have K9 := K
  obtain ⟨Kn, Kr, Kc, Kl, Kh, Ks, Kz, Ki⟩ := K9
  intro zz
  refine wo_body (Qc := fun A => va_Qi _ (wo_B E A) A) (ret := (some .int)) (by decide) rfl (Nat.le_of_ble_eq_true rfl) ?_
  intro p_ e_ s_ m_ args_ below_ meth_ code_ A_ ls S hret hlk hnm G hl
  have hl : lv_has ls 2 [(0, .ref m), (1, .int t)] := hl
  have hx := S.1
  have hb := S.2.1
  refine lv_aload_n hx hb dX5_linked_0 rfl (lv_at hl 0 rfl) ?_
  refine lv_iload_n hx hb dX5_linked_1 rfl (lv_at hl 1 rfl) ?_
  rcases tin_c n t (by omega) with ⟨tk1, ok1⟩ | ⟨k1, hk1, ek1⟩
  · skip
    refine g_Vi (n := 1) (rest := []) S G hl (c_X5_isThing l R Kn t) gX5_linked_X5_isThing rfl (by decide +kernel) (Rm_m R) rfl rfl rfl (Nat.le_of_ble_eq_true rfl) ⟨Nat.le_of_ble_eq_true rfl, Nat.le_of_ble_eq_true rfl⟩ ⟨Nat.le_of_ble_eq_true rfl, Nat.le_of_ble_eq_true rfl⟩ dX5_linked_2 ?_
    clear G; intro r_ w1 H locs hp G
    obtain ⟨rfl, hq_⟩ := hp
    rw [tk1] at hq_
    simp only [Bool.false_eq_true, ↓reduceIte] at hq_
    subst hq_
    refine lv_if_eq (tgt := 17) hx hb dX5_linked_5 (by decide) (fun c2 => ?_) (fun c2 => absurd (by decide) c2)
    refine lv_ldc hx hb S.2.2.2.1 (S.2.2.2.2 (.constant RX5 48 (-2000000001)) (by decide +kernel)) dX5_linked_17 ?_
    refine r_int S hret hlk G rfl (Nat.le_of_ble_eq_true rfl) (Nat.le_of_ble_eq_true rfl) dX5_linked_19 ?_
    refine ⟨by simp only [S_linked, tk1, s_tell, put_lk, put_vs, put_hd, put_it, ↓reduceIte, Bool.false_eq_true, pk_us], ?_⟩
    exact ⟨_, _, _, _, _, _, _, _, _, R⟩
  · skip
    refine g_Vi (n := 1) (rest := []) S G hl (c_X5_isThing l R Kn t) gX5_linked_X5_isThing rfl (by decide +kernel) (Rm_m R) rfl rfl rfl (Nat.le_of_ble_eq_true rfl) ⟨Nat.le_of_ble_eq_true rfl, Nat.le_of_ble_eq_true rfl⟩ ⟨Nat.le_of_ble_eq_true rfl, Nat.le_of_ble_eq_true rfl⟩ dX5_linked_2 ?_
    clear G; intro r_ w1 H locs hp G
    obtain ⟨rfl, hq_⟩ := hp
    rw [if_pos (tin_e ek1 hk1 (by omega))] at hq_
    subst hq_
    refine lv_if_eq (tgt := 17) hx hb dX5_linked_5 (by decide) (fun c3 => absurd c3 (by decide)) (fun c3 => ?_)
    refine lv_aload_n hx hb dX5_linked_8 rfl (lv_at hl 0 rfl) ?_
    refine g_get S G (Rm_m R) rfl (by decide +kernel) 3 (by decide) (by decide +kernel) rfl dX5_linked_9 ?_
    refine lv_iload_n hx hb dX5_linked_12 rfl (lv_at hl 1 rfl) ?_
    refine g_iald S G (Rm_L R) (vin_e ek1 (show k1 < 40 by omega) (by omega)) dX5_linked_13 ?_
    rw [show Int32.toNatClampNeg t = k1 by rw [ek1]; exact nI_clamp (by omega)]
    refine lv_goto (tgt := 19) hx hb dX5_linked_14 (by decide) ?_
    refine r_int S hret hlk G rfl (Nat.le_of_ble_eq_true rfl) (Nat.le_of_ble_eq_true rfl) dX5_linked_19 ?_
    have yk1 := tin_e ek1 hk1 (show n ≤ 1000 by omega)
    have zk1 := cn_e ek1 (show k1 < 1000 by omega)
    refine ⟨by simp only [S_linked, yk1, zk1, s_tell, put_lk, put_vs, put_hd, put_it, ↓reduceIte, Bool.false_eq_true, pk_us], ?_⟩
    exact ⟨_, _, _, _, _, _, _, _, _, R⟩

set_option maxHeartbeats 4000000 in
set_option maxRecDepth 100000 in
theorem M_become (l : Launch) {E : EV} {w : wo} {m : Nat} {σ : ST} (X : RmX E w m σ) (K : Gd σ) (t : Int32) (v : Int32) : ct_i l E yX5_become wsX5_become 2 0 0 [.ref m, .int t, .int v] w (fun r w' => r = (S_become t v σ).1 ∧ RmX E w' m (S_become t v σ).2) := by
  obtain ⟨aC, aV, aL, aH, aS, aZ, aI, aT, ⟨to, rs, nx⟩, R⟩ := X
  obtain ⟨n, cl, vs, lk, hd, nr, so, sz, it, oc, ow, bg, dp, td⟩ := σ
  have K9 := K
  obtain ⟨Kn, Kr, Kc, Kl, Kh, Ks, Kz, Ki⟩ := K9
  intro zz
  refine wo_body (Qc := fun A => va_Qi _ (wo_B E A) A) (ret := (some .int)) (by decide) rfl (Nat.le_of_ble_eq_true rfl) ?_
  intro p_ e_ s_ m_ args_ below_ meth_ code_ A_ ls S hret hlk hnm G hl
  have hl : lv_has ls 4 [(0, .ref m), (1, .int t), (2, .int v)] := hl
  have hx := S.1
  have hb := S.2.1
  refine lv_aload_n hx hb dX5_become_0 rfl (lv_at hl 0 rfl) ?_
  refine lv_iload_n hx hb dX5_become_1 rfl (lv_at hl 1 rfl) ?_
  rcases tin_c n t (by omega) with ⟨tk1, ok1⟩ | ⟨k1, hk1, ek1⟩
  · skip
    refine g_Vi (n := 1) (rest := []) S G hl (c_X5_isThing l R Kn t) gX5_become_X5_isThing rfl (by decide +kernel) (Rm_m R) rfl rfl rfl (Nat.le_of_ble_eq_true rfl) ⟨Nat.le_of_ble_eq_true rfl, Nat.le_of_ble_eq_true rfl⟩ ⟨Nat.le_of_ble_eq_true rfl, Nat.le_of_ble_eq_true rfl⟩ dX5_become_2 ?_
    clear G; intro r_ w1 H locs hp G
    obtain ⟨rfl, hq_⟩ := hp
    rw [tk1] at hq_
    simp only [Bool.false_eq_true, ↓reduceIte] at hq_
    subst hq_
    refine lv_if_ne (tgt := 11) hx hb dX5_become_5 (by decide) (fun c2 => absurd (by decide) c2) (fun c2 => ?_)
    refine lv_ldc hx hb S.2.2.2.1 (S.2.2.2.2 (.constant RX5 48 (-2000000001)) (by decide +kernel)) dX5_become_8 ?_
    refine r_int S hret hlk G rfl (Nat.le_of_ble_eq_true rfl) (Nat.le_of_ble_eq_true rfl) dX5_become_10 ?_
    refine ⟨by simp only [S_become, tk1, s_tell, put_lk, put_vs, put_hd, put_it, ↓reduceIte, Bool.false_eq_true, pk_us], ?_⟩
    simp only [S_become, tk1, s_tell, put_lk, put_vs, put_hd, put_it, ↓reduceIte, Bool.false_eq_true, pk_us]
    exact ⟨_, _, _, _, _, _, _, _, _, R⟩
  · skip
    refine g_Vi (n := 1) (rest := []) S G hl (c_X5_isThing l R Kn t) gX5_become_X5_isThing rfl (by decide +kernel) (Rm_m R) rfl rfl rfl (Nat.le_of_ble_eq_true rfl) ⟨Nat.le_of_ble_eq_true rfl, Nat.le_of_ble_eq_true rfl⟩ ⟨Nat.le_of_ble_eq_true rfl, Nat.le_of_ble_eq_true rfl⟩ dX5_become_2 ?_
    clear G; intro r_ w1 H locs hp G
    obtain ⟨rfl, hq_⟩ := hp
    rw [if_pos (tin_e ek1 hk1 (by omega))] at hq_
    subst hq_
    refine lv_if_ne (tgt := 11) hx hb dX5_become_5 (by decide) (fun c3 => ?_) (fun c3 => absurd c3 (by decide))
    refine lv_aload_n hx hb dX5_become_11 rfl (lv_at hl 0 rfl) ?_
    refine g_get S G (Rm_m R) rfl (by decide +kernel) 2 (by decide) (by decide +kernel) rfl dX5_become_12 ?_
    refine lv_iload_n hx hb dX5_become_15 rfl (lv_at hl 1 rfl) ?_
    refine g_iald S G (Rm_V R) (vin_e ek1 (show k1 < 40 by omega) (by omega)) dX5_become_16 ?_
    rw [show Int32.toNatClampNeg t = k1 by rw [ek1]; exact nI_clamp (by omega)]
    refine lv_istore_n (lv' := [(3, .int (vs k1)), (0, .ref m), (1, .int t), (2, .int v)]) hx hb dX5_become_17 rfl hl (by decide) rfl (fun ls hl => ?_)
    refine lv_aload_n hx hb dX5_become_18 rfl (lv_at hl 1 rfl) ?_
    refine g_get S G (Rm_m R) rfl (by decide +kernel) 2 (by decide) (by decide +kernel) rfl dX5_become_19 ?_
    refine lv_iload_n hx hb dX5_become_22 rfl (lv_at hl 2 rfl) ?_
    refine lv_iload_n hx hb dX5_become_23 rfl (lv_at hl 3 rfl) ?_
    refine g_iast S G (Rm_V R) (vin_e ek1 (show k1 < 40 by omega) (by omega)) dX5_become_24 (fun H locs G => ?_)
    rw [show Int32.toNatClampNeg t = k1 by rw [ek1]; exact nI_clamp (by omega)] at G
    obtain ⟨w, R, G⟩ := Rm_ex (Rm_p_vs R (upd vs k1 v)) G
    refine lv_iload_n hx hb dX5_become_25 rfl (lv_at hl 0 rfl) ?_
    refine r_int S hret hlk G rfl (Nat.le_of_ble_eq_true rfl) (Nat.le_of_ble_eq_true rfl) dX5_become_26 ?_
    have yk1 := tin_e ek1 hk1 (show n ≤ 1000 by omega)
    have zk1 := cn_e ek1 (show k1 < 1000 by omega)
    refine ⟨by simp only [S_become, yk1, zk1, s_tell, put_lk, put_vs, put_hd, put_it, ↓reduceIte, Bool.false_eq_true, pk_us], ?_⟩
    simp only [S_become, yk1, zk1, s_tell, put_lk, put_vs, put_hd, put_it, ↓reduceIte, Bool.false_eq_true, pk_us]
    exact ⟨_, _, _, _, _, _, _, _, _, R⟩

theorem isof_t {x c : Int32} (h : x = c ∨ (c < x ∧ x ≤ 2)) : isof x c = true := by
  simp only [isof, Bool.or_eq_true, Bool.and_eq_true, decide_eq_true_eq]; exact h
theorem isof_f {x c : Int32} (h : ¬ (x = c ∨ (c < x ∧ x ≤ 2))) : isof x c = false := by
  cases q : isof x c with
  | false => rfl
  | true =>
    simp only [isof, Bool.or_eq_true, Bool.and_eq_true, decide_eq_true_eq] at q
    exact absurd q h
set_option maxHeartbeats 4000000 in
set_option maxRecDepth 100000 in
theorem M_is (l : Launch) {E : EV} {w : wo} {m : Nat} {σ : ST} (X : RmX E w m σ) (K : Gd σ) (t : Int32) (c : Int32) : ct_i l E yX5_is wsX5_is 2 0 0 [.ref m, .int t, .int c] w (fun r w' => r = S_is t c σ ∧ RmX E w' m σ) := by
  obtain ⟨aC, aV, aL, aH, aS, aZ, aI, aT, ⟨to, rs, nx⟩, R⟩ := X
  obtain ⟨n, cl, vs, lk, hd, nr, so, sz, it, oc, ow, bg, dp, td⟩ := σ
  have K9 := K
  obtain ⟨Kn, Kr, Kc, Kl, Kh, Ks, Kz, Ki⟩ := K9
  intro zz
  refine wo_body (Qc := fun A => va_Qi _ (wo_B E A) A) (ret := (some .int)) (by decide) rfl (Nat.le_of_ble_eq_true rfl) ?_
  intro p_ e_ s_ m_ args_ below_ meth_ code_ A_ ls S hret hlk hnm G hl
  have hl : lv_has ls 3 [(0, .ref m), (1, .int t), (2, .int c)] := hl
  have hx := S.1
  have hb := S.2.1
  refine lv_aload_n hx hb dX5_is_0 rfl (lv_at hl 0 rfl) ?_
  refine lv_iload_n hx hb dX5_is_1 rfl (lv_at hl 1 rfl) ?_
  rcases tin_c n t (by omega) with ⟨tk1, ok1⟩ | ⟨k1, hk1, ek1⟩
  · skip
    refine g_Vi (n := 1) (rest := []) S G hl (c_X5_isThing l R Kn t) gX5_is_X5_isThing rfl (by decide +kernel) (Rm_m R) rfl rfl rfl (Nat.le_of_ble_eq_true rfl) ⟨Nat.le_of_ble_eq_true rfl, Nat.le_of_ble_eq_true rfl⟩ ⟨Nat.le_of_ble_eq_true rfl, Nat.le_of_ble_eq_true rfl⟩ dX5_is_2 ?_
    clear G; intro r_ w1 H locs hp G
    obtain ⟨rfl, hq_⟩ := hp
    rw [tk1] at hq_
    simp only [Bool.false_eq_true, ↓reduceIte] at hq_
    subst hq_
    refine lv_if_eq (tgt := 20) hx hb dX5_is_5 (by decide) (fun c2 => ?_) (fun c2 => absurd (by decide) c2)
    refine lv_ldc hx hb S.2.2.2.1 (S.2.2.2.2 (.constant RX5 48 (-2000000001)) (by decide +kernel)) dX5_is_20 ?_
    refine r_int S hret hlk G rfl (Nat.le_of_ble_eq_true rfl) (Nat.le_of_ble_eq_true rfl) dX5_is_22 ?_
    exact ⟨by simp only [S_is, tk1, ↓reduceIte, Bool.false_eq_true], ⟨_, _, _, _, _, _, _, _, _, R⟩⟩
  · skip
    refine g_Vi (n := 1) (rest := []) S G hl (c_X5_isThing l R Kn t) gX5_is_X5_isThing rfl (by decide +kernel) (Rm_m R) rfl rfl rfl (Nat.le_of_ble_eq_true rfl) ⟨Nat.le_of_ble_eq_true rfl, Nat.le_of_ble_eq_true rfl⟩ ⟨Nat.le_of_ble_eq_true rfl, Nat.le_of_ble_eq_true rfl⟩ dX5_is_2 ?_
    clear G; intro r_ w1 H locs hp G
    obtain ⟨rfl, hq_⟩ := hp
    rw [if_pos (tin_e ek1 hk1 (by omega))] at hq_
    subst hq_
    refine lv_if_eq (tgt := 20) hx hb dX5_is_5 (by decide) (fun c3 => absurd c3 (by decide)) (fun c3 => ?_)
    refine lv_iload_n hx hb dX5_is_8 rfl (lv_at hl 2 rfl) ?_
    refine lv_i2l (v := (Int32.toInt64 c)) hx hb dX5_is_9 rfl ?_
    refine lv_lconst (v := 0) hx hb dX5_is_10 (by decide) ?_
    refine lv_ldc2 hx hb S.2.2.2.1 (S.2.2.2.2 (.constantLong RX5 46 (7)) (by decide +kernel)) dX5_is_11 ?_
    by_cases i4 : tin 8 c = true
    · skip
      refine g_Si (n := 3) (rest := []) S G hl (c_X5_in l (Int32.toInt64 c) 0 (7)) gX5_is_X5_in rfl (by decide +kernel) rfl rfl (Nat.le_of_ble_eq_true rfl) ⟨Nat.le_of_ble_eq_true rfl, Nat.le_of_ble_eq_true rfl⟩ ⟨Nat.le_of_ble_eq_true rfl, Nat.le_of_ble_eq_true rfl⟩ dX5_is_14 ?_
      clear G; intro r_ w1 H locs hp G
      obtain ⟨rfl, hq_⟩ := hp
      rw [if_pos (show (0 : Int64) ≤ Int32.toInt64 c ∧ Int32.toInt64 c ≤ 7 from (in_k 7 (by omega) c).mpr i4)] at hq_
      subst hq_
      refine lv_if_ne (tgt := 23) hx hb dX5_is_17 (by decide) (fun c5 => ?_) (fun c5 => absurd c5 (by decide))
      refine lv_aload_n hx hb dX5_is_23 rfl (lv_at hl 0 rfl) ?_
      refine g_get S G (Rm_m R) rfl (by decide +kernel) 1 (by decide) (by decide +kernel) rfl dX5_is_24 ?_
      refine lv_iload_n hx hb dX5_is_27 rfl (lv_at hl 1 rfl) ?_
      refine g_iald S G (Rm_C R) (vin_e ek1 (show k1 < 40 by omega) (by omega)) dX5_is_28 ?_
      rw [show Int32.toNatClampNeg t = k1 by rw [ek1]; exact nI_clamp (by omega)]
      refine lv_iload_n hx hb dX5_is_29 rfl (lv_at hl 2 rfl) ?_
      refine lv_icmp_eq (tgt := 53) hx hb dX5_is_30 (by decide) (fun c6 => ?_) (fun c6 => ?_)
      · skip
        refine lv_iconst (v := 1) hx hb dX5_is_53 (by decide) ?_
        refine lv_goto (tgt := 58) hx hb dX5_is_54 (by decide) ?_
        refine r_int S hret hlk G rfl (Nat.le_of_ble_eq_true rfl) (Nat.le_of_ble_eq_true rfl) dX5_is_58 ?_
        have yk1 := tin_e ek1 hk1 (show n ≤ 1000 by omega)
        have zk1 := cn_e ek1 (show k1 < 1000 by omega)
        have i9 : isof (cl k1) c = true := isof_t (Or.inl c6)
        exact ⟨by simp only [S_is, yk1, zk1, i4, ↓reduceIte, Bool.false_eq_true, i9], ⟨_, _, _, _, _, _, _, _, _, R⟩⟩
      · skip
        refine lv_iload_n hx hb dX5_is_33 rfl (lv_at hl 2 rfl) ?_
        refine lv_aload_n hx hb dX5_is_34 rfl (lv_at hl 0 rfl) ?_
        refine g_get S G (Rm_m R) rfl (by decide +kernel) 1 (by decide) (by decide +kernel) rfl dX5_is_35 ?_
        refine lv_iload_n hx hb dX5_is_38 rfl (lv_at hl 1 rfl) ?_
        refine g_iald S G (Rm_C R) (vin_e ek1 (show k1 < 40 by omega) (by omega)) dX5_is_39 ?_
        rw [show Int32.toNatClampNeg t = k1 by rw [ek1]; exact nI_clamp (by omega)]
        refine lv_icmp_ge (tgt := 57) hx hb dX5_is_40 (by decide) (fun c7 => ?_) (fun c7 => ?_)
        · skip
          refine lv_iconst (v := 0) hx hb dX5_is_57 (by decide) ?_
          refine r_int S hret hlk G rfl (Nat.le_of_ble_eq_true rfl) (Nat.le_of_ble_eq_true rfl) dX5_is_58 ?_
          have yk1 := tin_e ek1 hk1 (show n ≤ 1000 by omega)
          have zk1 := cn_e ek1 (show k1 < 1000 by omega)
          have i9 : isof (cl k1) c = false := isof_f (fun z => z.elim c6 (fun z => Int32.not_lt.mpr c7 z.1))
          exact ⟨by simp only [S_is, yk1, zk1, i4, ↓reduceIte, Bool.false_eq_true, i9], ⟨_, _, _, _, _, _, _, _, _, R⟩⟩
        · skip
          refine lv_aload_n hx hb dX5_is_43 rfl (lv_at hl 0 rfl) ?_
          refine g_get S G (Rm_m R) rfl (by decide +kernel) 1 (by decide) (by decide +kernel) rfl dX5_is_44 ?_
          refine lv_iload_n hx hb dX5_is_47 rfl (lv_at hl 1 rfl) ?_
          refine g_iald S G (Rm_C R) (vin_e ek1 (show k1 < 40 by omega) (by omega)) dX5_is_48 ?_
          rw [show Int32.toNatClampNeg t = k1 by rw [ek1]; exact nI_clamp (by omega)]
          refine lv_iconst (v := 2) hx hb dX5_is_49 (by decide) ?_
          refine lv_icmp_gt (tgt := 57) hx hb dX5_is_50 (by decide) (fun c8 => ?_) (fun c8 => ?_)
          · skip
            refine lv_iconst (v := 0) hx hb dX5_is_57 (by decide) ?_
            refine r_int S hret hlk G rfl (Nat.le_of_ble_eq_true rfl) (Nat.le_of_ble_eq_true rfl) dX5_is_58 ?_
            have yk1 := tin_e ek1 hk1 (show n ≤ 1000 by omega)
            have zk1 := cn_e ek1 (show k1 < 1000 by omega)
            have i9 : isof (cl k1) c = false := isof_f (fun z => z.elim c6 (fun z => Int32.not_lt.mpr z.2 c8))
            exact ⟨by simp only [S_is, yk1, zk1, i4, ↓reduceIte, Bool.false_eq_true, i9], ⟨_, _, _, _, _, _, _, _, _, R⟩⟩
          · skip
            refine lv_iconst (v := 1) hx hb dX5_is_53 (by decide) ?_
            refine lv_goto (tgt := 58) hx hb dX5_is_54 (by decide) ?_
            refine r_int S hret hlk G rfl (Nat.le_of_ble_eq_true rfl) (Nat.le_of_ble_eq_true rfl) dX5_is_58 ?_
            have yk1 := tin_e ek1 hk1 (show n ≤ 1000 by omega)
            have zk1 := cn_e ek1 (show k1 < 1000 by omega)
            have i9 : isof (cl k1) c = true := isof_t (Or.inr ⟨Int32.not_le.mp c7, Int32.not_lt.mp c8⟩)
            exact ⟨by simp only [S_is, yk1, zk1, i4, ↓reduceIte, Bool.false_eq_true, i9], ⟨_, _, _, _, _, _, _, _, _, R⟩⟩
    · skip
      refine g_Si (n := 3) (rest := []) S G hl (c_X5_in l (Int32.toInt64 c) 0 (7)) gX5_is_X5_in rfl (by decide +kernel) rfl rfl (Nat.le_of_ble_eq_true rfl) ⟨Nat.le_of_ble_eq_true rfl, Nat.le_of_ble_eq_true rfl⟩ ⟨Nat.le_of_ble_eq_true rfl, Nat.le_of_ble_eq_true rfl⟩ dX5_is_14 ?_
      clear G; intro r_ w1 H locs hp G
      obtain ⟨rfl, hq_⟩ := hp
      rw [if_neg (fun z : (0 : Int64) ≤ Int32.toInt64 c ∧ Int32.toInt64 c ≤ 7 => i4 ((in_k 7 (by omega) c).mp z))] at hq_
      subst hq_
      refine lv_if_ne (tgt := 23) hx hb dX5_is_17 (by decide) (fun c9 => absurd (by decide) c9) (fun c9 => ?_)
      refine lv_ldc hx hb S.2.2.2.1 (S.2.2.2.2 (.constant RX5 48 (-2000000001)) (by decide +kernel)) dX5_is_20 ?_
      refine r_int S hret hlk G rfl (Nat.le_of_ble_eq_true rfl) (Nat.le_of_ble_eq_true rfl) dX5_is_22 ?_
      have yk1 := tin_e ek1 hk1 (show n ≤ 1000 by omega)
      have zk1 := cn_e ek1 (show k1 < 1000 by omega)
      exact ⟨by simp only [S_is, yk1, zk1, i4, ↓reduceIte, Bool.false_eq_true], ⟨_, _, _, _, _, _, _, _, _, R⟩⟩

set_option maxHeartbeats 4000000 in
set_option maxRecDepth 100000 in
theorem M_link (l : Launch) {E : EV} {w : wo} {m : Nat} {σ : ST} (X : RmX E w m σ) (K : Gd σ) (t : Int32) (o : Int32) : ct_i l E yX5_link wsX5_link 2 0 0 [.ref m, .int t, .int o] w (fun r w' => r = (S_link t o σ).1 ∧ RmX E w' m (S_link t o σ).2) := by
  obtain ⟨aC, aV, aL, aH, aS, aZ, aI, aT, ⟨to, rs, nx⟩, R⟩ := X
  obtain ⟨n, cl, vs, lk, hd, nr, so, sz, it, oc, ow, bg, dp, td⟩ := σ
  have K9 := K
  obtain ⟨Kn, Kr, Kc, Kl, Kh, Ks, Kz, Ki⟩ := K9
  intro zz
  refine wo_body (Qc := fun A => va_Qi _ (wo_B E A) A) (ret := (some .int)) (by decide) rfl (Nat.le_of_ble_eq_true rfl) ?_
  intro p_ e_ s_ m_ args_ below_ meth_ code_ A_ ls S hret hlk hnm G hl
  have hl : lv_has ls 4 [(0, .ref m), (1, .int t), (2, .int o)] := hl
  have hx := S.1
  have hb := S.2.1
  refine lv_aload_n hx hb dX5_link_0 rfl (lv_at hl 0 rfl) ?_
  refine lv_iload_n hx hb dX5_link_1 rfl (lv_at hl 1 rfl) ?_
  rcases tin_c n t (by omega) with ⟨tk1, ok1⟩ | ⟨k1, hk1, ek1⟩
  · skip
    refine g_Vi (n := 1) (rest := []) S G hl (c_X5_isThing l R Kn t) gX5_link_X5_isThing rfl (by decide +kernel) (Rm_m R) rfl rfl rfl (Nat.le_of_ble_eq_true rfl) ⟨Nat.le_of_ble_eq_true rfl, Nat.le_of_ble_eq_true rfl⟩ ⟨Nat.le_of_ble_eq_true rfl, Nat.le_of_ble_eq_true rfl⟩ dX5_link_2 ?_
    clear G; intro r_ w1 H locs hp G
    obtain ⟨rfl, hq_⟩ := hp
    rw [tk1] at hq_
    simp only [Bool.false_eq_true, ↓reduceIte] at hq_
    subst hq_
    refine lv_if_eq (tgt := 21) hx hb dX5_link_5 (by decide) (fun c2 => ?_) (fun c2 => absurd (by decide) c2)
    refine lv_ldc hx hb S.2.2.2.1 (S.2.2.2.2 (.constant RX5 48 (-2000000001)) (by decide +kernel)) dX5_link_21 ?_
    refine r_int S hret hlk G rfl (Nat.le_of_ble_eq_true rfl) (Nat.le_of_ble_eq_true rfl) dX5_link_23 ?_
    refine ⟨by simp only [S_link, tk1, ↓reduceIte, Bool.false_eq_true], ?_⟩
    simp only [S_link, tk1, ↓reduceIte, Bool.false_eq_true]
    exact ⟨_, _, _, _, _, _, _, _, _, R⟩
  · skip
    refine g_Vi (n := 1) (rest := []) S G hl (c_X5_isThing l R Kn t) gX5_link_X5_isThing rfl (by decide +kernel) (Rm_m R) rfl rfl rfl (Nat.le_of_ble_eq_true rfl) ⟨Nat.le_of_ble_eq_true rfl, Nat.le_of_ble_eq_true rfl⟩ ⟨Nat.le_of_ble_eq_true rfl, Nat.le_of_ble_eq_true rfl⟩ dX5_link_2 ?_
    clear G; intro r_ w1 H locs hp G
    obtain ⟨rfl, hq_⟩ := hp
    rw [if_pos (tin_e ek1 hk1 (by omega))] at hq_
    subst hq_
    refine lv_if_eq (tgt := 21) hx hb dX5_link_5 (by decide) (fun c3 => absurd c3 (by decide)) (fun c3 => ?_)
    refine lv_iload_n hx hb dX5_link_8 rfl (lv_at hl 2 rfl) ?_
    refine lv_iconst (v := (-1)) hx hb dX5_link_9 (by decide) ?_
    refine lv_icmp_eq (tgt := 24) hx hb dX5_link_10 (by decide) (fun c4 => ?_) (fun c4 => ?_)
    · skip
      refine lv_aload_n hx hb dX5_link_24 rfl (lv_at hl 0 rfl) ?_
      refine g_get S G (Rm_m R) rfl (by decide +kernel) 3 (by decide) (by decide +kernel) rfl dX5_link_25 ?_
      refine lv_iload_n hx hb dX5_link_28 rfl (lv_at hl 1 rfl) ?_
      refine g_iald S G (Rm_L R) (vin_e ek1 (show k1 < 40 by omega) (by omega)) dX5_link_29 ?_
      rw [show Int32.toNatClampNeg t = k1 by rw [ek1]; exact nI_clamp (by omega)]
      refine lv_istore_n (lv' := [(3, .int (lk k1)), (0, .ref m), (1, .int t), (2, .int o)]) hx hb dX5_link_30 rfl hl (by decide) rfl (fun ls hl => ?_)
      refine lv_aload_n hx hb dX5_link_31 rfl (lv_at hl 1 rfl) ?_
      refine g_get S G (Rm_m R) rfl (by decide +kernel) 3 (by decide) (by decide +kernel) rfl dX5_link_32 ?_
      refine lv_iload_n hx hb dX5_link_35 rfl (lv_at hl 2 rfl) ?_
      refine lv_iload_n hx hb dX5_link_36 rfl (lv_at hl 3 rfl) ?_
      refine g_iast S G (Rm_L R) (vin_e ek1 (show k1 < 40 by omega) (by omega)) dX5_link_37 (fun H locs G => ?_)
      rw [show Int32.toNatClampNeg t = k1 by rw [ek1]; exact nI_clamp (by omega)] at G
      obtain ⟨w, R, G⟩ := Rm_ex (Rm_p_lk R (upd lk k1 o)) G
      refine lv_iload_n hx hb dX5_link_38 rfl (lv_at hl 0 rfl) ?_
      refine r_int S hret hlk G rfl (Nat.le_of_ble_eq_true rfl) (Nat.le_of_ble_eq_true rfl) dX5_link_39 ?_
      have yk1 := tin_e ek1 hk1 (show n ≤ 1000 by omega)
      have zk1 := cn_e ek1 (show k1 < 1000 by omega)
      have d9 : o = -1 ∨ tin n o = true := Or.inl c4
      refine ⟨by simp only [S_link, yk1, zk1, d9, ↓reduceIte, Bool.false_eq_true], ?_⟩
      simp only [S_link, yk1, zk1, d9, ↓reduceIte, Bool.false_eq_true]
      exact ⟨_, _, _, _, _, _, _, _, _, R⟩
    · skip
      refine lv_aload_n hx hb dX5_link_13 rfl (lv_at hl 0 rfl) ?_
      refine lv_iload_n hx hb dX5_link_14 rfl (lv_at hl 2 rfl) ?_
      rcases tin_c n o (by omega) with ⟨tk5, ok5⟩ | ⟨k5, hk5, ek5⟩
      · skip
        refine g_Vi (n := 1) (rest := []) S G hl (c_X5_isThing l R Kn o) gX5_link_X5_isThing rfl (by decide +kernel) (Rm_m R) rfl rfl rfl (Nat.le_of_ble_eq_true rfl) ⟨Nat.le_of_ble_eq_true rfl, Nat.le_of_ble_eq_true rfl⟩ ⟨Nat.le_of_ble_eq_true rfl, Nat.le_of_ble_eq_true rfl⟩ dX5_link_15 ?_
        clear G; intro r_ w1 H locs hp G
        obtain ⟨rfl, hq_⟩ := hp
        rw [tk5] at hq_
        simp only [Bool.false_eq_true, ↓reduceIte] at hq_
        subst hq_
        refine lv_if_ne (tgt := 24) hx hb dX5_link_18 (by decide) (fun c6 => absurd (by decide) c6) (fun c6 => ?_)
        refine lv_ldc hx hb S.2.2.2.1 (S.2.2.2.2 (.constant RX5 48 (-2000000001)) (by decide +kernel)) dX5_link_21 ?_
        refine r_int S hret hlk G rfl (Nat.le_of_ble_eq_true rfl) (Nat.le_of_ble_eq_true rfl) dX5_link_23 ?_
        have yk1 := tin_e ek1 hk1 (show n ≤ 1000 by omega)
        have zk1 := cn_e ek1 (show k1 < 1000 by omega)
        have d9 : ¬ (o = -1 ∨ tin n o = true) := fun z => z.elim c4 (fun z => by rw [tk5] at z; cases z)
        refine ⟨by simp only [S_link, yk1, zk1, d9, ↓reduceIte, Bool.false_eq_true], ?_⟩
        simp only [S_link, yk1, zk1, d9, ↓reduceIte, Bool.false_eq_true]
        exact ⟨_, _, _, _, _, _, _, _, _, R⟩
      · skip
        refine g_Vi (n := 1) (rest := []) S G hl (c_X5_isThing l R Kn o) gX5_link_X5_isThing rfl (by decide +kernel) (Rm_m R) rfl rfl rfl (Nat.le_of_ble_eq_true rfl) ⟨Nat.le_of_ble_eq_true rfl, Nat.le_of_ble_eq_true rfl⟩ ⟨Nat.le_of_ble_eq_true rfl, Nat.le_of_ble_eq_true rfl⟩ dX5_link_15 ?_
        clear G; intro r_ w1 H locs hp G
        obtain ⟨rfl, hq_⟩ := hp
        rw [if_pos (tin_e ek5 hk5 (by omega))] at hq_
        subst hq_
        refine lv_if_ne (tgt := 24) hx hb dX5_link_18 (by decide) (fun c7 => ?_) (fun c7 => absurd c7 (by decide))
        refine lv_aload_n hx hb dX5_link_24 rfl (lv_at hl 0 rfl) ?_
        refine g_get S G (Rm_m R) rfl (by decide +kernel) 3 (by decide) (by decide +kernel) rfl dX5_link_25 ?_
        refine lv_iload_n hx hb dX5_link_28 rfl (lv_at hl 1 rfl) ?_
        refine g_iald S G (Rm_L R) (vin_e ek1 (show k1 < 40 by omega) (by omega)) dX5_link_29 ?_
        rw [show Int32.toNatClampNeg t = k1 by rw [ek1]; exact nI_clamp (by omega)]
        refine lv_istore_n (lv' := [(3, .int (lk k1)), (0, .ref m), (1, .int t), (2, .int o)]) hx hb dX5_link_30 rfl hl (by decide) rfl (fun ls hl => ?_)
        refine lv_aload_n hx hb dX5_link_31 rfl (lv_at hl 1 rfl) ?_
        refine g_get S G (Rm_m R) rfl (by decide +kernel) 3 (by decide) (by decide +kernel) rfl dX5_link_32 ?_
        refine lv_iload_n hx hb dX5_link_35 rfl (lv_at hl 2 rfl) ?_
        refine lv_iload_n hx hb dX5_link_36 rfl (lv_at hl 3 rfl) ?_
        refine g_iast S G (Rm_L R) (vin_e ek1 (show k1 < 40 by omega) (by omega)) dX5_link_37 (fun H locs G => ?_)
        rw [show Int32.toNatClampNeg t = k1 by rw [ek1]; exact nI_clamp (by omega)] at G
        obtain ⟨w, R, G⟩ := Rm_ex (Rm_p_lk R (upd lk k1 o)) G
        refine lv_iload_n hx hb dX5_link_38 rfl (lv_at hl 0 rfl) ?_
        refine r_int S hret hlk G rfl (Nat.le_of_ble_eq_true rfl) (Nat.le_of_ble_eq_true rfl) dX5_link_39 ?_
        have yk1 := tin_e ek1 hk1 (show n ≤ 1000 by omega)
        have zk1 := cn_e ek1 (show k1 < 1000 by omega)
        have yk5 := tin_e ek5 hk5 (show n ≤ 1000 by omega)
        have zk5 := cn_e ek5 (show k5 < 1000 by omega)
        have d9 : o = -1 ∨ tin n o = true := Or.inr (tin_e ek5 hk5 (by omega))
        refine ⟨by simp only [S_link, yk1, zk1, d9, ↓reduceIte, Bool.false_eq_true], ?_⟩
        simp only [S_link, yk1, zk1, d9, ↓reduceIte, Bool.false_eq_true]
        exact ⟨_, _, _, _, _, _, _, _, _, R⟩

set_option maxHeartbeats 4000000 in
set_option maxRecDepth 100000 in
theorem M_follow (l : Launch) {E : EV} {w : wo} {m : Nat} {σ : ST} (X : RmX E w m σ) (K : Gd σ) (t : Int32) : ct_i l E yX5_follow wsX5_follow 2 0 0 [.ref m, .int t] w (fun r w' => r = (S_follow t σ).1 ∧ RmX E w' m (S_follow t σ).2) := by
  obtain ⟨aC, aV, aL, aH, aS, aZ, aI, aT, ⟨to, rs, nx⟩, R⟩ := X
  obtain ⟨n, cl, vs, lk, hd, nr, so, sz, it, oc, ow, bg, dp, td⟩ := σ
  have K9 := K
  obtain ⟨Kn, Kr, Kc, Kl, Kh, Ks, Kz, Ki⟩ := K9
  intro zz
  refine wo_body (Qc := fun A => va_Qi _ (wo_B E A) A) (ret := (some .int)) (by decide) rfl (Nat.le_of_ble_eq_true rfl) ?_
  intro p_ e_ s_ m_ args_ below_ meth_ code_ A_ ls S hret hlk hnm G hl
  have hl : lv_has ls 2 [(0, .ref m), (1, .int t)] := hl
  have hx := S.1
  have hb := S.2.1
  refine lv_aload_n hx hb dX5_follow_0 rfl (lv_at hl 0 rfl) ?_
  refine lv_iload_n hx hb dX5_follow_1 rfl (lv_at hl 1 rfl) ?_
  rcases tin_c n t (by omega) with ⟨tk1, ok1⟩ | ⟨k1, hk1, ek1⟩
  · skip
    refine g_Vi (n := 1) (rest := []) S G hl (c_X5_isThing l R Kn t) gX5_follow_X5_isThing rfl (by decide +kernel) (Rm_m R) rfl rfl rfl (Nat.le_of_ble_eq_true rfl) ⟨Nat.le_of_ble_eq_true rfl, Nat.le_of_ble_eq_true rfl⟩ ⟨Nat.le_of_ble_eq_true rfl, Nat.le_of_ble_eq_true rfl⟩ dX5_follow_2 ?_
    clear G; intro r_ w1 H locs hp G
    obtain ⟨rfl, hq_⟩ := hp
    rw [tk1] at hq_
    simp only [Bool.false_eq_true, ↓reduceIte] at hq_
    subst hq_
    refine lv_if_ne (tgt := 11) hx hb dX5_follow_5 (by decide) (fun c2 => absurd (by decide) c2) (fun c2 => ?_)
    refine lv_ldc hx hb S.2.2.2.1 (S.2.2.2.2 (.constant RX5 48 (-2000000001)) (by decide +kernel)) dX5_follow_8 ?_
    refine r_int S hret hlk G rfl (Nat.le_of_ble_eq_true rfl) (Nat.le_of_ble_eq_true rfl) dX5_follow_10 ?_
    refine ⟨by simp only [S_follow, tk1, s_tell, put_lk, put_vs, put_hd, put_it, ↓reduceIte, Bool.false_eq_true, pk_us], ?_⟩
    simp only [S_follow, tk1, s_tell, put_lk, put_vs, put_hd, put_it, ↓reduceIte, Bool.false_eq_true, pk_us]
    exact ⟨_, _, _, _, _, _, _, _, _, R⟩
  · skip
    refine g_Vi (n := 1) (rest := []) S G hl (c_X5_isThing l R Kn t) gX5_follow_X5_isThing rfl (by decide +kernel) (Rm_m R) rfl rfl rfl (Nat.le_of_ble_eq_true rfl) ⟨Nat.le_of_ble_eq_true rfl, Nat.le_of_ble_eq_true rfl⟩ ⟨Nat.le_of_ble_eq_true rfl, Nat.le_of_ble_eq_true rfl⟩ dX5_follow_2 ?_
    clear G; intro r_ w1 H locs hp G
    obtain ⟨rfl, hq_⟩ := hp
    rw [if_pos (tin_e ek1 hk1 (by omega))] at hq_
    subst hq_
    refine lv_if_ne (tgt := 11) hx hb dX5_follow_5 (by decide) (fun c3 => ?_) (fun c3 => absurd c3 (by decide))
    refine lv_aload_n hx hb dX5_follow_11 rfl (lv_at hl 0 rfl) ?_
    refine lv_aload_n hx hb dX5_follow_12 rfl (lv_at hl 0 rfl) ?_
    refine g_get S G (Rm_m R) rfl (by decide +kernel) 3 (by decide) (by decide +kernel) rfl dX5_follow_13 ?_
    refine lv_iload_n hx hb dX5_follow_16 rfl (lv_at hl 1 rfl) ?_
    refine g_iald S G (Rm_L R) (vin_e ek1 (show k1 < 40 by omega) (by omega)) dX5_follow_17 ?_
    rw [show Int32.toNatClampNeg t = k1 by rw [ek1]; exact nI_clamp (by omega)]
    rcases Kl k1 hk1 with ek4 | ⟨k4, hk4, ek4⟩
    · skip
      refine lv_iconst (v := (-1)) hx hb dX5_follow_18 (by decide) ?_
      refine lv_icmp_ne (tgt := 26) hx hb dX5_follow_19 (by decide) (fun c5 => absurd ek4 c5) (fun c5 => ?_)
      refine lv_iconst (v := 1) hx hb dX5_follow_22 (by decide) ?_
      refine lv_goto (tgt := 27) hx hb dX5_follow_23 (by decide) ?_
      refine g_Vi (n := 1) (rest := []) S G hl (c_X5_tell l R (j := 1) (o := 1) rfl (by decide)) gX5_follow_X5_tell rfl (by decide +kernel) (Rm_m R) rfl rfl rfl (Nat.le_of_ble_eq_true rfl) ⟨Nat.le_of_ble_eq_true rfl, Nat.le_of_ble_eq_true rfl⟩ ⟨Nat.le_of_ble_eq_true rfl, Nat.le_of_ble_eq_true rfl⟩ dX5_follow_27 ?_
      clear G; intro r_ w1 H locs hp G
      obtain ⟨hr_, R⟩ := hp
      subst r_
      refine lv_if_eq (tgt := 35) hx hb dX5_follow_30 (by decide) (fun c6 => absurd c6 (by decide)) (fun c6 => ?_)
      refine lv_iconst (v := 0) hx hb dX5_follow_33 (by decide) ?_
      refine r_int S hret hlk G rfl (Nat.le_of_ble_eq_true rfl) (Nat.le_of_ble_eq_true rfl) dX5_follow_34 ?_
      have yk1 := tin_e ek1 hk1 (show n ≤ 1000 by omega)
      have zk1 := cn_e ek1 (show k1 < 1000 by omega)
      refine ⟨by simp only [S_follow, yk1, zk1, ek4, s_tell, put_lk, put_vs, put_hd, put_it, ↓reduceIte, Bool.false_eq_true, pk_us], ?_⟩
      simp only [S_follow, yk1, zk1, ek4, s_tell, put_lk, put_vs, put_hd, put_it, ↓reduceIte, Bool.false_eq_true, pk_us]
      exact ⟨_, _, _, _, _, _, _, _, _, R⟩
    · skip
      refine lv_iconst (v := (-1)) hx hb dX5_follow_18 (by decide) ?_
      refine lv_icmp_ne (tgt := 26) hx hb dX5_follow_19 (by decide) (fun c7 => ?_) (fun c7 => absurd c7 (by rw [ek4]; exact nm1 (by omega)))
      refine lv_iconst (v := 0) hx hb dX5_follow_26 (by decide) ?_
      refine g_Vi (n := 1) (rest := []) S G hl (c_X5_tell l R (j := 0) (o := 0) rfl (by decide)) gX5_follow_X5_tell rfl (by decide +kernel) (Rm_m R) rfl rfl rfl (Nat.le_of_ble_eq_true rfl) ⟨Nat.le_of_ble_eq_true rfl, Nat.le_of_ble_eq_true rfl⟩ ⟨Nat.le_of_ble_eq_true rfl, Nat.le_of_ble_eq_true rfl⟩ dX5_follow_27 ?_
      clear G; intro r_ w1 H locs hp G
      obtain ⟨hr_, R⟩ := hp
      subst r_
      refine lv_if_eq (tgt := 35) hx hb dX5_follow_30 (by decide) (fun c8 => ?_) (fun c8 => absurd (by decide) c8)
      refine lv_aload_n hx hb dX5_follow_35 rfl (lv_at hl 0 rfl) ?_
      refine g_get S G (Rm_m R) rfl (by decide +kernel) 3 (by decide) (by decide +kernel) rfl dX5_follow_36 ?_
      refine lv_iload_n hx hb dX5_follow_39 rfl (lv_at hl 1 rfl) ?_
      refine lv_aload_n hx hb dX5_follow_40 rfl (lv_at hl 0 rfl) ?_
      refine g_get S G (Rm_m R) rfl (by decide +kernel) 3 (by decide) (by decide +kernel) rfl dX5_follow_41 ?_
      refine lv_aload_n hx hb dX5_follow_44 rfl (lv_at hl 0 rfl) ?_
      refine g_get S G (Rm_m R) rfl (by decide +kernel) 3 (by decide) (by decide +kernel) rfl dX5_follow_45 ?_
      refine lv_iload_n hx hb dX5_follow_48 rfl (lv_at hl 1 rfl) ?_
      refine g_iald S G (Rm_L R) (vin_e ek1 (show k1 < 40 by omega) (by omega)) dX5_follow_49 ?_
      rw [show Int32.toNatClampNeg t = k1 by rw [ek1]; exact nI_clamp (by omega)]
      refine g_iald S G (Rm_L R) (vin_e ek4 (show k4 < 40 by omega) (by omega)) dX5_follow_50 ?_
      rw [show Int32.toNatClampNeg (lk k1) = k4 by rw [ek4]; exact nI_clamp (by omega)]
      refine g_iast S G (Rm_L R) (vin_e ek1 (show k1 < 40 by omega) (by omega)) dX5_follow_51 (fun H locs G => ?_)
      rw [show Int32.toNatClampNeg t = k1 by rw [ek1]; exact nI_clamp (by omega)] at G
      obtain ⟨w, R, G⟩ := Rm_ex (Rm_p_lk R (upd lk k1 (lk k4))) G
      refine lv_aload_n hx hb dX5_follow_52 rfl (lv_at hl 0 rfl) ?_
      refine g_get S G (Rm_m R) rfl (by decide +kernel) 3 (by decide) (by decide +kernel) rfl dX5_follow_53 ?_
      refine lv_iload_n hx hb dX5_follow_56 rfl (lv_at hl 1 rfl) ?_
      refine g_iald S G (Rm_L R) (vin_e ek1 (show k1 < 40 by omega) (by omega)) dX5_follow_57 ?_
      rw [show Int32.toNatClampNeg t = k1 by rw [ek1]; exact nI_clamp (by omega)]
      refine r_int S hret hlk G rfl (Nat.le_of_ble_eq_true rfl) (Nat.le_of_ble_eq_true rfl) dX5_follow_58 ?_
      have yk1 := tin_e ek1 hk1 (show n ≤ 1000 by omega)
      have zk1 := cn_e ek1 (show k1 < 1000 by omega)
      have qk4 := nm1 (show k4 < 100000 by omega)
      refine ⟨by simp only [S_follow, yk1, zk1, ek4, qk4, cn_nI (show k4 < 2 ^ 31 by omega), s_tell, put_lk, put_vs, put_hd, put_it, ↓reduceIte, Bool.false_eq_true, pk_us], ?_⟩
      simp only [S_follow, yk1, zk1, ek4, qk4, cn_nI (show k4 < 2 ^ 31 by omega), s_tell, put_lk, put_vs, put_hd, put_it, ↓reduceIte, Bool.false_eq_true, pk_us]
      exact ⟨_, _, _, _, _, _, _, _, _, R⟩

set_option maxHeartbeats 4000000 in
set_option maxRecDepth 100000 in
theorem M_trade (l : Launch) {E : EV} {w : wo} {m : Nat} {σ : ST} (X : RmX E w m σ) (K : Gd σ) (t : Int32) : ct_i l E yX5_trade wsX5_trade 2 0 0 [.ref m, .int t] w (fun r w' => r = (S_trade t σ).1 ∧ RmX E w' m (S_trade t σ).2) := by
  obtain ⟨aC, aV, aL, aH, aS, aZ, aI, aT, ⟨to, rs, nx⟩, R⟩ := X
  obtain ⟨n, cl, vs, lk, hd, nr, so, sz, it, oc, ow, bg, dp, td⟩ := σ
  have K9 := K
  obtain ⟨Kn, Kr, Kc, Kl, Kh, Ks, Kz, Ki⟩ := K9
  intro zz
  refine wo_body (Qc := fun A => va_Qi _ (wo_B E A) A) (ret := (some .int)) (by decide) rfl (Nat.le_of_ble_eq_true rfl) ?_
  intro p_ e_ s_ m_ args_ below_ meth_ code_ A_ ls S hret hlk hnm G hl
  have hl : lv_has ls 4 [(0, .ref m), (1, .int t)] := hl
  have hx := S.1
  have hb := S.2.1
  refine lv_aload_n hx hb dX5_trade_0 rfl (lv_at hl 0 rfl) ?_
  refine lv_iload_n hx hb dX5_trade_1 rfl (lv_at hl 1 rfl) ?_
  rcases tin_c n t (by omega) with ⟨tk1, ok1⟩ | ⟨k1, hk1, ek1⟩
  · skip
    refine g_Vi (n := 1) (rest := []) S G hl (c_X5_isThing l R Kn t) gX5_trade_X5_isThing rfl (by decide +kernel) (Rm_m R) rfl rfl rfl (Nat.le_of_ble_eq_true rfl) ⟨Nat.le_of_ble_eq_true rfl, Nat.le_of_ble_eq_true rfl⟩ ⟨Nat.le_of_ble_eq_true rfl, Nat.le_of_ble_eq_true rfl⟩ dX5_trade_2 ?_
    clear G; intro r_ w1 H locs hp G
    obtain ⟨rfl, hq_⟩ := hp
    rw [tk1] at hq_
    simp only [Bool.false_eq_true, ↓reduceIte] at hq_
    subst hq_
    refine lv_if_ne (tgt := 11) hx hb dX5_trade_5 (by decide) (fun c2 => absurd (by decide) c2) (fun c2 => ?_)
    refine lv_ldc hx hb S.2.2.2.1 (S.2.2.2.2 (.constant RX5 48 (-2000000001)) (by decide +kernel)) dX5_trade_8 ?_
    refine r_int S hret hlk G rfl (Nat.le_of_ble_eq_true rfl) (Nat.le_of_ble_eq_true rfl) dX5_trade_10 ?_
    refine ⟨by simp only [S_trade, tk1, s_tell, put_lk, put_vs, put_hd, put_it, ↓reduceIte, Bool.false_eq_true, pk_us], ?_⟩
    simp only [S_trade, tk1, s_tell, put_lk, put_vs, put_hd, put_it, ↓reduceIte, Bool.false_eq_true, pk_us]
    exact ⟨_, _, _, _, _, _, _, _, _, R⟩
  · skip
    refine g_Vi (n := 1) (rest := []) S G hl (c_X5_isThing l R Kn t) gX5_trade_X5_isThing rfl (by decide +kernel) (Rm_m R) rfl rfl rfl (Nat.le_of_ble_eq_true rfl) ⟨Nat.le_of_ble_eq_true rfl, Nat.le_of_ble_eq_true rfl⟩ ⟨Nat.le_of_ble_eq_true rfl, Nat.le_of_ble_eq_true rfl⟩ dX5_trade_2 ?_
    clear G; intro r_ w1 H locs hp G
    obtain ⟨rfl, hq_⟩ := hp
    rw [if_pos (tin_e ek1 hk1 (by omega))] at hq_
    subst hq_
    refine lv_if_ne (tgt := 11) hx hb dX5_trade_5 (by decide) (fun c3 => ?_) (fun c3 => absurd c3 (by decide))
    refine lv_aload_n hx hb dX5_trade_11 rfl (lv_at hl 0 rfl) ?_
    refine lv_aload_n hx hb dX5_trade_12 rfl (lv_at hl 0 rfl) ?_
    refine g_get S G (Rm_m R) rfl (by decide +kernel) 3 (by decide) (by decide +kernel) rfl dX5_trade_13 ?_
    refine lv_iload_n hx hb dX5_trade_16 rfl (lv_at hl 1 rfl) ?_
    refine g_iald S G (Rm_L R) (vin_e ek1 (show k1 < 40 by omega) (by omega)) dX5_trade_17 ?_
    rw [show Int32.toNatClampNeg t = k1 by rw [ek1]; exact nI_clamp (by omega)]
    rcases Kl k1 hk1 with ek4 | ⟨k4, hk4, ek4⟩
    · skip
      refine lv_iconst (v := (-1)) hx hb dX5_trade_18 (by decide) ?_
      refine lv_icmp_ne (tgt := 26) hx hb dX5_trade_19 (by decide) (fun c5 => absurd ek4 c5) (fun c5 => ?_)
      refine lv_iconst (v := 1) hx hb dX5_trade_22 (by decide) ?_
      refine lv_goto (tgt := 27) hx hb dX5_trade_23 (by decide) ?_
      refine g_Vi (n := 1) (rest := []) S G hl (c_X5_tell l R (j := 1) (o := 1) rfl (by decide)) gX5_trade_X5_tell rfl (by decide +kernel) (Rm_m R) rfl rfl rfl (Nat.le_of_ble_eq_true rfl) ⟨Nat.le_of_ble_eq_true rfl, Nat.le_of_ble_eq_true rfl⟩ ⟨Nat.le_of_ble_eq_true rfl, Nat.le_of_ble_eq_true rfl⟩ dX5_trade_27 ?_
      clear G; intro r_ w1 H locs hp G
      obtain ⟨hr_, R⟩ := hp
      subst r_
      refine lv_if_eq (tgt := 35) hx hb dX5_trade_30 (by decide) (fun c6 => absurd c6 (by decide)) (fun c6 => ?_)
      refine lv_iconst (v := 0) hx hb dX5_trade_33 (by decide) ?_
      refine r_int S hret hlk G rfl (Nat.le_of_ble_eq_true rfl) (Nat.le_of_ble_eq_true rfl) dX5_trade_34 ?_
      have yk1 := tin_e ek1 hk1 (show n ≤ 1000 by omega)
      have zk1 := cn_e ek1 (show k1 < 1000 by omega)
      refine ⟨by simp only [S_trade, yk1, zk1, ek4, s_tell, put_lk, put_vs, put_hd, put_it, ↓reduceIte, Bool.false_eq_true, pk_us], ?_⟩
      simp only [S_trade, yk1, zk1, ek4, s_tell, put_lk, put_vs, put_hd, put_it, ↓reduceIte, Bool.false_eq_true, pk_us]
      exact ⟨_, _, _, _, _, _, _, _, _, R⟩
    · skip
      refine lv_iconst (v := (-1)) hx hb dX5_trade_18 (by decide) ?_
      refine lv_icmp_ne (tgt := 26) hx hb dX5_trade_19 (by decide) (fun c7 => ?_) (fun c7 => absurd c7 (by rw [ek4]; exact nm1 (by omega)))
      refine lv_iconst (v := 0) hx hb dX5_trade_26 (by decide) ?_
      refine g_Vi (n := 1) (rest := []) S G hl (c_X5_tell l R (j := 0) (o := 0) rfl (by decide)) gX5_trade_X5_tell rfl (by decide +kernel) (Rm_m R) rfl rfl rfl (Nat.le_of_ble_eq_true rfl) ⟨Nat.le_of_ble_eq_true rfl, Nat.le_of_ble_eq_true rfl⟩ ⟨Nat.le_of_ble_eq_true rfl, Nat.le_of_ble_eq_true rfl⟩ dX5_trade_27 ?_
      clear G; intro r_ w1 H locs hp G
      obtain ⟨hr_, R⟩ := hp
      subst r_
      refine lv_if_eq (tgt := 35) hx hb dX5_trade_30 (by decide) (fun c8 => ?_) (fun c8 => absurd (by decide) c8)
      refine lv_aload_n hx hb dX5_trade_35 rfl (lv_at hl 0 rfl) ?_
      refine g_get S G (Rm_m R) rfl (by decide +kernel) 3 (by decide) (by decide +kernel) rfl dX5_trade_36 ?_
      refine lv_iload_n hx hb dX5_trade_39 rfl (lv_at hl 1 rfl) ?_
      refine g_iald S G (Rm_L R) (vin_e ek1 (show k1 < 40 by omega) (by omega)) dX5_trade_40 ?_
      rw [show Int32.toNatClampNeg t = k1 by rw [ek1]; exact nI_clamp (by omega)]
      refine lv_istore_n (lv' := [(2, .int (lk k1)), (0, .ref m), (1, .int t)]) hx hb dX5_trade_41 rfl hl (by decide) rfl (fun ls hl => ?_)
      refine lv_aload_n hx hb dX5_trade_42 rfl (lv_at hl 1 rfl) ?_
      refine g_get S G (Rm_m R) rfl (by decide +kernel) 2 (by decide) (by decide +kernel) rfl dX5_trade_43 ?_
      refine lv_iload_n hx hb dX5_trade_46 rfl (lv_at hl 2 rfl) ?_
      refine g_iald S G (Rm_V R) (vin_e ek1 (show k1 < 40 by omega) (by omega)) dX5_trade_47 ?_
      rw [show Int32.toNatClampNeg t = k1 by rw [ek1]; exact nI_clamp (by omega)]
      refine lv_istore_n (lv' := [(3, .int (vs k1)), (2, .int (lk k1)), (0, .ref m), (1, .int t)]) hx hb dX5_trade_48 rfl hl (by decide) rfl (fun ls hl => ?_)
      refine lv_aload_n hx hb dX5_trade_49 rfl (lv_at hl 2 rfl) ?_
      refine g_get S G (Rm_m R) rfl (by decide +kernel) 2 (by decide) (by decide +kernel) rfl dX5_trade_50 ?_
      refine lv_iload_n hx hb dX5_trade_53 rfl (lv_at hl 3 rfl) ?_
      refine lv_aload_n hx hb dX5_trade_54 rfl (lv_at hl 2 rfl) ?_
      refine g_get S G (Rm_m R) rfl (by decide +kernel) 2 (by decide) (by decide +kernel) rfl dX5_trade_55 ?_
      refine lv_iload_n hx hb dX5_trade_58 rfl (lv_at hl 1 rfl) ?_
      refine g_iald S G (Rm_V R) (vin_e ek4 (show k4 < 40 by omega) (by omega)) dX5_trade_59 ?_
      rw [show Int32.toNatClampNeg (lk k1) = k4 by rw [ek4]; exact nI_clamp (by omega)]
      refine g_iast S G (Rm_V R) (vin_e ek1 (show k1 < 40 by omega) (by omega)) dX5_trade_60 (fun H locs G => ?_)
      rw [show Int32.toNatClampNeg t = k1 by rw [ek1]; exact nI_clamp (by omega)] at G
      obtain ⟨w, R, G⟩ := Rm_ex (Rm_p_vs R (upd vs k1 (vs k4))) G
      refine lv_aload_n hx hb dX5_trade_61 rfl (lv_at hl 2 rfl) ?_
      refine g_get S G (Rm_m R) rfl (by decide +kernel) 2 (by decide) (by decide +kernel) rfl dX5_trade_62 ?_
      refine lv_iload_n hx hb dX5_trade_65 rfl (lv_at hl 1 rfl) ?_
      refine lv_iload_n hx hb dX5_trade_66 rfl (lv_at hl 0 rfl) ?_
      refine g_iast S G (Rm_V R) (vin_e ek4 (show k4 < 40 by omega) (by omega)) dX5_trade_67 (fun H locs G => ?_)
      rw [show Int32.toNatClampNeg (lk k1) = k4 by rw [ek4]; exact nI_clamp (by omega)] at G
      obtain ⟨w, R, G⟩ := Rm_ex (Rm_p_vs R (upd (upd vs k1 (vs k4)) k4 (vs k1))) G
      refine lv_aload_n hx hb dX5_trade_68 rfl (lv_at hl 2 rfl) ?_
      refine g_get S G (Rm_m R) rfl (by decide +kernel) 2 (by decide) (by decide +kernel) rfl dX5_trade_69 ?_
      refine lv_iload_n hx hb dX5_trade_72 rfl (lv_at hl 3 rfl) ?_
      refine g_iald S G (Rm_V R) (vin_e ek1 (show k1 < 40 by omega) (by omega)) dX5_trade_73 ?_
      rw [show Int32.toNatClampNeg t = k1 by rw [ek1]; exact nI_clamp (by omega)]
      refine r_int S hret hlk G rfl (Nat.le_of_ble_eq_true rfl) (Nat.le_of_ble_eq_true rfl) dX5_trade_74 ?_
      have yk1 := tin_e ek1 hk1 (show n ≤ 1000 by omega)
      have zk1 := cn_e ek1 (show k1 < 1000 by omega)
      have qk4 := nm1 (show k4 < 100000 by omega)
      refine ⟨by simp only [S_trade, yk1, zk1, ek4, qk4, cn_nI (show k4 < 2 ^ 31 by omega), s_tell, put_lk, put_vs, put_hd, put_it, ↓reduceIte, Bool.false_eq_true, pk_us], ?_⟩
      simp only [S_trade, yk1, zk1, ek4, qk4, cn_nI (show k4 < 2 ^ 31 by omega), s_tell, put_lk, put_vs, put_hd, put_it, ↓reduceIte, Bool.false_eq_true, pk_us]
      exact ⟨_, _, _, _, _, _, _, _, _, R⟩
