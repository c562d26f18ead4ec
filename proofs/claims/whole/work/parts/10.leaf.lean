/-! THE CLASS, leaves: Row, Thing, Store.find, Work.stop .. -/
theorem tin8 (c : Int32) : (tin 8 c = true) ↔ (¬ c < 0 ∧ ¬ 7 < c) := by
  rcases tin_c 8 c (by omega) with ⟨h, q⟩ | ⟨k, hk, rfl⟩
  · rw [h]
    constructor
    · intro z; cases z
    · rintro ⟨z1, z2⟩
      rcases q with q | q
      · exact absurd q z1
      · exact absurd (Int32.lt_of_lt_of_le (show (7 : Int32) < nI 8 by decide) q) z2
  · rw [tin_y hk (by omega)]
    constructor
    · intro _
      exact ⟨nI_pos (by omega), nI_nlt (a := 7) (b := k) (by omega) (by omega)⟩
    · intro _; rfl
theorem linc (c : Int32) : (lin c = true) ↔ (¬ c < 1 ∧ ¬ 100 < c) := by
  unfold lin
  rcases tin_c 101 c (by omega) with ⟨h, q⟩ | ⟨k, hk, rfl⟩
  · rw [h]
    constructor
    · intro z; cases z
    · rintro ⟨z1, z2⟩
      rcases q with q | q
      · exact absurd (Int32.lt_trans q (by decide)) z1
      · exact absurd (Int32.lt_of_lt_of_le (show (100 : Int32) < nI 101 by decide) q) z2
  · rw [tin_y hk (by omega)]
    have e1 : (nI k < 1) ↔ k < 1 := nI_ltI (b := 1) (by omega) (by omega)
    have e2 : (nI k = 0) ↔ k = 0 := nI_eq (b := 0) (by omega) (by omega)
    have e3 : ((100 : Int32) < nI k) ↔ 100 < k := nI_ltI (a := 100) (by omega) (by omega)
    simp only [Bool.true_and, Bool.not_eq_true', decide_eq_false_iff_not, e1, e2, e3]
    omega
set_option maxHeartbeats 4000000 in
set_option maxRecDepth 100000 in
theorem c_X0_isOfThings (l : Launch) {E : EV} {w : wo} {b ia : Nat} {so : Int32} (hw : w b = some (.inr (0, [.int so, .ref ia]))) : ct_i l E yX0_isOfThings wsX0_isOfThings 0 0 0 [.ref b] w (fun r w' => w' = w ∧ r = if so = 2 ∨ so = 3 then 1 else 0) := by
  intro zz
  refine wo_body (Qc := fun A => va_Qi _ (wo_B E A) A) (ret := (some .boolean)) (by decide) rfl (Nat.le_of_ble_eq_true rfl) ?_
  intro p_ e_ s_ m_ args_ below_ meth_ code_ A_ ls S hret hlk hnm G hl
  have hl : lv_has ls 1 [(0, .ref b)] := hl
  have hx := S.1
  have hb := S.2.1
  refine lv_aload_n hx hb dX0_isOfThings_0 rfl (lv_at hl 0 rfl) ?_
  refine g_get S G hw rfl (by decide +kernel) 0 (by decide) (by decide +kernel) rfl dX0_isOfThings_1 ?_
  refine lv_iconst (v := 2) hx hb dX0_isOfThings_4 (by decide) ?_
  refine lv_icmp_eq (tgt := 16) hx hb dX0_isOfThings_5 (by decide) (fun c1 => ?_) (fun c1 => ?_)
  · skip
    refine lv_iconst (v := 1) hx hb dX0_isOfThings_16 (by decide) ?_
    refine lv_goto (tgt := 21) hx hb dX0_isOfThings_17 (by decide) ?_
    refine r_int S hret hlk G rfl (Nat.le_of_ble_eq_true rfl) (Nat.le_of_ble_eq_true rfl) dX0_isOfThings_21 ?_
    exact ⟨rfl, by simp [c1]⟩
  · skip
    refine lv_aload_n hx hb dX0_isOfThings_8 rfl (lv_at hl 0 rfl) ?_
    refine g_get S G hw rfl (by decide +kernel) 0 (by decide) (by decide +kernel) rfl dX0_isOfThings_9 ?_
    refine lv_iconst (v := 3) hx hb dX0_isOfThings_12 (by decide) ?_
    refine lv_icmp_ne (tgt := 20) hx hb dX0_isOfThings_13 (by decide) (fun c2 => ?_) (fun c2 => ?_)
    · skip
      refine lv_iconst (v := 0) hx hb dX0_isOfThings_20 (by decide) ?_
      refine r_int S hret hlk G rfl (Nat.le_of_ble_eq_true rfl) (Nat.le_of_ble_eq_true rfl) dX0_isOfThings_21 ?_
      exact ⟨rfl, by simp [c1, c2]⟩
    · skip
      refine lv_iconst (v := 1) hx hb dX0_isOfThings_16 (by decide) ?_
      refine lv_goto (tgt := 21) hx hb dX0_isOfThings_17 (by decide) ?_
      refine r_int S hret hlk G rfl (Nat.le_of_ble_eq_true rfl) (Nat.le_of_ble_eq_true rfl) dX0_isOfThings_21 ?_
      exact ⟨rfl, by simp [c1, c2]⟩

set_option maxHeartbeats 4000000 in
set_option maxRecDepth 100000 in
theorem c_X0_hasItems (l : Launch) {E : EV} {w : wo} {b ia N : Nat} {so : Int32} {f : Nat → Int64} (hw : w b = some (.inr (0, [.int so, .ref ia]))) (ha : w ia = some (.inl (E.2.2.1, N, .inr (.inl f)))) (i z : Int32) : ct_i l E yX0_hasItems wsX0_hasItems 0 0 0 [.ref b, .int i, .int z] w (fun r w' => w' = w ∧ r = if (¬ i < 0 ∧ ¬ z < 0) ∧ i ≤ nI N - z then 1 else 0) := by
  intro zz
  refine wo_body (Qc := fun A => va_Qi _ (wo_B E A) A) (ret := (some .boolean)) (by decide) rfl (Nat.le_of_ble_eq_true rfl) ?_
  intro p_ e_ s_ m_ args_ below_ meth_ code_ A_ ls S hret hlk hnm G hl
  have hl : lv_has ls 3 [(0, .ref b), (1, .int i), (2, .int z)] := hl
  have hx := S.1
  have hb := S.2.1
  refine lv_iload_n hx hb dX0_hasItems_0 rfl (lv_at hl 1 rfl) ?_
  refine lv_if_lt (tgt := 23) hx hb dX0_hasItems_1 (by decide) (fun c1 => ?_) (fun c1 => ?_)
  · skip
    refine lv_iconst (v := 0) hx hb dX0_hasItems_23 (by decide) ?_
    refine r_int S hret hlk G rfl (Nat.le_of_ble_eq_true rfl) (Nat.le_of_ble_eq_true rfl) dX0_hasItems_24 ?_
    exact ⟨rfl, by rw [if_neg (by rintro ⟨⟨q, q2⟩, q3⟩; exact q c1)]⟩
  · skip
    refine lv_iload_n hx hb dX0_hasItems_4 rfl (lv_at hl 2 rfl) ?_
    refine lv_if_lt (tgt := 23) hx hb dX0_hasItems_5 (by decide) (fun c2 => ?_) (fun c2 => ?_)
    · skip
      refine lv_iconst (v := 0) hx hb dX0_hasItems_23 (by decide) ?_
      refine r_int S hret hlk G rfl (Nat.le_of_ble_eq_true rfl) (Nat.le_of_ble_eq_true rfl) dX0_hasItems_24 ?_
      exact ⟨rfl, by rw [if_neg (by rintro ⟨⟨q, q2⟩, q3⟩; exact q2 c2)]⟩
    · skip
      refine lv_iload_n hx hb dX0_hasItems_8 rfl (lv_at hl 1 rfl) ?_
      refine lv_aload_n hx hb dX0_hasItems_9 rfl (lv_at hl 0 rfl) ?_
      refine g_get S G hw rfl (by decide +kernel) 1 (by decide) (by decide +kernel) rfl dX0_hasItems_10 ?_
      refine g_llen S G ha dX0_hasItems_13 ?_
      refine lv_iload_n hx hb dX0_hasItems_14 rfl (lv_at hl 2 rfl) ?_
      refine lv_isub hx hb dX0_hasItems_15 ?_
      refine lv_topi (fun a3 ea3 => ?_)
      refine lv_icmp_gt (tgt := 23) hx hb dX0_hasItems_16 (by decide) (fun c4 => ?_) (fun c4 => ?_)
      · skip
        refine lv_iconst (v := 0) hx hb dX0_hasItems_23 (by decide) ?_
        refine r_int S hret hlk G rfl (Nat.le_of_ble_eq_true rfl) (Nat.le_of_ble_eq_true rfl) dX0_hasItems_24 ?_
        exact ⟨rfl, by rw [if_neg (by rintro ⟨⟨q, q2⟩, q3⟩; rw [ea3] at c4; exact absurd c4 (Int32.not_lt.mpr q3))]⟩
      · skip
        refine lv_iconst (v := 1) hx hb dX0_hasItems_19 (by decide) ?_
        refine lv_goto (tgt := 24) hx hb dX0_hasItems_20 (by decide) ?_
        refine r_int S hret hlk G rfl (Nat.le_of_ble_eq_true rfl) (Nat.le_of_ble_eq_true rfl) dX0_hasItems_24 ?_
        exact ⟨rfl, by rw [if_pos ⟨⟨c1, c2⟩, by rw [ea3] at c4; exact Int32.not_lt.mp c4⟩]⟩

set_option maxHeartbeats 4000000 in
set_option maxRecDepth 100000 in
theorem c_X2_isOf (l : Launch) {E : EV} {w : wo} {b : Nat} {x v lk : Int32} {rw : Value} (hw : w b = some (.inr (2, [.int x, .int v, .int lk, rw]))) (c : Int32) : ct_i l E yX2_isOf wsX2_isOf 0 0 0 [.ref b, .int c] w (fun r w' => w' = w ∧ r = if isof x c = true then 1 else 0) := by
  intro zz
  refine wo_body (Qc := fun A => va_Qi _ (wo_B E A) A) (ret := (some .boolean)) (by decide) rfl (Nat.le_of_ble_eq_true rfl) ?_
  intro p_ e_ s_ m_ args_ below_ meth_ code_ A_ ls S hret hlk hnm G hl
  have hl : lv_has ls 2 [(0, .ref b), (1, .int c)] := hl
  have hx := S.1
  have hb := S.2.1
  refine lv_aload_n hx hb dX2_isOf_0 rfl (lv_at hl 0 rfl) ?_
  refine g_get S G hw rfl (by decide +kernel) 0 (by decide) (by decide +kernel) rfl dX2_isOf_1 ?_
  refine lv_iload_n hx hb dX2_isOf_4 rfl (lv_at hl 1 rfl) ?_
  refine lv_icmp_eq (tgt := 24) hx hb dX2_isOf_5 (by decide) (fun c1 => ?_) (fun c1 => ?_)
  · skip
    refine lv_iconst (v := 1) hx hb dX2_isOf_24 (by decide) ?_
    refine lv_goto (tgt := 29) hx hb dX2_isOf_25 (by decide) ?_
    refine r_int S hret hlk G rfl (Nat.le_of_ble_eq_true rfl) (Nat.le_of_ble_eq_true rfl) dX2_isOf_29 ?_
    exact ⟨rfl, by simp [c1, isof, Int32.not_le, Int32.not_lt]⟩
  · skip
    refine lv_iload_n hx hb dX2_isOf_8 rfl (lv_at hl 1 rfl) ?_
    refine lv_aload_n hx hb dX2_isOf_9 rfl (lv_at hl 0 rfl) ?_
    refine g_get S G hw rfl (by decide +kernel) 0 (by decide) (by decide +kernel) rfl dX2_isOf_10 ?_
    refine lv_icmp_ge (tgt := 28) hx hb dX2_isOf_13 (by decide) (fun c2 => ?_) (fun c2 => ?_)
    · skip
      refine lv_iconst (v := 0) hx hb dX2_isOf_28 (by decide) ?_
      refine r_int S hret hlk G rfl (Nat.le_of_ble_eq_true rfl) (Nat.le_of_ble_eq_true rfl) dX2_isOf_29 ?_
      have q9 := Int32.not_lt.mpr c2
      exact ⟨rfl, by simp [c1, q9, isof]⟩
    · skip
      refine lv_aload_n hx hb dX2_isOf_16 rfl (lv_at hl 0 rfl) ?_
      refine g_get S G hw rfl (by decide +kernel) 0 (by decide) (by decide +kernel) rfl dX2_isOf_17 ?_
      refine lv_iconst (v := 2) hx hb dX2_isOf_20 (by decide) ?_
      refine lv_icmp_gt (tgt := 28) hx hb dX2_isOf_21 (by decide) (fun c3 => ?_) (fun c3 => ?_)
      · skip
        refine lv_iconst (v := 0) hx hb dX2_isOf_28 (by decide) ?_
        refine r_int S hret hlk G rfl (Nat.le_of_ble_eq_true rfl) (Nat.le_of_ble_eq_true rfl) dX2_isOf_29 ?_
        exact ⟨rfl, by simp [c1, c2, c3, isof, Int32.not_le, Int32.not_lt]⟩
      · skip
        refine lv_iconst (v := 1) hx hb dX2_isOf_24 (by decide) ?_
        refine lv_goto (tgt := 29) hx hb dX2_isOf_25 (by decide) ?_
        refine r_int S hret hlk G rfl (Nat.le_of_ble_eq_true rfl) (Nat.le_of_ble_eq_true rfl) dX2_isOf_29 ?_
        exact ⟨rfl, by simp [c1, c2, c3, isof, Int32.not_le, Int32.not_lt]⟩

set_option maxHeartbeats 4000000 in
set_option maxRecDepth 100000 in
theorem c_X2_heldSort_n (l : Launch) {E : EV} {w : wo} {b : Nat} {x v lk : Int32} (hw : w b = some (.inr (2, [.int x, .int v, .int lk, .null]))) : ct_i l E yX2_heldSort wsX2_heldSort 0 0 0 [.ref b] w (fun r w' => w' = w ∧ r = -1) := by
  intro zz
  refine wo_body (Qc := fun A => va_Qi _ (wo_B E A) A) (ret := (some .int)) (by decide) rfl (Nat.le_of_ble_eq_true rfl) ?_
  intro p_ e_ s_ m_ args_ below_ meth_ code_ A_ ls S hret hlk hnm G hl
  have hl : lv_has ls 1 [(0, .ref b)] := hl
  have hx := S.1
  have hb := S.2.1
  refine lv_aload_n hx hb dX2_heldSort_0 rfl (lv_at hl 0 rfl) ?_
  refine g_get S G hw rfl (by decide +kernel) 3 (by decide) (by decide +kernel) rfl dX2_heldSort_1 ?_
  refine lv_ifnonnullN hx hb dX2_heldSort_4 ?_
  refine lv_iconst (v := (-1)) hx hb dX2_heldSort_7 (by decide) ?_
  refine lv_goto (tgt := 18) hx hb dX2_heldSort_8 (by decide) ?_
  refine r_int S hret hlk G rfl (Nat.le_of_ble_eq_true rfl) (Nat.le_of_ble_eq_true rfl) dX2_heldSort_18 ?_
  exact ⟨rfl, rfl⟩

set_option maxHeartbeats 4000000 in
set_option maxRecDepth 100000 in
theorem c_X2_heldSort_y (l : Launch) {E : EV} {w : wo} {b q ia : Nat} {x v lk so : Int32} (hw : w b = some (.inr (2, [.int x, .int v, .int lk, .ref q]))) (hq : w q = some (.inr (0, [.int so, .ref ia]))) : ct_i l E yX2_heldSort wsX2_heldSort 0 0 0 [.ref b] w (fun r w' => w' = w ∧ r = so) := by
  intro zz
  refine wo_body (Qc := fun A => va_Qi _ (wo_B E A) A) (ret := (some .int)) (by decide) rfl (Nat.le_of_ble_eq_true rfl) ?_
  intro p_ e_ s_ m_ args_ below_ meth_ code_ A_ ls S hret hlk hnm G hl
  have hl : lv_has ls 1 [(0, .ref b)] := hl
  have hx := S.1
  have hb := S.2.1
  refine lv_aload_n hx hb dX2_heldSort_0 rfl (lv_at hl 0 rfl) ?_
  refine g_get S G hw rfl (by decide +kernel) 3 (by decide) (by decide +kernel) rfl dX2_heldSort_1 ?_
  refine lv_ifnonnull (tgt := 11) hx hb dX2_heldSort_4 (by decide) ?_
  refine lv_aload_n hx hb dX2_heldSort_11 rfl (lv_at hl 0 rfl) ?_
  refine g_get S G hw rfl (by decide +kernel) 3 (by decide) (by decide +kernel) rfl dX2_heldSort_12 ?_
  refine g_get S G hq rfl (by decide +kernel) 0 (by decide) (by decide +kernel) rfl dX2_heldSort_15 ?_
  refine r_int S hret hlk G rfl (Nat.le_of_ble_eq_true rfl) (Nat.le_of_ble_eq_true rfl) dX2_heldSort_18 ?_
  exact ⟨rfl, rfl⟩

set_option maxHeartbeats 4000000 in
set_option maxRecDepth 100000 in
theorem c_X0_put (l : Launch) {E : EV} {w : wo} {b ia N k : Nat} {so : Int32} {f : Nat → Int64} (hw : w b = some (.inr (0, [.int so, .ref ia]))) (ha : w ia = some (.inl (E.2.2.1, N, .inr (.inl f)))) {i : Int32} (ei : i = nI k) (hk : k < N) (hN : N ≤ 1000) (v : Int64) : ct_l l E yX0_put wsX0_put 0 0 0 [.ref b, .int i, .long v] w (fun r w' => w' = wo_up w ia (.inl (E.2.2.1, N, .inr (.inl (vp_updL f k v)))) ∧ r = f k) := by
  intro zz
  refine wo_body (Qc := fun A => va_Ql _ (wo_B E A) A) (ret := (some .long)) (by decide) rfl (Nat.le_of_ble_eq_true rfl) ?_
  intro p_ e_ s_ m_ args_ below_ meth_ code_ A_ ls S hret hlk hnm G hl
  have hl : lv_has ls 6 [(0, .ref b), (1, .int i), (2, .long v)] := hl
  have hx := S.1
  have hb := S.2.1
  refine lv_aload_n hx hb dX0_put_0 rfl (lv_at hl 0 rfl) ?_
  refine g_get S G hw rfl (by decide +kernel) 1 (by decide) (by decide +kernel) rfl dX0_put_1 ?_
  refine lv_iload_n hx hb dX0_put_4 rfl (lv_at hl 1 rfl) ?_
  refine g_lald S G ha (vin_e ei hk (by omega)) dX0_put_5 ?_
  refine lv_lstore (lv' := [(4, .long (f (Int32.toNatClampNeg i))), (0, .ref b), (1, .int i), (2, .long v)]) hx hb dX0_put_6 hl (by decide) rfl (fun ls hl => ?_)
  refine lv_aload_n hx hb dX0_put_8 rfl (lv_at hl 1 rfl) ?_
  refine g_get S G hw rfl (by decide +kernel) 1 (by decide) (by decide +kernel) rfl dX0_put_9 ?_
  refine lv_iload_n hx hb dX0_put_12 rfl (lv_at hl 2 rfl) ?_
  refine lv_lload_n hx hb dX0_put_13 rfl (lv_at hl 3 rfl) ?_
  refine g_last S G ha (vin_e ei hk (by omega)) dX0_put_14 (fun H locs G => ?_)
  refine lv_lload hx hb dX0_put_15 (lv_at hl 0 rfl) ?_
  refine r_long S hret hlk G (Nat.le_of_ble_eq_true rfl) (Nat.le_of_ble_eq_true rfl) dX0_put_17 ?_
  have e9 : Int32.toNatClampNeg i = k := cn_e ei (by omega)
  exact ⟨by rw [e9], by rw [e9]⟩

set_option maxHeartbeats 4000000 in
set_option maxRecDepth 100000 in
theorem c_X4_isClass (l : Launch) {E : EV} {w : wo} (c : Int32) : ct_i l E yX4_isClass wsX4_isClass 0 0 0 [.int c] w (fun r w' => w' = w ∧ r = if tin 8 c = true then 1 else 0) := by
  intro zz
  refine wo_body (Qc := fun A => va_Qi _ (wo_B E A) A) (ret := (some .boolean)) (by decide) rfl (Nat.le_of_ble_eq_true rfl) ?_
  intro p_ e_ s_ m_ args_ below_ meth_ code_ A_ ls S hret hlk hnm G hl
  have hl : lv_has ls 1 [(0, .int c)] := hl
  have hx := S.1
  have hb := S.2.1
  refine lv_iload_n hx hb dX4_isClass_0 rfl (lv_at hl 0 rfl) ?_
  refine lv_if_lt (tgt := 14) hx hb dX4_isClass_1 (by decide) (fun c1 => ?_) (fun c1 => ?_)
  · skip
    refine lv_iconst (v := 0) hx hb dX4_isClass_14 (by decide) ?_
    refine r_int S hret hlk G rfl (Nat.le_of_ble_eq_true rfl) (Nat.le_of_ble_eq_true rfl) dX4_isClass_15 ?_
    exact ⟨rfl, by simp [c1, tin8, Int32.not_lt, Int32.not_le]⟩
  · skip
    refine lv_iload_n hx hb dX4_isClass_4 rfl (lv_at hl 0 rfl) ?_
    refine lv_bipush (v := 7) hx hb dX4_isClass_5 (by decide) ?_
    refine lv_icmp_gt (tgt := 14) hx hb dX4_isClass_7 (by decide) (fun c2 => ?_) (fun c2 => ?_)
    · skip
      refine lv_iconst (v := 0) hx hb dX4_isClass_14 (by decide) ?_
      refine r_int S hret hlk G rfl (Nat.le_of_ble_eq_true rfl) (Nat.le_of_ble_eq_true rfl) dX4_isClass_15 ?_
      exact ⟨rfl, by simp [c1, c2, tin8, Int32.not_lt, Int32.not_le]⟩
    · skip
      refine lv_iconst (v := 1) hx hb dX4_isClass_10 (by decide) ?_
      refine lv_goto (tgt := 15) hx hb dX4_isClass_11 (by decide) ?_
      refine r_int S hret hlk G rfl (Nat.le_of_ble_eq_true rfl) (Nat.le_of_ble_eq_true rfl) dX4_isClass_15 ?_
      exact ⟨rfl, by simp [c1, c2, tin8, Int32.not_lt, Int32.not_le]⟩

set_option maxHeartbeats 4000000 in
set_option maxRecDepth 100000 in
theorem c_X4_isLimit (l : Launch) {E : EV} {w : wo} (c : Int32) : ct_i l E yX4_isLimit wsX4_isLimit 0 0 0 [.int c] w (fun r w' => w' = w ∧ r = if lin c = true then 1 else 0) := by
  intro zz
  refine wo_body (Qc := fun A => va_Qi _ (wo_B E A) A) (ret := (some .boolean)) (by decide) rfl (Nat.le_of_ble_eq_true rfl) ?_
  intro p_ e_ s_ m_ args_ below_ meth_ code_ A_ ls S hret hlk hnm G hl
  have hl : lv_has ls 1 [(0, .int c)] := hl
  have hx := S.1
  have hb := S.2.1
  refine lv_iload_n hx hb dX4_isLimit_0 rfl (lv_at hl 0 rfl) ?_
  refine lv_iconst (v := 1) hx hb dX4_isLimit_1 (by decide) ?_
  refine lv_icmp_lt (tgt := 15) hx hb dX4_isLimit_2 (by decide) (fun c1 => ?_) (fun c1 => ?_)
  · skip
    refine lv_iconst (v := 0) hx hb dX4_isLimit_15 (by decide) ?_
    refine r_int S hret hlk G rfl (Nat.le_of_ble_eq_true rfl) (Nat.le_of_ble_eq_true rfl) dX4_isLimit_16 ?_
    exact ⟨rfl, by simp [c1, linc, Int32.not_lt, Int32.not_le]⟩
  · skip
    refine lv_iload_n hx hb dX4_isLimit_5 rfl (lv_at hl 0 rfl) ?_
    refine lv_bipush (v := 100) hx hb dX4_isLimit_6 (by decide) ?_
    refine lv_icmp_gt (tgt := 15) hx hb dX4_isLimit_8 (by decide) (fun c2 => ?_) (fun c2 => ?_)
    · skip
      refine lv_iconst (v := 0) hx hb dX4_isLimit_15 (by decide) ?_
      refine r_int S hret hlk G rfl (Nat.le_of_ble_eq_true rfl) (Nat.le_of_ble_eq_true rfl) dX4_isLimit_16 ?_
      exact ⟨rfl, by simp [c1, c2, linc, Int32.not_lt, Int32.not_le]⟩
    · skip
      refine lv_iconst (v := 1) hx hb dX4_isLimit_11 (by decide) ?_
      refine lv_goto (tgt := 16) hx hb dX4_isLimit_12 (by decide) ?_
      refine r_int S hret hlk G rfl (Nat.le_of_ble_eq_true rfl) (Nat.le_of_ble_eq_true rfl) dX4_isLimit_16 ?_
      exact ⟨rfl, by simp [c1, c2, linc, Int32.not_lt, Int32.not_le]⟩
