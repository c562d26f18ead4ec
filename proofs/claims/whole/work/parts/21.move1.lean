/-! THE CLASS: move -/
theorem hi2 {N : Nat} (hN : N ≤ 1000) (i z : Int32) : ((¬ i < 0 ∧ ¬ z < 0) ∧ i ≤ nI N - z) ↔ (0 ≤ i ∧ 0 ≤ z ∧ cn i + cn z ≤ N) := by
  constructor
  · rintro ⟨⟨h1, h2⟩, h3⟩
    obtain ⟨a, ha, rfl⟩ := nI_of h1
    obtain ⟨b, hb, rfl⟩ := nI_of h2
    refine ⟨Int32.not_lt.mp h1, Int32.not_lt.mp h2, ?_⟩
    rw [cn_nI ha, cn_nI hb]
    have e : (nI N - nI b).toInt = (N : Int) - b := by
      rw [Int32.toInt_sub, nI_toInt (by omega), nI_toInt hb]
      exact Int.bmod_eq_of_le (by omega) (by omega)
    have h4 := Int32.le_iff_toInt_le.mp h3
    rw [e, nI_toInt ha] at h4
    omega
  · rintro ⟨h1, h2, h3⟩
    obtain ⟨a, ha, rfl⟩ := nI_of (Int32.not_lt.mpr h1)
    obtain ⟨b, hb, rfl⟩ := nI_of (Int32.not_lt.mpr h2)
    rw [cn_nI ha, cn_nI hb] at h3
    refine ⟨⟨Int32.not_lt.mpr h1, Int32.not_lt.mpr h2⟩, ?_⟩
    have e : (nI N - nI b).toInt = (N : Int) - b := by
      rw [Int32.toInt_sub, nI_toInt (by omega), nI_toInt hb]
      exact Int.bmod_eq_of_le (by omega) (by omega)
    rw [Int32.le_iff_toInt_le, e, nI_toInt ha]
    omega
theorem s23b {x : Int32} (h : ∃ s, s < 4 ∧ x = nI s) : (x = 2 ∨ x = 3) ↔ 1 < x := by
  obtain ⟨s, hs, rfl⟩ := h
  rcases (show s = 0 ∨ s = 1 ∨ s = 2 ∨ s = 3 by omega) with rfl | rfl | rfl | rfl <;> decide
theorem g_copyl {p : Program} {l : Launch} {e : Env} {R : Room} {s : State} {m : MethodId} {args : Array Value} {below : List Frame} {meth : Method} {c : Code} {H : Heap} {locs : List Loc} {cells slots : Nat} {Q : State → Prop} {cc : ByteArray} {pc nL : Nat} {ls : Array Slot} {rest : List Value} {E : EV} {A : Nat → Prop} {a0 a : Nat} {w : wo} {Ts : List Cond} {own : String} {lv : List (Nat × Value)} (S : CallFix p m c cc nL s args Ts own) (G : wo_G E A s w H locs) (hls : lv_has ls nL lv) {index : Nat} (hlink : Cond.methodLink own index arraycopyName ∈ Ts) (hnat : Cond.native arraycopyName ∈ Ts) (hstat : Cond.static arraycopyName ∈ Ts) (hini : Cond.initialized "java/lang/System" ∈ Ts) {n0 n1 : Nat} {f g : Nat → Int64} (h0 : w a0 = some (.inl (E.2.2.1, n0, .inr (.inl f)))) (h1 : w a = some (.inl (E.2.2.1, n1, .inr (.inl g)))) {sp dp n : Int32} (hs : ¬ sp < 0) (hd : ¬ dp < 0) (hn : ¬ n < 0) (h4 : sp.toNatClampNeg + n.toNatClampNeg ≤ n0) (h5 : dp.toNatClampNeg + n.toNatClampNeg ≤ n1) (hframes : 1 ≤ R.frames) (hlocals : (rest.map fun v => v.category).sum + (nativeFrameWords "java/lang/System" "arraycopy" 5 + 11) ≤ R.locals) (hdg : decode cc pc = .ok (.invokestatic index, 3))
    (kk : ∀ (H1 : Heap) (locs1 : List Loc), wo_G E A s (wo_up w a (.inl (E.2.2.1, n1, .inr (.inl (va_cpy f g sp.toNatClampNeg dp.toNatClampNeg n.toNatClampNeg))))) H1 locs1 → W p l e R s m args below meth c H1 locs1 cells slots Q (F0 m (pc + 3) ls rest)) : W p l e R s m args below meth c H locs cells slots Q (F0 m pc ls (.int n :: .int dp :: .ref a :: .int sp :: .ref a0 :: rest)) := by
  obtain ⟨ws, hP, hD, hh, -⟩ := wo_list G.2.1 G.2.2.1
  obtain ⟨q0, hq0⟩ := hh a0 _ h0
  obtain ⟨q1, hq1⟩ := hh a _ h1
  exact va_copyl (D := E.1) (cl := vwCl) (tys := ev_t E) (ws := ws) (ty := .long) S.1 S.2.1 (S.2.2.1.trans hls.1.symm) S.2.2.2.1 (S.2.2.2.2 _ hlink) (S.2.2.2.2 _ hnat) (S.2.2.2.2 _ hstat) (S.2.2.2.2 _ hini) G.1.1 hP hD G.2.2.2.1 q0 q1 1 1 hq0 hq1 rfl rfl rfl hs hd hn h4 h5 (fun _ _ => rfl) hframes hlocals hdg (fun H1 locs1 hP1 _ hS1 => kk H1 locs1 ⟨G.1, wo_set hh hq1 hP1, G.2.2.1.up (G.2.2.1 a _ h1), hS1, G.2.2.2.2⟩)
set_option maxHeartbeats 4000000 in
set_option maxRecDepth 100000 in
theorem c_X4_againstMove_nn (l : Launch) {E : EV} {w : wo} (i j z : Int32) : ct_i l E yX4_againstMove wsX4_againstMove 1 0 0 [.null, .int i, .null, .int j, .int z] w (fun r w' => w' = w ∧ r = 1) := by
  intro zz
  refine wo_body (Qc := fun A => va_Qi _ (wo_B E A) A) (ret := (some .int)) (by decide) rfl (Nat.le_of_ble_eq_true rfl) ?_
  intro p_ e_ s_ m_ args_ below_ meth_ code_ A_ ls S hret hlk hnm G hl
  have hl : lv_has ls 5 [(0, .null), (1, .int i), (2, .null), (3, .int j), (4, .int z)] := hl
  have hx := S.1
  have hb := S.2.1
  refine lv_aload_nN hx hb dX4_againstMove_0 rfl (lv_at hl 0 rfl) ?_
  refine lv_ifnullN (tgt := 8) hx hb dX4_againstMove_1 (by decide) ?_
  refine lv_iconst (v := 1) hx hb dX4_againstMove_8 (by decide) ?_
  refine r_int S hret hlk G rfl (Nat.le_of_ble_eq_true rfl) (Nat.le_of_ble_eq_true rfl) dX4_againstMove_9 ?_
  exact ⟨rfl, rfl⟩

set_option maxHeartbeats 4000000 in
set_option maxRecDepth 100000 in
theorem c_X4_againstMove_ny (l : Launch) {E : EV} {w : wo} {b : Nat} (i j z : Int32) : ct_i l E yX4_againstMove wsX4_againstMove 1 0 0 [.null, .int i, .ref b, .int j, .int z] w (fun r w' => w' = w ∧ r = 1) := by
  intro zz
  refine wo_body (Qc := fun A => va_Qi _ (wo_B E A) A) (ret := (some .int)) (by decide) rfl (Nat.le_of_ble_eq_true rfl) ?_
  intro p_ e_ s_ m_ args_ below_ meth_ code_ A_ ls S hret hlk hnm G hl
  have hl : lv_has ls 5 [(0, .null), (1, .int i), (2, .ref b), (3, .int j), (4, .int z)] := hl
  have hx := S.1
  have hb := S.2.1
  refine lv_aload_nN hx hb dX4_againstMove_0 rfl (lv_at hl 0 rfl) ?_
  refine lv_ifnullN (tgt := 8) hx hb dX4_againstMove_1 (by decide) ?_
  refine lv_iconst (v := 1) hx hb dX4_againstMove_8 (by decide) ?_
  refine r_int S hret hlk G rfl (Nat.le_of_ble_eq_true rfl) (Nat.le_of_ble_eq_true rfl) dX4_againstMove_9 ?_
  exact ⟨rfl, rfl⟩

set_option maxHeartbeats 4000000 in
set_option maxRecDepth 100000 in
theorem c_X4_againstMove_m (l : Launch) {E : EV} {w : wo} {b : Nat} (i j z : Int32) : ct_i l E yX4_againstMove wsX4_againstMove 1 0 0 [.ref b, .int i, .null, .int j, .int z] w (fun r w' => w' = w ∧ r = 1) := by
  intro zz
  refine wo_body (Qc := fun A => va_Qi _ (wo_B E A) A) (ret := (some .int)) (by decide) rfl (Nat.le_of_ble_eq_true rfl) ?_
  intro p_ e_ s_ m_ args_ below_ meth_ code_ A_ ls S hret hlk hnm G hl
  have hl : lv_has ls 5 [(0, .ref b), (1, .int i), (2, .null), (3, .int j), (4, .int z)] := hl
  have hx := S.1
  have hb := S.2.1
  refine lv_aload_n hx hb dX4_againstMove_0 rfl (lv_at hl 0 rfl) ?_
  refine lv_ifnull hx hb dX4_againstMove_1 ?_
  refine lv_aload_nN hx hb dX4_againstMove_4 rfl (lv_at hl 2 rfl) ?_
  refine lv_ifnonnullN hx hb dX4_againstMove_5 ?_
  refine lv_iconst (v := 1) hx hb dX4_againstMove_8 (by decide) ?_
  refine r_int S hret hlk G rfl (Nat.le_of_ble_eq_true rfl) (Nat.le_of_ble_eq_true rfl) dX4_againstMove_9 ?_
  exact ⟨rfl, rfl⟩

theorem if_two {p : Prop} [Decidable p] (h : ¬ (if p then 1 else 0 : Int32) = 0) : p := by
  by_cases q : p
  · exact q
  · rw [if_neg q] at h; exact absurd rfl h
theorem if_one {p q : Prop} [Decidable p] (h : ¬ (if p then 1 else 0 : Int32) = 0) (i : p ↔ q) : q := i.mp (if_two h)
set_option maxHeartbeats 4000000 in
set_option maxRecDepth 100000 in
theorem c_X4_againstMove_y (l : Launch) {E : EV} {w : wo} {x st wk tl ta : Nat} {tf : Nat → Option Nat} {T Rw Ia : Nat → Nat} {F : Nat → Nat → Int64} {n : Nat} {cl vs lk hd : Nat → Int32} {nr : Nat} {so sz : Nat → Int32} {it : Nat → Int64} {oc ow bg dp : Int32} {td : Nat → Int32} {lim wou th : Int32} (R : Rc E w (x, st, wk, tl, ta, tf, T, Rw, Ia, F) (n, cl, vs, lk, hd, nr, so, sz, it, oc, ow, bg, dp, td) (lim, wou, th)) (K : Gd (n, cl, vs, lk, hd, nr, so, sz, it, oc, ow, bg, dp, td)) {r r2 : Nat} (hr : r < nr) (hr2 : r2 < nr) (i j z : Int32) : ct_i l E yX4_againstMove wsX4_againstMove 1 0 0 [.ref (Rw r), .int i, .ref (Rw r2), .int j, .int z] w (fun q w' => w' = w ∧ q = if so r = so r2 ∨ (1 < so r ∧ 1 < so r2) then (if 0 ≤ i ∧ 0 ≤ j ∧ 0 ≤ z ∧ cn i + cn z ≤ cn (sz r) ∧ cn j + cn z ≤ cn (sz r2) then 0 else 3) else 5) := by
  obtain ⟨Kn, Kr, Kc, Kl, Kh, Ks, Kz, Ki⟩ := K
  intro zz
  refine wo_body (Qc := fun A => va_Qi _ (wo_B E A) A) (ret := (some .int)) (by decide) rfl (Nat.le_of_ble_eq_true rfl) ?_
  intro p_ e_ s_ m_ args_ below_ meth_ code_ A_ ls S hret hlk hnm G hl
  have hl : lv_has ls 5 [(0, .ref (Rw r)), (1, .int i), (2, .ref (Rw r2)), (3, .int j), (4, .int z)] := hl
  have hx := S.1
  have hb := S.2.1
  refine lv_aload_n hx hb dX4_againstMove_0 rfl (lv_at hl 0 rfl) ?_
  refine lv_ifnull hx hb dX4_againstMove_1 ?_
  refine lv_aload_n hx hb dX4_againstMove_4 rfl (lv_at hl 2 rfl) ?_
  refine lv_ifnonnull (tgt := 10) hx hb dX4_againstMove_5 (by decide) ?_
  refine lv_aload_n hx hb dX4_againstMove_10 rfl (lv_at hl 0 rfl) ?_
  refine g_get S G (Rc_Rw R r hr) rfl (by decide +kernel) 0 (by decide) (by decide +kernel) rfl dX4_againstMove_11 ?_
  refine lv_aload_n hx hb dX4_againstMove_14 rfl (lv_at hl 2 rfl) ?_
  refine g_get S G (Rc_Rw R r2 hr2) rfl (by decide +kernel) 0 (by decide) (by decide +kernel) rfl dX4_againstMove_15 ?_
  refine lv_icmp_eq (tgt := 37) hx hb dX4_againstMove_18 (by decide) (fun c1 => ?_) (fun c1 => ?_)
  · skip
    refine lv_aload_n hx hb dX4_againstMove_37 rfl (lv_at hl 0 rfl) ?_
    refine lv_iload_n hx hb dX4_againstMove_38 rfl (lv_at hl 1 rfl) ?_
    refine lv_iload hx hb dX4_againstMove_39 (lv_at hl 4 rfl) ?_
    refine g_Vi (n := 2) (rest := []) S G hl (c_X0_hasItems l (Rc_Rw R r hr) (Rc_Ia R r hr) i z) gX4_againstMove_X0_hasItems rfl (by decide +kernel) (Rc_Rw R r hr) rfl rfl rfl (Nat.le_of_ble_eq_true rfl) ⟨Nat.le_of_ble_eq_true rfl, Nat.le_of_ble_eq_true rfl⟩ ⟨Nat.le_of_ble_eq_true rfl, Nat.le_of_ble_eq_true rfl⟩ dX4_againstMove_41 ?_
    clear G; intro r_ w1 H locs hp G
    obtain ⟨rfl, rfl⟩ := hp
    refine lv_if_eq (tgt := 61) hx hb dX4_againstMove_44 (by decide) (fun c2 => ?_) (fun c2 => ?_)
    · skip
      refine lv_iconst (v := 3) hx hb dX4_againstMove_61 (by decide) ?_
      refine r_int S hret hlk G rfl (Nat.le_of_ble_eq_true rfl) (Nat.le_of_ble_eq_true rfl) dX4_againstMove_62 ?_
      have ql : so r = so r2 ∨ (1 < so r ∧ 1 < so r2) := Or.inl c1
      have qw : ¬ (0 ≤ i ∧ 0 ≤ j ∧ 0 ≤ z ∧ cn i + cn z ≤ cn (sz r) ∧ cn j + cn z ≤ cn (sz r2)) := fun y => by
        rw [if_pos ((hi2 (Nat.le_trans (sz_le (Kz r hr)) (by decide)) i z).mpr ⟨y.1, y.2.2.1, y.2.2.2.1⟩)] at c2
        exact absurd c2 (by decide)
      exact ⟨rfl, by rw [if_pos ql, if_neg qw]⟩
    · skip
      refine lv_aload_n hx hb dX4_againstMove_47 rfl (lv_at hl 2 rfl) ?_
      refine lv_iload_n hx hb dX4_againstMove_48 rfl (lv_at hl 3 rfl) ?_
      refine lv_iload hx hb dX4_againstMove_49 (lv_at hl 4 rfl) ?_
      refine g_Vi (n := 2) (rest := []) S G hl (c_X0_hasItems l (Rc_Rw R r2 hr2) (Rc_Ia R r2 hr2) j z) gX4_againstMove_X0_hasItems rfl (by decide +kernel) (Rc_Rw R r2 hr2) rfl rfl rfl (Nat.le_of_ble_eq_true rfl) ⟨Nat.le_of_ble_eq_true rfl, Nat.le_of_ble_eq_true rfl⟩ ⟨Nat.le_of_ble_eq_true rfl, Nat.le_of_ble_eq_true rfl⟩ dX4_againstMove_51 ?_
      clear G; intro r_ w1 H locs hp G
      obtain ⟨rfl, rfl⟩ := hp
      refine lv_if_eq (tgt := 61) hx hb dX4_againstMove_54 (by decide) (fun c3 => ?_) (fun c3 => ?_)
      · skip
        refine lv_iconst (v := 3) hx hb dX4_againstMove_61 (by decide) ?_
        refine r_int S hret hlk G rfl (Nat.le_of_ble_eq_true rfl) (Nat.le_of_ble_eq_true rfl) dX4_againstMove_62 ?_
        have ql : so r = so r2 ∨ (1 < so r ∧ 1 < so r2) := Or.inl c1
        have w1 := (hi2 (Nat.le_trans (sz_le (Kz r hr)) (by decide)) i z).mp (if_two c2)
        have qw : ¬ (0 ≤ i ∧ 0 ≤ j ∧ 0 ≤ z ∧ cn i + cn z ≤ cn (sz r) ∧ cn j + cn z ≤ cn (sz r2)) := fun y => by
          rw [if_pos ((hi2 (Nat.le_trans (sz_le (Kz r2 hr2)) (by decide)) j z).mpr ⟨y.2.1, y.2.2.1, y.2.2.2.2⟩)] at c3
          exact absurd c3 (by decide)
        exact ⟨rfl, by rw [if_pos ql, if_neg qw]⟩
      · skip
        refine lv_iconst (v := 0) hx hb dX4_againstMove_57 (by decide) ?_
        refine lv_goto (tgt := 62) hx hb dX4_againstMove_58 (by decide) ?_
        refine r_int S hret hlk G rfl (Nat.le_of_ble_eq_true rfl) (Nat.le_of_ble_eq_true rfl) dX4_againstMove_62 ?_
        have ql : so r = so r2 ∨ (1 < so r ∧ 1 < so r2) := Or.inl c1
        have w1 := (hi2 (Nat.le_trans (sz_le (Kz r hr)) (by decide)) i z).mp (if_two c2)
        have w2 := (hi2 (Nat.le_trans (sz_le (Kz r2 hr2)) (by decide)) j z).mp (if_two c3)
        have qw : 0 ≤ i ∧ 0 ≤ j ∧ 0 ≤ z ∧ cn i + cn z ≤ cn (sz r) ∧ cn j + cn z ≤ cn (sz r2) := ⟨w1.1, w2.1, w1.2.1, w1.2.2, w2.2.2⟩
        exact ⟨rfl, by rw [if_pos ql, if_pos qw]⟩
  · skip
    refine lv_aload_n hx hb dX4_againstMove_21 rfl (lv_at hl 0 rfl) ?_
    refine g_Vi (n := 0) (rest := []) S G hl (c_X0_isOfThings l (Rc_Rw R r hr)) gX4_againstMove_X0_isOfThings rfl (by decide +kernel) (Rc_Rw R r hr) rfl rfl rfl (Nat.le_of_ble_eq_true rfl) ⟨Nat.le_of_ble_eq_true rfl, Nat.le_of_ble_eq_true rfl⟩ ⟨Nat.le_of_ble_eq_true rfl, Nat.le_of_ble_eq_true rfl⟩ dX4_againstMove_22 ?_
    clear G; intro r_ w1 H locs hp G
    obtain ⟨rfl, rfl⟩ := hp
    refine lv_if_eq (tgt := 35) hx hb dX4_againstMove_25 (by decide) (fun c4 => ?_) (fun c4 => ?_)
    · skip
      refine lv_iconst (v := 5) hx hb dX4_againstMove_35 (by decide) ?_
      refine r_int S hret hlk G rfl (Nat.le_of_ble_eq_true rfl) (Nat.le_of_ble_eq_true rfl) dX4_againstMove_36 ?_
      have ql : ¬ (so r = so r2 ∨ (1 < so r ∧ 1 < so r2)) := fun y => y.elim c1 (fun y => by rw [if_pos ((s23b (Ks r hr)).mpr y.1)] at c4; exact absurd c4 (by decide))
      exact ⟨rfl, by rw [if_neg ql]⟩
    · skip
      refine lv_aload_n hx hb dX4_againstMove_28 rfl (lv_at hl 2 rfl) ?_
      refine g_Vi (n := 0) (rest := []) S G hl (c_X0_isOfThings l (Rc_Rw R r2 hr2)) gX4_againstMove_X0_isOfThings rfl (by decide +kernel) (Rc_Rw R r2 hr2) rfl rfl rfl (Nat.le_of_ble_eq_true rfl) ⟨Nat.le_of_ble_eq_true rfl, Nat.le_of_ble_eq_true rfl⟩ ⟨Nat.le_of_ble_eq_true rfl, Nat.le_of_ble_eq_true rfl⟩ dX4_againstMove_29 ?_
      clear G; intro r_ w1 H locs hp G
      obtain ⟨rfl, rfl⟩ := hp
      refine lv_if_ne (tgt := 37) hx hb dX4_againstMove_32 (by decide) (fun c5 => ?_) (fun c5 => ?_)
      · skip
        refine lv_aload_n hx hb dX4_againstMove_37 rfl (lv_at hl 0 rfl) ?_
        refine lv_iload_n hx hb dX4_againstMove_38 rfl (lv_at hl 1 rfl) ?_
        refine lv_iload hx hb dX4_againstMove_39 (lv_at hl 4 rfl) ?_
        refine g_Vi (n := 2) (rest := []) S G hl (c_X0_hasItems l (Rc_Rw R r hr) (Rc_Ia R r hr) i z) gX4_againstMove_X0_hasItems rfl (by decide +kernel) (Rc_Rw R r hr) rfl rfl rfl (Nat.le_of_ble_eq_true rfl) ⟨Nat.le_of_ble_eq_true rfl, Nat.le_of_ble_eq_true rfl⟩ ⟨Nat.le_of_ble_eq_true rfl, Nat.le_of_ble_eq_true rfl⟩ dX4_againstMove_41 ?_
        clear G; intro r_ w1 H locs hp G
        obtain ⟨rfl, rfl⟩ := hp
        refine lv_if_eq (tgt := 61) hx hb dX4_againstMove_44 (by decide) (fun c6 => ?_) (fun c6 => ?_)
        · skip
          refine lv_iconst (v := 3) hx hb dX4_againstMove_61 (by decide) ?_
          refine r_int S hret hlk G rfl (Nat.le_of_ble_eq_true rfl) (Nat.le_of_ble_eq_true rfl) dX4_againstMove_62 ?_
          have ql : so r = so r2 ∨ (1 < so r ∧ 1 < so r2) := Or.inr ⟨if_one c4 (s23b (Ks r hr)), if_one c5 (s23b (Ks r2 hr2))⟩
          have qw : ¬ (0 ≤ i ∧ 0 ≤ j ∧ 0 ≤ z ∧ cn i + cn z ≤ cn (sz r) ∧ cn j + cn z ≤ cn (sz r2)) := fun y => by
            rw [if_pos ((hi2 (Nat.le_trans (sz_le (Kz r hr)) (by decide)) i z).mpr ⟨y.1, y.2.2.1, y.2.2.2.1⟩)] at c6
            exact absurd c6 (by decide)
          exact ⟨rfl, by rw [if_pos ql, if_neg qw]⟩
        · skip
          refine lv_aload_n hx hb dX4_againstMove_47 rfl (lv_at hl 2 rfl) ?_
          refine lv_iload_n hx hb dX4_againstMove_48 rfl (lv_at hl 3 rfl) ?_
          refine lv_iload hx hb dX4_againstMove_49 (lv_at hl 4 rfl) ?_
          refine g_Vi (n := 2) (rest := []) S G hl (c_X0_hasItems l (Rc_Rw R r2 hr2) (Rc_Ia R r2 hr2) j z) gX4_againstMove_X0_hasItems rfl (by decide +kernel) (Rc_Rw R r2 hr2) rfl rfl rfl (Nat.le_of_ble_eq_true rfl) ⟨Nat.le_of_ble_eq_true rfl, Nat.le_of_ble_eq_true rfl⟩ ⟨Nat.le_of_ble_eq_true rfl, Nat.le_of_ble_eq_true rfl⟩ dX4_againstMove_51 ?_
          clear G; intro r_ w1 H locs hp G
          obtain ⟨rfl, rfl⟩ := hp
          refine lv_if_eq (tgt := 61) hx hb dX4_againstMove_54 (by decide) (fun c7 => ?_) (fun c7 => ?_)
          · skip
            refine lv_iconst (v := 3) hx hb dX4_againstMove_61 (by decide) ?_
            refine r_int S hret hlk G rfl (Nat.le_of_ble_eq_true rfl) (Nat.le_of_ble_eq_true rfl) dX4_againstMove_62 ?_
            have ql : so r = so r2 ∨ (1 < so r ∧ 1 < so r2) := Or.inr ⟨if_one c4 (s23b (Ks r hr)), if_one c5 (s23b (Ks r2 hr2))⟩
            have w1 := (hi2 (Nat.le_trans (sz_le (Kz r hr)) (by decide)) i z).mp (if_two c6)
            have qw : ¬ (0 ≤ i ∧ 0 ≤ j ∧ 0 ≤ z ∧ cn i + cn z ≤ cn (sz r) ∧ cn j + cn z ≤ cn (sz r2)) := fun y => by
              rw [if_pos ((hi2 (Nat.le_trans (sz_le (Kz r2 hr2)) (by decide)) j z).mpr ⟨y.2.1, y.2.2.1, y.2.2.2.2⟩)] at c7
              exact absurd c7 (by decide)
            exact ⟨rfl, by rw [if_pos ql, if_neg qw]⟩
          · skip
            refine lv_iconst (v := 0) hx hb dX4_againstMove_57 (by decide) ?_
            refine lv_goto (tgt := 62) hx hb dX4_againstMove_58 (by decide) ?_
            refine r_int S hret hlk G rfl (Nat.le_of_ble_eq_true rfl) (Nat.le_of_ble_eq_true rfl) dX4_againstMove_62 ?_
            have ql : so r = so r2 ∨ (1 < so r ∧ 1 < so r2) := Or.inr ⟨if_one c4 (s23b (Ks r hr)), if_one c5 (s23b (Ks r2 hr2))⟩
            have w1 := (hi2 (Nat.le_trans (sz_le (Kz r hr)) (by decide)) i z).mp (if_two c6)
            have w2 := (hi2 (Nat.le_trans (sz_le (Kz r2 hr2)) (by decide)) j z).mp (if_two c7)
            have qw : 0 ≤ i ∧ 0 ≤ j ∧ 0 ≤ z ∧ cn i + cn z ≤ cn (sz r) ∧ cn j + cn z ≤ cn (sz r2) := ⟨w1.1, w2.1, w1.2.1, w1.2.2, w2.2.2⟩
            exact ⟨rfl, by rw [if_pos ql, if_pos qw]⟩
      · skip
        refine lv_iconst (v := 5) hx hb dX4_againstMove_35 (by decide) ?_
        refine r_int S hret hlk G rfl (Nat.le_of_ble_eq_true rfl) (Nat.le_of_ble_eq_true rfl) dX4_againstMove_36 ?_
        have ql : ¬ (so r = so r2 ∨ (1 < so r ∧ 1 < so r2)) := fun y => y.elim c1 (fun y => by rw [if_pos ((s23b (Ks r2 hr2)).mpr y.2)] at c5; exact absurd c5 (by decide))
        exact ⟨rfl, by rw [if_neg ql]⟩

theorem gon_s {cl : Nat → Int32} {it : Nat → Int64} {b m : Nat} (h : it b = -1 ∨ cl (cn (it b).toInt32) ≤ 2) : gon cl it b (m + 1) = gon cl it (b + 1) m + 1 := by rw [gon, if_pos h]
theorem gon_e {cl : Nat → Int32} {it : Nat → Int64} {b m : Nat} (h : ¬ (it b = -1 ∨ cl (cn (it b).toInt32) ≤ 2)) : gon cl it b (m + 1) = 0 := by rw [gon, if_neg h]
theorem gon_le {cl : Nat → Int32} {it : Nat → Int64} : ∀ (m b : Nat), gon cl it b m ≤ m := by
  intro m
  induction m with
  | zero => intro b; exact Nat.le_refl 0
  | succ m ih =>
    intro b
    rw [gon]
    split
    · have := ih (b + 1); omega
    · omega
theorem gon_all {cl : Nat → Int32} {it : Nat → Int64} : ∀ (m b : Nat), (∀ k, k < m → it (b + k) = -1 ∨ cl (cn (it (b + k)).toInt32) ≤ 2) → gon cl it b m = m := by
  intro m
  induction m with
  | zero => intro b _; rfl
  | succ m ih =>
    intro b h
    rw [gon_s (b := b) (h 0 (by omega)), ih (b + 1) (fun k hk => by have := h (k + 1) (by omega); rwa [show b + (k + 1) = b + 1 + k by omega] at this)]
theorem lv_iff {n : Nat} (hn : n ≤ 40) {cl : Nat → Int32} {y : Int64} (Kc : ∀ k, k < n → ∃ c, c < 8 ∧ cl k = nI c) (h : y = -1 ∨ ∃ j, j < n ∧ y = lN j) : ((if tin n y.toInt32 = true then (if isof (cl (cn y.toInt32)) 0 = true then 1 else 0) else 1 : Int32) = 0) ↔ ¬ (y = -1 ∨ cl (cn y.toInt32) ≤ 2) := by
  rcases h with rfl | ⟨j, hj, rfl⟩
  · have e : (-1 : Int64).toInt32 = -1 := by decide
    rw [e, tin_m1]
    simp
  · rw [lN_i, tin_y hj (by omega), cn_nI (by omega)]
    have e1 : ¬ lN j = -1 := fun z => by
      have z2 := congrArg Int64.toInt z
      rw [lN_toInt (by omega)] at z2
      have : (-1 : Int64).toInt = -1 := by decide
      omega
    have i9 := isof0 (Kc j hj)
    by_cases q : cl j ≤ 2
    · simp [i9.mpr q, q]
    · have q2 : ¬ isof (cl j) 0 = true := fun z => q (i9.mp z)
      simp [q2, q, e1]
set_option maxHeartbeats 4000000 in
set_option maxRecDepth 100000 in
theorem lp_leavesAhead {p_ : Program} {l : Launch} {e_ : Env} {R_ : Room} {s_ : State} {m_ : MethodId} {args_ : Array Value} {below_ : List Frame} {meth_ : Method} {code_ : Code} {cells slots : Nat} {Q_ : State → Prop} {E : EV} {A_ : Nat → Prop} {H : Heap} {locs : List Loc} {w : wo} (S : CallFix p_ m_ code_ cX4_leavesAhead 5 s_ args_ wsX4_leavesAhead yX4_leavesAhead.cls) (G : wo_G E A_ s_ w H locs) {x st wk tl ta : Nat} {tf : Nat → Option Nat} {T Rw Ia : Nat → Nat} {F : Nat → Nat → Int64} {n : Nat} {cl vs lk hd : Nat → Int32} {nr : Nat} {so sz : Nat → Int32} {it : Nat → Int64} {oc ow bg dp : Int32} {td : Nat → Int32} {lim wou th : Int32} (R : Rc E w (x, st, wk, tl, ta, tf, T, Rw, Ia, F) (n, cl, vs, lk, hd, nr, so, sz, it, oc, ow, bg, dp, td) (lim, wou, th)) (K : Gd (n, cl, vs, lk, hd, nr, so, sz, it, oc, ow, bg, dp, td)) {r a b : Nat} (hr : r < nr) (hs : 2 ≤ so r) (hab : a + b ≤ cn (sz r)) {i z : Int32} (ei : i = nI a) (ez : z = nI b) (hR : 2 ≤ R_.frames ∧ 80 ≤ R_.locals) (hf : cells + 0 ≤ R_.cells ∧ slots + 0 ≤ R_.slots) (kx : ∀ (ls : Array Slot) (H : Heap) (locs : List Loc), wo_G E A_ s_ w H locs → lv_has ls 5 [(4, .int (nI (gon cl it (12 * r + a) b)))] → W p_ l e_ R_ s_ m_ args_ below_ meth_ code_ H locs cells slots Q_ (F0 m_ 35 ls [])) : ∀ (mm j : Nat) (jv : Int32), j + mm = b → gon cl it (12 * r + a) b = j + gon cl it (12 * r + a + j) mm → jv = nI j → ∀ (H : Heap) (locs : List Loc), wo_G E A_ s_ w H locs → ∀ ls : Array Slot, lv_has ls 5 [(0, .ref x), (1, .ref (Rw r)), (2, .int i), (3, .int z), (4, .int jv)] → W p_ l e_ R_ s_ m_ args_ below_ meth_ code_ H locs cells slots Q_ (F0 m_ 3 ls []) := by
  obtain ⟨Kn, Kr, Kc, Kl, Kh, Ks, Kz, Ki⟩ := K
  have hx := S.1
  have hb := S.2.1
  have hz := sz_le (Kz r hr)
  clear G
  intro mm
  induction mm with
  | zero =>
    intro j jv hj eg ej H locs G ls hl
    refine lv_iload hx hb dX4_leavesAhead_3 (lv_at hl 4 rfl) ?_
    refine lv_iload_n hx hb dX4_leavesAhead_5 rfl (lv_at hl 3 rfl) ?_
    refine lv_icmp_ge (tgt := 35) hx hb dX4_leavesAhead_6 (by decide) (fun c1 => ?_) (fun c1 => absurd (by rw [ej, ez]; exact nI_le (by omega) (by omega)) c1)
    exact kx ls H locs G (by rw [eg, show gon cl it (12 * r + a + j) 0 = 0 from rfl, Nat.add_zero, ← ej]; exact lv_sub hl [4] rfl)
  | succ mm ih =>
    intro j jv hj eg ej H locs G ls hl
    refine lv_iload hx hb dX4_leavesAhead_3 (lv_at hl 4 rfl) ?_
    refine lv_iload_n hx hb dX4_leavesAhead_5 rfl (lv_at hl 3 rfl) ?_
    refine lv_icmp_ge (tgt := 35) hx hb dX4_leavesAhead_6 (by decide) (fun c1 => absurd c1 (by rw [ej, ez]; exact nI_ge (by omega) (by omega))) (fun c1 => ?_)
    refine lv_aload_n hx hb dX4_leavesAhead_9 rfl (lv_at hl 0 rfl) ?_
    refine g_get S G (Rc_x R) rfl (by decide +kernel) 0 (by decide) (by decide +kernel) rfl dX4_leavesAhead_10 ?_
    refine lv_aload_n hx hb dX4_leavesAhead_13 rfl (lv_at hl 1 rfl) ?_
    refine g_get S G (Rc_Rw R r hr) rfl (by decide +kernel) 1 (by decide) (by decide +kernel) rfl dX4_leavesAhead_14 ?_
    refine lv_iload_n hx hb dX4_leavesAhead_17 rfl (lv_at hl 2 rfl) ?_
    refine lv_iload hx hb dX4_leavesAhead_18 (lv_at hl 4 rfl) ?_
    refine lv_iadd hx hb dX4_leavesAhead_20 ?_
    refine lv_topi (fun a2 ea2 => ?_)
    have e8 : a2 = nI (a + j) := by rw [ea2, ei, ej]; exact nI_add a j
    refine g_lald S G (Rc_Ia R r hr) (vin_e e8 (show a + j < cn (sz r) by omega) (by omega)) dX4_leavesAhead_21 ?_
    rw [show Int32.toNatClampNeg a2 = a + j from cn_e e8 (by omega), Rc_F R r hr (a + j) (by omega), show 12 * r + (a + j) = 12 * r + a + j by omega]
    have kk : it (12 * r + a + j) = -1 ∨ ∃ q, q < n ∧ it (12 * r + a + j) = lN q := by
      have := Ki r hr hs (a + j) (by omega)
      rw [show 12 * r + (a + j) = 12 * r + a + j by omega] at this
      exact this.imp id (fun ⟨q, h1, h2, _⟩ => ⟨q, h1, h2⟩)
    refine lv_l2i (v := (Int64.toInt32 (it (12 * r + a + j)))) hx hb dX4_leavesAhead_22 rfl ?_
    refine g_Vi (n := 1) (rest := []) S G hl (c_X1_isLeafOrNone l R Kn (Int64.toInt32 (it (12 * r + a + j)))) gX4_leavesAhead_X1_isLeafOrNone rfl (by decide +kernel) (Rc_st R) rfl rfl rfl (Nat.le_of_ble_eq_true rfl) ⟨hR.1, Nat.le_trans (by decide) hR.2⟩ hf dX4_leavesAhead_23 ?_
    clear G; intro r_ w1 H locs hp G
    obtain ⟨rfl, rfl⟩ := hp
    refine lv_if_eq (tgt := 35) hx hb dX4_leavesAhead_26 (by decide) (fun c3 => ?_) (fun c3 => ?_)
    · skip
      have g0 := (lv_iff Kn Kc kk).mp c3
      exact kx ls H locs G (by rw [eg, gon_e g0, Nat.add_zero, ← ej]; exact lv_sub hl [4] rfl)
    · skip
      obtain ⟨a4, ea4⟩ : ∃ y : Int32, y = jv + 1 := ⟨_, rfl⟩
      refine lv_iinc (v := a4) (lv' := [(4, .int a4), (0, .ref x), (1, .ref (Rw r)), (2, .int i), (3, .int z)]) hx hb dX4_leavesAhead_29 hl (k := 4) rfl (by rw [ea4]; rfl) (by decide) rfl (fun ls hl => ?_)
      refine lv_goto (tgt := 3) hx hb dX4_leavesAhead_32 (by decide) ?_
      have g0 : it (12 * r + a + j) = -1 ∨ cl (cn (it (12 * r + a + j)).toInt32) ≤ 2 := Classical.byContradiction (fun y => c3 ((lv_iff Kn Kc kk).mpr y))
      exact ih (j + 1) a4 (by omega) (by rw [eg, gon_s g0, show 12 * r + a + (j + 1) = 12 * r + a + j + 1 by omega]; omega) (by rw [ea4, ej]; exact nI_1 j) H locs G ls (lv_sub hl [1, 2, 3, 4, 0] rfl)
set_option maxHeartbeats 4000000 in
set_option maxRecDepth 100000 in
theorem c_X4_leavesAhead (l : Launch) {E : EV} {w : wo} {x st wk tl ta : Nat} {tf : Nat → Option Nat} {T Rw Ia : Nat → Nat} {F : Nat → Nat → Int64} {n : Nat} {cl vs lk hd : Nat → Int32} {nr : Nat} {so sz : Nat → Int32} {it : Nat → Int64} {oc ow bg dp : Int32} {td : Nat → Int32} {lim wou th : Int32} (R : Rc E w (x, st, wk, tl, ta, tf, T, Rw, Ia, F) (n, cl, vs, lk, hd, nr, so, sz, it, oc, ow, bg, dp, td) (lim, wou, th)) (K : Gd (n, cl, vs, lk, hd, nr, so, sz, it, oc, ow, bg, dp, td)) {r a b : Nat} (hr : r < nr) (hs : 2 ≤ so r) (hab : a + b ≤ cn (sz r)) {i z : Int32} (ei : i = nI a) (ez : z = nI b) : ct_i l E yX4_leavesAhead wsX4_leavesAhead 2 0 0 [.ref x, .ref (Rw r), .int i, .int z] w (fun q w' => w' = w ∧ q = nI (gon cl it (12 * r + a) b)) := by
  intro zz
  refine wo_body (Qc := fun A => va_Qi _ (wo_B E A) A) (ret := (some .int)) (by decide) rfl (Nat.le_of_ble_eq_true rfl) ?_
  intro p_ e_ s_ m_ args_ below_ meth_ code_ A_ ls S hret hlk hnm G hl
  have hl : lv_has ls 5 [(0, .ref x), (1, .ref (Rw r)), (2, .int i), (3, .int z)] := hl
  have hx := S.1
  have hb := S.2.1
  refine lv_iconst (v := 0) hx hb dX4_leavesAhead_0 (by decide) ?_
  refine lv_istore (lv' := [(4, .int 0), (0, .ref x), (1, .ref (Rw r)), (2, .int i), (3, .int z)]) hx hb dX4_leavesAhead_1 hl (by decide) rfl (fun ls hl => ?_)
  refine lp_leavesAhead S G R K hr hs hab ei ez ⟨Nat.le_of_ble_eq_true rfl, Nat.le_of_ble_eq_true rfl⟩ ⟨Nat.le_of_ble_eq_true rfl, Nat.le_of_ble_eq_true rfl⟩ (fun ls H locs G hl => ?_) b 0 0 (by omega) (by rw [Nat.zero_add, Nat.add_zero]) rfl _ _ G ls (lv_sub hl [1, 2, 3, 4, 0] rfl)
  refine lv_iload hx hb dX4_leavesAhead_35 (lv_at hl 0 rfl) ?_
  refine r_int S hret hlk G rfl (Nat.le_of_ble_eq_true rfl) (Nat.le_of_ble_eq_true rfl) dX4_leavesAhead_37 ?_
  exact ⟨rfl, rfl⟩
