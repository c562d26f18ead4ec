/-! THE LAW, from its entry -/
theorem kn_start {s : State} {args : Array Value} (hts : ∀ w ∈ lw_tbl, w.before args s = true) : ∃ E : EV, kn E s := by
  obtain ⟨c0, i0, hK0⟩ := u_known (C := RX0) (T := TX0) (N := 2) (n := 2) hts inX0 (hts (.instantiable RX0 2) (List.mem_of_getElem? (i := 214) (by decide +kernel)))
  obtain ⟨c1, i1, hK1⟩ := u_known (C := RX1) (T := TX1) (N := 2) (n := 2) hts inX1 (hts (.instantiable RX1 2) (List.mem_of_getElem? (i := 37) (by decide +kernel)))
  obtain ⟨c2, i2, hK2⟩ := u_known (C := RX2) (T := TX2) (N := 4) (n := 4) hts inX2 (hts (.instantiable RX2 4) (List.mem_of_getElem? (i := 110) (by decide +kernel)))
  obtain ⟨c3, i3, hK3⟩ := u_known (C := RX3) (T := TX3) (N := 6) (n := 6) hts inX3 (hts (.instantiable RX3 6) (List.mem_of_getElem? (i := 53) (by decide +kernel)))
  obtain ⟨c4, i4, hK4⟩ := u_known (C := RX4) (T := TX4) (N := 5) (n := 5) hts inX4 (hts (.instantiable RX4 5) (List.mem_of_getElem? (i := 29) (by decide +kernel)))
  obtain ⟨c5, i5, hK5⟩ := u_known (C := RX5) (T := TX5) (N := 17) (n := 17) hts inX5 (hts (.instantiable RX5 17) (List.mem_of_getElem? (i := 359) (by decide +kernel)))
  obtain ⟨cI, kI, pI, fI, gI, hI⟩ := Cond.arrayClass_spec (hts (.arrayClass .int) (List.mem_of_getElem? (i := 97) (by decide +kernel)))
  obtain ⟨cJ, kJ, pJ, fJ, gJ, hJ⟩ := Cond.arrayClass_spec (hts (.arrayClass .long) (List.mem_of_getElem? (i := 235) (by decide +kernel)))
  have hO : (Cond.arrayOver (.object RX2)).before args s = true := hts _ (List.mem_of_getElem? (i := 43) (by decide +kernel))
  obtain ⟨pT, cT, kT, fT, -, gT, hT, nT⟩ := Cond.arrayOver_spec hO
  refine ⟨((fun k => if k = 0 then c0 else if k = 1 then c1 else if k = 2 then c2 else if k = 3 then c3 else if k = 4 then c4 else c5, fun k => if k = 0 then i0 else if k = 1 then i1 else if k = 2 then i2 else if k = 3 then i3 else if k = 4 then i4 else i5), cI, cJ, cT), ⟨?_, ?_⟩, va_Nw.of rfl (hts nest1 (List.mem_of_getElem? (i := 335) (by decide +kernel))), va_AO.of hO⟩
  · intro k q hq
    match k, hq with
    | 0, hq => cases hq; exact hK0
    | 1, hq => cases hq; exact hK1
    | 2, hq => cases hq; exact hK2
    | 3, hq => cases hq; exact hK3
    | 4, hq => cases hq; exact hK4
    | 5, hq => cases hq; exact hK5
    | k + 6, hq => simp [vwCl] at hq
  · intro k q hq
    match k, hq with
    | 0, hq => cases hq; exact ⟨fun n z => ⟨fun k h => (by cases h), kI, gI, pI, hI⟩, fI⟩
    | 1, hq => cases hq; exact ⟨fun n z => ⟨fun k h => (by cases h), kJ, gJ, pJ, hJ⟩, fJ⟩
    | 2, hq => cases hq; exact ⟨fun n z => ⟨fun k h => (by cases h), kT, gT, pT, hT⟩, kT, pT, gT, hT, fT, nT⟩
    | k + 3, hq => simp [ev_t] at hq
theorem wo_sum {E : EV} {A : Nat → Prop} {s : State} {wa wb : wo} {H : Heap} {locs : List Loc} (Ga : wo_G E A s wa H locs) (Gb : wo_G E A s wb H locs) : wo_G E A s (fun q => match wa q with | some x => some x | none => wb q) H locs := by
  have k : ∀ (q : Nat) (x : va_E), (match wa q with | some x => some x | none => wb q) = some x → wa q = some x ∨ wb q = some x := by
    intro q x h
    cases z : wa q with
    | none => rw [z] at h; exact Or.inr h
    | some y => rw [z] at h; exact Or.inl h
  exact ⟨Ga.1, fun q x h => (k q x h).elim (Ga.2.1 q x) (Gb.2.1 q x), fun q x h => (k q x h).elim (Ga.2.2.1 q x) (Gb.2.2.1 q x), Ga.2.2.2⟩
theorem wo_less {E : EV} {A : Nat → Prop} {s : State} {w w2 : wo} {H : Heap} {locs : List Loc} (G : wo_G E A s w H locs) (h : ∀ (q : Nat) (x : va_E), w2 q = some x → w q = some x) : wo_G E A s w2 H locs := ⟨G.1, fun q x z => G.2.1 q x (h q x z), fun q x z => G.2.2.1 q x (h q x z), G.2.2.2⟩
theorem dj_new {wa : wo} {q : Nat} {x : va_E} (h : wa q = none) : Dj (wo_up (fun _ => none) q x) wa := by
  intro a
  by_cases e : a = q
  · rw [e]; exact Or.inr h
  · exact Or.inl (by rw [wo_up_n e])
theorem L_Iv {p : Program} {l : Launch} {e : Env} {R : Room} {s : State} {m : MethodId} {args : Array Value} {below : List Frame} {meth : Method} {c : Code} {H : Heap} {locs : List Loc} {cells slots mc ms : Nat} {Q : State → Prop} {cc : ByteArray} {pc nL : Nat} {ls : Array Slot} {rest st0 : List Value} {E : EV} {A : Nat → Prop} {wa wb : wo} {Ts : List Cond} {own : String} {y : MethodName} {ws ws' : List Cond} {bytes : ByteArray} {b k n maxL index : Nat} {As : List Value} {lv : List (Nat × Value)} {post : wo → Prop} (S : CallFix p m c cc nL s args Ts own) (Ga : wo_G E A s wa H locs) (Gb : wo_G E A s wb H locs) (dj : Dj wa wb) (hls : lv_has ls nL lv) (hM : ct_v l E y ws k mc ms (.ref b :: As) wa post) (hT : GoodIn Ts ws) (hl : Cond.methodLink own index y ∈ Ts) (hinst : Cond.instanceMethod y ∈ Ts) (hini : Cond.initialized y.cls ∈ Ts) (hy1 : y.name = "<init>") (hwd : ws = Cond.code y bytes maxL none :: ws') (hd : y.cls ≠ "java/lang/invoke/MethodHandle" ∧ y.cls ≠ "java/lang/invoke/VarHandle" ∧ (parseMethodDescriptor y.desc).map (fun d => d.parameters.length) = some n) (hn : As.length = n) (hst : st0 = As.reverse ++ .ref b :: rest) (hrm : (rest.map fun v => v.category).sum ≤ 8) (hR : k + 1 ≤ R.frames ∧ 8 + (maxL + 11) + 40 * k ≤ R.locals) (hf : cells + mc ≤ R.cells ∧ slots + ms ≤ R.slots) (hdg : decode cc pc = .ok (.invokespecial index, 3))
    (kk : ∀ (w' : wo) (H1 : Heap) (locs1 : List Loc), post w' → wo_G E A s w' H1 locs1 → wo_G E A s wb H1 locs1 → Dj w' wb → W p l e R s m args below meth c H1 locs1 (cells + mc) (slots + ms) Q (F0 m (pc + 3) ls rest)) : W p l e R s m args below meth c H locs cells slots Q (F0 m pc ls st0) :=
  va_callv (va_runI (As := As) (rest := rest) S (hM H.size) (cwI n S.2.2.2.2 hT hwd rfl rfl (S.2.2.2.2 _ hini) (S.2.2.2.2 _ hl) (S.2.2.2.2 _ hinst) hy1 hd hR) (wo_ps Ga) rfl hn hls.1 hst (lv_room hrm) hdg hf) Ga.2.2.2.1 (fun q _ h => wo_AA Ga q h) (wo_AA Ga) (fun w' _ H1 locs1 ht _ hp hB _ hk hS => by
    obtain ⟨g1, g2, g3⟩ := wo_both (w' := w') (H1 := H1) Ga Gb dj (by rw [← ht]; exact hB.1) hB.2 hk hS
    exact kk w' H1 locs1 hp g1 g2 g3)
theorem gd_0 : Gd st0 := ⟨by decide, by decide, fun k hk => absurd hk (Nat.not_lt_zero k), fun k hk => absurd hk (Nat.not_lt_zero k), fun k hk => absurd hk (Nat.not_lt_zero k), fun k hk => absurd hk (Nat.not_lt_zero k), fun k hk => absurd hk (Nat.not_lt_zero k), fun k hk => absurd hk (Nat.not_lt_zero k)⟩
set_option maxHeartbeats 4000000 in
set_option maxRecDepth 100000 in
/-- THE LAW, from its entry -/
theorem whole_start {p : Program} {e : Env} {s : State} {m : MethodId} {below : List Frame} {meth : Method} {c : Code} (l : Launch) {b L : Nat} {xs : Nat → Int32} (hL : L ≤ 3072) (C0 : lw_At p s m meth c b L xs) : W p l e room_1 s m #[Value.ref b] below meth c s.heap [] 0 0 (lw_Z below #[Value.ref b] s) (entryFrame m ([Value.ref b] : List Value).toArray 4) := by
  obtain ⟨hx, hb, hr, hml, hown, hts, hX, hbl, hlocks, hgv⟩ := id C0
  obtain ⟨E, hkn⟩ := kn_start hts
  have S : CallFix p m c cL_law 4 s #[Value.ref b] wsL_law RL := ⟨hx, hb, hml, hown, fun w h => hts w (wsL_law_in w h)⟩
  have G : wo_G E (fun q : Nat => s.heap.size ≤ q) s (fun _ => none) s.heap [] := ⟨hkn, fun _ _ h => (by cases h), fun _ _ h => (by cases h), va_S.rf, fun _ h => h⟩
  have hl := lv_entry ([.ref b]) (n := 4) (Nat.le_of_ble_eq_true rfl)
  rw [lg_entry_eq]
  generalize (lg_sl ([.ref b]) ++ List.replicate (4 - (lg_sl ([.ref b])).length) Slot.unset).toArray = ls at hl ⊢
  have hl : lv_has ls 4 [(0, .ref b)] := hl
  refine g_new (fs := [.null, .null, .null, .int 0, .int 0]) S G (ci := 4) rfl tyX4 tyX4_ok inlX4 (by decide +kernel) (by decide +kernel) (by decide +kernel) (fun j hj => by rcases (show j = 0 ∨ j = 1 ∨ j = 2 ∨ j = 3 ∨ j = 4 by omega) with rfl | rfl | rfl | rfl | rfl <;> rfl) (Nat.le_of_ble_eq_true rfl) (Nat.le_of_ble_eq_true rfl) dL_law_0 (fun x H hq G => ?_)
  refine lv_dup hx hb dL_law_3 rfl ?_
  refine g_Iv (n := 0) (rest := [.ref x]) S G hl (C_init l wo_up_s) gL_law_X4_init (by decide +kernel) (by decide +kernel) (by decide +kernel) rfl rfl (by decide +kernel) rfl rfl (Nat.le_of_ble_eq_true rfl) ⟨Nat.le_of_ble_eq_true rfl, Nat.le_of_ble_eq_true rfl⟩ ⟨Nat.le_of_ble_eq_true rfl, Nat.le_of_ble_eq_true rfl⟩ dL_law_4 ?_
  clear G
  intro wc H locs Xc Gc
  refine lv_astore_n (lv' := [(1, .ref x), (0, .ref b)]) hx hb dL_law_7 rfl hl (by decide) rfl (fun ls hl => ?_)
  refine g_new (fs := [.int 0, .null, .null, .null, .null, .int 0, .null, .null, .null, .int 0, .int 0, .int 0, .int 0, .null, .int 0, .int 0, .int 0]) S Gc (ci := 5) rfl tyX5 tyX5_ok inlX5 (by decide +kernel) (by decide +kernel) (by decide +kernel) (fun j hj => by rcases (show j = 0 ∨ j = 1 ∨ j = 2 ∨ j = 3 ∨ j = 4 ∨ j = 5 ∨ j = 6 ∨ j = 7 ∨ j = 8 ∨ j = 9 ∨ j = 10 ∨ j = 11 ∨ j = 12 ∨ j = 13 ∨ j = 14 ∨ j = 15 ∨ j = 16 by omega) with rfl | rfl | rfl | rfl | rfl | rfl | rfl | rfl | rfl | rfl | rfl | rfl | rfl | rfl | rfl | rfl | rfl <;> rfl) (Nat.le_of_ble_eq_true rfl) (Nat.le_of_ble_eq_true rfl) dL_law_8 (fun q2 H hq2 G => ?_)
  have Gc2 : wo_G E (fun q : Nat => s.heap.size ≤ q) s wc H locs := wo_less G (fun q y z => by rw [wo_up_n (fun e => by rw [e, hq2] at z; cases z)]; exact z)
  have Gm : wo_G E (fun q : Nat => s.heap.size ≤ q) s (wo_up (fun _ => none) q2 (.inr (5, [.int 0, .null, .null, .null, .null, .int 0, .null, .null, .null, .int 0, .int 0, .int 0, .int 0, .null, .int 0, .int 0, .int 0]))) H locs := wo_less G (fun q y z => by
    by_cases e : q = q2
    · rw [e, wo_up_s] at z; rw [e, wo_up_s]; exact z
    · rw [wo_up_n e] at z; cases z)
  refine lv_dup hx hb dL_law_11 rfl ?_
  refine L_Iv (n := 0) (rest := [.ref q2]) S Gm Gc2 (dj_new hq2) hl (M_init l wo_up_s) gL_law_X5_init (by decide +kernel) (by decide +kernel) (by decide +kernel) rfl rfl (by decide +kernel) rfl rfl (Nat.le_of_ble_eq_true rfl) ⟨Nat.le_of_ble_eq_true rfl, Nat.le_of_ble_eq_true rfl⟩ ⟨Nat.le_of_ble_eq_true rfl, Nat.le_of_ble_eq_true rfl⟩ dL_law_12 ?_
  intro wm H locs Xm Gm Gc dj
  refine lv_astore_n (lv' := [(2, .ref q2), (1, .ref x), (0, .ref b)]) hx hb dL_law_15 rfl hl (by decide) rfl (fun ls hl => ?_)
  refine lv_iconst (v := 0) hx hb dL_law_16 (by decide) ?_
  refine lv_istore_n (lv' := [(3, .int 0), (2, .ref q2), (1, .ref x), (0, .ref b)]) hx hb dL_law_17 rfl hl (by decide) rfl (fun ls hl => ?_)
  refine W.widen (k := 20 + 2 * 0) (n := 8000 + 14 * 0) (Nat.le_of_ble_eq_true rfl) (Nat.le_of_ble_eq_true rfl) ?_
  exact law_loop S hX hbl hr hlocks hL L 0 0 rfl (by omega) (by omega) st0 wc wm Xc Xm gd_0 (Nat.le_refl 0) H locs Gc Gm dj.sym ls (lv_sub hl [3, 2, 1, 0] rfl)
