/-! THE LAW: its loop, and its start -/
theorem law_gt {i L : Nat} {iv a : Int32} (ei : iv = nI (6 * i)) (ea : a = Int32.ofNat L - 6) (hL : L ≤ 3072) (hi : 6 * i ≤ L + 6) (h : L < 6 * i + 6) : a < iv := by
  rw [ei, ea, Int32.lt_iff_toInt_lt, nI_toInt (by omega)]
  have e : (Int32.ofNat L - 6).toInt = (L : Int) - 6 := pk_sub_toInt (a := L) (b := 6) (by omega) (by omega)
  rw [e]
  omega
set_option maxHeartbeats 4000000 in
set_option maxRecDepth 100000 in
theorem law_loop {p_ : Program} {l : Launch} {e_ : Env} {s_ : State} {m_ : MethodId} {below_ : List Frame} {meth_ : Method} {code_ : Code} {E : EV} {b L : Nat} {xs : Nat → Int32} (S : CallFix p_ m_ code_ cL_law 4 s_ #[Value.ref b] wsL_law RL) (hX : va_X b L xs s_ s_.heap) (hbl : b < s_.heap.size) (hr : meth_.sig.returnType = ret) (hlk : meth_.locks = false) (hL : L ≤ 3072) {x m : Nat} : ∀ (mm i : Nat) (iv : Int32), iv = nI (6 * i) → 6 * i ≤ L + 6 → L < 6 * (i + mm) + 6 → ∀ (σ : ST) (wc wm : wo), RcX E wc x σ → RmX E wm m σ → Gd σ → nr_of σ ≤ i → ∀ (H : Heap) (locs : List Loc), wo_G E (fun q : Nat => s_.heap.size ≤ q) s_ wc H locs → wo_G E (fun q : Nat => s_.heap.size ≤ q) s_ wm H locs → Dj wc wm → ∀ ls : Array Slot, lv_has ls 4 [(0, .ref b), (1, .ref x), (2, .ref m), (3, .int iv)] → W p_ l e_ room_1 s_ m_ #[Value.ref b] below_ meth_ code_ H locs (20 + 2 * i) (8000 + 14 * i) (lw_Z below_ #[Value.ref b] s_) (F0 m_ 18 ls []) := by
  have hx := S.1
  have hb := S.2.1
  intro mm
  induction mm with
  | zero =>
    intro i iv ei hiL hlt σ wc wm Xc Xm K hn H locs Gc Gm dj ls hl
    refine lv_iload_n hx hb dL_law_18 rfl (lv_at hl 3 rfl) ?_
    refine lv_aload_n hx hb dL_law_19 rfl (lv_at hl 0 rfl) ?_
    refine va_slen hx hb hX hbl (Nat.not_le.mpr hbl) Gc.2.2.2.1 dL_law_20 ?_
    refine lv_bipush (v := 6) hx hb dL_law_21 (by decide) ?_
    refine lv_isub hx hb dL_law_23 ?_
    refine lv_topi (fun a ea => ?_)
    refine lv_icmp_gt (tgt := 995) hx hb dL_law_24 (by decide) (fun _ => ?_) (fun cc => absurd (law_gt ei ea (by omega) (by omega) (by omega)) cc)
    refine lv_iconst (v := 1) hx hb dL_law_995 (by decide) ?_
    refine va_forget (fun q hq => Gc.2.2.2.1.2.2 q hq) ?_
    refine W.widen (k := 600000) (n := 7302250) (by omega) (by omega) ?_
    exact lw_ret hx hb hr hlk dL_law_996
  | succ mm ih =>
    intro i iv ei hiL hlt σ wc wm Xc Xm K hn H locs Gc Gm dj ls hl
    refine lv_iload_n hx hb dL_law_18 rfl (lv_at hl 3 rfl) ?_
    refine lv_aload_n hx hb dL_law_19 rfl (lv_at hl 0 rfl) ?_
    refine va_slen hx hb hX hbl (Nat.not_le.mpr hbl) Gc.2.2.2.1 dL_law_20 ?_
    refine lv_bipush (v := 6) hx hb dL_law_21 (by decide) ?_
    refine lv_isub hx hb dL_law_23 ?_
    refine lv_topi (fun a ea => ?_)
    refine lv_icmp_gt (tgt := 995) hx hb dL_law_24 (by decide) (fun _ => ?_) (fun cc => ?_)
    · refine lv_iconst (v := 1) hx hb dL_law_995 (by decide) ?_
      refine va_forget (fun q hq => Gc.2.2.2.1.2.2 q hq) ?_
      refine W.widen (k := 600000) (n := 7302250) (by omega) (by omega) ?_
      exact lw_ret hx hb hr hlk dL_law_996
    · have hi : 6 * i + 6 ≤ L := Classical.byContradiction (fun z => cc (law_gt ei ea (by omega) (by omega) (by omega)))
      refine lv_aload_n hx hb dL_law_27 rfl (lv_at hl 0 rfl) ?_
      refine lv_iload_n hx hb dL_law_28 rfl (lv_at hl 3 rfl) ?_
      refine va_sld hx hb hX hbl (Nat.not_le.mpr hbl) Gc.2.2.2.1 (show vp_in iv L by rw [ei]; exact vp_in_nI (by omega) (by omega)) dL_law_29 ?_
      refine lv_bipush (v := 31) hx hb dL_law_30 (by decide) ?_
      refine lv_iand hx hb dL_law_32 ?_
      refine lv_topi (fun u eu => ?_)
      obtain ⟨j, hj, ej⟩ := pk_andE (xs iv.toNatClampNeg) (m := 31) 5 (by decide)
      rw [← eu] at ej
      have kx : ∀ (σ2 : ST) (wc wm : wo) (H : Heap) (locs : List Loc), RcX E wc x σ2 → RmX E wm m σ2 → Gd σ2 → nr_of σ2 ≤ i + 1 → wo_G E (fun q : Nat => s_.heap.size ≤ q) s_ wc H locs → wo_G E (fun q : Nat => s_.heap.size ≤ q) s_ wm H locs → Dj wc wm → W p_ l e_ room_1 s_ m_ #[Value.ref b] below_ meth_ code_ H locs (20 + 2 * (i + 1)) (8000 + 14 * (i + 1)) (lw_Z below_ #[Value.ref b] s_) (F0 m_ 989 ls []) := by
        intro σ2 wc wm H locs Xc Xm K hn Gc Gm dj
        obtain ⟨v, ev⟩ : ∃ y : Int32, y = iv + 6 := ⟨_, rfl⟩
        refine lv_iinc (v := v) (lv' := [(3, .int v), (0, .ref b), (1, .ref x), (2, .ref m)]) hx hb dL_law_989 hl (k := 3) rfl (by rw [ev]; rfl) (by decide) rfl (fun ls hl => ?_)
        refine lv_goto (tgt := 18) hx hb dL_law_992 (by decide) ?_
        exact ih (i + 1) v (by rw [ev, ei]; exact nI_add (6 * i) 6) (by omega) (by omega) σ2 wc wm Xc Xm K hn H locs Gc Gm dj ls (lv_sub hl [1, 2, 3, 0] rfl)
      rcases (show j = 0 ∨ j = 1 ∨ j = 2 ∨ j = 3 ∨ j = 4 ∨ j = 5 ∨ j = 6 ∨ j = 7 ∨ j = 8 ∨ j = 9 ∨ j = 10 ∨ j = 11 ∨ j = 12 ∨ j = 13 ∨ j = 14 ∨ j = 15 ∨ j = 16 ∨ j = 17 ∨ j = 18 ∨ j = 19 ∨ j = 20 ∨ j = 21 ∨ j = 22 ∨ j = 23 ∨ j = 24 ∨ j = 25 ∨ j = 26 ∨ 27 ≤ j by omega) with rfl | rfl | rfl | rfl | rfl | rfl | rfl | rfl | rfl | rfl | rfl | rfl | rfl | rfl | rfl | rfl | rfl | rfl | rfl | rfl | rfl | rfl | rfl | rfl | rfl | rfl | rfl | hj27
      · refine lv_tableIn (off := 123) (tgt := 156) hx hb dL_law_33 (by rw [ej]; decide) (by rw [ej]; decide) (by rw [ej]; rfl) (by decide) ?_
        exact law_thing S hX hbl ei hi hL Xc Xm K hn Gc Gm dj hl kx
      · refine lv_tableIn (off := 156) (tgt := 189) hx hb dL_law_33 (by rw [ej]; decide) (by rw [ej]; decide) (by rw [ej]; rfl) (by decide) ?_
        exact law_outcome S hX hbl ei hi hL Xc Xm K hn Gc Gm dj hl kx
      · refine lv_tableIn (off := 169) (tgt := 202) hx hb dL_law_33 (by rw [ej]; decide) (by rw [ej]; decide) (by rw [ej]; rfl) (by decide) ?_
        exact law_own S hX hbl ei hi hL Xc Xm K hn Gc Gm dj hl kx
      · refine lv_tableIn (off := 182) (tgt := 215) hx hb dL_law_33 (by rw [ej]; decide) (by rw [ej]; decide) (by rw [ej]; rfl) (by decide) ?_
        exact law_begun S hX hbl ei hi hL Xc Xm K hn Gc Gm dj hl kx
      · refine lv_tableIn (off := 195) (tgt := 228) hx hb dL_law_33 (by rw [ej]; decide) (by rw [ej]; decide) (by rw [ej]; rfl) (by decide) ?_
        exact law_deep S hX hbl ei hi hL Xc Xm K hn Gc Gm dj hl kx
      · refine lv_tableIn (off := 208) (tgt := 241) hx hb dL_law_33 (by rw [ej]; decide) (by rw [ej]; decide) (by rw [ej]; rfl) (by decide) ?_
        exact law_told S hX hbl ei hi hL Xc Xm K hn Gc Gm dj hl kx
      · refine lv_tableIn (off := 231) (tgt := 264) hx hb dL_law_33 (by rw [ej]; decide) (by rw [ej]; decide) (by rw [ej]; rfl) (by decide) ?_
        exact law_cls S hX hbl ei hi hL Xc Xm K hn Gc Gm dj hl kx
      · refine lv_tableIn (off := 254) (tgt := 287) hx hb dL_law_33 (by rw [ej]; decide) (by rw [ej]; decide) (by rw [ej]; rfl) (by decide) ?_
        exact law_is S hX hbl ei hi hL Xc Xm K hn Gc Gm dj hl kx
      · refine lv_tableIn (off := 287) (tgt := 320) hx hb dL_law_33 (by rw [ej]; decide) (by rw [ej]; decide) (by rw [ej]; rfl) (by decide) ?_
        exact law_v S hX hbl ei hi hL Xc Xm K hn Gc Gm dj hl kx
      · refine lv_tableIn (off := 310) (tgt := 343) hx hb dL_law_33 (by rw [ej]; decide) (by rw [ej]; decide) (by rw [ej]; rfl) (by decide) ?_
        exact law_become S hX hbl ei hi hL Xc Xm K hn Gc Gm dj hl kx
      · refine lv_tableIn (off := 343) (tgt := 376) hx hb dL_law_33 (by rw [ej]; decide) (by rw [ej]; decide) (by rw [ej]; rfl) (by decide) ?_
        exact law_link S hX hbl ei hi hL Xc Xm K hn Gc Gm dj hl kx
      · refine lv_tableIn (off := 376) (tgt := 409) hx hb dL_law_33 (by rw [ej]; decide) (by rw [ej]; decide) (by rw [ej]; rfl) (by decide) ?_
        exact law_linked S hX hbl ei hi hL Xc Xm K hn Gc Gm dj hl kx
      · refine lv_tableIn (off := 399) (tgt := 432) hx hb dL_law_33 (by rw [ej]; decide) (by rw [ej]; decide) (by rw [ej]; rfl) (by decide) ?_
        exact law_follow S hX hbl ei hi hL Xc Xm K hn Gc Gm dj hl kx
      · refine lv_tableIn (off := 422) (tgt := 455) hx hb dL_law_33 (by rw [ej]; decide) (by rw [ej]; decide) (by rw [ej]; rfl) (by decide) ?_
        exact law_trade S hX hbl ei hi hL Xc Xm K hn Gc Gm dj hl kx
      · refine lv_tableIn (off := 445) (tgt := 478) hx hb dL_law_33 (by rw [ej]; decide) (by rw [ej]; decide) (by rw [ej]; rfl) (by decide) ?_
        exact law_hold S hX hbl ei hi hL Xc Xm K hn Gc Gm dj hl kx
      · refine lv_tableIn (off := 488) (tgt := 521) hx hb dL_law_33 (by rw [ej]; decide) (by rw [ej]; decide) (by rw [ej]; rfl) (by decide) ?_
        exact law_share S hX hbl ei hi hL Xc Xm K hn Gc Gm dj hl kx
      · refine lv_tableIn (off := 521) (tgt := 554) hx hb dL_law_33 (by rw [ej]; decide) (by rw [ej]; decide) (by rw [ej]; rfl) (by decide) ?_
        exact law_holds S hX hbl ei hi hL Xc Xm K hn Gc Gm dj hl kx
      · refine lv_tableIn (off := 544) (tgt := 577) hx hb dL_law_33 (by rw [ej]; decide) (by rw [ej]; decide) (by rw [ej]; rfl) (by decide) ?_
        exact law_size S hX hbl ei hi hL Xc Xm K hn Gc Gm dj hl kx
      · refine lv_tableIn (off := 567) (tgt := 600) hx hb dL_law_33 (by rw [ej]; decide) (by rw [ej]; decide) (by rw [ej]; rfl) (by decide) ?_
        exact law_at S hX hbl ei hi hL Xc Xm K hn Gc Gm dj hl kx
      · refine lv_tableIn (off := 601) (tgt := 634) hx hb dL_law_33 (by rw [ej]; decide) (by rw [ej]; decide) (by rw [ej]; rfl) (by decide) ?_
        exact law_lay S hX hbl ei hi hL Xc Xm K hn Gc Gm dj hl kx
      · refine lv_tableIn (off := 675) (tgt := 708) hx hb dL_law_33 (by rw [ej]; decide) (by rw [ej]; decide) (by rw [ej]; rfl) (by decide) ?_
        exact law_set S hX hbl ei hi hL Xc Xm K hn Gc Gm dj hl kx
      · refine lv_tableIn (off := 718) (tgt := 751) hx hb dL_law_33 (by rw [ej]; decide) (by rw [ej]; decide) (by rw [ej]; rfl) (by decide) ?_
        exact law_move S hX hbl ei hi hL Xc Xm K hn Gc Gm dj hl kx
      · refine lv_tableIn (off := 781) (tgt := 814) hx hb dL_law_33 (by rw [ej]; decide) (by rw [ej]; decide) (by rw [ej]; rfl) (by decide) ?_
        exact law_run S hX hbl ei hi hL Xc Xm K hn Gc Gm dj hl kx
      · refine lv_tableIn (off := 814) (tgt := 847) hx hb dL_law_33 (by rw [ej]; decide) (by rw [ej]; decide) (by rw [ej]; rfl) (by decide) ?_
        exact law_either S hX hbl ei hi hL Xc Xm K hn Gc Gm dj hl kx
      · refine lv_tableIn (off := 857) (tgt := 890) hx hb dL_law_33 (by rw [ej]; decide) (by rw [ej]; decide) (by rw [ej]; rfl) (by decide) ?_
        exact law_gather S hX hbl ei hi hL Xc Xm K hn Gc Gm dj hl kx
      · refine lv_tableIn (off := 890) (tgt := 923) hx hb dL_law_33 (by rw [ej]; decide) (by rw [ej]; decide) (by rw [ej]; rfl) (by decide) ?_
        exact law_keep S hX hbl ei hi hL Xc Xm K hn Gc Gm dj hl kx
      · refine lv_tableIn (off := 943) (tgt := 976) hx hb dL_law_33 (by rw [ej]; decide) (by rw [ej]; decide) (by rw [ej]; rfl) (by decide) ?_
        exact law_things S hX hbl ei hi hL Xc Xm K hn Gc Gm dj hl kx
      · refine lv_tableOut (tgt := 989) hx hb dL_law_33 (Or.inr (by rw [ej, nI_toInt (by omega)]; omega)) (by decide) ?_
        refine W.widen (k := 20 + 2 * (i + 1)) (n := 8000 + 14 * (i + 1)) (by omega) (by omega) ?_
        exact kx σ wc wm H locs Xc Xm K (by omega) Gc Gm dj
