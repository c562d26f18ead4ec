/-! THE LAW: each of its cases, from its first instruction to the loop's end -/
set_option maxHeartbeats 4000000 in
set_option maxRecDepth 100000 in
theorem law_thing {p_ : Program} {l : Launch} {e_ : Env} {s_ : State} {m_ : MethodId} {below_ : List Frame} {meth_ : Method} {code_ : Code} {Q_ : State → Prop} {E : EV} {b L : Nat} {xs : Nat → Int32} (S : CallFix p_ m_ code_ cL_law 4 s_ #[Value.ref b] wsL_law RL) (hX : va_X b L xs s_ s_.heap) (hbl : b < s_.heap.size) {i x m : Nat} {iv : Int32} (ei : iv = nI (6 * i)) (hi : 6 * i + 6 ≤ L) (hL : L ≤ 3072) {σ : ST} {wc wm : wo} (Xc : RcX E wc x σ) (Xm : RmX E wm m σ) (K : Gd σ) (hn : nr_of σ ≤ i) {H : Heap} {locs : List Loc} (Gc : wo_G E (fun q : Nat => s_.heap.size ≤ q) s_ wc H locs) (Gm : wo_G E (fun q : Nat => s_.heap.size ≤ q) s_ wm H locs) (dj : Dj wc wm) {ls : Array Slot} (hl : lv_has ls 4 [(0, .ref b), (1, .ref x), (2, .ref m), (3, .int iv)]) (kx : ∀ (σ2 : ST) (wc wm : wo) (H : Heap) (locs : List Loc), RcX E wc x σ2 → RmX E wm m σ2 → Gd σ2 → nr_of σ2 ≤ i + 1 → wo_G E (fun q : Nat => s_.heap.size ≤ q) s_ wc H locs → wo_G E (fun q : Nat => s_.heap.size ≤ q) s_ wm H locs → Dj wc wm → W p_ l e_ room_1 s_ m_ #[Value.ref b] below_ meth_ code_ H locs (20 + 2 * (i + 1)) (8000 + 14 * (i + 1)) Q_ (F0 m_ 989 ls [])) : W p_ l e_ room_1 s_ m_ #[Value.ref b] below_ meth_ code_ H locs (20 + 2 * i) (8000 + 14 * i) Q_ (F0 m_ 156 ls []) := by
  have hx := S.1
  have hb := S.2.1
  refine lv_aload_n hx hb dL_law_156 rfl (lv_at hl 1 rfl) ?_
  refine lv_aload_n hx hb dL_law_157 rfl (lv_at hl 0 rfl) ?_
  refine lv_iload_n hx hb dL_law_158 rfl (lv_at hl 3 rfl) ?_
  refine lv_iconst (v := 1) hx hb dL_law_159 (by decide) ?_
  refine lv_iadd hx hb dL_law_160 ?_
  refine lv_topi (fun a1 ea1 => ?_)
  have da1 : a1 = nI (6 * i + 1) := by rw [ea1, ei]; exact nI_add (6 * i) 1
  refine va_sld hx hb hX hbl (Nat.not_le.mpr hbl) Gc.2.2.2.1 (show vp_in a1 L by rw [da1]; exact vp_in_nI (by omega) (by omega)) dL_law_161 ?_
  rw [show Int32.toNatClampNeg a1 = 6 * i + 1 by rw [da1]; exact nI_clamp (by omega)]
  refine lv_aload_n hx hb dL_law_162 rfl (lv_at hl 0 rfl) ?_
  refine lv_iload_n hx hb dL_law_163 rfl (lv_at hl 3 rfl) ?_
  refine lv_iconst (v := 2) hx hb dL_law_164 (by decide) ?_
  refine lv_iadd hx hb dL_law_165 ?_
  refine lv_topi (fun a2 ea2 => ?_)
  have da2 : a2 = nI (6 * i + 2) := by rw [ea2, ei]; exact nI_add (6 * i) 2
  refine va_sld hx hb hX hbl (Nat.not_le.mpr hbl) Gc.2.2.2.1 (show vp_in a2 L by rw [da2]; exact vp_in_nI (by omega) (by omega)) dL_law_166 ?_
  rw [show Int32.toNatClampNeg a2 = 6 * i + 2 by rw [da2]; exact nI_clamp (by omega)]
  obtain ⟨fc, hfc⟩ := RcX_x Xc
  refine L_Vi (n := 2) (rest := []) S Gc Gm dj hl (C_thing l Xc K (xs (6 * i + 1)) (xs (6 * i + 2))) gL_law_X4_thing rfl (by decide +kernel) hfc rfl rfl rfl (Nat.le_of_ble_eq_true rfl) ⟨Nat.le_of_ble_eq_true rfl, Nat.le_of_ble_eq_true rfl⟩ ⟨show 20 + 2 * i + 1 ≤ 600000 by omega, show 8000 + 14 * i + 4 ≤ 7302250 by omega⟩ dL_law_167 ?_
  clear Gc Gm dj; intro r1 wc H locs hp Gc Gm dj
  obtain ⟨hr1, Xc⟩ := hp
  refine lv_aload_n hx hb dL_law_170 rfl (lv_at hl 2 rfl) ?_
  refine lv_aload_n hx hb dL_law_171 rfl (lv_at hl 0 rfl) ?_
  refine lv_iload_n hx hb dL_law_172 rfl (lv_at hl 3 rfl) ?_
  refine lv_iconst (v := 1) hx hb dL_law_173 (by decide) ?_
  refine lv_iadd hx hb dL_law_174 ?_
  refine lv_topi (fun a3 ea3 => ?_)
  have da3 : a3 = nI (6 * i + 1) := by rw [ea3, ei]; exact nI_add (6 * i) 1
  refine va_sld hx hb hX hbl (Nat.not_le.mpr hbl) Gc.2.2.2.1 (show vp_in a3 L by rw [da3]; exact vp_in_nI (by omega) (by omega)) dL_law_175 ?_
  rw [show Int32.toNatClampNeg a3 = 6 * i + 1 by rw [da3]; exact nI_clamp (by omega)]
  refine lv_aload_n hx hb dL_law_176 rfl (lv_at hl 0 rfl) ?_
  refine lv_iload_n hx hb dL_law_177 rfl (lv_at hl 3 rfl) ?_
  refine lv_iconst (v := 2) hx hb dL_law_178 (by decide) ?_
  refine lv_iadd hx hb dL_law_179 ?_
  refine lv_topi (fun a4 ea4 => ?_)
  have da4 : a4 = nI (6 * i + 2) := by rw [ea4, ei]; exact nI_add (6 * i) 2
  refine va_sld hx hb hX hbl (Nat.not_le.mpr hbl) Gc.2.2.2.1 (show vp_in a4 L by rw [da4]; exact vp_in_nI (by omega) (by omega)) dL_law_180 ?_
  rw [show Int32.toNatClampNeg a4 = 6 * i + 2 by rw [da4]; exact nI_clamp (by omega)]
  obtain ⟨fm, hfm⟩ := RmX_m Xm
  refine L_Vi (n := 2) (rest := [.int r1]) S Gm Gc dj.sym hl (M_thing l Xm K (xs (6 * i + 1)) (xs (6 * i + 2))) gL_law_X5_thing rfl (by decide +kernel) hfm rfl rfl rfl (Nat.le_of_ble_eq_true rfl) ⟨Nat.le_of_ble_eq_true rfl, Nat.le_of_ble_eq_true rfl⟩ ⟨show 20 + 2 * i + 1 + 0 ≤ 600000 by omega, show 8000 + 14 * i + 4 + 0 ≤ 7302250 by omega⟩ dL_law_181 ?_
  clear Gc Gm dj; intro r2 wm H locs hp Gm Gc dj
  obtain ⟨hr2, Xm⟩ := hp
  refine lv_icmp_eq (tgt := 989) hx hb dL_law_184 (by decide) (fun _ => ?_) (fun c => absurd (hr1.trans hr2.symm) c)
  refine W.widen (k := 20 + 2 * (i + 1)) (n := 8000 + 14 * (i + 1)) (by omega) (by omega) ?_
  exact kx _ _ _ _ _ Xc Xm (Gd_thing K _ _) (Nat.le_trans (nr_thing _ _) (by omega)) Gc Gm dj.sym
set_option maxHeartbeats 4000000 in
set_option maxRecDepth 100000 in
theorem law_outcome {p_ : Program} {l : Launch} {e_ : Env} {s_ : State} {m_ : MethodId} {below_ : List Frame} {meth_ : Method} {code_ : Code} {Q_ : State → Prop} {E : EV} {b L : Nat} {xs : Nat → Int32} (S : CallFix p_ m_ code_ cL_law 4 s_ #[Value.ref b] wsL_law RL) (hX : va_X b L xs s_ s_.heap) (hbl : b < s_.heap.size) {i x m : Nat} {iv : Int32} (ei : iv = nI (6 * i)) (hi : 6 * i + 6 ≤ L) (hL : L ≤ 3072) {σ : ST} {wc wm : wo} (Xc : RcX E wc x σ) (Xm : RmX E wm m σ) (K : Gd σ) (hn : nr_of σ ≤ i) {H : Heap} {locs : List Loc} (Gc : wo_G E (fun q : Nat => s_.heap.size ≤ q) s_ wc H locs) (Gm : wo_G E (fun q : Nat => s_.heap.size ≤ q) s_ wm H locs) (dj : Dj wc wm) {ls : Array Slot} (hl : lv_has ls 4 [(0, .ref b), (1, .ref x), (2, .ref m), (3, .int iv)]) (kx : ∀ (σ2 : ST) (wc wm : wo) (H : Heap) (locs : List Loc), RcX E wc x σ2 → RmX E wm m σ2 → Gd σ2 → nr_of σ2 ≤ i + 1 → wo_G E (fun q : Nat => s_.heap.size ≤ q) s_ wc H locs → wo_G E (fun q : Nat => s_.heap.size ≤ q) s_ wm H locs → Dj wc wm → W p_ l e_ room_1 s_ m_ #[Value.ref b] below_ meth_ code_ H locs (20 + 2 * (i + 1)) (8000 + 14 * (i + 1)) Q_ (F0 m_ 989 ls [])) : W p_ l e_ room_1 s_ m_ #[Value.ref b] below_ meth_ code_ H locs (20 + 2 * i) (8000 + 14 * i) Q_ (F0 m_ 189 ls []) := by
  have hx := S.1
  have hb := S.2.1
  refine lv_aload_n hx hb dL_law_189 rfl (lv_at hl 1 rfl) ?_
  obtain ⟨fc, hfc⟩ := RcX_x Xc
  refine L_Vi (n := 0) (rest := []) S Gc Gm dj hl (C_outcome l Xc K) gL_law_X4_outcome rfl (by decide +kernel) hfc rfl rfl rfl (Nat.le_of_ble_eq_true rfl) ⟨Nat.le_of_ble_eq_true rfl, Nat.le_of_ble_eq_true rfl⟩ ⟨show 20 + 2 * i + 0 ≤ 600000 by omega, show 8000 + 14 * i + 0 ≤ 7302250 by omega⟩ dL_law_190 ?_
  clear Gc Gm dj; intro r1 wc H locs hp Gc Gm dj
  obtain ⟨hr1, Xc⟩ := hp
  refine lv_aload_n hx hb dL_law_193 rfl (lv_at hl 2 rfl) ?_
  obtain ⟨fm, hfm⟩ := RmX_m Xm
  refine L_Vi (n := 0) (rest := [.int r1]) S Gm Gc dj.sym hl (M_outcome l Xm K) gL_law_X5_outcome rfl (by decide +kernel) hfm rfl rfl rfl (Nat.le_of_ble_eq_true rfl) ⟨Nat.le_of_ble_eq_true rfl, Nat.le_of_ble_eq_true rfl⟩ ⟨show 20 + 2 * i + 0 + 0 ≤ 600000 by omega, show 8000 + 14 * i + 0 + 0 ≤ 7302250 by omega⟩ dL_law_194 ?_
  clear Gc Gm dj; intro r2 wm H locs hp Gm Gc dj
  obtain ⟨hr2, Xm⟩ := hp
  refine lv_icmp_eq (tgt := 989) hx hb dL_law_197 (by decide) (fun _ => ?_) (fun c => absurd (hr1.trans hr2.symm) c)
  refine W.widen (k := 20 + 2 * (i + 1)) (n := 8000 + 14 * (i + 1)) (by omega) (by omega) ?_
  exact kx _ _ _ _ _ Xc Xm K (by omega) Gc Gm dj.sym
set_option maxHeartbeats 4000000 in
set_option maxRecDepth 100000 in
theorem law_own {p_ : Program} {l : Launch} {e_ : Env} {s_ : State} {m_ : MethodId} {below_ : List Frame} {meth_ : Method} {code_ : Code} {Q_ : State → Prop} {E : EV} {b L : Nat} {xs : Nat → Int32} (S : CallFix p_ m_ code_ cL_law 4 s_ #[Value.ref b] wsL_law RL) (hX : va_X b L xs s_ s_.heap) (hbl : b < s_.heap.size) {i x m : Nat} {iv : Int32} (ei : iv = nI (6 * i)) (hi : 6 * i + 6 ≤ L) (hL : L ≤ 3072) {σ : ST} {wc wm : wo} (Xc : RcX E wc x σ) (Xm : RmX E wm m σ) (K : Gd σ) (hn : nr_of σ ≤ i) {H : Heap} {locs : List Loc} (Gc : wo_G E (fun q : Nat => s_.heap.size ≤ q) s_ wc H locs) (Gm : wo_G E (fun q : Nat => s_.heap.size ≤ q) s_ wm H locs) (dj : Dj wc wm) {ls : Array Slot} (hl : lv_has ls 4 [(0, .ref b), (1, .ref x), (2, .ref m), (3, .int iv)]) (kx : ∀ (σ2 : ST) (wc wm : wo) (H : Heap) (locs : List Loc), RcX E wc x σ2 → RmX E wm m σ2 → Gd σ2 → nr_of σ2 ≤ i + 1 → wo_G E (fun q : Nat => s_.heap.size ≤ q) s_ wc H locs → wo_G E (fun q : Nat => s_.heap.size ≤ q) s_ wm H locs → Dj wc wm → W p_ l e_ room_1 s_ m_ #[Value.ref b] below_ meth_ code_ H locs (20 + 2 * (i + 1)) (8000 + 14 * (i + 1)) Q_ (F0 m_ 989 ls [])) : W p_ l e_ room_1 s_ m_ #[Value.ref b] below_ meth_ code_ H locs (20 + 2 * i) (8000 + 14 * i) Q_ (F0 m_ 202 ls []) := by
  have hx := S.1
  have hb := S.2.1
  refine lv_aload_n hx hb dL_law_202 rfl (lv_at hl 1 rfl) ?_
  obtain ⟨fc, hfc⟩ := RcX_x Xc
  refine L_Vi (n := 0) (rest := []) S Gc Gm dj hl (C_own l Xc K) gL_law_X4_own rfl (by decide +kernel) hfc rfl rfl rfl (Nat.le_of_ble_eq_true rfl) ⟨Nat.le_of_ble_eq_true rfl, Nat.le_of_ble_eq_true rfl⟩ ⟨show 20 + 2 * i + 0 ≤ 600000 by omega, show 8000 + 14 * i + 0 ≤ 7302250 by omega⟩ dL_law_203 ?_
  clear Gc Gm dj; intro r1 wc H locs hp Gc Gm dj
  obtain ⟨hr1, Xc⟩ := hp
  refine lv_aload_n hx hb dL_law_206 rfl (lv_at hl 2 rfl) ?_
  obtain ⟨fm, hfm⟩ := RmX_m Xm
  refine L_Vi (n := 0) (rest := [.int r1]) S Gm Gc dj.sym hl (M_own l Xm K) gL_law_X5_own rfl (by decide +kernel) hfm rfl rfl rfl (Nat.le_of_ble_eq_true rfl) ⟨Nat.le_of_ble_eq_true rfl, Nat.le_of_ble_eq_true rfl⟩ ⟨show 20 + 2 * i + 0 + 0 ≤ 600000 by omega, show 8000 + 14 * i + 0 + 0 ≤ 7302250 by omega⟩ dL_law_207 ?_
  clear Gc Gm dj; intro r2 wm H locs hp Gm Gc dj
  obtain ⟨hr2, Xm⟩ := hp
  refine lv_icmp_eq (tgt := 989) hx hb dL_law_210 (by decide) (fun _ => ?_) (fun c => absurd (hr1.trans hr2.symm) c)
  refine W.widen (k := 20 + 2 * (i + 1)) (n := 8000 + 14 * (i + 1)) (by omega) (by omega) ?_
  exact kx _ _ _ _ _ Xc Xm K (by omega) Gc Gm dj.sym
set_option maxHeartbeats 4000000 in
set_option maxRecDepth 100000 in
theorem law_begun {p_ : Program} {l : Launch} {e_ : Env} {s_ : State} {m_ : MethodId} {below_ : List Frame} {meth_ : Method} {code_ : Code} {Q_ : State → Prop} {E : EV} {b L : Nat} {xs : Nat → Int32} (S : CallFix p_ m_ code_ cL_law 4 s_ #[Value.ref b] wsL_law RL) (hX : va_X b L xs s_ s_.heap) (hbl : b < s_.heap.size) {i x m : Nat} {iv : Int32} (ei : iv = nI (6 * i)) (hi : 6 * i + 6 ≤ L) (hL : L ≤ 3072) {σ : ST} {wc wm : wo} (Xc : RcX E wc x σ) (Xm : RmX E wm m σ) (K : Gd σ) (hn : nr_of σ ≤ i) {H : Heap} {locs : List Loc} (Gc : wo_G E (fun q : Nat => s_.heap.size ≤ q) s_ wc H locs) (Gm : wo_G E (fun q : Nat => s_.heap.size ≤ q) s_ wm H locs) (dj : Dj wc wm) {ls : Array Slot} (hl : lv_has ls 4 [(0, .ref b), (1, .ref x), (2, .ref m), (3, .int iv)]) (kx : ∀ (σ2 : ST) (wc wm : wo) (H : Heap) (locs : List Loc), RcX E wc x σ2 → RmX E wm m σ2 → Gd σ2 → nr_of σ2 ≤ i + 1 → wo_G E (fun q : Nat => s_.heap.size ≤ q) s_ wc H locs → wo_G E (fun q : Nat => s_.heap.size ≤ q) s_ wm H locs → Dj wc wm → W p_ l e_ room_1 s_ m_ #[Value.ref b] below_ meth_ code_ H locs (20 + 2 * (i + 1)) (8000 + 14 * (i + 1)) Q_ (F0 m_ 989 ls [])) : W p_ l e_ room_1 s_ m_ #[Value.ref b] below_ meth_ code_ H locs (20 + 2 * i) (8000 + 14 * i) Q_ (F0 m_ 215 ls []) := by
  have hx := S.1
  have hb := S.2.1
  refine lv_aload_n hx hb dL_law_215 rfl (lv_at hl 1 rfl) ?_
  obtain ⟨fc, hfc⟩ := RcX_x Xc
  refine L_Vi (n := 0) (rest := []) S Gc Gm dj hl (C_begun l Xc K) gL_law_X4_begun rfl (by decide +kernel) hfc rfl rfl rfl (Nat.le_of_ble_eq_true rfl) ⟨Nat.le_of_ble_eq_true rfl, Nat.le_of_ble_eq_true rfl⟩ ⟨show 20 + 2 * i + 0 ≤ 600000 by omega, show 8000 + 14 * i + 0 ≤ 7302250 by omega⟩ dL_law_216 ?_
  clear Gc Gm dj; intro r1 wc H locs hp Gc Gm dj
  obtain ⟨hr1, Xc⟩ := hp
  refine lv_aload_n hx hb dL_law_219 rfl (lv_at hl 2 rfl) ?_
  obtain ⟨fm, hfm⟩ := RmX_m Xm
  refine L_Vi (n := 0) (rest := [.int r1]) S Gm Gc dj.sym hl (M_begun l Xm K) gL_law_X5_begun rfl (by decide +kernel) hfm rfl rfl rfl (Nat.le_of_ble_eq_true rfl) ⟨Nat.le_of_ble_eq_true rfl, Nat.le_of_ble_eq_true rfl⟩ ⟨show 20 + 2 * i + 0 + 0 ≤ 600000 by omega, show 8000 + 14 * i + 0 + 0 ≤ 7302250 by omega⟩ dL_law_220 ?_
  clear Gc Gm dj; intro r2 wm H locs hp Gm Gc dj
  obtain ⟨hr2, Xm⟩ := hp
  refine lv_icmp_eq (tgt := 989) hx hb dL_law_223 (by decide) (fun _ => ?_) (fun c => absurd (hr1.trans hr2.symm) c)
  refine W.widen (k := 20 + 2 * (i + 1)) (n := 8000 + 14 * (i + 1)) (by omega) (by omega) ?_
  exact kx _ _ _ _ _ Xc Xm K (by omega) Gc Gm dj.sym
set_option maxHeartbeats 4000000 in
set_option maxRecDepth 100000 in
theorem law_deep {p_ : Program} {l : Launch} {e_ : Env} {s_ : State} {m_ : MethodId} {below_ : List Frame} {meth_ : Method} {code_ : Code} {Q_ : State → Prop} {E : EV} {b L : Nat} {xs : Nat → Int32} (S : CallFix p_ m_ code_ cL_law 4 s_ #[Value.ref b] wsL_law RL) (hX : va_X b L xs s_ s_.heap) (hbl : b < s_.heap.size) {i x m : Nat} {iv : Int32} (ei : iv = nI (6 * i)) (hi : 6 * i + 6 ≤ L) (hL : L ≤ 3072) {σ : ST} {wc wm : wo} (Xc : RcX E wc x σ) (Xm : RmX E wm m σ) (K : Gd σ) (hn : nr_of σ ≤ i) {H : Heap} {locs : List Loc} (Gc : wo_G E (fun q : Nat => s_.heap.size ≤ q) s_ wc H locs) (Gm : wo_G E (fun q : Nat => s_.heap.size ≤ q) s_ wm H locs) (dj : Dj wc wm) {ls : Array Slot} (hl : lv_has ls 4 [(0, .ref b), (1, .ref x), (2, .ref m), (3, .int iv)]) (kx : ∀ (σ2 : ST) (wc wm : wo) (H : Heap) (locs : List Loc), RcX E wc x σ2 → RmX E wm m σ2 → Gd σ2 → nr_of σ2 ≤ i + 1 → wo_G E (fun q : Nat => s_.heap.size ≤ q) s_ wc H locs → wo_G E (fun q : Nat => s_.heap.size ≤ q) s_ wm H locs → Dj wc wm → W p_ l e_ room_1 s_ m_ #[Value.ref b] below_ meth_ code_ H locs (20 + 2 * (i + 1)) (8000 + 14 * (i + 1)) Q_ (F0 m_ 989 ls [])) : W p_ l e_ room_1 s_ m_ #[Value.ref b] below_ meth_ code_ H locs (20 + 2 * i) (8000 + 14 * i) Q_ (F0 m_ 228 ls []) := by
  have hx := S.1
  have hb := S.2.1
  refine lv_aload_n hx hb dL_law_228 rfl (lv_at hl 1 rfl) ?_
  obtain ⟨fc, hfc⟩ := RcX_x Xc
  refine L_Vi (n := 0) (rest := []) S Gc Gm dj hl (C_deep l Xc K) gL_law_X4_deep rfl (by decide +kernel) hfc rfl rfl rfl (Nat.le_of_ble_eq_true rfl) ⟨Nat.le_of_ble_eq_true rfl, Nat.le_of_ble_eq_true rfl⟩ ⟨show 20 + 2 * i + 0 ≤ 600000 by omega, show 8000 + 14 * i + 0 ≤ 7302250 by omega⟩ dL_law_229 ?_
  clear Gc Gm dj; intro r1 wc H locs hp Gc Gm dj
  obtain ⟨hr1, Xc⟩ := hp
  refine lv_aload_n hx hb dL_law_232 rfl (lv_at hl 2 rfl) ?_
  obtain ⟨fm, hfm⟩ := RmX_m Xm
  refine L_Vi (n := 0) (rest := [.int r1]) S Gm Gc dj.sym hl (M_deep l Xm K) gL_law_X5_deep rfl (by decide +kernel) hfm rfl rfl rfl (Nat.le_of_ble_eq_true rfl) ⟨Nat.le_of_ble_eq_true rfl, Nat.le_of_ble_eq_true rfl⟩ ⟨show 20 + 2 * i + 0 + 0 ≤ 600000 by omega, show 8000 + 14 * i + 0 + 0 ≤ 7302250 by omega⟩ dL_law_233 ?_
  clear Gc Gm dj; intro r2 wm H locs hp Gm Gc dj
  obtain ⟨hr2, Xm⟩ := hp
  refine lv_icmp_eq (tgt := 989) hx hb dL_law_236 (by decide) (fun _ => ?_) (fun c => absurd (hr1.trans hr2.symm) c)
  refine W.widen (k := 20 + 2 * (i + 1)) (n := 8000 + 14 * (i + 1)) (by omega) (by omega) ?_
  exact kx _ _ _ _ _ Xc Xm K (by omega) Gc Gm dj.sym
set_option maxHeartbeats 4000000 in
set_option maxRecDepth 100000 in
theorem law_told {p_ : Program} {l : Launch} {e_ : Env} {s_ : State} {m_ : MethodId} {below_ : List Frame} {meth_ : Method} {code_ : Code} {Q_ : State → Prop} {E : EV} {b L : Nat} {xs : Nat → Int32} (S : CallFix p_ m_ code_ cL_law 4 s_ #[Value.ref b] wsL_law RL) (hX : va_X b L xs s_ s_.heap) (hbl : b < s_.heap.size) {i x m : Nat} {iv : Int32} (ei : iv = nI (6 * i)) (hi : 6 * i + 6 ≤ L) (hL : L ≤ 3072) {σ : ST} {wc wm : wo} (Xc : RcX E wc x σ) (Xm : RmX E wm m σ) (K : Gd σ) (hn : nr_of σ ≤ i) {H : Heap} {locs : List Loc} (Gc : wo_G E (fun q : Nat => s_.heap.size ≤ q) s_ wc H locs) (Gm : wo_G E (fun q : Nat => s_.heap.size ≤ q) s_ wm H locs) (dj : Dj wc wm) {ls : Array Slot} (hl : lv_has ls 4 [(0, .ref b), (1, .ref x), (2, .ref m), (3, .int iv)]) (kx : ∀ (σ2 : ST) (wc wm : wo) (H : Heap) (locs : List Loc), RcX E wc x σ2 → RmX E wm m σ2 → Gd σ2 → nr_of σ2 ≤ i + 1 → wo_G E (fun q : Nat => s_.heap.size ≤ q) s_ wc H locs → wo_G E (fun q : Nat => s_.heap.size ≤ q) s_ wm H locs → Dj wc wm → W p_ l e_ room_1 s_ m_ #[Value.ref b] below_ meth_ code_ H locs (20 + 2 * (i + 1)) (8000 + 14 * (i + 1)) Q_ (F0 m_ 989 ls [])) : W p_ l e_ room_1 s_ m_ #[Value.ref b] below_ meth_ code_ H locs (20 + 2 * i) (8000 + 14 * i) Q_ (F0 m_ 241 ls []) := by
  have hx := S.1
  have hb := S.2.1
  refine lv_aload_n hx hb dL_law_241 rfl (lv_at hl 1 rfl) ?_
  refine lv_aload_n hx hb dL_law_242 rfl (lv_at hl 0 rfl) ?_
  refine lv_iload_n hx hb dL_law_243 rfl (lv_at hl 3 rfl) ?_
  refine lv_iconst (v := 1) hx hb dL_law_244 (by decide) ?_
  refine lv_iadd hx hb dL_law_245 ?_
  refine lv_topi (fun a1 ea1 => ?_)
  have da1 : a1 = nI (6 * i + 1) := by rw [ea1, ei]; exact nI_add (6 * i) 1
  refine va_sld hx hb hX hbl (Nat.not_le.mpr hbl) Gc.2.2.2.1 (show vp_in a1 L by rw [da1]; exact vp_in_nI (by omega) (by omega)) dL_law_246 ?_
  rw [show Int32.toNatClampNeg a1 = 6 * i + 1 by rw [da1]; exact nI_clamp (by omega)]
  obtain ⟨fc, hfc⟩ := RcX_x Xc
  refine L_Vi (n := 1) (rest := []) S Gc Gm dj hl (C_told l Xc K (xs (6 * i + 1))) gL_law_X4_told rfl (by decide +kernel) hfc rfl rfl rfl (Nat.le_of_ble_eq_true rfl) ⟨Nat.le_of_ble_eq_true rfl, Nat.le_of_ble_eq_true rfl⟩ ⟨show 20 + 2 * i + 0 ≤ 600000 by omega, show 8000 + 14 * i + 0 ≤ 7302250 by omega⟩ dL_law_247 ?_
  clear Gc Gm dj; intro r1 wc H locs hp Gc Gm dj
  obtain ⟨hr1, Xc⟩ := hp
  refine lv_aload_n hx hb dL_law_250 rfl (lv_at hl 2 rfl) ?_
  refine lv_aload_n hx hb dL_law_251 rfl (lv_at hl 0 rfl) ?_
  refine lv_iload_n hx hb dL_law_252 rfl (lv_at hl 3 rfl) ?_
  refine lv_iconst (v := 1) hx hb dL_law_253 (by decide) ?_
  refine lv_iadd hx hb dL_law_254 ?_
  refine lv_topi (fun a2 ea2 => ?_)
  have da2 : a2 = nI (6 * i + 1) := by rw [ea2, ei]; exact nI_add (6 * i) 1
  refine va_sld hx hb hX hbl (Nat.not_le.mpr hbl) Gc.2.2.2.1 (show vp_in a2 L by rw [da2]; exact vp_in_nI (by omega) (by omega)) dL_law_255 ?_
  rw [show Int32.toNatClampNeg a2 = 6 * i + 1 by rw [da2]; exact nI_clamp (by omega)]
  obtain ⟨fm, hfm⟩ := RmX_m Xm
  refine L_Vi (n := 1) (rest := [.int r1]) S Gm Gc dj.sym hl (M_told l Xm K (xs (6 * i + 1))) gL_law_X5_told rfl (by decide +kernel) hfm rfl rfl rfl (Nat.le_of_ble_eq_true rfl) ⟨Nat.le_of_ble_eq_true rfl, Nat.le_of_ble_eq_true rfl⟩ ⟨show 20 + 2 * i + 0 + 0 ≤ 600000 by omega, show 8000 + 14 * i + 0 + 0 ≤ 7302250 by omega⟩ dL_law_256 ?_
  clear Gc Gm dj; intro r2 wm H locs hp Gm Gc dj
  obtain ⟨hr2, Xm⟩ := hp
  refine lv_icmp_eq (tgt := 989) hx hb dL_law_259 (by decide) (fun _ => ?_) (fun c => absurd (hr1.trans hr2.symm) c)
  refine W.widen (k := 20 + 2 * (i + 1)) (n := 8000 + 14 * (i + 1)) (by omega) (by omega) ?_
  exact kx _ _ _ _ _ Xc Xm K (by omega) Gc Gm dj.sym
set_option maxHeartbeats 4000000 in
set_option maxRecDepth 100000 in
theorem law_cls {p_ : Program} {l : Launch} {e_ : Env} {s_ : State} {m_ : MethodId} {below_ : List Frame} {meth_ : Method} {code_ : Code} {Q_ : State → Prop} {E : EV} {b L : Nat} {xs : Nat → Int32} (S : CallFix p_ m_ code_ cL_law 4 s_ #[Value.ref b] wsL_law RL) (hX : va_X b L xs s_ s_.heap) (hbl : b < s_.heap.size) {i x m : Nat} {iv : Int32} (ei : iv = nI (6 * i)) (hi : 6 * i + 6 ≤ L) (hL : L ≤ 3072) {σ : ST} {wc wm : wo} (Xc : RcX E wc x σ) (Xm : RmX E wm m σ) (K : Gd σ) (hn : nr_of σ ≤ i) {H : Heap} {locs : List Loc} (Gc : wo_G E (fun q : Nat => s_.heap.size ≤ q) s_ wc H locs) (Gm : wo_G E (fun q : Nat => s_.heap.size ≤ q) s_ wm H locs) (dj : Dj wc wm) {ls : Array Slot} (hl : lv_has ls 4 [(0, .ref b), (1, .ref x), (2, .ref m), (3, .int iv)]) (kx : ∀ (σ2 : ST) (wc wm : wo) (H : Heap) (locs : List Loc), RcX E wc x σ2 → RmX E wm m σ2 → Gd σ2 → nr_of σ2 ≤ i + 1 → wo_G E (fun q : Nat => s_.heap.size ≤ q) s_ wc H locs → wo_G E (fun q : Nat => s_.heap.size ≤ q) s_ wm H locs → Dj wc wm → W p_ l e_ room_1 s_ m_ #[Value.ref b] below_ meth_ code_ H locs (20 + 2 * (i + 1)) (8000 + 14 * (i + 1)) Q_ (F0 m_ 989 ls [])) : W p_ l e_ room_1 s_ m_ #[Value.ref b] below_ meth_ code_ H locs (20 + 2 * i) (8000 + 14 * i) Q_ (F0 m_ 264 ls []) := by
  have hx := S.1
  have hb := S.2.1
  refine lv_aload_n hx hb dL_law_264 rfl (lv_at hl 1 rfl) ?_
  refine lv_aload_n hx hb dL_law_265 rfl (lv_at hl 0 rfl) ?_
  refine lv_iload_n hx hb dL_law_266 rfl (lv_at hl 3 rfl) ?_
  refine lv_iconst (v := 1) hx hb dL_law_267 (by decide) ?_
  refine lv_iadd hx hb dL_law_268 ?_
  refine lv_topi (fun a1 ea1 => ?_)
  have da1 : a1 = nI (6 * i + 1) := by rw [ea1, ei]; exact nI_add (6 * i) 1
  refine va_sld hx hb hX hbl (Nat.not_le.mpr hbl) Gc.2.2.2.1 (show vp_in a1 L by rw [da1]; exact vp_in_nI (by omega) (by omega)) dL_law_269 ?_
  rw [show Int32.toNatClampNeg a1 = 6 * i + 1 by rw [da1]; exact nI_clamp (by omega)]
  obtain ⟨fc, hfc⟩ := RcX_x Xc
  refine L_Vi (n := 1) (rest := []) S Gc Gm dj hl (C_cls l Xc K (xs (6 * i + 1))) gL_law_X4_cls rfl (by decide +kernel) hfc rfl rfl rfl (Nat.le_of_ble_eq_true rfl) ⟨Nat.le_of_ble_eq_true rfl, Nat.le_of_ble_eq_true rfl⟩ ⟨show 20 + 2 * i + 0 ≤ 600000 by omega, show 8000 + 14 * i + 0 ≤ 7302250 by omega⟩ dL_law_270 ?_
  clear Gc Gm dj; intro r1 wc H locs hp Gc Gm dj
  obtain ⟨hr1, Xc⟩ := hp
  refine lv_aload_n hx hb dL_law_273 rfl (lv_at hl 2 rfl) ?_
  refine lv_aload_n hx hb dL_law_274 rfl (lv_at hl 0 rfl) ?_
  refine lv_iload_n hx hb dL_law_275 rfl (lv_at hl 3 rfl) ?_
  refine lv_iconst (v := 1) hx hb dL_law_276 (by decide) ?_
  refine lv_iadd hx hb dL_law_277 ?_
  refine lv_topi (fun a2 ea2 => ?_)
  have da2 : a2 = nI (6 * i + 1) := by rw [ea2, ei]; exact nI_add (6 * i) 1
  refine va_sld hx hb hX hbl (Nat.not_le.mpr hbl) Gc.2.2.2.1 (show vp_in a2 L by rw [da2]; exact vp_in_nI (by omega) (by omega)) dL_law_278 ?_
  rw [show Int32.toNatClampNeg a2 = 6 * i + 1 by rw [da2]; exact nI_clamp (by omega)]
  obtain ⟨fm, hfm⟩ := RmX_m Xm
  refine L_Vi (n := 1) (rest := [.int r1]) S Gm Gc dj.sym hl (M_cls l Xm K (xs (6 * i + 1))) gL_law_X5_cls rfl (by decide +kernel) hfm rfl rfl rfl (Nat.le_of_ble_eq_true rfl) ⟨Nat.le_of_ble_eq_true rfl, Nat.le_of_ble_eq_true rfl⟩ ⟨show 20 + 2 * i + 0 + 0 ≤ 600000 by omega, show 8000 + 14 * i + 0 + 0 ≤ 7302250 by omega⟩ dL_law_279 ?_
  clear Gc Gm dj; intro r2 wm H locs hp Gm Gc dj
  obtain ⟨hr2, Xm⟩ := hp
  refine lv_icmp_eq (tgt := 989) hx hb dL_law_282 (by decide) (fun _ => ?_) (fun c => absurd (hr1.trans hr2.symm) c)
  refine W.widen (k := 20 + 2 * (i + 1)) (n := 8000 + 14 * (i + 1)) (by omega) (by omega) ?_
  exact kx _ _ _ _ _ Xc Xm K (by omega) Gc Gm dj.sym
set_option maxHeartbeats 4000000 in
set_option maxRecDepth 100000 in
theorem law_is {p_ : Program} {l : Launch} {e_ : Env} {s_ : State} {m_ : MethodId} {below_ : List Frame} {meth_ : Method} {code_ : Code} {Q_ : State → Prop} {E : EV} {b L : Nat} {xs : Nat → Int32} (S : CallFix p_ m_ code_ cL_law 4 s_ #[Value.ref b] wsL_law RL) (hX : va_X b L xs s_ s_.heap) (hbl : b < s_.heap.size) {i x m : Nat} {iv : Int32} (ei : iv = nI (6 * i)) (hi : 6 * i + 6 ≤ L) (hL : L ≤ 3072) {σ : ST} {wc wm : wo} (Xc : RcX E wc x σ) (Xm : RmX E wm m σ) (K : Gd σ) (hn : nr_of σ ≤ i) {H : Heap} {locs : List Loc} (Gc : wo_G E (fun q : Nat => s_.heap.size ≤ q) s_ wc H locs) (Gm : wo_G E (fun q : Nat => s_.heap.size ≤ q) s_ wm H locs) (dj : Dj wc wm) {ls : Array Slot} (hl : lv_has ls 4 [(0, .ref b), (1, .ref x), (2, .ref m), (3, .int iv)]) (kx : ∀ (σ2 : ST) (wc wm : wo) (H : Heap) (locs : List Loc), RcX E wc x σ2 → RmX E wm m σ2 → Gd σ2 → nr_of σ2 ≤ i + 1 → wo_G E (fun q : Nat => s_.heap.size ≤ q) s_ wc H locs → wo_G E (fun q : Nat => s_.heap.size ≤ q) s_ wm H locs → Dj wc wm → W p_ l e_ room_1 s_ m_ #[Value.ref b] below_ meth_ code_ H locs (20 + 2 * (i + 1)) (8000 + 14 * (i + 1)) Q_ (F0 m_ 989 ls [])) : W p_ l e_ room_1 s_ m_ #[Value.ref b] below_ meth_ code_ H locs (20 + 2 * i) (8000 + 14 * i) Q_ (F0 m_ 287 ls []) := by
  have hx := S.1
  have hb := S.2.1
  refine lv_aload_n hx hb dL_law_287 rfl (lv_at hl 1 rfl) ?_
  refine lv_aload_n hx hb dL_law_288 rfl (lv_at hl 0 rfl) ?_
  refine lv_iload_n hx hb dL_law_289 rfl (lv_at hl 3 rfl) ?_
  refine lv_iconst (v := 1) hx hb dL_law_290 (by decide) ?_
  refine lv_iadd hx hb dL_law_291 ?_
  refine lv_topi (fun a1 ea1 => ?_)
  have da1 : a1 = nI (6 * i + 1) := by rw [ea1, ei]; exact nI_add (6 * i) 1
  refine va_sld hx hb hX hbl (Nat.not_le.mpr hbl) Gc.2.2.2.1 (show vp_in a1 L by rw [da1]; exact vp_in_nI (by omega) (by omega)) dL_law_292 ?_
  rw [show Int32.toNatClampNeg a1 = 6 * i + 1 by rw [da1]; exact nI_clamp (by omega)]
  refine lv_aload_n hx hb dL_law_293 rfl (lv_at hl 0 rfl) ?_
  refine lv_iload_n hx hb dL_law_294 rfl (lv_at hl 3 rfl) ?_
  refine lv_iconst (v := 2) hx hb dL_law_295 (by decide) ?_
  refine lv_iadd hx hb dL_law_296 ?_
  refine lv_topi (fun a2 ea2 => ?_)
  have da2 : a2 = nI (6 * i + 2) := by rw [ea2, ei]; exact nI_add (6 * i) 2
  refine va_sld hx hb hX hbl (Nat.not_le.mpr hbl) Gc.2.2.2.1 (show vp_in a2 L by rw [da2]; exact vp_in_nI (by omega) (by omega)) dL_law_297 ?_
  rw [show Int32.toNatClampNeg a2 = 6 * i + 2 by rw [da2]; exact nI_clamp (by omega)]
  obtain ⟨fc, hfc⟩ := RcX_x Xc
  refine L_Vi (n := 2) (rest := []) S Gc Gm dj hl (C_is l Xc K (xs (6 * i + 1)) (xs (6 * i + 2))) gL_law_X4_is rfl (by decide +kernel) hfc rfl rfl rfl (Nat.le_of_ble_eq_true rfl) ⟨Nat.le_of_ble_eq_true rfl, Nat.le_of_ble_eq_true rfl⟩ ⟨show 20 + 2 * i + 0 ≤ 600000 by omega, show 8000 + 14 * i + 0 ≤ 7302250 by omega⟩ dL_law_298 ?_
  clear Gc Gm dj; intro r1 wc H locs hp Gc Gm dj
  obtain ⟨hr1, Xc⟩ := hp
  refine lv_aload_n hx hb dL_law_301 rfl (lv_at hl 2 rfl) ?_
  refine lv_aload_n hx hb dL_law_302 rfl (lv_at hl 0 rfl) ?_
  refine lv_iload_n hx hb dL_law_303 rfl (lv_at hl 3 rfl) ?_
  refine lv_iconst (v := 1) hx hb dL_law_304 (by decide) ?_
  refine lv_iadd hx hb dL_law_305 ?_
  refine lv_topi (fun a3 ea3 => ?_)
  have da3 : a3 = nI (6 * i + 1) := by rw [ea3, ei]; exact nI_add (6 * i) 1
  refine va_sld hx hb hX hbl (Nat.not_le.mpr hbl) Gc.2.2.2.1 (show vp_in a3 L by rw [da3]; exact vp_in_nI (by omega) (by omega)) dL_law_306 ?_
  rw [show Int32.toNatClampNeg a3 = 6 * i + 1 by rw [da3]; exact nI_clamp (by omega)]
  refine lv_aload_n hx hb dL_law_307 rfl (lv_at hl 0 rfl) ?_
  refine lv_iload_n hx hb dL_law_308 rfl (lv_at hl 3 rfl) ?_
  refine lv_iconst (v := 2) hx hb dL_law_309 (by decide) ?_
  refine lv_iadd hx hb dL_law_310 ?_
  refine lv_topi (fun a4 ea4 => ?_)
  have da4 : a4 = nI (6 * i + 2) := by rw [ea4, ei]; exact nI_add (6 * i) 2
  refine va_sld hx hb hX hbl (Nat.not_le.mpr hbl) Gc.2.2.2.1 (show vp_in a4 L by rw [da4]; exact vp_in_nI (by omega) (by omega)) dL_law_311 ?_
  rw [show Int32.toNatClampNeg a4 = 6 * i + 2 by rw [da4]; exact nI_clamp (by omega)]
  obtain ⟨fm, hfm⟩ := RmX_m Xm
  refine L_Vi (n := 2) (rest := [.int r1]) S Gm Gc dj.sym hl (M_is l Xm K (xs (6 * i + 1)) (xs (6 * i + 2))) gL_law_X5_is rfl (by decide +kernel) hfm rfl rfl rfl (Nat.le_of_ble_eq_true rfl) ⟨Nat.le_of_ble_eq_true rfl, Nat.le_of_ble_eq_true rfl⟩ ⟨show 20 + 2 * i + 0 + 0 ≤ 600000 by omega, show 8000 + 14 * i + 0 + 0 ≤ 7302250 by omega⟩ dL_law_312 ?_
  clear Gc Gm dj; intro r2 wm H locs hp Gm Gc dj
  obtain ⟨hr2, Xm⟩ := hp
  refine lv_icmp_eq (tgt := 989) hx hb dL_law_315 (by decide) (fun _ => ?_) (fun c => absurd (hr1.trans hr2.symm) c)
  refine W.widen (k := 20 + 2 * (i + 1)) (n := 8000 + 14 * (i + 1)) (by omega) (by omega) ?_
  exact kx _ _ _ _ _ Xc Xm K (by omega) Gc Gm dj.sym
set_option maxHeartbeats 4000000 in
set_option maxRecDepth 100000 in
theorem law_v {p_ : Program} {l : Launch} {e_ : Env} {s_ : State} {m_ : MethodId} {below_ : List Frame} {meth_ : Method} {code_ : Code} {Q_ : State → Prop} {E : EV} {b L : Nat} {xs : Nat → Int32} (S : CallFix p_ m_ code_ cL_law 4 s_ #[Value.ref b] wsL_law RL) (hX : va_X b L xs s_ s_.heap) (hbl : b < s_.heap.size) {i x m : Nat} {iv : Int32} (ei : iv = nI (6 * i)) (hi : 6 * i + 6 ≤ L) (hL : L ≤ 3072) {σ : ST} {wc wm : wo} (Xc : RcX E wc x σ) (Xm : RmX E wm m σ) (K : Gd σ) (hn : nr_of σ ≤ i) {H : Heap} {locs : List Loc} (Gc : wo_G E (fun q : Nat => s_.heap.size ≤ q) s_ wc H locs) (Gm : wo_G E (fun q : Nat => s_.heap.size ≤ q) s_ wm H locs) (dj : Dj wc wm) {ls : Array Slot} (hl : lv_has ls 4 [(0, .ref b), (1, .ref x), (2, .ref m), (3, .int iv)]) (kx : ∀ (σ2 : ST) (wc wm : wo) (H : Heap) (locs : List Loc), RcX E wc x σ2 → RmX E wm m σ2 → Gd σ2 → nr_of σ2 ≤ i + 1 → wo_G E (fun q : Nat => s_.heap.size ≤ q) s_ wc H locs → wo_G E (fun q : Nat => s_.heap.size ≤ q) s_ wm H locs → Dj wc wm → W p_ l e_ room_1 s_ m_ #[Value.ref b] below_ meth_ code_ H locs (20 + 2 * (i + 1)) (8000 + 14 * (i + 1)) Q_ (F0 m_ 989 ls [])) : W p_ l e_ room_1 s_ m_ #[Value.ref b] below_ meth_ code_ H locs (20 + 2 * i) (8000 + 14 * i) Q_ (F0 m_ 320 ls []) := by
  have hx := S.1
  have hb := S.2.1
  refine lv_aload_n hx hb dL_law_320 rfl (lv_at hl 1 rfl) ?_
  refine lv_aload_n hx hb dL_law_321 rfl (lv_at hl 0 rfl) ?_
  refine lv_iload_n hx hb dL_law_322 rfl (lv_at hl 3 rfl) ?_
  refine lv_iconst (v := 1) hx hb dL_law_323 (by decide) ?_
  refine lv_iadd hx hb dL_law_324 ?_
  refine lv_topi (fun a1 ea1 => ?_)
  have da1 : a1 = nI (6 * i + 1) := by rw [ea1, ei]; exact nI_add (6 * i) 1
  refine va_sld hx hb hX hbl (Nat.not_le.mpr hbl) Gc.2.2.2.1 (show vp_in a1 L by rw [da1]; exact vp_in_nI (by omega) (by omega)) dL_law_325 ?_
  rw [show Int32.toNatClampNeg a1 = 6 * i + 1 by rw [da1]; exact nI_clamp (by omega)]
  obtain ⟨fc, hfc⟩ := RcX_x Xc
  refine L_Vi (n := 1) (rest := []) S Gc Gm dj hl (C_v l Xc K (xs (6 * i + 1))) gL_law_X4_v rfl (by decide +kernel) hfc rfl rfl rfl (Nat.le_of_ble_eq_true rfl) ⟨Nat.le_of_ble_eq_true rfl, Nat.le_of_ble_eq_true rfl⟩ ⟨show 20 + 2 * i + 0 ≤ 600000 by omega, show 8000 + 14 * i + 0 ≤ 7302250 by omega⟩ dL_law_326 ?_
  clear Gc Gm dj; intro r1 wc H locs hp Gc Gm dj
  obtain ⟨hr1, Xc⟩ := hp
  refine lv_aload_n hx hb dL_law_329 rfl (lv_at hl 2 rfl) ?_
  refine lv_aload_n hx hb dL_law_330 rfl (lv_at hl 0 rfl) ?_
  refine lv_iload_n hx hb dL_law_331 rfl (lv_at hl 3 rfl) ?_
  refine lv_iconst (v := 1) hx hb dL_law_332 (by decide) ?_
  refine lv_iadd hx hb dL_law_333 ?_
  refine lv_topi (fun a2 ea2 => ?_)
  have da2 : a2 = nI (6 * i + 1) := by rw [ea2, ei]; exact nI_add (6 * i) 1
  refine va_sld hx hb hX hbl (Nat.not_le.mpr hbl) Gc.2.2.2.1 (show vp_in a2 L by rw [da2]; exact vp_in_nI (by omega) (by omega)) dL_law_334 ?_
  rw [show Int32.toNatClampNeg a2 = 6 * i + 1 by rw [da2]; exact nI_clamp (by omega)]
  obtain ⟨fm, hfm⟩ := RmX_m Xm
  refine L_Vi (n := 1) (rest := [.int r1]) S Gm Gc dj.sym hl (M_v l Xm K (xs (6 * i + 1))) gL_law_X5_v rfl (by decide +kernel) hfm rfl rfl rfl (Nat.le_of_ble_eq_true rfl) ⟨Nat.le_of_ble_eq_true rfl, Nat.le_of_ble_eq_true rfl⟩ ⟨show 20 + 2 * i + 0 + 0 ≤ 600000 by omega, show 8000 + 14 * i + 0 + 0 ≤ 7302250 by omega⟩ dL_law_335 ?_
  clear Gc Gm dj; intro r2 wm H locs hp Gm Gc dj
  obtain ⟨hr2, Xm⟩ := hp
  refine lv_icmp_eq (tgt := 989) hx hb dL_law_338 (by decide) (fun _ => ?_) (fun c => absurd (hr1.trans hr2.symm) c)
  refine W.widen (k := 20 + 2 * (i + 1)) (n := 8000 + 14 * (i + 1)) (by omega) (by omega) ?_
  exact kx _ _ _ _ _ Xc Xm K (by omega) Gc Gm dj.sym
set_option maxHeartbeats 4000000 in
set_option maxRecDepth 100000 in
theorem law_become {p_ : Program} {l : Launch} {e_ : Env} {s_ : State} {m_ : MethodId} {below_ : List Frame} {meth_ : Method} {code_ : Code} {Q_ : State → Prop} {E : EV} {b L : Nat} {xs : Nat → Int32} (S : CallFix p_ m_ code_ cL_law 4 s_ #[Value.ref b] wsL_law RL) (hX : va_X b L xs s_ s_.heap) (hbl : b < s_.heap.size) {i x m : Nat} {iv : Int32} (ei : iv = nI (6 * i)) (hi : 6 * i + 6 ≤ L) (hL : L ≤ 3072) {σ : ST} {wc wm : wo} (Xc : RcX E wc x σ) (Xm : RmX E wm m σ) (K : Gd σ) (hn : nr_of σ ≤ i) {H : Heap} {locs : List Loc} (Gc : wo_G E (fun q : Nat => s_.heap.size ≤ q) s_ wc H locs) (Gm : wo_G E (fun q : Nat => s_.heap.size ≤ q) s_ wm H locs) (dj : Dj wc wm) {ls : Array Slot} (hl : lv_has ls 4 [(0, .ref b), (1, .ref x), (2, .ref m), (3, .int iv)]) (kx : ∀ (σ2 : ST) (wc wm : wo) (H : Heap) (locs : List Loc), RcX E wc x σ2 → RmX E wm m σ2 → Gd σ2 → nr_of σ2 ≤ i + 1 → wo_G E (fun q : Nat => s_.heap.size ≤ q) s_ wc H locs → wo_G E (fun q : Nat => s_.heap.size ≤ q) s_ wm H locs → Dj wc wm → W p_ l e_ room_1 s_ m_ #[Value.ref b] below_ meth_ code_ H locs (20 + 2 * (i + 1)) (8000 + 14 * (i + 1)) Q_ (F0 m_ 989 ls [])) : W p_ l e_ room_1 s_ m_ #[Value.ref b] below_ meth_ code_ H locs (20 + 2 * i) (8000 + 14 * i) Q_ (F0 m_ 343 ls []) := by
  have hx := S.1
  have hb := S.2.1
  refine lv_aload_n hx hb dL_law_343 rfl (lv_at hl 1 rfl) ?_
  refine lv_aload_n hx hb dL_law_344 rfl (lv_at hl 0 rfl) ?_
  refine lv_iload_n hx hb dL_law_345 rfl (lv_at hl 3 rfl) ?_
  refine lv_iconst (v := 1) hx hb dL_law_346 (by decide) ?_
  refine lv_iadd hx hb dL_law_347 ?_
  refine lv_topi (fun a1 ea1 => ?_)
  have da1 : a1 = nI (6 * i + 1) := by rw [ea1, ei]; exact nI_add (6 * i) 1
  refine va_sld hx hb hX hbl (Nat.not_le.mpr hbl) Gc.2.2.2.1 (show vp_in a1 L by rw [da1]; exact vp_in_nI (by omega) (by omega)) dL_law_348 ?_
  rw [show Int32.toNatClampNeg a1 = 6 * i + 1 by rw [da1]; exact nI_clamp (by omega)]
  refine lv_aload_n hx hb dL_law_349 rfl (lv_at hl 0 rfl) ?_
  refine lv_iload_n hx hb dL_law_350 rfl (lv_at hl 3 rfl) ?_
  refine lv_iconst (v := 2) hx hb dL_law_351 (by decide) ?_
  refine lv_iadd hx hb dL_law_352 ?_
  refine lv_topi (fun a2 ea2 => ?_)
  have da2 : a2 = nI (6 * i + 2) := by rw [ea2, ei]; exact nI_add (6 * i) 2
  refine va_sld hx hb hX hbl (Nat.not_le.mpr hbl) Gc.2.2.2.1 (show vp_in a2 L by rw [da2]; exact vp_in_nI (by omega) (by omega)) dL_law_353 ?_
  rw [show Int32.toNatClampNeg a2 = 6 * i + 2 by rw [da2]; exact nI_clamp (by omega)]
  obtain ⟨fc, hfc⟩ := RcX_x Xc
  refine L_Vi (n := 2) (rest := []) S Gc Gm dj hl (C_become l Xc K (xs (6 * i + 1)) (xs (6 * i + 2))) gL_law_X4_become rfl (by decide +kernel) hfc rfl rfl rfl (Nat.le_of_ble_eq_true rfl) ⟨Nat.le_of_ble_eq_true rfl, Nat.le_of_ble_eq_true rfl⟩ ⟨show 20 + 2 * i + 0 ≤ 600000 by omega, show 8000 + 14 * i + 0 ≤ 7302250 by omega⟩ dL_law_354 ?_
  clear Gc Gm dj; intro r1 wc H locs hp Gc Gm dj
  obtain ⟨hr1, Xc⟩ := hp
  refine lv_aload_n hx hb dL_law_357 rfl (lv_at hl 2 rfl) ?_
  refine lv_aload_n hx hb dL_law_358 rfl (lv_at hl 0 rfl) ?_
  refine lv_iload_n hx hb dL_law_359 rfl (lv_at hl 3 rfl) ?_
  refine lv_iconst (v := 1) hx hb dL_law_360 (by decide) ?_
  refine lv_iadd hx hb dL_law_361 ?_
  refine lv_topi (fun a3 ea3 => ?_)
  have da3 : a3 = nI (6 * i + 1) := by rw [ea3, ei]; exact nI_add (6 * i) 1
  refine va_sld hx hb hX hbl (Nat.not_le.mpr hbl) Gc.2.2.2.1 (show vp_in a3 L by rw [da3]; exact vp_in_nI (by omega) (by omega)) dL_law_362 ?_
  rw [show Int32.toNatClampNeg a3 = 6 * i + 1 by rw [da3]; exact nI_clamp (by omega)]
  refine lv_aload_n hx hb dL_law_363 rfl (lv_at hl 0 rfl) ?_
  refine lv_iload_n hx hb dL_law_364 rfl (lv_at hl 3 rfl) ?_
  refine lv_iconst (v := 2) hx hb dL_law_365 (by decide) ?_
  refine lv_iadd hx hb dL_law_366 ?_
  refine lv_topi (fun a4 ea4 => ?_)
  have da4 : a4 = nI (6 * i + 2) := by rw [ea4, ei]; exact nI_add (6 * i) 2
  refine va_sld hx hb hX hbl (Nat.not_le.mpr hbl) Gc.2.2.2.1 (show vp_in a4 L by rw [da4]; exact vp_in_nI (by omega) (by omega)) dL_law_367 ?_
  rw [show Int32.toNatClampNeg a4 = 6 * i + 2 by rw [da4]; exact nI_clamp (by omega)]
  obtain ⟨fm, hfm⟩ := RmX_m Xm
  refine L_Vi (n := 2) (rest := [.int r1]) S Gm Gc dj.sym hl (M_become l Xm K (xs (6 * i + 1)) (xs (6 * i + 2))) gL_law_X5_become rfl (by decide +kernel) hfm rfl rfl rfl (Nat.le_of_ble_eq_true rfl) ⟨Nat.le_of_ble_eq_true rfl, Nat.le_of_ble_eq_true rfl⟩ ⟨show 20 + 2 * i + 0 + 0 ≤ 600000 by omega, show 8000 + 14 * i + 0 + 0 ≤ 7302250 by omega⟩ dL_law_368 ?_
  clear Gc Gm dj; intro r2 wm H locs hp Gm Gc dj
  obtain ⟨hr2, Xm⟩ := hp
  refine lv_icmp_eq (tgt := 989) hx hb dL_law_371 (by decide) (fun _ => ?_) (fun c => absurd (hr1.trans hr2.symm) c)
  refine W.widen (k := 20 + 2 * (i + 1)) (n := 8000 + 14 * (i + 1)) (by omega) (by omega) ?_
  exact kx _ _ _ _ _ Xc Xm (Gd_become K _ _) (Nat.le_trans (nr_become _ _) (by omega)) Gc Gm dj.sym
set_option maxHeartbeats 4000000 in
set_option maxRecDepth 100000 in
theorem law_link {p_ : Program} {l : Launch} {e_ : Env} {s_ : State} {m_ : MethodId} {below_ : List Frame} {meth_ : Method} {code_ : Code} {Q_ : State → Prop} {E : EV} {b L : Nat} {xs : Nat → Int32} (S : CallFix p_ m_ code_ cL_law 4 s_ #[Value.ref b] wsL_law RL) (hX : va_X b L xs s_ s_.heap) (hbl : b < s_.heap.size) {i x m : Nat} {iv : Int32} (ei : iv = nI (6 * i)) (hi : 6 * i + 6 ≤ L) (hL : L ≤ 3072) {σ : ST} {wc wm : wo} (Xc : RcX E wc x σ) (Xm : RmX E wm m σ) (K : Gd σ) (hn : nr_of σ ≤ i) {H : Heap} {locs : List Loc} (Gc : wo_G E (fun q : Nat => s_.heap.size ≤ q) s_ wc H locs) (Gm : wo_G E (fun q : Nat => s_.heap.size ≤ q) s_ wm H locs) (dj : Dj wc wm) {ls : Array Slot} (hl : lv_has ls 4 [(0, .ref b), (1, .ref x), (2, .ref m), (3, .int iv)]) (kx : ∀ (σ2 : ST) (wc wm : wo) (H : Heap) (locs : List Loc), RcX E wc x σ2 → RmX E wm m σ2 → Gd σ2 → nr_of σ2 ≤ i + 1 → wo_G E (fun q : Nat => s_.heap.size ≤ q) s_ wc H locs → wo_G E (fun q : Nat => s_.heap.size ≤ q) s_ wm H locs → Dj wc wm → W p_ l e_ room_1 s_ m_ #[Value.ref b] below_ meth_ code_ H locs (20 + 2 * (i + 1)) (8000 + 14 * (i + 1)) Q_ (F0 m_ 989 ls [])) : W p_ l e_ room_1 s_ m_ #[Value.ref b] below_ meth_ code_ H locs (20 + 2 * i) (8000 + 14 * i) Q_ (F0 m_ 376 ls []) := by
  have hx := S.1
  have hb := S.2.1
  refine lv_aload_n hx hb dL_law_376 rfl (lv_at hl 1 rfl) ?_
  refine lv_aload_n hx hb dL_law_377 rfl (lv_at hl 0 rfl) ?_
  refine lv_iload_n hx hb dL_law_378 rfl (lv_at hl 3 rfl) ?_
  refine lv_iconst (v := 1) hx hb dL_law_379 (by decide) ?_
  refine lv_iadd hx hb dL_law_380 ?_
  refine lv_topi (fun a1 ea1 => ?_)
  have da1 : a1 = nI (6 * i + 1) := by rw [ea1, ei]; exact nI_add (6 * i) 1
  refine va_sld hx hb hX hbl (Nat.not_le.mpr hbl) Gc.2.2.2.1 (show vp_in a1 L by rw [da1]; exact vp_in_nI (by omega) (by omega)) dL_law_381 ?_
  rw [show Int32.toNatClampNeg a1 = 6 * i + 1 by rw [da1]; exact nI_clamp (by omega)]
  refine lv_aload_n hx hb dL_law_382 rfl (lv_at hl 0 rfl) ?_
  refine lv_iload_n hx hb dL_law_383 rfl (lv_at hl 3 rfl) ?_
  refine lv_iconst (v := 2) hx hb dL_law_384 (by decide) ?_
  refine lv_iadd hx hb dL_law_385 ?_
  refine lv_topi (fun a2 ea2 => ?_)
  have da2 : a2 = nI (6 * i + 2) := by rw [ea2, ei]; exact nI_add (6 * i) 2
  refine va_sld hx hb hX hbl (Nat.not_le.mpr hbl) Gc.2.2.2.1 (show vp_in a2 L by rw [da2]; exact vp_in_nI (by omega) (by omega)) dL_law_386 ?_
  rw [show Int32.toNatClampNeg a2 = 6 * i + 2 by rw [da2]; exact nI_clamp (by omega)]
  obtain ⟨fc, hfc⟩ := RcX_x Xc
  refine L_Vi (n := 2) (rest := []) S Gc Gm dj hl (C_link l Xc K (xs (6 * i + 1)) (xs (6 * i + 2))) gL_law_X4_link rfl (by decide +kernel) hfc rfl rfl rfl (Nat.le_of_ble_eq_true rfl) ⟨Nat.le_of_ble_eq_true rfl, Nat.le_of_ble_eq_true rfl⟩ ⟨show 20 + 2 * i + 0 ≤ 600000 by omega, show 8000 + 14 * i + 0 ≤ 7302250 by omega⟩ dL_law_387 ?_
  clear Gc Gm dj; intro r1 wc H locs hp Gc Gm dj
  obtain ⟨hr1, Xc⟩ := hp
  refine lv_aload_n hx hb dL_law_390 rfl (lv_at hl 2 rfl) ?_
  refine lv_aload_n hx hb dL_law_391 rfl (lv_at hl 0 rfl) ?_
  refine lv_iload_n hx hb dL_law_392 rfl (lv_at hl 3 rfl) ?_
  refine lv_iconst (v := 1) hx hb dL_law_393 (by decide) ?_
  refine lv_iadd hx hb dL_law_394 ?_
  refine lv_topi (fun a3 ea3 => ?_)
  have da3 : a3 = nI (6 * i + 1) := by rw [ea3, ei]; exact nI_add (6 * i) 1
  refine va_sld hx hb hX hbl (Nat.not_le.mpr hbl) Gc.2.2.2.1 (show vp_in a3 L by rw [da3]; exact vp_in_nI (by omega) (by omega)) dL_law_395 ?_
  rw [show Int32.toNatClampNeg a3 = 6 * i + 1 by rw [da3]; exact nI_clamp (by omega)]
  refine lv_aload_n hx hb dL_law_396 rfl (lv_at hl 0 rfl) ?_
  refine lv_iload_n hx hb dL_law_397 rfl (lv_at hl 3 rfl) ?_
  refine lv_iconst (v := 2) hx hb dL_law_398 (by decide) ?_
  refine lv_iadd hx hb dL_law_399 ?_
  refine lv_topi (fun a4 ea4 => ?_)
  have da4 : a4 = nI (6 * i + 2) := by rw [ea4, ei]; exact nI_add (6 * i) 2
  refine va_sld hx hb hX hbl (Nat.not_le.mpr hbl) Gc.2.2.2.1 (show vp_in a4 L by rw [da4]; exact vp_in_nI (by omega) (by omega)) dL_law_400 ?_
  rw [show Int32.toNatClampNeg a4 = 6 * i + 2 by rw [da4]; exact nI_clamp (by omega)]
  obtain ⟨fm, hfm⟩ := RmX_m Xm
  refine L_Vi (n := 2) (rest := [.int r1]) S Gm Gc dj.sym hl (M_link l Xm K (xs (6 * i + 1)) (xs (6 * i + 2))) gL_law_X5_link rfl (by decide +kernel) hfm rfl rfl rfl (Nat.le_of_ble_eq_true rfl) ⟨Nat.le_of_ble_eq_true rfl, Nat.le_of_ble_eq_true rfl⟩ ⟨show 20 + 2 * i + 0 + 0 ≤ 600000 by omega, show 8000 + 14 * i + 0 + 0 ≤ 7302250 by omega⟩ dL_law_401 ?_
  clear Gc Gm dj; intro r2 wm H locs hp Gm Gc dj
  obtain ⟨hr2, Xm⟩ := hp
  refine lv_icmp_eq (tgt := 989) hx hb dL_law_404 (by decide) (fun _ => ?_) (fun c => absurd (hr1.trans hr2.symm) c)
  refine W.widen (k := 20 + 2 * (i + 1)) (n := 8000 + 14 * (i + 1)) (by omega) (by omega) ?_
  exact kx _ _ _ _ _ Xc Xm (Gd_link K _ _) (Nat.le_trans (nr_link _ _) (by omega)) Gc Gm dj.sym
set_option maxHeartbeats 4000000 in
set_option maxRecDepth 100000 in
theorem law_linked {p_ : Program} {l : Launch} {e_ : Env} {s_ : State} {m_ : MethodId} {below_ : List Frame} {meth_ : Method} {code_ : Code} {Q_ : State → Prop} {E : EV} {b L : Nat} {xs : Nat → Int32} (S : CallFix p_ m_ code_ cL_law 4 s_ #[Value.ref b] wsL_law RL) (hX : va_X b L xs s_ s_.heap) (hbl : b < s_.heap.size) {i x m : Nat} {iv : Int32} (ei : iv = nI (6 * i)) (hi : 6 * i + 6 ≤ L) (hL : L ≤ 3072) {σ : ST} {wc wm : wo} (Xc : RcX E wc x σ) (Xm : RmX E wm m σ) (K : Gd σ) (hn : nr_of σ ≤ i) {H : Heap} {locs : List Loc} (Gc : wo_G E (fun q : Nat => s_.heap.size ≤ q) s_ wc H locs) (Gm : wo_G E (fun q : Nat => s_.heap.size ≤ q) s_ wm H locs) (dj : Dj wc wm) {ls : Array Slot} (hl : lv_has ls 4 [(0, .ref b), (1, .ref x), (2, .ref m), (3, .int iv)]) (kx : ∀ (σ2 : ST) (wc wm : wo) (H : Heap) (locs : List Loc), RcX E wc x σ2 → RmX E wm m σ2 → Gd σ2 → nr_of σ2 ≤ i + 1 → wo_G E (fun q : Nat => s_.heap.size ≤ q) s_ wc H locs → wo_G E (fun q : Nat => s_.heap.size ≤ q) s_ wm H locs → Dj wc wm → W p_ l e_ room_1 s_ m_ #[Value.ref b] below_ meth_ code_ H locs (20 + 2 * (i + 1)) (8000 + 14 * (i + 1)) Q_ (F0 m_ 989 ls [])) : W p_ l e_ room_1 s_ m_ #[Value.ref b] below_ meth_ code_ H locs (20 + 2 * i) (8000 + 14 * i) Q_ (F0 m_ 409 ls []) := by
  have hx := S.1
  have hb := S.2.1
  refine lv_aload_n hx hb dL_law_409 rfl (lv_at hl 1 rfl) ?_
  refine lv_aload_n hx hb dL_law_410 rfl (lv_at hl 0 rfl) ?_
  refine lv_iload_n hx hb dL_law_411 rfl (lv_at hl 3 rfl) ?_
  refine lv_iconst (v := 1) hx hb dL_law_412 (by decide) ?_
  refine lv_iadd hx hb dL_law_413 ?_
  refine lv_topi (fun a1 ea1 => ?_)
  have da1 : a1 = nI (6 * i + 1) := by rw [ea1, ei]; exact nI_add (6 * i) 1
  refine va_sld hx hb hX hbl (Nat.not_le.mpr hbl) Gc.2.2.2.1 (show vp_in a1 L by rw [da1]; exact vp_in_nI (by omega) (by omega)) dL_law_414 ?_
  rw [show Int32.toNatClampNeg a1 = 6 * i + 1 by rw [da1]; exact nI_clamp (by omega)]
  obtain ⟨fc, hfc⟩ := RcX_x Xc
  refine L_Vi (n := 1) (rest := []) S Gc Gm dj hl (C_linked l Xc K (xs (6 * i + 1))) gL_law_X4_linked rfl (by decide +kernel) hfc rfl rfl rfl (Nat.le_of_ble_eq_true rfl) ⟨Nat.le_of_ble_eq_true rfl, Nat.le_of_ble_eq_true rfl⟩ ⟨show 20 + 2 * i + 0 ≤ 600000 by omega, show 8000 + 14 * i + 0 ≤ 7302250 by omega⟩ dL_law_415 ?_
  clear Gc Gm dj; intro r1 wc H locs hp Gc Gm dj
  obtain ⟨hr1, Xc⟩ := hp
  refine lv_aload_n hx hb dL_law_418 rfl (lv_at hl 2 rfl) ?_
  refine lv_aload_n hx hb dL_law_419 rfl (lv_at hl 0 rfl) ?_
  refine lv_iload_n hx hb dL_law_420 rfl (lv_at hl 3 rfl) ?_
  refine lv_iconst (v := 1) hx hb dL_law_421 (by decide) ?_
  refine lv_iadd hx hb dL_law_422 ?_
  refine lv_topi (fun a2 ea2 => ?_)
  have da2 : a2 = nI (6 * i + 1) := by rw [ea2, ei]; exact nI_add (6 * i) 1
  refine va_sld hx hb hX hbl (Nat.not_le.mpr hbl) Gc.2.2.2.1 (show vp_in a2 L by rw [da2]; exact vp_in_nI (by omega) (by omega)) dL_law_423 ?_
  rw [show Int32.toNatClampNeg a2 = 6 * i + 1 by rw [da2]; exact nI_clamp (by omega)]
  obtain ⟨fm, hfm⟩ := RmX_m Xm
  refine L_Vi (n := 1) (rest := [.int r1]) S Gm Gc dj.sym hl (M_linked l Xm K (xs (6 * i + 1))) gL_law_X5_linked rfl (by decide +kernel) hfm rfl rfl rfl (Nat.le_of_ble_eq_true rfl) ⟨Nat.le_of_ble_eq_true rfl, Nat.le_of_ble_eq_true rfl⟩ ⟨show 20 + 2 * i + 0 + 0 ≤ 600000 by omega, show 8000 + 14 * i + 0 + 0 ≤ 7302250 by omega⟩ dL_law_424 ?_
  clear Gc Gm dj; intro r2 wm H locs hp Gm Gc dj
  obtain ⟨hr2, Xm⟩ := hp
  refine lv_icmp_eq (tgt := 989) hx hb dL_law_427 (by decide) (fun _ => ?_) (fun c => absurd (hr1.trans hr2.symm) c)
  refine W.widen (k := 20 + 2 * (i + 1)) (n := 8000 + 14 * (i + 1)) (by omega) (by omega) ?_
  exact kx _ _ _ _ _ Xc Xm K (by omega) Gc Gm dj.sym
set_option maxHeartbeats 4000000 in
set_option maxRecDepth 100000 in
theorem law_follow {p_ : Program} {l : Launch} {e_ : Env} {s_ : State} {m_ : MethodId} {below_ : List Frame} {meth_ : Method} {code_ : Code} {Q_ : State → Prop} {E : EV} {b L : Nat} {xs : Nat → Int32} (S : CallFix p_ m_ code_ cL_law 4 s_ #[Value.ref b] wsL_law RL) (hX : va_X b L xs s_ s_.heap) (hbl : b < s_.heap.size) {i x m : Nat} {iv : Int32} (ei : iv = nI (6 * i)) (hi : 6 * i + 6 ≤ L) (hL : L ≤ 3072) {σ : ST} {wc wm : wo} (Xc : RcX E wc x σ) (Xm : RmX E wm m σ) (K : Gd σ) (hn : nr_of σ ≤ i) {H : Heap} {locs : List Loc} (Gc : wo_G E (fun q : Nat => s_.heap.size ≤ q) s_ wc H locs) (Gm : wo_G E (fun q : Nat => s_.heap.size ≤ q) s_ wm H locs) (dj : Dj wc wm) {ls : Array Slot} (hl : lv_has ls 4 [(0, .ref b), (1, .ref x), (2, .ref m), (3, .int iv)]) (kx : ∀ (σ2 : ST) (wc wm : wo) (H : Heap) (locs : List Loc), RcX E wc x σ2 → RmX E wm m σ2 → Gd σ2 → nr_of σ2 ≤ i + 1 → wo_G E (fun q : Nat => s_.heap.size ≤ q) s_ wc H locs → wo_G E (fun q : Nat => s_.heap.size ≤ q) s_ wm H locs → Dj wc wm → W p_ l e_ room_1 s_ m_ #[Value.ref b] below_ meth_ code_ H locs (20 + 2 * (i + 1)) (8000 + 14 * (i + 1)) Q_ (F0 m_ 989 ls [])) : W p_ l e_ room_1 s_ m_ #[Value.ref b] below_ meth_ code_ H locs (20 + 2 * i) (8000 + 14 * i) Q_ (F0 m_ 432 ls []) := by
  have hx := S.1
  have hb := S.2.1
  refine lv_aload_n hx hb dL_law_432 rfl (lv_at hl 1 rfl) ?_
  refine lv_aload_n hx hb dL_law_433 rfl (lv_at hl 0 rfl) ?_
  refine lv_iload_n hx hb dL_law_434 rfl (lv_at hl 3 rfl) ?_
  refine lv_iconst (v := 1) hx hb dL_law_435 (by decide) ?_
  refine lv_iadd hx hb dL_law_436 ?_
  refine lv_topi (fun a1 ea1 => ?_)
  have da1 : a1 = nI (6 * i + 1) := by rw [ea1, ei]; exact nI_add (6 * i) 1
  refine va_sld hx hb hX hbl (Nat.not_le.mpr hbl) Gc.2.2.2.1 (show vp_in a1 L by rw [da1]; exact vp_in_nI (by omega) (by omega)) dL_law_437 ?_
  rw [show Int32.toNatClampNeg a1 = 6 * i + 1 by rw [da1]; exact nI_clamp (by omega)]
  obtain ⟨fc, hfc⟩ := RcX_x Xc
  refine L_Vi (n := 1) (rest := []) S Gc Gm dj hl (C_follow l Xc K (xs (6 * i + 1))) gL_law_X4_follow rfl (by decide +kernel) hfc rfl rfl rfl (Nat.le_of_ble_eq_true rfl) ⟨Nat.le_of_ble_eq_true rfl, Nat.le_of_ble_eq_true rfl⟩ ⟨show 20 + 2 * i + 0 ≤ 600000 by omega, show 8000 + 14 * i + 0 ≤ 7302250 by omega⟩ dL_law_438 ?_
  clear Gc Gm dj; intro r1 wc H locs hp Gc Gm dj
  obtain ⟨hr1, Xc⟩ := hp
  refine lv_aload_n hx hb dL_law_441 rfl (lv_at hl 2 rfl) ?_
  refine lv_aload_n hx hb dL_law_442 rfl (lv_at hl 0 rfl) ?_
  refine lv_iload_n hx hb dL_law_443 rfl (lv_at hl 3 rfl) ?_
  refine lv_iconst (v := 1) hx hb dL_law_444 (by decide) ?_
  refine lv_iadd hx hb dL_law_445 ?_
  refine lv_topi (fun a2 ea2 => ?_)
  have da2 : a2 = nI (6 * i + 1) := by rw [ea2, ei]; exact nI_add (6 * i) 1
  refine va_sld hx hb hX hbl (Nat.not_le.mpr hbl) Gc.2.2.2.1 (show vp_in a2 L by rw [da2]; exact vp_in_nI (by omega) (by omega)) dL_law_446 ?_
  rw [show Int32.toNatClampNeg a2 = 6 * i + 1 by rw [da2]; exact nI_clamp (by omega)]
  obtain ⟨fm, hfm⟩ := RmX_m Xm
  refine L_Vi (n := 1) (rest := [.int r1]) S Gm Gc dj.sym hl (M_follow l Xm K (xs (6 * i + 1))) gL_law_X5_follow rfl (by decide +kernel) hfm rfl rfl rfl (Nat.le_of_ble_eq_true rfl) ⟨Nat.le_of_ble_eq_true rfl, Nat.le_of_ble_eq_true rfl⟩ ⟨show 20 + 2 * i + 0 + 0 ≤ 600000 by omega, show 8000 + 14 * i + 0 + 0 ≤ 7302250 by omega⟩ dL_law_447 ?_
  clear Gc Gm dj; intro r2 wm H locs hp Gm Gc dj
  obtain ⟨hr2, Xm⟩ := hp
  refine lv_icmp_eq (tgt := 989) hx hb dL_law_450 (by decide) (fun _ => ?_) (fun c => absurd (hr1.trans hr2.symm) c)
  refine W.widen (k := 20 + 2 * (i + 1)) (n := 8000 + 14 * (i + 1)) (by omega) (by omega) ?_
  exact kx _ _ _ _ _ Xc Xm (Gd_follow K _) (Nat.le_trans (nr_follow _) (by omega)) Gc Gm dj.sym
set_option maxHeartbeats 4000000 in
set_option maxRecDepth 100000 in
theorem law_trade {p_ : Program} {l : Launch} {e_ : Env} {s_ : State} {m_ : MethodId} {below_ : List Frame} {meth_ : Method} {code_ : Code} {Q_ : State → Prop} {E : EV} {b L : Nat} {xs : Nat → Int32} (S : CallFix p_ m_ code_ cL_law 4 s_ #[Value.ref b] wsL_law RL) (hX : va_X b L xs s_ s_.heap) (hbl : b < s_.heap.size) {i x m : Nat} {iv : Int32} (ei : iv = nI (6 * i)) (hi : 6 * i + 6 ≤ L) (hL : L ≤ 3072) {σ : ST} {wc wm : wo} (Xc : RcX E wc x σ) (Xm : RmX E wm m σ) (K : Gd σ) (hn : nr_of σ ≤ i) {H : Heap} {locs : List Loc} (Gc : wo_G E (fun q : Nat => s_.heap.size ≤ q) s_ wc H locs) (Gm : wo_G E (fun q : Nat => s_.heap.size ≤ q) s_ wm H locs) (dj : Dj wc wm) {ls : Array Slot} (hl : lv_has ls 4 [(0, .ref b), (1, .ref x), (2, .ref m), (3, .int iv)]) (kx : ∀ (σ2 : ST) (wc wm : wo) (H : Heap) (locs : List Loc), RcX E wc x σ2 → RmX E wm m σ2 → Gd σ2 → nr_of σ2 ≤ i + 1 → wo_G E (fun q : Nat => s_.heap.size ≤ q) s_ wc H locs → wo_G E (fun q : Nat => s_.heap.size ≤ q) s_ wm H locs → Dj wc wm → W p_ l e_ room_1 s_ m_ #[Value.ref b] below_ meth_ code_ H locs (20 + 2 * (i + 1)) (8000 + 14 * (i + 1)) Q_ (F0 m_ 989 ls [])) : W p_ l e_ room_1 s_ m_ #[Value.ref b] below_ meth_ code_ H locs (20 + 2 * i) (8000 + 14 * i) Q_ (F0 m_ 455 ls []) := by
  have hx := S.1
  have hb := S.2.1
  refine lv_aload_n hx hb dL_law_455 rfl (lv_at hl 1 rfl) ?_
  refine lv_aload_n hx hb dL_law_456 rfl (lv_at hl 0 rfl) ?_
  refine lv_iload_n hx hb dL_law_457 rfl (lv_at hl 3 rfl) ?_
  refine lv_iconst (v := 1) hx hb dL_law_458 (by decide) ?_
  refine lv_iadd hx hb dL_law_459 ?_
  refine lv_topi (fun a1 ea1 => ?_)
  have da1 : a1 = nI (6 * i + 1) := by rw [ea1, ei]; exact nI_add (6 * i) 1
  refine va_sld hx hb hX hbl (Nat.not_le.mpr hbl) Gc.2.2.2.1 (show vp_in a1 L by rw [da1]; exact vp_in_nI (by omega) (by omega)) dL_law_460 ?_
  rw [show Int32.toNatClampNeg a1 = 6 * i + 1 by rw [da1]; exact nI_clamp (by omega)]
  obtain ⟨fc, hfc⟩ := RcX_x Xc
  refine L_Vi (n := 1) (rest := []) S Gc Gm dj hl (C_trade l Xc K (xs (6 * i + 1))) gL_law_X4_trade rfl (by decide +kernel) hfc rfl rfl rfl (Nat.le_of_ble_eq_true rfl) ⟨Nat.le_of_ble_eq_true rfl, Nat.le_of_ble_eq_true rfl⟩ ⟨show 20 + 2 * i + 0 ≤ 600000 by omega, show 8000 + 14 * i + 0 ≤ 7302250 by omega⟩ dL_law_461 ?_
  clear Gc Gm dj; intro r1 wc H locs hp Gc Gm dj
  obtain ⟨hr1, Xc⟩ := hp
  refine lv_aload_n hx hb dL_law_464 rfl (lv_at hl 2 rfl) ?_
  refine lv_aload_n hx hb dL_law_465 rfl (lv_at hl 0 rfl) ?_
  refine lv_iload_n hx hb dL_law_466 rfl (lv_at hl 3 rfl) ?_
  refine lv_iconst (v := 1) hx hb dL_law_467 (by decide) ?_
  refine lv_iadd hx hb dL_law_468 ?_
  refine lv_topi (fun a2 ea2 => ?_)
  have da2 : a2 = nI (6 * i + 1) := by rw [ea2, ei]; exact nI_add (6 * i) 1
  refine va_sld hx hb hX hbl (Nat.not_le.mpr hbl) Gc.2.2.2.1 (show vp_in a2 L by rw [da2]; exact vp_in_nI (by omega) (by omega)) dL_law_469 ?_
  rw [show Int32.toNatClampNeg a2 = 6 * i + 1 by rw [da2]; exact nI_clamp (by omega)]
  obtain ⟨fm, hfm⟩ := RmX_m Xm
  refine L_Vi (n := 1) (rest := [.int r1]) S Gm Gc dj.sym hl (M_trade l Xm K (xs (6 * i + 1))) gL_law_X5_trade rfl (by decide +kernel) hfm rfl rfl rfl (Nat.le_of_ble_eq_true rfl) ⟨Nat.le_of_ble_eq_true rfl, Nat.le_of_ble_eq_true rfl⟩ ⟨show 20 + 2 * i + 0 + 0 ≤ 600000 by omega, show 8000 + 14 * i + 0 + 0 ≤ 7302250 by omega⟩ dL_law_470 ?_
  clear Gc Gm dj; intro r2 wm H locs hp Gm Gc dj
  obtain ⟨hr2, Xm⟩ := hp
  refine lv_icmp_eq (tgt := 989) hx hb dL_law_473 (by decide) (fun _ => ?_) (fun c => absurd (hr1.trans hr2.symm) c)
  refine W.widen (k := 20 + 2 * (i + 1)) (n := 8000 + 14 * (i + 1)) (by omega) (by omega) ?_
  exact kx _ _ _ _ _ Xc Xm (Gd_trade K _) (Nat.le_trans (nr_trade _) (by omega)) Gc Gm dj.sym
set_option maxHeartbeats 4000000 in
set_option maxRecDepth 100000 in
theorem law_hold {p_ : Program} {l : Launch} {e_ : Env} {s_ : State} {m_ : MethodId} {below_ : List Frame} {meth_ : Method} {code_ : Code} {Q_ : State → Prop} {E : EV} {b L : Nat} {xs : Nat → Int32} (S : CallFix p_ m_ code_ cL_law 4 s_ #[Value.ref b] wsL_law RL) (hX : va_X b L xs s_ s_.heap) (hbl : b < s_.heap.size) {i x m : Nat} {iv : Int32} (ei : iv = nI (6 * i)) (hi : 6 * i + 6 ≤ L) (hL : L ≤ 3072) {σ : ST} {wc wm : wo} (Xc : RcX E wc x σ) (Xm : RmX E wm m σ) (K : Gd σ) (hn : nr_of σ ≤ i) {H : Heap} {locs : List Loc} (Gc : wo_G E (fun q : Nat => s_.heap.size ≤ q) s_ wc H locs) (Gm : wo_G E (fun q : Nat => s_.heap.size ≤ q) s_ wm H locs) (dj : Dj wc wm) {ls : Array Slot} (hl : lv_has ls 4 [(0, .ref b), (1, .ref x), (2, .ref m), (3, .int iv)]) (kx : ∀ (σ2 : ST) (wc wm : wo) (H : Heap) (locs : List Loc), RcX E wc x σ2 → RmX E wm m σ2 → Gd σ2 → nr_of σ2 ≤ i + 1 → wo_G E (fun q : Nat => s_.heap.size ≤ q) s_ wc H locs → wo_G E (fun q : Nat => s_.heap.size ≤ q) s_ wm H locs → Dj wc wm → W p_ l e_ room_1 s_ m_ #[Value.ref b] below_ meth_ code_ H locs (20 + 2 * (i + 1)) (8000 + 14 * (i + 1)) Q_ (F0 m_ 989 ls [])) : W p_ l e_ room_1 s_ m_ #[Value.ref b] below_ meth_ code_ H locs (20 + 2 * i) (8000 + 14 * i) Q_ (F0 m_ 478 ls []) := by
  have hx := S.1
  have hb := S.2.1
  refine lv_aload_n hx hb dL_law_478 rfl (lv_at hl 1 rfl) ?_
  refine lv_aload_n hx hb dL_law_479 rfl (lv_at hl 0 rfl) ?_
  refine lv_iload_n hx hb dL_law_480 rfl (lv_at hl 3 rfl) ?_
  refine lv_iconst (v := 1) hx hb dL_law_481 (by decide) ?_
  refine lv_iadd hx hb dL_law_482 ?_
  refine lv_topi (fun a1 ea1 => ?_)
  have da1 : a1 = nI (6 * i + 1) := by rw [ea1, ei]; exact nI_add (6 * i) 1
  refine va_sld hx hb hX hbl (Nat.not_le.mpr hbl) Gc.2.2.2.1 (show vp_in a1 L by rw [da1]; exact vp_in_nI (by omega) (by omega)) dL_law_483 ?_
  rw [show Int32.toNatClampNeg a1 = 6 * i + 1 by rw [da1]; exact nI_clamp (by omega)]
  refine lv_aload_n hx hb dL_law_484 rfl (lv_at hl 0 rfl) ?_
  refine lv_iload_n hx hb dL_law_485 rfl (lv_at hl 3 rfl) ?_
  refine lv_iconst (v := 2) hx hb dL_law_486 (by decide) ?_
  refine lv_iadd hx hb dL_law_487 ?_
  refine lv_topi (fun a2 ea2 => ?_)
  have da2 : a2 = nI (6 * i + 2) := by rw [ea2, ei]; exact nI_add (6 * i) 2
  refine va_sld hx hb hX hbl (Nat.not_le.mpr hbl) Gc.2.2.2.1 (show vp_in a2 L by rw [da2]; exact vp_in_nI (by omega) (by omega)) dL_law_488 ?_
  rw [show Int32.toNatClampNeg a2 = 6 * i + 2 by rw [da2]; exact nI_clamp (by omega)]
  refine lv_aload_n hx hb dL_law_489 rfl (lv_at hl 0 rfl) ?_
  refine lv_iload_n hx hb dL_law_490 rfl (lv_at hl 3 rfl) ?_
  refine lv_iconst (v := 3) hx hb dL_law_491 (by decide) ?_
  refine lv_iadd hx hb dL_law_492 ?_
  refine lv_topi (fun a3 ea3 => ?_)
  have da3 : a3 = nI (6 * i + 3) := by rw [ea3, ei]; exact nI_add (6 * i) 3
  refine va_sld hx hb hX hbl (Nat.not_le.mpr hbl) Gc.2.2.2.1 (show vp_in a3 L by rw [da3]; exact vp_in_nI (by omega) (by omega)) dL_law_493 ?_
  rw [show Int32.toNatClampNeg a3 = 6 * i + 3 by rw [da3]; exact nI_clamp (by omega)]
  obtain ⟨fc, hfc⟩ := RcX_x Xc
  refine L_Vi (n := 3) (rest := []) S Gc Gm dj hl (C_hold l Xc K (by omega) (xs (6 * i + 1)) (xs (6 * i + 2)) (xs (6 * i + 3))) gL_law_X4_hold rfl (by decide +kernel) hfc rfl rfl rfl (Nat.le_of_ble_eq_true rfl) ⟨Nat.le_of_ble_eq_true rfl, Nat.le_of_ble_eq_true rfl⟩ ⟨show 20 + 2 * i + 2 ≤ 600000 by omega, show 8000 + 14 * i + 14 ≤ 7302250 by omega⟩ dL_law_494 ?_
  clear Gc Gm dj; intro r1 wc H locs hp Gc Gm dj
  obtain ⟨hr1, Xc⟩ := hp
  refine lv_aload_n hx hb dL_law_497 rfl (lv_at hl 2 rfl) ?_
  refine lv_aload_n hx hb dL_law_498 rfl (lv_at hl 0 rfl) ?_
  refine lv_iload_n hx hb dL_law_499 rfl (lv_at hl 3 rfl) ?_
  refine lv_iconst (v := 1) hx hb dL_law_500 (by decide) ?_
  refine lv_iadd hx hb dL_law_501 ?_
  refine lv_topi (fun a4 ea4 => ?_)
  have da4 : a4 = nI (6 * i + 1) := by rw [ea4, ei]; exact nI_add (6 * i) 1
  refine va_sld hx hb hX hbl (Nat.not_le.mpr hbl) Gc.2.2.2.1 (show vp_in a4 L by rw [da4]; exact vp_in_nI (by omega) (by omega)) dL_law_502 ?_
  rw [show Int32.toNatClampNeg a4 = 6 * i + 1 by rw [da4]; exact nI_clamp (by omega)]
  refine lv_aload_n hx hb dL_law_503 rfl (lv_at hl 0 rfl) ?_
  refine lv_iload_n hx hb dL_law_504 rfl (lv_at hl 3 rfl) ?_
  refine lv_iconst (v := 2) hx hb dL_law_505 (by decide) ?_
  refine lv_iadd hx hb dL_law_506 ?_
  refine lv_topi (fun a5 ea5 => ?_)
  have da5 : a5 = nI (6 * i + 2) := by rw [ea5, ei]; exact nI_add (6 * i) 2
  refine va_sld hx hb hX hbl (Nat.not_le.mpr hbl) Gc.2.2.2.1 (show vp_in a5 L by rw [da5]; exact vp_in_nI (by omega) (by omega)) dL_law_507 ?_
  rw [show Int32.toNatClampNeg a5 = 6 * i + 2 by rw [da5]; exact nI_clamp (by omega)]
  refine lv_aload_n hx hb dL_law_508 rfl (lv_at hl 0 rfl) ?_
  refine lv_iload_n hx hb dL_law_509 rfl (lv_at hl 3 rfl) ?_
  refine lv_iconst (v := 3) hx hb dL_law_510 (by decide) ?_
  refine lv_iadd hx hb dL_law_511 ?_
  refine lv_topi (fun a6 ea6 => ?_)
  have da6 : a6 = nI (6 * i + 3) := by rw [ea6, ei]; exact nI_add (6 * i) 3
  refine va_sld hx hb hX hbl (Nat.not_le.mpr hbl) Gc.2.2.2.1 (show vp_in a6 L by rw [da6]; exact vp_in_nI (by omega) (by omega)) dL_law_512 ?_
  rw [show Int32.toNatClampNeg a6 = 6 * i + 3 by rw [da6]; exact nI_clamp (by omega)]
  obtain ⟨fm, hfm⟩ := RmX_m Xm
  refine L_Vi (n := 3) (rest := [.int r1]) S Gm Gc dj.sym hl (M_hold l Xm K (by omega) (xs (6 * i + 1)) (xs (6 * i + 2)) (xs (6 * i + 3))) gL_law_X5_hold rfl (by decide +kernel) hfm rfl rfl rfl (Nat.le_of_ble_eq_true rfl) ⟨Nat.le_of_ble_eq_true rfl, Nat.le_of_ble_eq_true rfl⟩ ⟨show 20 + 2 * i + 2 + 0 ≤ 600000 by omega, show 8000 + 14 * i + 14 + 0 ≤ 7302250 by omega⟩ dL_law_513 ?_
  clear Gc Gm dj; intro r2 wm H locs hp Gm Gc dj
  obtain ⟨hr2, Xm⟩ := hp
  refine lv_icmp_eq (tgt := 989) hx hb dL_law_516 (by decide) (fun _ => ?_) (fun c => absurd (hr1.trans hr2.symm) c)
  refine W.widen (k := 20 + 2 * (i + 1)) (n := 8000 + 14 * (i + 1)) (by omega) (by omega) ?_
  exact kx _ _ _ _ _ Xc Xm (Gd_hold K (by omega) _ _ _) (Nat.le_trans (nr_hold _ _ _) (by omega)) Gc Gm dj.sym
set_option maxHeartbeats 4000000 in
set_option maxRecDepth 100000 in
theorem law_share {p_ : Program} {l : Launch} {e_ : Env} {s_ : State} {m_ : MethodId} {below_ : List Frame} {meth_ : Method} {code_ : Code} {Q_ : State → Prop} {E : EV} {b L : Nat} {xs : Nat → Int32} (S : CallFix p_ m_ code_ cL_law 4 s_ #[Value.ref b] wsL_law RL) (hX : va_X b L xs s_ s_.heap) (hbl : b < s_.heap.size) {i x m : Nat} {iv : Int32} (ei : iv = nI (6 * i)) (hi : 6 * i + 6 ≤ L) (hL : L ≤ 3072) {σ : ST} {wc wm : wo} (Xc : RcX E wc x σ) (Xm : RmX E wm m σ) (K : Gd σ) (hn : nr_of σ ≤ i) {H : Heap} {locs : List Loc} (Gc : wo_G E (fun q : Nat => s_.heap.size ≤ q) s_ wc H locs) (Gm : wo_G E (fun q : Nat => s_.heap.size ≤ q) s_ wm H locs) (dj : Dj wc wm) {ls : Array Slot} (hl : lv_has ls 4 [(0, .ref b), (1, .ref x), (2, .ref m), (3, .int iv)]) (kx : ∀ (σ2 : ST) (wc wm : wo) (H : Heap) (locs : List Loc), RcX E wc x σ2 → RmX E wm m σ2 → Gd σ2 → nr_of σ2 ≤ i + 1 → wo_G E (fun q : Nat => s_.heap.size ≤ q) s_ wc H locs → wo_G E (fun q : Nat => s_.heap.size ≤ q) s_ wm H locs → Dj wc wm → W p_ l e_ room_1 s_ m_ #[Value.ref b] below_ meth_ code_ H locs (20 + 2 * (i + 1)) (8000 + 14 * (i + 1)) Q_ (F0 m_ 989 ls [])) : W p_ l e_ room_1 s_ m_ #[Value.ref b] below_ meth_ code_ H locs (20 + 2 * i) (8000 + 14 * i) Q_ (F0 m_ 521 ls []) := by
  have hx := S.1
  have hb := S.2.1
  refine lv_aload_n hx hb dL_law_521 rfl (lv_at hl 1 rfl) ?_
  refine lv_aload_n hx hb dL_law_522 rfl (lv_at hl 0 rfl) ?_
  refine lv_iload_n hx hb dL_law_523 rfl (lv_at hl 3 rfl) ?_
  refine lv_iconst (v := 1) hx hb dL_law_524 (by decide) ?_
  refine lv_iadd hx hb dL_law_525 ?_
  refine lv_topi (fun a1 ea1 => ?_)
  have da1 : a1 = nI (6 * i + 1) := by rw [ea1, ei]; exact nI_add (6 * i) 1
  refine va_sld hx hb hX hbl (Nat.not_le.mpr hbl) Gc.2.2.2.1 (show vp_in a1 L by rw [da1]; exact vp_in_nI (by omega) (by omega)) dL_law_526 ?_
  rw [show Int32.toNatClampNeg a1 = 6 * i + 1 by rw [da1]; exact nI_clamp (by omega)]
  refine lv_aload_n hx hb dL_law_527 rfl (lv_at hl 0 rfl) ?_
  refine lv_iload_n hx hb dL_law_528 rfl (lv_at hl 3 rfl) ?_
  refine lv_iconst (v := 2) hx hb dL_law_529 (by decide) ?_
  refine lv_iadd hx hb dL_law_530 ?_
  refine lv_topi (fun a2 ea2 => ?_)
  have da2 : a2 = nI (6 * i + 2) := by rw [ea2, ei]; exact nI_add (6 * i) 2
  refine va_sld hx hb hX hbl (Nat.not_le.mpr hbl) Gc.2.2.2.1 (show vp_in a2 L by rw [da2]; exact vp_in_nI (by omega) (by omega)) dL_law_531 ?_
  rw [show Int32.toNatClampNeg a2 = 6 * i + 2 by rw [da2]; exact nI_clamp (by omega)]
  obtain ⟨fc, hfc⟩ := RcX_x Xc
  refine L_Vi (n := 2) (rest := []) S Gc Gm dj hl (C_share l Xc K (xs (6 * i + 1)) (xs (6 * i + 2))) gL_law_X4_share rfl (by decide +kernel) hfc rfl rfl rfl (Nat.le_of_ble_eq_true rfl) ⟨Nat.le_of_ble_eq_true rfl, Nat.le_of_ble_eq_true rfl⟩ ⟨show 20 + 2 * i + 0 ≤ 600000 by omega, show 8000 + 14 * i + 0 ≤ 7302250 by omega⟩ dL_law_532 ?_
  clear Gc Gm dj; intro r1 wc H locs hp Gc Gm dj
  obtain ⟨hr1, Xc⟩ := hp
  refine lv_aload_n hx hb dL_law_535 rfl (lv_at hl 2 rfl) ?_
  refine lv_aload_n hx hb dL_law_536 rfl (lv_at hl 0 rfl) ?_
  refine lv_iload_n hx hb dL_law_537 rfl (lv_at hl 3 rfl) ?_
  refine lv_iconst (v := 1) hx hb dL_law_538 (by decide) ?_
  refine lv_iadd hx hb dL_law_539 ?_
  refine lv_topi (fun a3 ea3 => ?_)
  have da3 : a3 = nI (6 * i + 1) := by rw [ea3, ei]; exact nI_add (6 * i) 1
  refine va_sld hx hb hX hbl (Nat.not_le.mpr hbl) Gc.2.2.2.1 (show vp_in a3 L by rw [da3]; exact vp_in_nI (by omega) (by omega)) dL_law_540 ?_
  rw [show Int32.toNatClampNeg a3 = 6 * i + 1 by rw [da3]; exact nI_clamp (by omega)]
  refine lv_aload_n hx hb dL_law_541 rfl (lv_at hl 0 rfl) ?_
  refine lv_iload_n hx hb dL_law_542 rfl (lv_at hl 3 rfl) ?_
  refine lv_iconst (v := 2) hx hb dL_law_543 (by decide) ?_
  refine lv_iadd hx hb dL_law_544 ?_
  refine lv_topi (fun a4 ea4 => ?_)
  have da4 : a4 = nI (6 * i + 2) := by rw [ea4, ei]; exact nI_add (6 * i) 2
  refine va_sld hx hb hX hbl (Nat.not_le.mpr hbl) Gc.2.2.2.1 (show vp_in a4 L by rw [da4]; exact vp_in_nI (by omega) (by omega)) dL_law_545 ?_
  rw [show Int32.toNatClampNeg a4 = 6 * i + 2 by rw [da4]; exact nI_clamp (by omega)]
  obtain ⟨fm, hfm⟩ := RmX_m Xm
  refine L_Vi (n := 2) (rest := [.int r1]) S Gm Gc dj.sym hl (M_share l Xm K (xs (6 * i + 1)) (xs (6 * i + 2))) gL_law_X5_share rfl (by decide +kernel) hfm rfl rfl rfl (Nat.le_of_ble_eq_true rfl) ⟨Nat.le_of_ble_eq_true rfl, Nat.le_of_ble_eq_true rfl⟩ ⟨show 20 + 2 * i + 0 + 0 ≤ 600000 by omega, show 8000 + 14 * i + 0 + 0 ≤ 7302250 by omega⟩ dL_law_546 ?_
  clear Gc Gm dj; intro r2 wm H locs hp Gm Gc dj
  obtain ⟨hr2, Xm⟩ := hp
  refine lv_icmp_eq (tgt := 989) hx hb dL_law_549 (by decide) (fun _ => ?_) (fun c => absurd (hr1.trans hr2.symm) c)
  refine W.widen (k := 20 + 2 * (i + 1)) (n := 8000 + 14 * (i + 1)) (by omega) (by omega) ?_
  exact kx _ _ _ _ _ Xc Xm (Gd_share K _ _) (Nat.le_trans (nr_share _ _) (by omega)) Gc Gm dj.sym
set_option maxHeartbeats 4000000 in
set_option maxRecDepth 100000 in
theorem law_holds {p_ : Program} {l : Launch} {e_ : Env} {s_ : State} {m_ : MethodId} {below_ : List Frame} {meth_ : Method} {code_ : Code} {Q_ : State → Prop} {E : EV} {b L : Nat} {xs : Nat → Int32} (S : CallFix p_ m_ code_ cL_law 4 s_ #[Value.ref b] wsL_law RL) (hX : va_X b L xs s_ s_.heap) (hbl : b < s_.heap.size) {i x m : Nat} {iv : Int32} (ei : iv = nI (6 * i)) (hi : 6 * i + 6 ≤ L) (hL : L ≤ 3072) {σ : ST} {wc wm : wo} (Xc : RcX E wc x σ) (Xm : RmX E wm m σ) (K : Gd σ) (hn : nr_of σ ≤ i) {H : Heap} {locs : List Loc} (Gc : wo_G E (fun q : Nat => s_.heap.size ≤ q) s_ wc H locs) (Gm : wo_G E (fun q : Nat => s_.heap.size ≤ q) s_ wm H locs) (dj : Dj wc wm) {ls : Array Slot} (hl : lv_has ls 4 [(0, .ref b), (1, .ref x), (2, .ref m), (3, .int iv)]) (kx : ∀ (σ2 : ST) (wc wm : wo) (H : Heap) (locs : List Loc), RcX E wc x σ2 → RmX E wm m σ2 → Gd σ2 → nr_of σ2 ≤ i + 1 → wo_G E (fun q : Nat => s_.heap.size ≤ q) s_ wc H locs → wo_G E (fun q : Nat => s_.heap.size ≤ q) s_ wm H locs → Dj wc wm → W p_ l e_ room_1 s_ m_ #[Value.ref b] below_ meth_ code_ H locs (20 + 2 * (i + 1)) (8000 + 14 * (i + 1)) Q_ (F0 m_ 989 ls [])) : W p_ l e_ room_1 s_ m_ #[Value.ref b] below_ meth_ code_ H locs (20 + 2 * i) (8000 + 14 * i) Q_ (F0 m_ 554 ls []) := by
  have hx := S.1
  have hb := S.2.1
  refine lv_aload_n hx hb dL_law_554 rfl (lv_at hl 1 rfl) ?_
  refine lv_aload_n hx hb dL_law_555 rfl (lv_at hl 0 rfl) ?_
  refine lv_iload_n hx hb dL_law_556 rfl (lv_at hl 3 rfl) ?_
  refine lv_iconst (v := 1) hx hb dL_law_557 (by decide) ?_
  refine lv_iadd hx hb dL_law_558 ?_
  refine lv_topi (fun a1 ea1 => ?_)
  have da1 : a1 = nI (6 * i + 1) := by rw [ea1, ei]; exact nI_add (6 * i) 1
  refine va_sld hx hb hX hbl (Nat.not_le.mpr hbl) Gc.2.2.2.1 (show vp_in a1 L by rw [da1]; exact vp_in_nI (by omega) (by omega)) dL_law_559 ?_
  rw [show Int32.toNatClampNeg a1 = 6 * i + 1 by rw [da1]; exact nI_clamp (by omega)]
  obtain ⟨fc, hfc⟩ := RcX_x Xc
  refine L_Vi (n := 1) (rest := []) S Gc Gm dj hl (C_holds l Xc K (xs (6 * i + 1))) gL_law_X4_holds rfl (by decide +kernel) hfc rfl rfl rfl (Nat.le_of_ble_eq_true rfl) ⟨Nat.le_of_ble_eq_true rfl, Nat.le_of_ble_eq_true rfl⟩ ⟨show 20 + 2 * i + 0 ≤ 600000 by omega, show 8000 + 14 * i + 0 ≤ 7302250 by omega⟩ dL_law_560 ?_
  clear Gc Gm dj; intro r1 wc H locs hp Gc Gm dj
  obtain ⟨hr1, Xc⟩ := hp
  refine lv_aload_n hx hb dL_law_563 rfl (lv_at hl 2 rfl) ?_
  refine lv_aload_n hx hb dL_law_564 rfl (lv_at hl 0 rfl) ?_
  refine lv_iload_n hx hb dL_law_565 rfl (lv_at hl 3 rfl) ?_
  refine lv_iconst (v := 1) hx hb dL_law_566 (by decide) ?_
  refine lv_iadd hx hb dL_law_567 ?_
  refine lv_topi (fun a2 ea2 => ?_)
  have da2 : a2 = nI (6 * i + 1) := by rw [ea2, ei]; exact nI_add (6 * i) 1
  refine va_sld hx hb hX hbl (Nat.not_le.mpr hbl) Gc.2.2.2.1 (show vp_in a2 L by rw [da2]; exact vp_in_nI (by omega) (by omega)) dL_law_568 ?_
  rw [show Int32.toNatClampNeg a2 = 6 * i + 1 by rw [da2]; exact nI_clamp (by omega)]
  obtain ⟨fm, hfm⟩ := RmX_m Xm
  refine L_Vi (n := 1) (rest := [.int r1]) S Gm Gc dj.sym hl (M_holds l Xm K (xs (6 * i + 1))) gL_law_X5_holds rfl (by decide +kernel) hfm rfl rfl rfl (Nat.le_of_ble_eq_true rfl) ⟨Nat.le_of_ble_eq_true rfl, Nat.le_of_ble_eq_true rfl⟩ ⟨show 20 + 2 * i + 0 + 0 ≤ 600000 by omega, show 8000 + 14 * i + 0 + 0 ≤ 7302250 by omega⟩ dL_law_569 ?_
  clear Gc Gm dj; intro r2 wm H locs hp Gm Gc dj
  obtain ⟨hr2, Xm⟩ := hp
  refine lv_icmp_eq (tgt := 989) hx hb dL_law_572 (by decide) (fun _ => ?_) (fun c => absurd (hr1.trans hr2.symm) c)
  refine W.widen (k := 20 + 2 * (i + 1)) (n := 8000 + 14 * (i + 1)) (by omega) (by omega) ?_
  exact kx _ _ _ _ _ Xc Xm K (by omega) Gc Gm dj.sym
set_option maxHeartbeats 4000000 in
set_option maxRecDepth 100000 in
theorem law_size {p_ : Program} {l : Launch} {e_ : Env} {s_ : State} {m_ : MethodId} {below_ : List Frame} {meth_ : Method} {code_ : Code} {Q_ : State → Prop} {E : EV} {b L : Nat} {xs : Nat → Int32} (S : CallFix p_ m_ code_ cL_law 4 s_ #[Value.ref b] wsL_law RL) (hX : va_X b L xs s_ s_.heap) (hbl : b < s_.heap.size) {i x m : Nat} {iv : Int32} (ei : iv = nI (6 * i)) (hi : 6 * i + 6 ≤ L) (hL : L ≤ 3072) {σ : ST} {wc wm : wo} (Xc : RcX E wc x σ) (Xm : RmX E wm m σ) (K : Gd σ) (hn : nr_of σ ≤ i) {H : Heap} {locs : List Loc} (Gc : wo_G E (fun q : Nat => s_.heap.size ≤ q) s_ wc H locs) (Gm : wo_G E (fun q : Nat => s_.heap.size ≤ q) s_ wm H locs) (dj : Dj wc wm) {ls : Array Slot} (hl : lv_has ls 4 [(0, .ref b), (1, .ref x), (2, .ref m), (3, .int iv)]) (kx : ∀ (σ2 : ST) (wc wm : wo) (H : Heap) (locs : List Loc), RcX E wc x σ2 → RmX E wm m σ2 → Gd σ2 → nr_of σ2 ≤ i + 1 → wo_G E (fun q : Nat => s_.heap.size ≤ q) s_ wc H locs → wo_G E (fun q : Nat => s_.heap.size ≤ q) s_ wm H locs → Dj wc wm → W p_ l e_ room_1 s_ m_ #[Value.ref b] below_ meth_ code_ H locs (20 + 2 * (i + 1)) (8000 + 14 * (i + 1)) Q_ (F0 m_ 989 ls [])) : W p_ l e_ room_1 s_ m_ #[Value.ref b] below_ meth_ code_ H locs (20 + 2 * i) (8000 + 14 * i) Q_ (F0 m_ 577 ls []) := by
  have hx := S.1
  have hb := S.2.1
  refine lv_aload_n hx hb dL_law_577 rfl (lv_at hl 1 rfl) ?_
  refine lv_aload_n hx hb dL_law_578 rfl (lv_at hl 0 rfl) ?_
  refine lv_iload_n hx hb dL_law_579 rfl (lv_at hl 3 rfl) ?_
  refine lv_iconst (v := 1) hx hb dL_law_580 (by decide) ?_
  refine lv_iadd hx hb dL_law_581 ?_
  refine lv_topi (fun a1 ea1 => ?_)
  have da1 : a1 = nI (6 * i + 1) := by rw [ea1, ei]; exact nI_add (6 * i) 1
  refine va_sld hx hb hX hbl (Nat.not_le.mpr hbl) Gc.2.2.2.1 (show vp_in a1 L by rw [da1]; exact vp_in_nI (by omega) (by omega)) dL_law_582 ?_
  rw [show Int32.toNatClampNeg a1 = 6 * i + 1 by rw [da1]; exact nI_clamp (by omega)]
  obtain ⟨fc, hfc⟩ := RcX_x Xc
  refine L_Vi (n := 1) (rest := []) S Gc Gm dj hl (C_size l Xc K (xs (6 * i + 1))) gL_law_X4_size rfl (by decide +kernel) hfc rfl rfl rfl (Nat.le_of_ble_eq_true rfl) ⟨Nat.le_of_ble_eq_true rfl, Nat.le_of_ble_eq_true rfl⟩ ⟨show 20 + 2 * i + 0 ≤ 600000 by omega, show 8000 + 14 * i + 0 ≤ 7302250 by omega⟩ dL_law_583 ?_
  clear Gc Gm dj; intro r1 wc H locs hp Gc Gm dj
  obtain ⟨hr1, Xc⟩ := hp
  refine lv_aload_n hx hb dL_law_586 rfl (lv_at hl 2 rfl) ?_
  refine lv_aload_n hx hb dL_law_587 rfl (lv_at hl 0 rfl) ?_
  refine lv_iload_n hx hb dL_law_588 rfl (lv_at hl 3 rfl) ?_
  refine lv_iconst (v := 1) hx hb dL_law_589 (by decide) ?_
  refine lv_iadd hx hb dL_law_590 ?_
  refine lv_topi (fun a2 ea2 => ?_)
  have da2 : a2 = nI (6 * i + 1) := by rw [ea2, ei]; exact nI_add (6 * i) 1
  refine va_sld hx hb hX hbl (Nat.not_le.mpr hbl) Gc.2.2.2.1 (show vp_in a2 L by rw [da2]; exact vp_in_nI (by omega) (by omega)) dL_law_591 ?_
  rw [show Int32.toNatClampNeg a2 = 6 * i + 1 by rw [da2]; exact nI_clamp (by omega)]
  obtain ⟨fm, hfm⟩ := RmX_m Xm
  refine L_Vi (n := 1) (rest := [.int r1]) S Gm Gc dj.sym hl (M_size l Xm K (xs (6 * i + 1))) gL_law_X5_size rfl (by decide +kernel) hfm rfl rfl rfl (Nat.le_of_ble_eq_true rfl) ⟨Nat.le_of_ble_eq_true rfl, Nat.le_of_ble_eq_true rfl⟩ ⟨show 20 + 2 * i + 0 + 0 ≤ 600000 by omega, show 8000 + 14 * i + 0 + 0 ≤ 7302250 by omega⟩ dL_law_592 ?_
  clear Gc Gm dj; intro r2 wm H locs hp Gm Gc dj
  obtain ⟨hr2, Xm⟩ := hp
  refine lv_icmp_eq (tgt := 989) hx hb dL_law_595 (by decide) (fun _ => ?_) (fun c => absurd (hr1.trans hr2.symm) c)
  refine W.widen (k := 20 + 2 * (i + 1)) (n := 8000 + 14 * (i + 1)) (by omega) (by omega) ?_
  exact kx _ _ _ _ _ Xc Xm (Gd_size K _) (Nat.le_trans (nr_size _) (by omega)) Gc Gm dj.sym
set_option maxHeartbeats 4000000 in
set_option maxRecDepth 100000 in
theorem law_at {p_ : Program} {l : Launch} {e_ : Env} {s_ : State} {m_ : MethodId} {below_ : List Frame} {meth_ : Method} {code_ : Code} {Q_ : State → Prop} {E : EV} {b L : Nat} {xs : Nat → Int32} (S : CallFix p_ m_ code_ cL_law 4 s_ #[Value.ref b] wsL_law RL) (hX : va_X b L xs s_ s_.heap) (hbl : b < s_.heap.size) {i x m : Nat} {iv : Int32} (ei : iv = nI (6 * i)) (hi : 6 * i + 6 ≤ L) (hL : L ≤ 3072) {σ : ST} {wc wm : wo} (Xc : RcX E wc x σ) (Xm : RmX E wm m σ) (K : Gd σ) (hn : nr_of σ ≤ i) {H : Heap} {locs : List Loc} (Gc : wo_G E (fun q : Nat => s_.heap.size ≤ q) s_ wc H locs) (Gm : wo_G E (fun q : Nat => s_.heap.size ≤ q) s_ wm H locs) (dj : Dj wc wm) {ls : Array Slot} (hl : lv_has ls 4 [(0, .ref b), (1, .ref x), (2, .ref m), (3, .int iv)]) (kx : ∀ (σ2 : ST) (wc wm : wo) (H : Heap) (locs : List Loc), RcX E wc x σ2 → RmX E wm m σ2 → Gd σ2 → nr_of σ2 ≤ i + 1 → wo_G E (fun q : Nat => s_.heap.size ≤ q) s_ wc H locs → wo_G E (fun q : Nat => s_.heap.size ≤ q) s_ wm H locs → Dj wc wm → W p_ l e_ room_1 s_ m_ #[Value.ref b] below_ meth_ code_ H locs (20 + 2 * (i + 1)) (8000 + 14 * (i + 1)) Q_ (F0 m_ 989 ls [])) : W p_ l e_ room_1 s_ m_ #[Value.ref b] below_ meth_ code_ H locs (20 + 2 * i) (8000 + 14 * i) Q_ (F0 m_ 600 ls []) := by
  have hx := S.1
  have hb := S.2.1
  refine lv_aload_n hx hb dL_law_600 rfl (lv_at hl 1 rfl) ?_
  refine lv_aload_n hx hb dL_law_601 rfl (lv_at hl 0 rfl) ?_
  refine lv_iload_n hx hb dL_law_602 rfl (lv_at hl 3 rfl) ?_
  refine lv_iconst (v := 1) hx hb dL_law_603 (by decide) ?_
  refine lv_iadd hx hb dL_law_604 ?_
  refine lv_topi (fun a1 ea1 => ?_)
  have da1 : a1 = nI (6 * i + 1) := by rw [ea1, ei]; exact nI_add (6 * i) 1
  refine va_sld hx hb hX hbl (Nat.not_le.mpr hbl) Gc.2.2.2.1 (show vp_in a1 L by rw [da1]; exact vp_in_nI (by omega) (by omega)) dL_law_605 ?_
  rw [show Int32.toNatClampNeg a1 = 6 * i + 1 by rw [da1]; exact nI_clamp (by omega)]
  refine lv_aload_n hx hb dL_law_606 rfl (lv_at hl 0 rfl) ?_
  refine lv_iload_n hx hb dL_law_607 rfl (lv_at hl 3 rfl) ?_
  refine lv_iconst (v := 2) hx hb dL_law_608 (by decide) ?_
  refine lv_iadd hx hb dL_law_609 ?_
  refine lv_topi (fun a2 ea2 => ?_)
  have da2 : a2 = nI (6 * i + 2) := by rw [ea2, ei]; exact nI_add (6 * i) 2
  refine va_sld hx hb hX hbl (Nat.not_le.mpr hbl) Gc.2.2.2.1 (show vp_in a2 L by rw [da2]; exact vp_in_nI (by omega) (by omega)) dL_law_610 ?_
  rw [show Int32.toNatClampNeg a2 = 6 * i + 2 by rw [da2]; exact nI_clamp (by omega)]
  obtain ⟨fc, hfc⟩ := RcX_x Xc
  refine L_Vl (n := 2) (rest := []) S Gc Gm dj hl (C_at l Xc K (xs (6 * i + 1)) (xs (6 * i + 2))) gL_law_X4_at rfl (by decide +kernel) hfc rfl rfl rfl (Nat.le_of_ble_eq_true rfl) ⟨Nat.le_of_ble_eq_true rfl, Nat.le_of_ble_eq_true rfl⟩ ⟨show 20 + 2 * i + 0 ≤ 600000 by omega, show 8000 + 14 * i + 0 ≤ 7302250 by omega⟩ dL_law_611 ?_
  clear Gc Gm dj; intro r1 wc H locs hp Gc Gm dj
  obtain ⟨hr1, Xc⟩ := hp
  refine lv_aload_n hx hb dL_law_614 rfl (lv_at hl 2 rfl) ?_
  refine lv_aload_n hx hb dL_law_615 rfl (lv_at hl 0 rfl) ?_
  refine lv_iload_n hx hb dL_law_616 rfl (lv_at hl 3 rfl) ?_
  refine lv_iconst (v := 1) hx hb dL_law_617 (by decide) ?_
  refine lv_iadd hx hb dL_law_618 ?_
  refine lv_topi (fun a3 ea3 => ?_)
  have da3 : a3 = nI (6 * i + 1) := by rw [ea3, ei]; exact nI_add (6 * i) 1
  refine va_sld hx hb hX hbl (Nat.not_le.mpr hbl) Gc.2.2.2.1 (show vp_in a3 L by rw [da3]; exact vp_in_nI (by omega) (by omega)) dL_law_619 ?_
  rw [show Int32.toNatClampNeg a3 = 6 * i + 1 by rw [da3]; exact nI_clamp (by omega)]
  refine lv_aload_n hx hb dL_law_620 rfl (lv_at hl 0 rfl) ?_
  refine lv_iload_n hx hb dL_law_621 rfl (lv_at hl 3 rfl) ?_
  refine lv_iconst (v := 2) hx hb dL_law_622 (by decide) ?_
  refine lv_iadd hx hb dL_law_623 ?_
  refine lv_topi (fun a4 ea4 => ?_)
  have da4 : a4 = nI (6 * i + 2) := by rw [ea4, ei]; exact nI_add (6 * i) 2
  refine va_sld hx hb hX hbl (Nat.not_le.mpr hbl) Gc.2.2.2.1 (show vp_in a4 L by rw [da4]; exact vp_in_nI (by omega) (by omega)) dL_law_624 ?_
  rw [show Int32.toNatClampNeg a4 = 6 * i + 2 by rw [da4]; exact nI_clamp (by omega)]
  obtain ⟨fm, hfm⟩ := RmX_m Xm
  refine L_Vl (n := 2) (rest := [.long r1]) S Gm Gc dj.sym hl (M_at l Xm K (xs (6 * i + 1)) (xs (6 * i + 2))) gL_law_X5_at rfl (by decide +kernel) hfm rfl rfl rfl (Nat.le_of_ble_eq_true rfl) ⟨Nat.le_of_ble_eq_true rfl, Nat.le_of_ble_eq_true rfl⟩ ⟨show 20 + 2 * i + 0 + 0 ≤ 600000 by omega, show 8000 + 14 * i + 0 + 0 ≤ 7302250 by omega⟩ dL_law_625 ?_
  clear Gc Gm dj; intro r2 wm H locs hp Gm Gc dj
  obtain ⟨hr2, Xm⟩ := hp
  refine W.lcmp hx hb dL_law_628 ?_
  refine lv_if_eq (tgt := 989) hx hb dL_law_629 (by decide) (fun _ => ?_) (fun c => absurd ((lg_cmp_eq _ _).mpr (hr1.trans hr2.symm)) c)
  refine W.widen (k := 20 + 2 * (i + 1)) (n := 8000 + 14 * (i + 1)) (by omega) (by omega) ?_
  exact kx _ _ _ _ _ Xc Xm (Gd_at K _ _) (Nat.le_trans (nr_at _ _) (by omega)) Gc Gm dj.sym
set_option maxHeartbeats 4000000 in
set_option maxRecDepth 100000 in
theorem law_lay {p_ : Program} {l : Launch} {e_ : Env} {s_ : State} {m_ : MethodId} {below_ : List Frame} {meth_ : Method} {code_ : Code} {Q_ : State → Prop} {E : EV} {b L : Nat} {xs : Nat → Int32} (S : CallFix p_ m_ code_ cL_law 4 s_ #[Value.ref b] wsL_law RL) (hX : va_X b L xs s_ s_.heap) (hbl : b < s_.heap.size) {i x m : Nat} {iv : Int32} (ei : iv = nI (6 * i)) (hi : 6 * i + 6 ≤ L) (hL : L ≤ 3072) {σ : ST} {wc wm : wo} (Xc : RcX E wc x σ) (Xm : RmX E wm m σ) (K : Gd σ) (hn : nr_of σ ≤ i) {H : Heap} {locs : List Loc} (Gc : wo_G E (fun q : Nat => s_.heap.size ≤ q) s_ wc H locs) (Gm : wo_G E (fun q : Nat => s_.heap.size ≤ q) s_ wm H locs) (dj : Dj wc wm) {ls : Array Slot} (hl : lv_has ls 4 [(0, .ref b), (1, .ref x), (2, .ref m), (3, .int iv)]) (kx : ∀ (σ2 : ST) (wc wm : wo) (H : Heap) (locs : List Loc), RcX E wc x σ2 → RmX E wm m σ2 → Gd σ2 → nr_of σ2 ≤ i + 1 → wo_G E (fun q : Nat => s_.heap.size ≤ q) s_ wc H locs → wo_G E (fun q : Nat => s_.heap.size ≤ q) s_ wm H locs → Dj wc wm → W p_ l e_ room_1 s_ m_ #[Value.ref b] below_ meth_ code_ H locs (20 + 2 * (i + 1)) (8000 + 14 * (i + 1)) Q_ (F0 m_ 989 ls [])) : W p_ l e_ room_1 s_ m_ #[Value.ref b] below_ meth_ code_ H locs (20 + 2 * i) (8000 + 14 * i) Q_ (F0 m_ 634 ls []) := by
  have hx := S.1
  have hb := S.2.1
  refine lv_aload_n hx hb dL_law_634 rfl (lv_at hl 1 rfl) ?_
  refine lv_aload_n hx hb dL_law_635 rfl (lv_at hl 0 rfl) ?_
  refine lv_iload_n hx hb dL_law_636 rfl (lv_at hl 3 rfl) ?_
  refine lv_iconst (v := 1) hx hb dL_law_637 (by decide) ?_
  refine lv_iadd hx hb dL_law_638 ?_
  refine lv_topi (fun a1 ea1 => ?_)
  have da1 : a1 = nI (6 * i + 1) := by rw [ea1, ei]; exact nI_add (6 * i) 1
  refine va_sld hx hb hX hbl (Nat.not_le.mpr hbl) Gc.2.2.2.1 (show vp_in a1 L by rw [da1]; exact vp_in_nI (by omega) (by omega)) dL_law_639 ?_
  rw [show Int32.toNatClampNeg a1 = 6 * i + 1 by rw [da1]; exact nI_clamp (by omega)]
  refine lv_aload_n hx hb dL_law_640 rfl (lv_at hl 0 rfl) ?_
  refine lv_iload_n hx hb dL_law_641 rfl (lv_at hl 3 rfl) ?_
  refine lv_iconst (v := 2) hx hb dL_law_642 (by decide) ?_
  refine lv_iadd hx hb dL_law_643 ?_
  refine lv_topi (fun a2 ea2 => ?_)
  have da2 : a2 = nI (6 * i + 2) := by rw [ea2, ei]; exact nI_add (6 * i) 2
  refine va_sld hx hb hX hbl (Nat.not_le.mpr hbl) Gc.2.2.2.1 (show vp_in a2 L by rw [da2]; exact vp_in_nI (by omega) (by omega)) dL_law_644 ?_
  rw [show Int32.toNatClampNeg a2 = 6 * i + 2 by rw [da2]; exact nI_clamp (by omega)]
  refine lv_aload_n hx hb dL_law_645 rfl (lv_at hl 0 rfl) ?_
  refine lv_iload_n hx hb dL_law_646 rfl (lv_at hl 3 rfl) ?_
  refine lv_iconst (v := 3) hx hb dL_law_647 (by decide) ?_
  refine lv_iadd hx hb dL_law_648 ?_
  refine lv_topi (fun a3 ea3 => ?_)
  have da3 : a3 = nI (6 * i + 3) := by rw [ea3, ei]; exact nI_add (6 * i) 3
  refine va_sld hx hb hX hbl (Nat.not_le.mpr hbl) Gc.2.2.2.1 (show vp_in a3 L by rw [da3]; exact vp_in_nI (by omega) (by omega)) dL_law_649 ?_
  rw [show Int32.toNatClampNeg a3 = 6 * i + 3 by rw [da3]; exact nI_clamp (by omega)]
  refine lv_i2l (v := (Int32.toInt64 (xs (6 * i + 3)))) hx hb dL_law_650 rfl ?_
  refine lv_bipush (v := 32) hx hb dL_law_651 (by decide) ?_
  refine lv_lshl hx hb dL_law_653 rfl ?_
  refine lv_topl (fun a4 ea4 => ?_)
  subst ea4
  refine lv_aload_n hx hb dL_law_654 rfl (lv_at hl 0 rfl) ?_
  refine lv_iload_n hx hb dL_law_655 rfl (lv_at hl 3 rfl) ?_
  refine lv_iconst (v := 4) hx hb dL_law_656 (by decide) ?_
  refine lv_iadd hx hb dL_law_657 ?_
  refine lv_topi (fun a5 ea5 => ?_)
  have da5 : a5 = nI (6 * i + 4) := by rw [ea5, ei]; exact nI_add (6 * i) 4
  refine va_sld hx hb hX hbl (Nat.not_le.mpr hbl) Gc.2.2.2.1 (show vp_in a5 L by rw [da5]; exact vp_in_nI (by omega) (by omega)) dL_law_658 ?_
  rw [show Int32.toNatClampNeg a5 = 6 * i + 4 by rw [da5]; exact nI_clamp (by omega)]
  refine lv_i2l (v := (Int32.toInt64 (xs (6 * i + 4)))) hx hb dL_law_659 rfl ?_
  refine lv_ldc2 hx hb S.2.2.2.1 (S.2.2.2.2 (.constantLong RL 94 (4294967295)) (by decide +kernel)) dL_law_660 ?_
  refine lv_land hx hb dL_law_663 ?_
  refine lv_topl (fun a6 ea6 => ?_)
  subst ea6
  refine lv_lor hx hb dL_law_664 ?_
  refine lv_topl (fun a7 ea7 => ?_)
  subst ea7
  obtain ⟨fc, hfc⟩ := RcX_x Xc
  refine L_Vl (n := 3) (rest := []) S Gc Gm dj hl (C_lay l Xc K (xs (6 * i + 1)) (xs (6 * i + 2)) _) gL_law_X4_lay rfl (by decide +kernel) hfc rfl rfl rfl (Nat.le_of_ble_eq_true rfl) ⟨Nat.le_of_ble_eq_true rfl, Nat.le_of_ble_eq_true rfl⟩ ⟨show 20 + 2 * i + 0 ≤ 600000 by omega, show 8000 + 14 * i + 0 ≤ 7302250 by omega⟩ dL_law_665 ?_
  clear Gc Gm dj; intro r1 wc H locs hp Gc Gm dj
  obtain ⟨hr1, Xc⟩ := hp
  refine lv_aload_n hx hb dL_law_668 rfl (lv_at hl 2 rfl) ?_
  refine lv_aload_n hx hb dL_law_669 rfl (lv_at hl 0 rfl) ?_
  refine lv_iload_n hx hb dL_law_670 rfl (lv_at hl 3 rfl) ?_
  refine lv_iconst (v := 1) hx hb dL_law_671 (by decide) ?_
  refine lv_iadd hx hb dL_law_672 ?_
  refine lv_topi (fun a8 ea8 => ?_)
  have da8 : a8 = nI (6 * i + 1) := by rw [ea8, ei]; exact nI_add (6 * i) 1
  refine va_sld hx hb hX hbl (Nat.not_le.mpr hbl) Gc.2.2.2.1 (show vp_in a8 L by rw [da8]; exact vp_in_nI (by omega) (by omega)) dL_law_673 ?_
  rw [show Int32.toNatClampNeg a8 = 6 * i + 1 by rw [da8]; exact nI_clamp (by omega)]
  refine lv_aload_n hx hb dL_law_674 rfl (lv_at hl 0 rfl) ?_
  refine lv_iload_n hx hb dL_law_675 rfl (lv_at hl 3 rfl) ?_
  refine lv_iconst (v := 2) hx hb dL_law_676 (by decide) ?_
  refine lv_iadd hx hb dL_law_677 ?_
  refine lv_topi (fun a9 ea9 => ?_)
  have da9 : a9 = nI (6 * i + 2) := by rw [ea9, ei]; exact nI_add (6 * i) 2
  refine va_sld hx hb hX hbl (Nat.not_le.mpr hbl) Gc.2.2.2.1 (show vp_in a9 L by rw [da9]; exact vp_in_nI (by omega) (by omega)) dL_law_678 ?_
  rw [show Int32.toNatClampNeg a9 = 6 * i + 2 by rw [da9]; exact nI_clamp (by omega)]
  refine lv_aload_n hx hb dL_law_679 rfl (lv_at hl 0 rfl) ?_
  refine lv_iload_n hx hb dL_law_680 rfl (lv_at hl 3 rfl) ?_
  refine lv_iconst (v := 3) hx hb dL_law_681 (by decide) ?_
  refine lv_iadd hx hb dL_law_682 ?_
  refine lv_topi (fun a10 ea10 => ?_)
  have da10 : a10 = nI (6 * i + 3) := by rw [ea10, ei]; exact nI_add (6 * i) 3
  refine va_sld hx hb hX hbl (Nat.not_le.mpr hbl) Gc.2.2.2.1 (show vp_in a10 L by rw [da10]; exact vp_in_nI (by omega) (by omega)) dL_law_683 ?_
  rw [show Int32.toNatClampNeg a10 = 6 * i + 3 by rw [da10]; exact nI_clamp (by omega)]
  refine lv_i2l (v := (Int32.toInt64 (xs (6 * i + 3)))) hx hb dL_law_684 rfl ?_
  refine lv_bipush (v := 32) hx hb dL_law_685 (by decide) ?_
  refine lv_lshl hx hb dL_law_687 rfl ?_
  refine lv_topl (fun a11 ea11 => ?_)
  subst ea11
  refine lv_aload_n hx hb dL_law_688 rfl (lv_at hl 0 rfl) ?_
  refine lv_iload_n hx hb dL_law_689 rfl (lv_at hl 3 rfl) ?_
  refine lv_iconst (v := 4) hx hb dL_law_690 (by decide) ?_
  refine lv_iadd hx hb dL_law_691 ?_
  refine lv_topi (fun a12 ea12 => ?_)
  have da12 : a12 = nI (6 * i + 4) := by rw [ea12, ei]; exact nI_add (6 * i) 4
  refine va_sld hx hb hX hbl (Nat.not_le.mpr hbl) Gc.2.2.2.1 (show vp_in a12 L by rw [da12]; exact vp_in_nI (by omega) (by omega)) dL_law_692 ?_
  rw [show Int32.toNatClampNeg a12 = 6 * i + 4 by rw [da12]; exact nI_clamp (by omega)]
  refine lv_i2l (v := (Int32.toInt64 (xs (6 * i + 4)))) hx hb dL_law_693 rfl ?_
  refine lv_ldc2 hx hb S.2.2.2.1 (S.2.2.2.2 (.constantLong RL 94 (4294967295)) (by decide +kernel)) dL_law_694 ?_
  refine lv_land hx hb dL_law_697 ?_
  refine lv_topl (fun a13 ea13 => ?_)
  subst ea13
  refine lv_lor hx hb dL_law_698 ?_
  refine lv_topl (fun a14 ea14 => ?_)
  subst ea14
  obtain ⟨fm, hfm⟩ := RmX_m Xm
  refine L_Vl (n := 3) (rest := [.long r1]) S Gm Gc dj.sym hl (M_lay l Xm K (xs (6 * i + 1)) (xs (6 * i + 2)) _) gL_law_X5_lay rfl (by decide +kernel) hfm rfl rfl rfl (Nat.le_of_ble_eq_true rfl) ⟨Nat.le_of_ble_eq_true rfl, Nat.le_of_ble_eq_true rfl⟩ ⟨show 20 + 2 * i + 0 + 0 ≤ 600000 by omega, show 8000 + 14 * i + 0 + 0 ≤ 7302250 by omega⟩ dL_law_699 ?_
  clear Gc Gm dj; intro r2 wm H locs hp Gm Gc dj
  obtain ⟨hr2, Xm⟩ := hp
  refine W.lcmp hx hb dL_law_702 ?_
  refine lv_if_eq (tgt := 989) hx hb dL_law_703 (by decide) (fun _ => ?_) (fun c => absurd ((lg_cmp_eq _ _).mpr (hr1.trans hr2.symm)) c)
  refine W.widen (k := 20 + 2 * (i + 1)) (n := 8000 + 14 * (i + 1)) (by omega) (by omega) ?_
  exact kx _ _ _ _ _ Xc Xm (Gd_lay K _ _ _) (Nat.le_trans (nr_lay _ _ _) (by omega)) Gc Gm dj.sym
set_option maxHeartbeats 4000000 in
set_option maxRecDepth 100000 in
theorem law_set {p_ : Program} {l : Launch} {e_ : Env} {s_ : State} {m_ : MethodId} {below_ : List Frame} {meth_ : Method} {code_ : Code} {Q_ : State → Prop} {E : EV} {b L : Nat} {xs : Nat → Int32} (S : CallFix p_ m_ code_ cL_law 4 s_ #[Value.ref b] wsL_law RL) (hX : va_X b L xs s_ s_.heap) (hbl : b < s_.heap.size) {i x m : Nat} {iv : Int32} (ei : iv = nI (6 * i)) (hi : 6 * i + 6 ≤ L) (hL : L ≤ 3072) {σ : ST} {wc wm : wo} (Xc : RcX E wc x σ) (Xm : RmX E wm m σ) (K : Gd σ) (hn : nr_of σ ≤ i) {H : Heap} {locs : List Loc} (Gc : wo_G E (fun q : Nat => s_.heap.size ≤ q) s_ wc H locs) (Gm : wo_G E (fun q : Nat => s_.heap.size ≤ q) s_ wm H locs) (dj : Dj wc wm) {ls : Array Slot} (hl : lv_has ls 4 [(0, .ref b), (1, .ref x), (2, .ref m), (3, .int iv)]) (kx : ∀ (σ2 : ST) (wc wm : wo) (H : Heap) (locs : List Loc), RcX E wc x σ2 → RmX E wm m σ2 → Gd σ2 → nr_of σ2 ≤ i + 1 → wo_G E (fun q : Nat => s_.heap.size ≤ q) s_ wc H locs → wo_G E (fun q : Nat => s_.heap.size ≤ q) s_ wm H locs → Dj wc wm → W p_ l e_ room_1 s_ m_ #[Value.ref b] below_ meth_ code_ H locs (20 + 2 * (i + 1)) (8000 + 14 * (i + 1)) Q_ (F0 m_ 989 ls [])) : W p_ l e_ room_1 s_ m_ #[Value.ref b] below_ meth_ code_ H locs (20 + 2 * i) (8000 + 14 * i) Q_ (F0 m_ 708 ls []) := by
  have hx := S.1
  have hb := S.2.1
  refine lv_aload_n hx hb dL_law_708 rfl (lv_at hl 1 rfl) ?_
  refine lv_aload_n hx hb dL_law_709 rfl (lv_at hl 0 rfl) ?_
  refine lv_iload_n hx hb dL_law_710 rfl (lv_at hl 3 rfl) ?_
  refine lv_iconst (v := 1) hx hb dL_law_711 (by decide) ?_
  refine lv_iadd hx hb dL_law_712 ?_
  refine lv_topi (fun a1 ea1 => ?_)
  have da1 : a1 = nI (6 * i + 1) := by rw [ea1, ei]; exact nI_add (6 * i) 1
  refine va_sld hx hb hX hbl (Nat.not_le.mpr hbl) Gc.2.2.2.1 (show vp_in a1 L by rw [da1]; exact vp_in_nI (by omega) (by omega)) dL_law_713 ?_
  rw [show Int32.toNatClampNeg a1 = 6 * i + 1 by rw [da1]; exact nI_clamp (by omega)]
  refine lv_aload_n hx hb dL_law_714 rfl (lv_at hl 0 rfl) ?_
  refine lv_iload_n hx hb dL_law_715 rfl (lv_at hl 3 rfl) ?_
  refine lv_iconst (v := 2) hx hb dL_law_716 (by decide) ?_
  refine lv_iadd hx hb dL_law_717 ?_
  refine lv_topi (fun a2 ea2 => ?_)
  have da2 : a2 = nI (6 * i + 2) := by rw [ea2, ei]; exact nI_add (6 * i) 2
  refine va_sld hx hb hX hbl (Nat.not_le.mpr hbl) Gc.2.2.2.1 (show vp_in a2 L by rw [da2]; exact vp_in_nI (by omega) (by omega)) dL_law_718 ?_
  rw [show Int32.toNatClampNeg a2 = 6 * i + 2 by rw [da2]; exact nI_clamp (by omega)]
  refine lv_aload_n hx hb dL_law_719 rfl (lv_at hl 0 rfl) ?_
  refine lv_iload_n hx hb dL_law_720 rfl (lv_at hl 3 rfl) ?_
  refine lv_iconst (v := 3) hx hb dL_law_721 (by decide) ?_
  refine lv_iadd hx hb dL_law_722 ?_
  refine lv_topi (fun a3 ea3 => ?_)
  have da3 : a3 = nI (6 * i + 3) := by rw [ea3, ei]; exact nI_add (6 * i) 3
  refine va_sld hx hb hX hbl (Nat.not_le.mpr hbl) Gc.2.2.2.1 (show vp_in a3 L by rw [da3]; exact vp_in_nI (by omega) (by omega)) dL_law_723 ?_
  rw [show Int32.toNatClampNeg a3 = 6 * i + 3 by rw [da3]; exact nI_clamp (by omega)]
  obtain ⟨fc, hfc⟩ := RcX_x Xc
  refine L_Vi (n := 3) (rest := []) S Gc Gm dj hl (C_set l Xc K (xs (6 * i + 1)) (xs (6 * i + 2)) (xs (6 * i + 3))) gL_law_X4_set rfl (by decide +kernel) hfc rfl rfl rfl (Nat.le_of_ble_eq_true rfl) ⟨Nat.le_of_ble_eq_true rfl, Nat.le_of_ble_eq_true rfl⟩ ⟨show 20 + 2 * i + 0 ≤ 600000 by omega, show 8000 + 14 * i + 0 ≤ 7302250 by omega⟩ dL_law_724 ?_
  clear Gc Gm dj; intro r1 wc H locs hp Gc Gm dj
  obtain ⟨hr1, Xc⟩ := hp
  refine lv_aload_n hx hb dL_law_727 rfl (lv_at hl 2 rfl) ?_
  refine lv_aload_n hx hb dL_law_728 rfl (lv_at hl 0 rfl) ?_
  refine lv_iload_n hx hb dL_law_729 rfl (lv_at hl 3 rfl) ?_
  refine lv_iconst (v := 1) hx hb dL_law_730 (by decide) ?_
  refine lv_iadd hx hb dL_law_731 ?_
  refine lv_topi (fun a4 ea4 => ?_)
  have da4 : a4 = nI (6 * i + 1) := by rw [ea4, ei]; exact nI_add (6 * i) 1
  refine va_sld hx hb hX hbl (Nat.not_le.mpr hbl) Gc.2.2.2.1 (show vp_in a4 L by rw [da4]; exact vp_in_nI (by omega) (by omega)) dL_law_732 ?_
  rw [show Int32.toNatClampNeg a4 = 6 * i + 1 by rw [da4]; exact nI_clamp (by omega)]
  refine lv_aload_n hx hb dL_law_733 rfl (lv_at hl 0 rfl) ?_
  refine lv_iload_n hx hb dL_law_734 rfl (lv_at hl 3 rfl) ?_
  refine lv_iconst (v := 2) hx hb dL_law_735 (by decide) ?_
  refine lv_iadd hx hb dL_law_736 ?_
  refine lv_topi (fun a5 ea5 => ?_)
  have da5 : a5 = nI (6 * i + 2) := by rw [ea5, ei]; exact nI_add (6 * i) 2
  refine va_sld hx hb hX hbl (Nat.not_le.mpr hbl) Gc.2.2.2.1 (show vp_in a5 L by rw [da5]; exact vp_in_nI (by omega) (by omega)) dL_law_737 ?_
  rw [show Int32.toNatClampNeg a5 = 6 * i + 2 by rw [da5]; exact nI_clamp (by omega)]
  refine lv_aload_n hx hb dL_law_738 rfl (lv_at hl 0 rfl) ?_
  refine lv_iload_n hx hb dL_law_739 rfl (lv_at hl 3 rfl) ?_
  refine lv_iconst (v := 3) hx hb dL_law_740 (by decide) ?_
  refine lv_iadd hx hb dL_law_741 ?_
  refine lv_topi (fun a6 ea6 => ?_)
  have da6 : a6 = nI (6 * i + 3) := by rw [ea6, ei]; exact nI_add (6 * i) 3
  refine va_sld hx hb hX hbl (Nat.not_le.mpr hbl) Gc.2.2.2.1 (show vp_in a6 L by rw [da6]; exact vp_in_nI (by omega) (by omega)) dL_law_742 ?_
  rw [show Int32.toNatClampNeg a6 = 6 * i + 3 by rw [da6]; exact nI_clamp (by omega)]
  obtain ⟨fm, hfm⟩ := RmX_m Xm
  refine L_Vi (n := 3) (rest := [.int r1]) S Gm Gc dj.sym hl (M_set l Xm K (xs (6 * i + 1)) (xs (6 * i + 2)) (xs (6 * i + 3))) gL_law_X5_set rfl (by decide +kernel) hfm rfl rfl rfl (Nat.le_of_ble_eq_true rfl) ⟨Nat.le_of_ble_eq_true rfl, Nat.le_of_ble_eq_true rfl⟩ ⟨show 20 + 2 * i + 0 + 0 ≤ 600000 by omega, show 8000 + 14 * i + 0 + 0 ≤ 7302250 by omega⟩ dL_law_743 ?_
  clear Gc Gm dj; intro r2 wm H locs hp Gm Gc dj
  obtain ⟨hr2, Xm⟩ := hp
  refine lv_icmp_eq (tgt := 989) hx hb dL_law_746 (by decide) (fun _ => ?_) (fun c => absurd (hr1.trans hr2.symm) c)
  refine W.widen (k := 20 + 2 * (i + 1)) (n := 8000 + 14 * (i + 1)) (by omega) (by omega) ?_
  exact kx _ _ _ _ _ Xc Xm (Gd_set K _ _ _) (Nat.le_trans (nr_set _ _ _) (by omega)) Gc Gm dj.sym
set_option maxHeartbeats 4000000 in
set_option maxRecDepth 100000 in
theorem law_move {p_ : Program} {l : Launch} {e_ : Env} {s_ : State} {m_ : MethodId} {below_ : List Frame} {meth_ : Method} {code_ : Code} {Q_ : State → Prop} {E : EV} {b L : Nat} {xs : Nat → Int32} (S : CallFix p_ m_ code_ cL_law 4 s_ #[Value.ref b] wsL_law RL) (hX : va_X b L xs s_ s_.heap) (hbl : b < s_.heap.size) {i x m : Nat} {iv : Int32} (ei : iv = nI (6 * i)) (hi : 6 * i + 6 ≤ L) (hL : L ≤ 3072) {σ : ST} {wc wm : wo} (Xc : RcX E wc x σ) (Xm : RmX E wm m σ) (K : Gd σ) (hn : nr_of σ ≤ i) {H : Heap} {locs : List Loc} (Gc : wo_G E (fun q : Nat => s_.heap.size ≤ q) s_ wc H locs) (Gm : wo_G E (fun q : Nat => s_.heap.size ≤ q) s_ wm H locs) (dj : Dj wc wm) {ls : Array Slot} (hl : lv_has ls 4 [(0, .ref b), (1, .ref x), (2, .ref m), (3, .int iv)]) (kx : ∀ (σ2 : ST) (wc wm : wo) (H : Heap) (locs : List Loc), RcX E wc x σ2 → RmX E wm m σ2 → Gd σ2 → nr_of σ2 ≤ i + 1 → wo_G E (fun q : Nat => s_.heap.size ≤ q) s_ wc H locs → wo_G E (fun q : Nat => s_.heap.size ≤ q) s_ wm H locs → Dj wc wm → W p_ l e_ room_1 s_ m_ #[Value.ref b] below_ meth_ code_ H locs (20 + 2 * (i + 1)) (8000 + 14 * (i + 1)) Q_ (F0 m_ 989 ls [])) : W p_ l e_ room_1 s_ m_ #[Value.ref b] below_ meth_ code_ H locs (20 + 2 * i) (8000 + 14 * i) Q_ (F0 m_ 751 ls []) := by
  have hx := S.1
  have hb := S.2.1
  refine lv_aload_n hx hb dL_law_751 rfl (lv_at hl 1 rfl) ?_
  refine lv_aload_n hx hb dL_law_752 rfl (lv_at hl 0 rfl) ?_
  refine lv_iload_n hx hb dL_law_753 rfl (lv_at hl 3 rfl) ?_
  refine lv_iconst (v := 1) hx hb dL_law_754 (by decide) ?_
  refine lv_iadd hx hb dL_law_755 ?_
  refine lv_topi (fun a1 ea1 => ?_)
  have da1 : a1 = nI (6 * i + 1) := by rw [ea1, ei]; exact nI_add (6 * i) 1
  refine va_sld hx hb hX hbl (Nat.not_le.mpr hbl) Gc.2.2.2.1 (show vp_in a1 L by rw [da1]; exact vp_in_nI (by omega) (by omega)) dL_law_756 ?_
  rw [show Int32.toNatClampNeg a1 = 6 * i + 1 by rw [da1]; exact nI_clamp (by omega)]
  refine lv_aload_n hx hb dL_law_757 rfl (lv_at hl 0 rfl) ?_
  refine lv_iload_n hx hb dL_law_758 rfl (lv_at hl 3 rfl) ?_
  refine lv_iconst (v := 2) hx hb dL_law_759 (by decide) ?_
  refine lv_iadd hx hb dL_law_760 ?_
  refine lv_topi (fun a2 ea2 => ?_)
  have da2 : a2 = nI (6 * i + 2) := by rw [ea2, ei]; exact nI_add (6 * i) 2
  refine va_sld hx hb hX hbl (Nat.not_le.mpr hbl) Gc.2.2.2.1 (show vp_in a2 L by rw [da2]; exact vp_in_nI (by omega) (by omega)) dL_law_761 ?_
  rw [show Int32.toNatClampNeg a2 = 6 * i + 2 by rw [da2]; exact nI_clamp (by omega)]
  refine lv_aload_n hx hb dL_law_762 rfl (lv_at hl 0 rfl) ?_
  refine lv_iload_n hx hb dL_law_763 rfl (lv_at hl 3 rfl) ?_
  refine lv_iconst (v := 3) hx hb dL_law_764 (by decide) ?_
  refine lv_iadd hx hb dL_law_765 ?_
  refine lv_topi (fun a3 ea3 => ?_)
  have da3 : a3 = nI (6 * i + 3) := by rw [ea3, ei]; exact nI_add (6 * i) 3
  refine va_sld hx hb hX hbl (Nat.not_le.mpr hbl) Gc.2.2.2.1 (show vp_in a3 L by rw [da3]; exact vp_in_nI (by omega) (by omega)) dL_law_766 ?_
  rw [show Int32.toNatClampNeg a3 = 6 * i + 3 by rw [da3]; exact nI_clamp (by omega)]
  refine lv_aload_n hx hb dL_law_767 rfl (lv_at hl 0 rfl) ?_
  refine lv_iload_n hx hb dL_law_768 rfl (lv_at hl 3 rfl) ?_
  refine lv_iconst (v := 4) hx hb dL_law_769 (by decide) ?_
  refine lv_iadd hx hb dL_law_770 ?_
  refine lv_topi (fun a4 ea4 => ?_)
  have da4 : a4 = nI (6 * i + 4) := by rw [ea4, ei]; exact nI_add (6 * i) 4
  refine va_sld hx hb hX hbl (Nat.not_le.mpr hbl) Gc.2.2.2.1 (show vp_in a4 L by rw [da4]; exact vp_in_nI (by omega) (by omega)) dL_law_771 ?_
  rw [show Int32.toNatClampNeg a4 = 6 * i + 4 by rw [da4]; exact nI_clamp (by omega)]
  refine lv_aload_n hx hb dL_law_772 rfl (lv_at hl 0 rfl) ?_
  refine lv_iload_n hx hb dL_law_773 rfl (lv_at hl 3 rfl) ?_
  refine lv_iconst (v := 5) hx hb dL_law_774 (by decide) ?_
  refine lv_iadd hx hb dL_law_775 ?_
  refine lv_topi (fun a5 ea5 => ?_)
  have da5 : a5 = nI (6 * i + 5) := by rw [ea5, ei]; exact nI_add (6 * i) 5
  refine va_sld hx hb hX hbl (Nat.not_le.mpr hbl) Gc.2.2.2.1 (show vp_in a5 L by rw [da5]; exact vp_in_nI (by omega) (by omega)) dL_law_776 ?_
  rw [show Int32.toNatClampNeg a5 = 6 * i + 5 by rw [da5]; exact nI_clamp (by omega)]
  obtain ⟨fc, hfc⟩ := RcX_x Xc
  refine L_Vi (n := 5) (rest := []) S Gc Gm dj hl (C_move l Xc K (xs (6 * i + 1)) (xs (6 * i + 2)) (xs (6 * i + 3)) (xs (6 * i + 4)) (xs (6 * i + 5))) gL_law_X4_move rfl (by decide +kernel) hfc rfl rfl rfl (Nat.le_of_ble_eq_true rfl) ⟨Nat.le_of_ble_eq_true rfl, Nat.le_of_ble_eq_true rfl⟩ ⟨show 20 + 2 * i + 0 ≤ 600000 by omega, show 8000 + 14 * i + 0 ≤ 7302250 by omega⟩ dL_law_777 ?_
  clear Gc Gm dj; intro r1 wc H locs hp Gc Gm dj
  obtain ⟨hr1, Xc⟩ := hp
  refine lv_aload_n hx hb dL_law_780 rfl (lv_at hl 2 rfl) ?_
  refine lv_aload_n hx hb dL_law_781 rfl (lv_at hl 0 rfl) ?_
  refine lv_iload_n hx hb dL_law_782 rfl (lv_at hl 3 rfl) ?_
  refine lv_iconst (v := 1) hx hb dL_law_783 (by decide) ?_
  refine lv_iadd hx hb dL_law_784 ?_
  refine lv_topi (fun a6 ea6 => ?_)
  have da6 : a6 = nI (6 * i + 1) := by rw [ea6, ei]; exact nI_add (6 * i) 1
  refine va_sld hx hb hX hbl (Nat.not_le.mpr hbl) Gc.2.2.2.1 (show vp_in a6 L by rw [da6]; exact vp_in_nI (by omega) (by omega)) dL_law_785 ?_
  rw [show Int32.toNatClampNeg a6 = 6 * i + 1 by rw [da6]; exact nI_clamp (by omega)]
  refine lv_aload_n hx hb dL_law_786 rfl (lv_at hl 0 rfl) ?_
  refine lv_iload_n hx hb dL_law_787 rfl (lv_at hl 3 rfl) ?_
  refine lv_iconst (v := 2) hx hb dL_law_788 (by decide) ?_
  refine lv_iadd hx hb dL_law_789 ?_
  refine lv_topi (fun a7 ea7 => ?_)
  have da7 : a7 = nI (6 * i + 2) := by rw [ea7, ei]; exact nI_add (6 * i) 2
  refine va_sld hx hb hX hbl (Nat.not_le.mpr hbl) Gc.2.2.2.1 (show vp_in a7 L by rw [da7]; exact vp_in_nI (by omega) (by omega)) dL_law_790 ?_
  rw [show Int32.toNatClampNeg a7 = 6 * i + 2 by rw [da7]; exact nI_clamp (by omega)]
  refine lv_aload_n hx hb dL_law_791 rfl (lv_at hl 0 rfl) ?_
  refine lv_iload_n hx hb dL_law_792 rfl (lv_at hl 3 rfl) ?_
  refine lv_iconst (v := 3) hx hb dL_law_793 (by decide) ?_
  refine lv_iadd hx hb dL_law_794 ?_
  refine lv_topi (fun a8 ea8 => ?_)
  have da8 : a8 = nI (6 * i + 3) := by rw [ea8, ei]; exact nI_add (6 * i) 3
  refine va_sld hx hb hX hbl (Nat.not_le.mpr hbl) Gc.2.2.2.1 (show vp_in a8 L by rw [da8]; exact vp_in_nI (by omega) (by omega)) dL_law_795 ?_
  rw [show Int32.toNatClampNeg a8 = 6 * i + 3 by rw [da8]; exact nI_clamp (by omega)]
  refine lv_aload_n hx hb dL_law_796 rfl (lv_at hl 0 rfl) ?_
  refine lv_iload_n hx hb dL_law_797 rfl (lv_at hl 3 rfl) ?_
  refine lv_iconst (v := 4) hx hb dL_law_798 (by decide) ?_
  refine lv_iadd hx hb dL_law_799 ?_
  refine lv_topi (fun a9 ea9 => ?_)
  have da9 : a9 = nI (6 * i + 4) := by rw [ea9, ei]; exact nI_add (6 * i) 4
  refine va_sld hx hb hX hbl (Nat.not_le.mpr hbl) Gc.2.2.2.1 (show vp_in a9 L by rw [da9]; exact vp_in_nI (by omega) (by omega)) dL_law_800 ?_
  rw [show Int32.toNatClampNeg a9 = 6 * i + 4 by rw [da9]; exact nI_clamp (by omega)]
  refine lv_aload_n hx hb dL_law_801 rfl (lv_at hl 0 rfl) ?_
  refine lv_iload_n hx hb dL_law_802 rfl (lv_at hl 3 rfl) ?_
  refine lv_iconst (v := 5) hx hb dL_law_803 (by decide) ?_
  refine lv_iadd hx hb dL_law_804 ?_
  refine lv_topi (fun a10 ea10 => ?_)
  have da10 : a10 = nI (6 * i + 5) := by rw [ea10, ei]; exact nI_add (6 * i) 5
  refine va_sld hx hb hX hbl (Nat.not_le.mpr hbl) Gc.2.2.2.1 (show vp_in a10 L by rw [da10]; exact vp_in_nI (by omega) (by omega)) dL_law_805 ?_
  rw [show Int32.toNatClampNeg a10 = 6 * i + 5 by rw [da10]; exact nI_clamp (by omega)]
  obtain ⟨fm, hfm⟩ := RmX_m Xm
  refine L_Vi (n := 5) (rest := [.int r1]) S Gm Gc dj.sym hl (M_move l Xm K (xs (6 * i + 1)) (xs (6 * i + 2)) (xs (6 * i + 3)) (xs (6 * i + 4)) (xs (6 * i + 5))) gL_law_X5_move rfl (by decide +kernel) hfm rfl rfl rfl (Nat.le_of_ble_eq_true rfl) ⟨Nat.le_of_ble_eq_true rfl, Nat.le_of_ble_eq_true rfl⟩ ⟨show 20 + 2 * i + 0 + 0 ≤ 600000 by omega, show 8000 + 14 * i + 0 + 0 ≤ 7302250 by omega⟩ dL_law_806 ?_
  clear Gc Gm dj; intro r2 wm H locs hp Gm Gc dj
  obtain ⟨hr2, Xm⟩ := hp
  refine lv_icmp_eq (tgt := 989) hx hb dL_law_809 (by decide) (fun _ => ?_) (fun c => absurd (hr1.trans hr2.symm) c)
  refine W.widen (k := 20 + 2 * (i + 1)) (n := 8000 + 14 * (i + 1)) (by omega) (by omega) ?_
  exact kx _ _ _ _ _ Xc Xm (Gd_move K _ _ _ _ _) (Nat.le_trans (nr_move _ _ _ _ _) (by omega)) Gc Gm dj.sym
set_option maxHeartbeats 4000000 in
set_option maxRecDepth 100000 in
theorem law_run {p_ : Program} {l : Launch} {e_ : Env} {s_ : State} {m_ : MethodId} {below_ : List Frame} {meth_ : Method} {code_ : Code} {Q_ : State → Prop} {E : EV} {b L : Nat} {xs : Nat → Int32} (S : CallFix p_ m_ code_ cL_law 4 s_ #[Value.ref b] wsL_law RL) (hX : va_X b L xs s_ s_.heap) (hbl : b < s_.heap.size) {i x m : Nat} {iv : Int32} (ei : iv = nI (6 * i)) (hi : 6 * i + 6 ≤ L) (hL : L ≤ 3072) {σ : ST} {wc wm : wo} (Xc : RcX E wc x σ) (Xm : RmX E wm m σ) (K : Gd σ) (hn : nr_of σ ≤ i) {H : Heap} {locs : List Loc} (Gc : wo_G E (fun q : Nat => s_.heap.size ≤ q) s_ wc H locs) (Gm : wo_G E (fun q : Nat => s_.heap.size ≤ q) s_ wm H locs) (dj : Dj wc wm) {ls : Array Slot} (hl : lv_has ls 4 [(0, .ref b), (1, .ref x), (2, .ref m), (3, .int iv)]) (kx : ∀ (σ2 : ST) (wc wm : wo) (H : Heap) (locs : List Loc), RcX E wc x σ2 → RmX E wm m σ2 → Gd σ2 → nr_of σ2 ≤ i + 1 → wo_G E (fun q : Nat => s_.heap.size ≤ q) s_ wc H locs → wo_G E (fun q : Nat => s_.heap.size ≤ q) s_ wm H locs → Dj wc wm → W p_ l e_ room_1 s_ m_ #[Value.ref b] below_ meth_ code_ H locs (20 + 2 * (i + 1)) (8000 + 14 * (i + 1)) Q_ (F0 m_ 989 ls [])) : W p_ l e_ room_1 s_ m_ #[Value.ref b] below_ meth_ code_ H locs (20 + 2 * i) (8000 + 14 * i) Q_ (F0 m_ 814 ls []) := by
  have hx := S.1
  have hb := S.2.1
  refine lv_aload_n hx hb dL_law_814 rfl (lv_at hl 1 rfl) ?_
  refine lv_aload_n hx hb dL_law_815 rfl (lv_at hl 0 rfl) ?_
  refine lv_iload_n hx hb dL_law_816 rfl (lv_at hl 3 rfl) ?_
  refine lv_iconst (v := 1) hx hb dL_law_817 (by decide) ?_
  refine lv_iadd hx hb dL_law_818 ?_
  refine lv_topi (fun a1 ea1 => ?_)
  have da1 : a1 = nI (6 * i + 1) := by rw [ea1, ei]; exact nI_add (6 * i) 1
  refine va_sld hx hb hX hbl (Nat.not_le.mpr hbl) Gc.2.2.2.1 (show vp_in a1 L by rw [da1]; exact vp_in_nI (by omega) (by omega)) dL_law_819 ?_
  rw [show Int32.toNatClampNeg a1 = 6 * i + 1 by rw [da1]; exact nI_clamp (by omega)]
  refine lv_aload_n hx hb dL_law_820 rfl (lv_at hl 0 rfl) ?_
  refine lv_iload_n hx hb dL_law_821 rfl (lv_at hl 3 rfl) ?_
  refine lv_iconst (v := 2) hx hb dL_law_822 (by decide) ?_
  refine lv_iadd hx hb dL_law_823 ?_
  refine lv_topi (fun a2 ea2 => ?_)
  have da2 : a2 = nI (6 * i + 2) := by rw [ea2, ei]; exact nI_add (6 * i) 2
  refine va_sld hx hb hX hbl (Nat.not_le.mpr hbl) Gc.2.2.2.1 (show vp_in a2 L by rw [da2]; exact vp_in_nI (by omega) (by omega)) dL_law_824 ?_
  rw [show Int32.toNatClampNeg a2 = 6 * i + 2 by rw [da2]; exact nI_clamp (by omega)]
  obtain ⟨fc, hfc⟩ := RcX_x Xc
  refine L_Vi (n := 2) (rest := []) S Gc Gm dj hl (C_run l Xc K (xs (6 * i + 1)) (xs (6 * i + 2))) gL_law_X4_run rfl (by decide +kernel) hfc rfl rfl rfl (Nat.le_of_ble_eq_true rfl) ⟨Nat.le_of_ble_eq_true rfl, Nat.le_of_ble_eq_true rfl⟩ ⟨show 20 + 2 * i + 0 ≤ 600000 by omega, show 8000 + 14 * i + 0 ≤ 7302250 by omega⟩ dL_law_825 ?_
  clear Gc Gm dj; intro r1 wc H locs hp Gc Gm dj
  obtain ⟨hr1, Xc⟩ := hp
  refine lv_aload_n hx hb dL_law_828 rfl (lv_at hl 2 rfl) ?_
  refine lv_aload_n hx hb dL_law_829 rfl (lv_at hl 0 rfl) ?_
  refine lv_iload_n hx hb dL_law_830 rfl (lv_at hl 3 rfl) ?_
  refine lv_iconst (v := 1) hx hb dL_law_831 (by decide) ?_
  refine lv_iadd hx hb dL_law_832 ?_
  refine lv_topi (fun a3 ea3 => ?_)
  have da3 : a3 = nI (6 * i + 1) := by rw [ea3, ei]; exact nI_add (6 * i) 1
  refine va_sld hx hb hX hbl (Nat.not_le.mpr hbl) Gc.2.2.2.1 (show vp_in a3 L by rw [da3]; exact vp_in_nI (by omega) (by omega)) dL_law_833 ?_
  rw [show Int32.toNatClampNeg a3 = 6 * i + 1 by rw [da3]; exact nI_clamp (by omega)]
  refine lv_aload_n hx hb dL_law_834 rfl (lv_at hl 0 rfl) ?_
  refine lv_iload_n hx hb dL_law_835 rfl (lv_at hl 3 rfl) ?_
  refine lv_iconst (v := 2) hx hb dL_law_836 (by decide) ?_
  refine lv_iadd hx hb dL_law_837 ?_
  refine lv_topi (fun a4 ea4 => ?_)
  have da4 : a4 = nI (6 * i + 2) := by rw [ea4, ei]; exact nI_add (6 * i) 2
  refine va_sld hx hb hX hbl (Nat.not_le.mpr hbl) Gc.2.2.2.1 (show vp_in a4 L by rw [da4]; exact vp_in_nI (by omega) (by omega)) dL_law_838 ?_
  rw [show Int32.toNatClampNeg a4 = 6 * i + 2 by rw [da4]; exact nI_clamp (by omega)]
  obtain ⟨fm, hfm⟩ := RmX_m Xm
  refine L_Vi (n := 2) (rest := [.int r1]) S Gm Gc dj.sym hl (M_run l Xm K (xs (6 * i + 1)) (xs (6 * i + 2))) gL_law_X5_run rfl (by decide +kernel) hfm rfl rfl rfl (Nat.le_of_ble_eq_true rfl) ⟨Nat.le_of_ble_eq_true rfl, Nat.le_of_ble_eq_true rfl⟩ ⟨show 20 + 2 * i + 0 + 0 ≤ 600000 by omega, show 8000 + 14 * i + 0 + 0 ≤ 7302250 by omega⟩ dL_law_839 ?_
  clear Gc Gm dj; intro r2 wm H locs hp Gm Gc dj
  obtain ⟨hr2, Xm⟩ := hp
  refine lv_icmp_eq (tgt := 989) hx hb dL_law_842 (by decide) (fun _ => ?_) (fun c => absurd (hr1.trans hr2.symm) c)
  refine W.widen (k := 20 + 2 * (i + 1)) (n := 8000 + 14 * (i + 1)) (by omega) (by omega) ?_
  exact kx _ _ _ _ _ Xc Xm (Gd_run K _ _) (Nat.le_trans (nr_run _ _) (by omega)) Gc Gm dj.sym
set_option maxHeartbeats 4000000 in
set_option maxRecDepth 100000 in
theorem law_either {p_ : Program} {l : Launch} {e_ : Env} {s_ : State} {m_ : MethodId} {below_ : List Frame} {meth_ : Method} {code_ : Code} {Q_ : State → Prop} {E : EV} {b L : Nat} {xs : Nat → Int32} (S : CallFix p_ m_ code_ cL_law 4 s_ #[Value.ref b] wsL_law RL) (hX : va_X b L xs s_ s_.heap) (hbl : b < s_.heap.size) {i x m : Nat} {iv : Int32} (ei : iv = nI (6 * i)) (hi : 6 * i + 6 ≤ L) (hL : L ≤ 3072) {σ : ST} {wc wm : wo} (Xc : RcX E wc x σ) (Xm : RmX E wm m σ) (K : Gd σ) (hn : nr_of σ ≤ i) {H : Heap} {locs : List Loc} (Gc : wo_G E (fun q : Nat => s_.heap.size ≤ q) s_ wc H locs) (Gm : wo_G E (fun q : Nat => s_.heap.size ≤ q) s_ wm H locs) (dj : Dj wc wm) {ls : Array Slot} (hl : lv_has ls 4 [(0, .ref b), (1, .ref x), (2, .ref m), (3, .int iv)]) (kx : ∀ (σ2 : ST) (wc wm : wo) (H : Heap) (locs : List Loc), RcX E wc x σ2 → RmX E wm m σ2 → Gd σ2 → nr_of σ2 ≤ i + 1 → wo_G E (fun q : Nat => s_.heap.size ≤ q) s_ wc H locs → wo_G E (fun q : Nat => s_.heap.size ≤ q) s_ wm H locs → Dj wc wm → W p_ l e_ room_1 s_ m_ #[Value.ref b] below_ meth_ code_ H locs (20 + 2 * (i + 1)) (8000 + 14 * (i + 1)) Q_ (F0 m_ 989 ls [])) : W p_ l e_ room_1 s_ m_ #[Value.ref b] below_ meth_ code_ H locs (20 + 2 * i) (8000 + 14 * i) Q_ (F0 m_ 847 ls []) := by
  have hx := S.1
  have hb := S.2.1
  refine lv_aload_n hx hb dL_law_847 rfl (lv_at hl 1 rfl) ?_
  refine lv_aload_n hx hb dL_law_848 rfl (lv_at hl 0 rfl) ?_
  refine lv_iload_n hx hb dL_law_849 rfl (lv_at hl 3 rfl) ?_
  refine lv_iconst (v := 1) hx hb dL_law_850 (by decide) ?_
  refine lv_iadd hx hb dL_law_851 ?_
  refine lv_topi (fun a1 ea1 => ?_)
  have da1 : a1 = nI (6 * i + 1) := by rw [ea1, ei]; exact nI_add (6 * i) 1
  refine va_sld hx hb hX hbl (Nat.not_le.mpr hbl) Gc.2.2.2.1 (show vp_in a1 L by rw [da1]; exact vp_in_nI (by omega) (by omega)) dL_law_852 ?_
  rw [show Int32.toNatClampNeg a1 = 6 * i + 1 by rw [da1]; exact nI_clamp (by omega)]
  refine lv_aload_n hx hb dL_law_853 rfl (lv_at hl 0 rfl) ?_
  refine lv_iload_n hx hb dL_law_854 rfl (lv_at hl 3 rfl) ?_
  refine lv_iconst (v := 2) hx hb dL_law_855 (by decide) ?_
  refine lv_iadd hx hb dL_law_856 ?_
  refine lv_topi (fun a2 ea2 => ?_)
  have da2 : a2 = nI (6 * i + 2) := by rw [ea2, ei]; exact nI_add (6 * i) 2
  refine va_sld hx hb hX hbl (Nat.not_le.mpr hbl) Gc.2.2.2.1 (show vp_in a2 L by rw [da2]; exact vp_in_nI (by omega) (by omega)) dL_law_857 ?_
  rw [show Int32.toNatClampNeg a2 = 6 * i + 2 by rw [da2]; exact nI_clamp (by omega)]
  refine lv_aload_n hx hb dL_law_858 rfl (lv_at hl 0 rfl) ?_
  refine lv_iload_n hx hb dL_law_859 rfl (lv_at hl 3 rfl) ?_
  refine lv_iconst (v := 3) hx hb dL_law_860 (by decide) ?_
  refine lv_iadd hx hb dL_law_861 ?_
  refine lv_topi (fun a3 ea3 => ?_)
  have da3 : a3 = nI (6 * i + 3) := by rw [ea3, ei]; exact nI_add (6 * i) 3
  refine va_sld hx hb hX hbl (Nat.not_le.mpr hbl) Gc.2.2.2.1 (show vp_in a3 L by rw [da3]; exact vp_in_nI (by omega) (by omega)) dL_law_862 ?_
  rw [show Int32.toNatClampNeg a3 = 6 * i + 3 by rw [da3]; exact nI_clamp (by omega)]
  obtain ⟨fc, hfc⟩ := RcX_x Xc
  refine L_Vi (n := 3) (rest := []) S Gc Gm dj hl (C_either l Xc K (xs (6 * i + 1)) (xs (6 * i + 2)) (xs (6 * i + 3))) gL_law_X4_either rfl (by decide +kernel) hfc rfl rfl rfl (Nat.le_of_ble_eq_true rfl) ⟨Nat.le_of_ble_eq_true rfl, Nat.le_of_ble_eq_true rfl⟩ ⟨show 20 + 2 * i + 0 ≤ 600000 by omega, show 8000 + 14 * i + 0 ≤ 7302250 by omega⟩ dL_law_863 ?_
  clear Gc Gm dj; intro r1 wc H locs hp Gc Gm dj
  obtain ⟨hr1, Xc⟩ := hp
  refine lv_aload_n hx hb dL_law_866 rfl (lv_at hl 2 rfl) ?_
  refine lv_aload_n hx hb dL_law_867 rfl (lv_at hl 0 rfl) ?_
  refine lv_iload_n hx hb dL_law_868 rfl (lv_at hl 3 rfl) ?_
  refine lv_iconst (v := 1) hx hb dL_law_869 (by decide) ?_
  refine lv_iadd hx hb dL_law_870 ?_
  refine lv_topi (fun a4 ea4 => ?_)
  have da4 : a4 = nI (6 * i + 1) := by rw [ea4, ei]; exact nI_add (6 * i) 1
  refine va_sld hx hb hX hbl (Nat.not_le.mpr hbl) Gc.2.2.2.1 (show vp_in a4 L by rw [da4]; exact vp_in_nI (by omega) (by omega)) dL_law_871 ?_
  rw [show Int32.toNatClampNeg a4 = 6 * i + 1 by rw [da4]; exact nI_clamp (by omega)]
  refine lv_aload_n hx hb dL_law_872 rfl (lv_at hl 0 rfl) ?_
  refine lv_iload_n hx hb dL_law_873 rfl (lv_at hl 3 rfl) ?_
  refine lv_iconst (v := 2) hx hb dL_law_874 (by decide) ?_
  refine lv_iadd hx hb dL_law_875 ?_
  refine lv_topi (fun a5 ea5 => ?_)
  have da5 : a5 = nI (6 * i + 2) := by rw [ea5, ei]; exact nI_add (6 * i) 2
  refine va_sld hx hb hX hbl (Nat.not_le.mpr hbl) Gc.2.2.2.1 (show vp_in a5 L by rw [da5]; exact vp_in_nI (by omega) (by omega)) dL_law_876 ?_
  rw [show Int32.toNatClampNeg a5 = 6 * i + 2 by rw [da5]; exact nI_clamp (by omega)]
  refine lv_aload_n hx hb dL_law_877 rfl (lv_at hl 0 rfl) ?_
  refine lv_iload_n hx hb dL_law_878 rfl (lv_at hl 3 rfl) ?_
  refine lv_iconst (v := 3) hx hb dL_law_879 (by decide) ?_
  refine lv_iadd hx hb dL_law_880 ?_
  refine lv_topi (fun a6 ea6 => ?_)
  have da6 : a6 = nI (6 * i + 3) := by rw [ea6, ei]; exact nI_add (6 * i) 3
  refine va_sld hx hb hX hbl (Nat.not_le.mpr hbl) Gc.2.2.2.1 (show vp_in a6 L by rw [da6]; exact vp_in_nI (by omega) (by omega)) dL_law_881 ?_
  rw [show Int32.toNatClampNeg a6 = 6 * i + 3 by rw [da6]; exact nI_clamp (by omega)]
  obtain ⟨fm, hfm⟩ := RmX_m Xm
  refine L_Vi (n := 3) (rest := [.int r1]) S Gm Gc dj.sym hl (M_either l Xm K (xs (6 * i + 1)) (xs (6 * i + 2)) (xs (6 * i + 3))) gL_law_X5_either rfl (by decide +kernel) hfm rfl rfl rfl (Nat.le_of_ble_eq_true rfl) ⟨Nat.le_of_ble_eq_true rfl, Nat.le_of_ble_eq_true rfl⟩ ⟨show 20 + 2 * i + 0 + 0 ≤ 600000 by omega, show 8000 + 14 * i + 0 + 0 ≤ 7302250 by omega⟩ dL_law_882 ?_
  clear Gc Gm dj; intro r2 wm H locs hp Gm Gc dj
  obtain ⟨hr2, Xm⟩ := hp
  refine lv_icmp_eq (tgt := 989) hx hb dL_law_885 (by decide) (fun _ => ?_) (fun c => absurd (hr1.trans hr2.symm) c)
  refine W.widen (k := 20 + 2 * (i + 1)) (n := 8000 + 14 * (i + 1)) (by omega) (by omega) ?_
  exact kx _ _ _ _ _ Xc Xm (Gd_either K _ _ _) (Nat.le_trans (nr_either _ _ _) (by omega)) Gc Gm dj.sym
set_option maxHeartbeats 4000000 in
set_option maxRecDepth 100000 in
theorem law_gather {p_ : Program} {l : Launch} {e_ : Env} {s_ : State} {m_ : MethodId} {below_ : List Frame} {meth_ : Method} {code_ : Code} {Q_ : State → Prop} {E : EV} {b L : Nat} {xs : Nat → Int32} (S : CallFix p_ m_ code_ cL_law 4 s_ #[Value.ref b] wsL_law RL) (hX : va_X b L xs s_ s_.heap) (hbl : b < s_.heap.size) {i x m : Nat} {iv : Int32} (ei : iv = nI (6 * i)) (hi : 6 * i + 6 ≤ L) (hL : L ≤ 3072) {σ : ST} {wc wm : wo} (Xc : RcX E wc x σ) (Xm : RmX E wm m σ) (K : Gd σ) (hn : nr_of σ ≤ i) {H : Heap} {locs : List Loc} (Gc : wo_G E (fun q : Nat => s_.heap.size ≤ q) s_ wc H locs) (Gm : wo_G E (fun q : Nat => s_.heap.size ≤ q) s_ wm H locs) (dj : Dj wc wm) {ls : Array Slot} (hl : lv_has ls 4 [(0, .ref b), (1, .ref x), (2, .ref m), (3, .int iv)]) (kx : ∀ (σ2 : ST) (wc wm : wo) (H : Heap) (locs : List Loc), RcX E wc x σ2 → RmX E wm m σ2 → Gd σ2 → nr_of σ2 ≤ i + 1 → wo_G E (fun q : Nat => s_.heap.size ≤ q) s_ wc H locs → wo_G E (fun q : Nat => s_.heap.size ≤ q) s_ wm H locs → Dj wc wm → W p_ l e_ room_1 s_ m_ #[Value.ref b] below_ meth_ code_ H locs (20 + 2 * (i + 1)) (8000 + 14 * (i + 1)) Q_ (F0 m_ 989 ls [])) : W p_ l e_ room_1 s_ m_ #[Value.ref b] below_ meth_ code_ H locs (20 + 2 * i) (8000 + 14 * i) Q_ (F0 m_ 890 ls []) := by
  have hx := S.1
  have hb := S.2.1
  refine lv_aload_n hx hb dL_law_890 rfl (lv_at hl 1 rfl) ?_
  refine lv_aload_n hx hb dL_law_891 rfl (lv_at hl 0 rfl) ?_
  refine lv_iload_n hx hb dL_law_892 rfl (lv_at hl 3 rfl) ?_
  refine lv_iconst (v := 1) hx hb dL_law_893 (by decide) ?_
  refine lv_iadd hx hb dL_law_894 ?_
  refine lv_topi (fun a1 ea1 => ?_)
  have da1 : a1 = nI (6 * i + 1) := by rw [ea1, ei]; exact nI_add (6 * i) 1
  refine va_sld hx hb hX hbl (Nat.not_le.mpr hbl) Gc.2.2.2.1 (show vp_in a1 L by rw [da1]; exact vp_in_nI (by omega) (by omega)) dL_law_895 ?_
  rw [show Int32.toNatClampNeg a1 = 6 * i + 1 by rw [da1]; exact nI_clamp (by omega)]
  refine lv_aload_n hx hb dL_law_896 rfl (lv_at hl 0 rfl) ?_
  refine lv_iload_n hx hb dL_law_897 rfl (lv_at hl 3 rfl) ?_
  refine lv_iconst (v := 2) hx hb dL_law_898 (by decide) ?_
  refine lv_iadd hx hb dL_law_899 ?_
  refine lv_topi (fun a2 ea2 => ?_)
  have da2 : a2 = nI (6 * i + 2) := by rw [ea2, ei]; exact nI_add (6 * i) 2
  refine va_sld hx hb hX hbl (Nat.not_le.mpr hbl) Gc.2.2.2.1 (show vp_in a2 L by rw [da2]; exact vp_in_nI (by omega) (by omega)) dL_law_900 ?_
  rw [show Int32.toNatClampNeg a2 = 6 * i + 2 by rw [da2]; exact nI_clamp (by omega)]
  obtain ⟨fc, hfc⟩ := RcX_x Xc
  refine L_Vi (n := 2) (rest := []) S Gc Gm dj hl (C_gather l Xc K (xs (6 * i + 1)) (xs (6 * i + 2))) gL_law_X4_gather rfl (by decide +kernel) hfc rfl rfl rfl (Nat.le_of_ble_eq_true rfl) ⟨Nat.le_of_ble_eq_true rfl, Nat.le_of_ble_eq_true rfl⟩ ⟨show 20 + 2 * i + 0 ≤ 600000 by omega, show 8000 + 14 * i + 0 ≤ 7302250 by omega⟩ dL_law_901 ?_
  clear Gc Gm dj; intro r1 wc H locs hp Gc Gm dj
  obtain ⟨hr1, Xc⟩ := hp
  refine lv_aload_n hx hb dL_law_904 rfl (lv_at hl 2 rfl) ?_
  refine lv_aload_n hx hb dL_law_905 rfl (lv_at hl 0 rfl) ?_
  refine lv_iload_n hx hb dL_law_906 rfl (lv_at hl 3 rfl) ?_
  refine lv_iconst (v := 1) hx hb dL_law_907 (by decide) ?_
  refine lv_iadd hx hb dL_law_908 ?_
  refine lv_topi (fun a3 ea3 => ?_)
  have da3 : a3 = nI (6 * i + 1) := by rw [ea3, ei]; exact nI_add (6 * i) 1
  refine va_sld hx hb hX hbl (Nat.not_le.mpr hbl) Gc.2.2.2.1 (show vp_in a3 L by rw [da3]; exact vp_in_nI (by omega) (by omega)) dL_law_909 ?_
  rw [show Int32.toNatClampNeg a3 = 6 * i + 1 by rw [da3]; exact nI_clamp (by omega)]
  refine lv_aload_n hx hb dL_law_910 rfl (lv_at hl 0 rfl) ?_
  refine lv_iload_n hx hb dL_law_911 rfl (lv_at hl 3 rfl) ?_
  refine lv_iconst (v := 2) hx hb dL_law_912 (by decide) ?_
  refine lv_iadd hx hb dL_law_913 ?_
  refine lv_topi (fun a4 ea4 => ?_)
  have da4 : a4 = nI (6 * i + 2) := by rw [ea4, ei]; exact nI_add (6 * i) 2
  refine va_sld hx hb hX hbl (Nat.not_le.mpr hbl) Gc.2.2.2.1 (show vp_in a4 L by rw [da4]; exact vp_in_nI (by omega) (by omega)) dL_law_914 ?_
  rw [show Int32.toNatClampNeg a4 = 6 * i + 2 by rw [da4]; exact nI_clamp (by omega)]
  obtain ⟨fm, hfm⟩ := RmX_m Xm
  refine L_Vi (n := 2) (rest := [.int r1]) S Gm Gc dj.sym hl (M_gather l Xm K (xs (6 * i + 1)) (xs (6 * i + 2))) gL_law_X5_gather rfl (by decide +kernel) hfm rfl rfl rfl (Nat.le_of_ble_eq_true rfl) ⟨Nat.le_of_ble_eq_true rfl, Nat.le_of_ble_eq_true rfl⟩ ⟨show 20 + 2 * i + 0 + 0 ≤ 600000 by omega, show 8000 + 14 * i + 0 + 0 ≤ 7302250 by omega⟩ dL_law_915 ?_
  clear Gc Gm dj; intro r2 wm H locs hp Gm Gc dj
  obtain ⟨hr2, Xm⟩ := hp
  refine lv_icmp_eq (tgt := 989) hx hb dL_law_918 (by decide) (fun _ => ?_) (fun c => absurd (hr1.trans hr2.symm) c)
  refine W.widen (k := 20 + 2 * (i + 1)) (n := 8000 + 14 * (i + 1)) (by omega) (by omega) ?_
  exact kx _ _ _ _ _ Xc Xm (Gd_gather K _ _) (Nat.le_trans (nr_gather _ _) (by omega)) Gc Gm dj.sym
set_option maxHeartbeats 4000000 in
set_option maxRecDepth 100000 in
theorem law_keep {p_ : Program} {l : Launch} {e_ : Env} {s_ : State} {m_ : MethodId} {below_ : List Frame} {meth_ : Method} {code_ : Code} {Q_ : State → Prop} {E : EV} {b L : Nat} {xs : Nat → Int32} (S : CallFix p_ m_ code_ cL_law 4 s_ #[Value.ref b] wsL_law RL) (hX : va_X b L xs s_ s_.heap) (hbl : b < s_.heap.size) {i x m : Nat} {iv : Int32} (ei : iv = nI (6 * i)) (hi : 6 * i + 6 ≤ L) (hL : L ≤ 3072) {σ : ST} {wc wm : wo} (Xc : RcX E wc x σ) (Xm : RmX E wm m σ) (K : Gd σ) (hn : nr_of σ ≤ i) {H : Heap} {locs : List Loc} (Gc : wo_G E (fun q : Nat => s_.heap.size ≤ q) s_ wc H locs) (Gm : wo_G E (fun q : Nat => s_.heap.size ≤ q) s_ wm H locs) (dj : Dj wc wm) {ls : Array Slot} (hl : lv_has ls 4 [(0, .ref b), (1, .ref x), (2, .ref m), (3, .int iv)]) (kx : ∀ (σ2 : ST) (wc wm : wo) (H : Heap) (locs : List Loc), RcX E wc x σ2 → RmX E wm m σ2 → Gd σ2 → nr_of σ2 ≤ i + 1 → wo_G E (fun q : Nat => s_.heap.size ≤ q) s_ wc H locs → wo_G E (fun q : Nat => s_.heap.size ≤ q) s_ wm H locs → Dj wc wm → W p_ l e_ room_1 s_ m_ #[Value.ref b] below_ meth_ code_ H locs (20 + 2 * (i + 1)) (8000 + 14 * (i + 1)) Q_ (F0 m_ 989 ls [])) : W p_ l e_ room_1 s_ m_ #[Value.ref b] below_ meth_ code_ H locs (20 + 2 * i) (8000 + 14 * i) Q_ (F0 m_ 923 ls []) := by
  have hx := S.1
  have hb := S.2.1
  refine lv_aload_n hx hb dL_law_923 rfl (lv_at hl 1 rfl) ?_
  refine lv_aload_n hx hb dL_law_924 rfl (lv_at hl 0 rfl) ?_
  refine lv_iload_n hx hb dL_law_925 rfl (lv_at hl 3 rfl) ?_
  refine lv_iconst (v := 1) hx hb dL_law_926 (by decide) ?_
  refine lv_iadd hx hb dL_law_927 ?_
  refine lv_topi (fun a1 ea1 => ?_)
  have da1 : a1 = nI (6 * i + 1) := by rw [ea1, ei]; exact nI_add (6 * i) 1
  refine va_sld hx hb hX hbl (Nat.not_le.mpr hbl) Gc.2.2.2.1 (show vp_in a1 L by rw [da1]; exact vp_in_nI (by omega) (by omega)) dL_law_928 ?_
  rw [show Int32.toNatClampNeg a1 = 6 * i + 1 by rw [da1]; exact nI_clamp (by omega)]
  refine lv_aload_n hx hb dL_law_929 rfl (lv_at hl 0 rfl) ?_
  refine lv_iload_n hx hb dL_law_930 rfl (lv_at hl 3 rfl) ?_
  refine lv_iconst (v := 2) hx hb dL_law_931 (by decide) ?_
  refine lv_iadd hx hb dL_law_932 ?_
  refine lv_topi (fun a2 ea2 => ?_)
  have da2 : a2 = nI (6 * i + 2) := by rw [ea2, ei]; exact nI_add (6 * i) 2
  refine va_sld hx hb hX hbl (Nat.not_le.mpr hbl) Gc.2.2.2.1 (show vp_in a2 L by rw [da2]; exact vp_in_nI (by omega) (by omega)) dL_law_933 ?_
  rw [show Int32.toNatClampNeg a2 = 6 * i + 2 by rw [da2]; exact nI_clamp (by omega)]
  refine lv_aload_n hx hb dL_law_934 rfl (lv_at hl 0 rfl) ?_
  refine lv_iload_n hx hb dL_law_935 rfl (lv_at hl 3 rfl) ?_
  refine lv_iconst (v := 3) hx hb dL_law_936 (by decide) ?_
  refine lv_iadd hx hb dL_law_937 ?_
  refine lv_topi (fun a3 ea3 => ?_)
  have da3 : a3 = nI (6 * i + 3) := by rw [ea3, ei]; exact nI_add (6 * i) 3
  refine va_sld hx hb hX hbl (Nat.not_le.mpr hbl) Gc.2.2.2.1 (show vp_in a3 L by rw [da3]; exact vp_in_nI (by omega) (by omega)) dL_law_938 ?_
  rw [show Int32.toNatClampNeg a3 = 6 * i + 3 by rw [da3]; exact nI_clamp (by omega)]
  refine lv_aload_n hx hb dL_law_939 rfl (lv_at hl 0 rfl) ?_
  refine lv_iload_n hx hb dL_law_940 rfl (lv_at hl 3 rfl) ?_
  refine lv_iconst (v := 4) hx hb dL_law_941 (by decide) ?_
  refine lv_iadd hx hb dL_law_942 ?_
  refine lv_topi (fun a4 ea4 => ?_)
  have da4 : a4 = nI (6 * i + 4) := by rw [ea4, ei]; exact nI_add (6 * i) 4
  refine va_sld hx hb hX hbl (Nat.not_le.mpr hbl) Gc.2.2.2.1 (show vp_in a4 L by rw [da4]; exact vp_in_nI (by omega) (by omega)) dL_law_943 ?_
  rw [show Int32.toNatClampNeg a4 = 6 * i + 4 by rw [da4]; exact nI_clamp (by omega)]
  obtain ⟨fc, hfc⟩ := RcX_x Xc
  refine L_Vi (n := 4) (rest := []) S Gc Gm dj hl (C_keep l Xc K (xs (6 * i + 1)) (xs (6 * i + 2)) (xs (6 * i + 3)) (xs (6 * i + 4))) gL_law_X4_keep rfl (by decide +kernel) hfc rfl rfl rfl (Nat.le_of_ble_eq_true rfl) ⟨Nat.le_of_ble_eq_true rfl, Nat.le_of_ble_eq_true rfl⟩ ⟨show 20 + 2 * i + 0 ≤ 600000 by omega, show 8000 + 14 * i + 0 ≤ 7302250 by omega⟩ dL_law_944 ?_
  clear Gc Gm dj; intro r1 wc H locs hp Gc Gm dj
  obtain ⟨hr1, Xc⟩ := hp
  refine lv_aload_n hx hb dL_law_947 rfl (lv_at hl 2 rfl) ?_
  refine lv_aload_n hx hb dL_law_948 rfl (lv_at hl 0 rfl) ?_
  refine lv_iload_n hx hb dL_law_949 rfl (lv_at hl 3 rfl) ?_
  refine lv_iconst (v := 1) hx hb dL_law_950 (by decide) ?_
  refine lv_iadd hx hb dL_law_951 ?_
  refine lv_topi (fun a5 ea5 => ?_)
  have da5 : a5 = nI (6 * i + 1) := by rw [ea5, ei]; exact nI_add (6 * i) 1
  refine va_sld hx hb hX hbl (Nat.not_le.mpr hbl) Gc.2.2.2.1 (show vp_in a5 L by rw [da5]; exact vp_in_nI (by omega) (by omega)) dL_law_952 ?_
  rw [show Int32.toNatClampNeg a5 = 6 * i + 1 by rw [da5]; exact nI_clamp (by omega)]
  refine lv_aload_n hx hb dL_law_953 rfl (lv_at hl 0 rfl) ?_
  refine lv_iload_n hx hb dL_law_954 rfl (lv_at hl 3 rfl) ?_
  refine lv_iconst (v := 2) hx hb dL_law_955 (by decide) ?_
  refine lv_iadd hx hb dL_law_956 ?_
  refine lv_topi (fun a6 ea6 => ?_)
  have da6 : a6 = nI (6 * i + 2) := by rw [ea6, ei]; exact nI_add (6 * i) 2
  refine va_sld hx hb hX hbl (Nat.not_le.mpr hbl) Gc.2.2.2.1 (show vp_in a6 L by rw [da6]; exact vp_in_nI (by omega) (by omega)) dL_law_957 ?_
  rw [show Int32.toNatClampNeg a6 = 6 * i + 2 by rw [da6]; exact nI_clamp (by omega)]
  refine lv_aload_n hx hb dL_law_958 rfl (lv_at hl 0 rfl) ?_
  refine lv_iload_n hx hb dL_law_959 rfl (lv_at hl 3 rfl) ?_
  refine lv_iconst (v := 3) hx hb dL_law_960 (by decide) ?_
  refine lv_iadd hx hb dL_law_961 ?_
  refine lv_topi (fun a7 ea7 => ?_)
  have da7 : a7 = nI (6 * i + 3) := by rw [ea7, ei]; exact nI_add (6 * i) 3
  refine va_sld hx hb hX hbl (Nat.not_le.mpr hbl) Gc.2.2.2.1 (show vp_in a7 L by rw [da7]; exact vp_in_nI (by omega) (by omega)) dL_law_962 ?_
  rw [show Int32.toNatClampNeg a7 = 6 * i + 3 by rw [da7]; exact nI_clamp (by omega)]
  refine lv_aload_n hx hb dL_law_963 rfl (lv_at hl 0 rfl) ?_
  refine lv_iload_n hx hb dL_law_964 rfl (lv_at hl 3 rfl) ?_
  refine lv_iconst (v := 4) hx hb dL_law_965 (by decide) ?_
  refine lv_iadd hx hb dL_law_966 ?_
  refine lv_topi (fun a8 ea8 => ?_)
  have da8 : a8 = nI (6 * i + 4) := by rw [ea8, ei]; exact nI_add (6 * i) 4
  refine va_sld hx hb hX hbl (Nat.not_le.mpr hbl) Gc.2.2.2.1 (show vp_in a8 L by rw [da8]; exact vp_in_nI (by omega) (by omega)) dL_law_967 ?_
  rw [show Int32.toNatClampNeg a8 = 6 * i + 4 by rw [da8]; exact nI_clamp (by omega)]
  obtain ⟨fm, hfm⟩ := RmX_m Xm
  refine L_Vi (n := 4) (rest := [.int r1]) S Gm Gc dj.sym hl (M_keep l Xm K (xs (6 * i + 1)) (xs (6 * i + 2)) (xs (6 * i + 3)) (xs (6 * i + 4))) gL_law_X5_keep rfl (by decide +kernel) hfm rfl rfl rfl (Nat.le_of_ble_eq_true rfl) ⟨Nat.le_of_ble_eq_true rfl, Nat.le_of_ble_eq_true rfl⟩ ⟨show 20 + 2 * i + 0 + 0 ≤ 600000 by omega, show 8000 + 14 * i + 0 + 0 ≤ 7302250 by omega⟩ dL_law_968 ?_
  clear Gc Gm dj; intro r2 wm H locs hp Gm Gc dj
  obtain ⟨hr2, Xm⟩ := hp
  refine lv_icmp_eq (tgt := 989) hx hb dL_law_971 (by decide) (fun _ => ?_) (fun c => absurd (hr1.trans hr2.symm) c)
  refine W.widen (k := 20 + 2 * (i + 1)) (n := 8000 + 14 * (i + 1)) (by omega) (by omega) ?_
  exact kx _ _ _ _ _ Xc Xm (Gd_keep K _ _ _ _) (Nat.le_trans (nr_keep _ _ _ _) (by omega)) Gc Gm dj.sym
set_option maxHeartbeats 4000000 in
set_option maxRecDepth 100000 in
theorem law_things {p_ : Program} {l : Launch} {e_ : Env} {s_ : State} {m_ : MethodId} {below_ : List Frame} {meth_ : Method} {code_ : Code} {Q_ : State → Prop} {E : EV} {b L : Nat} {xs : Nat → Int32} (S : CallFix p_ m_ code_ cL_law 4 s_ #[Value.ref b] wsL_law RL) (hX : va_X b L xs s_ s_.heap) (hbl : b < s_.heap.size) {i x m : Nat} {iv : Int32} (ei : iv = nI (6 * i)) (hi : 6 * i + 6 ≤ L) (hL : L ≤ 3072) {σ : ST} {wc wm : wo} (Xc : RcX E wc x σ) (Xm : RmX E wm m σ) (K : Gd σ) (hn : nr_of σ ≤ i) {H : Heap} {locs : List Loc} (Gc : wo_G E (fun q : Nat => s_.heap.size ≤ q) s_ wc H locs) (Gm : wo_G E (fun q : Nat => s_.heap.size ≤ q) s_ wm H locs) (dj : Dj wc wm) {ls : Array Slot} (hl : lv_has ls 4 [(0, .ref b), (1, .ref x), (2, .ref m), (3, .int iv)]) (kx : ∀ (σ2 : ST) (wc wm : wo) (H : Heap) (locs : List Loc), RcX E wc x σ2 → RmX E wm m σ2 → Gd σ2 → nr_of σ2 ≤ i + 1 → wo_G E (fun q : Nat => s_.heap.size ≤ q) s_ wc H locs → wo_G E (fun q : Nat => s_.heap.size ≤ q) s_ wm H locs → Dj wc wm → W p_ l e_ room_1 s_ m_ #[Value.ref b] below_ meth_ code_ H locs (20 + 2 * (i + 1)) (8000 + 14 * (i + 1)) Q_ (F0 m_ 989 ls [])) : W p_ l e_ room_1 s_ m_ #[Value.ref b] below_ meth_ code_ H locs (20 + 2 * i) (8000 + 14 * i) Q_ (F0 m_ 976 ls []) := by
  have hx := S.1
  have hb := S.2.1
  refine lv_aload_n hx hb dL_law_976 rfl (lv_at hl 1 rfl) ?_
  obtain ⟨fc, hfc⟩ := RcX_x Xc
  refine L_Vi (n := 0) (rest := []) S Gc Gm dj hl (C_things l Xc K) gL_law_X4_things rfl (by decide +kernel) hfc rfl rfl rfl (Nat.le_of_ble_eq_true rfl) ⟨Nat.le_of_ble_eq_true rfl, Nat.le_of_ble_eq_true rfl⟩ ⟨show 20 + 2 * i + 0 ≤ 600000 by omega, show 8000 + 14 * i + 0 ≤ 7302250 by omega⟩ dL_law_977 ?_
  clear Gc Gm dj; intro r1 wc H locs hp Gc Gm dj
  obtain ⟨hr1, Xc⟩ := hp
  refine lv_aload_n hx hb dL_law_980 rfl (lv_at hl 2 rfl) ?_
  obtain ⟨fm, hfm⟩ := RmX_m Xm
  refine L_Vi (n := 0) (rest := [.int r1]) S Gm Gc dj.sym hl (M_things l Xm K) gL_law_X5_things rfl (by decide +kernel) hfm rfl rfl rfl (Nat.le_of_ble_eq_true rfl) ⟨Nat.le_of_ble_eq_true rfl, Nat.le_of_ble_eq_true rfl⟩ ⟨show 20 + 2 * i + 0 + 0 ≤ 600000 by omega, show 8000 + 14 * i + 0 + 0 ≤ 7302250 by omega⟩ dL_law_981 ?_
  clear Gc Gm dj; intro r2 wm H locs hp Gm Gc dj
  obtain ⟨hr2, Xm⟩ := hp
  refine lv_icmp_eq (tgt := 989) hx hb dL_law_984 (by decide) (fun _ => ?_) (fun c => absurd (hr1.trans hr2.symm) c)
  refine W.widen (k := 20 + 2 * (i + 1)) (n := 8000 + 14 * (i + 1)) (by omega) (by omega) ?_
  exact kx _ _ _ _ _ Xc Xm K (by omega) Gc Gm dj.sym
