/-! A world as a function from addresses to cells; rows of the kit turned to it; contracts over it. -/
abbrev wo : Type := Nat → Option va_E
abbrev EV : Type := va_G × ClassId × ClassId × ClassId
def ev_t (E : EV) : List (ClassId × FieldType) := [(E.2.1, .int), (E.2.2.1, .long), (E.2.2.2, .object RX2)]
def wo_up (w : wo) (a : Nat) (e : va_E) : wo := fun q => if q = a then some e else w q
theorem wo_up_s {w : wo} {a : Nat} {e : va_E} : wo_up w a e a = some e := by simp [wo_up]
theorem wo_up_n {w : wo} {a b : Nat} {e : va_E} (h : b ≠ a) : wo_up w a e b = w b := by simp [wo_up, h]
theorem wo_ap {w : wo} {a b : Nat} {x y : va_E} (ha : w a = some x) (hb : w b = some y) (h : x ≠ y) : a ≠ b := by
  intro q
  subst q
  exact h (Option.some.inj (ha.symm.trans hb))
theorem wo_kp {w : wo} {a b : Nat} {x y e : va_E} (hb : w b = some y) (ha : w a = some x) (h : y ≠ x) : wo_up w a e b = some y := by
  rw [wo_up_n (wo_ap hb ha h)]; exact hb
def wo_P (E : EV) (w : wo) (H : Heap) : Prop := ∀ (a : Nat) (e : va_E), w a = some e → va_at E.1 vwCl (a, e) H
def wo_A (w : wo) (sz : Nat) : Nat → Prop := fun q => (∃ e, w q = some e) ∨ sz ≤ q
def wo_I (A : Nat → Prop) (w : wo) : Prop := ∀ (a : Nat) (e : va_E), w a = some e → A a
def nest1 : Cond := .methodLinkNest RX3 77 yX4_againstItem RX4
/-- what a method needs to know of the machine's tables beside its words -/
def kn (E : EV) (U : State) : Prop := va_K E.1 vwCl (ev_t E) U ∧ va_Nw nest1 U ∧ va_AO RX2 U
theorem kn.warm {E : EV} {s U : State} (hW : s.WarmedH U.vm) (h : kn E s) : kn E U := ⟨va_K.moved hW.alike h.1, va_Nw.warmM hW h.2.1, h.2.2.moved hW.alike⟩
theorem kn.call {E : EV} {U : State} {g : JFrame} {mk : MethodId} {a : Array Value} (h : kn E U) : kn E (U.calling g mk a) := ⟨va_K.moved (Vm.Alike.refl U.vm) h.1, va_Nw.same rfl rfl h.2.1, h.2.2.moved (Vm.Alike.refl U.vm)⟩
def wo_G (E : EV) (A : Nat → Prop) (s : State) (w : wo) (H : Heap) (locs : List Loc) : Prop := kn E s ∧ wo_P E w H ∧ wo_I A w ∧ va_S A s.heap H locs ∧ ∀ q, s.heap.size ≤ q → A q
theorem wo_list {E : EV} {A : Nat → Prop} {w : wo} {H : Heap} (hP : wo_P E w H) (hI : wo_I A w) : ∃ ws : va_W, va_P E.1 vwCl ws H ∧ va_D A ws ∧ (∀ (a : Nat) (e : va_E), w a = some e → ∃ k : Nat, ws[k]? = some (a, e)) ∧ ∀ (k : Nat) (q : Nat × va_E), ws[k]? = some q → w q.1 = some q.2 := by
  have hf : ∀ (a : Nat) (q : Nat × va_E), (w a).map (fun e => (a, e)) = some q → q.1 = a ∧ w a = some q.2 := by
    intro a q h
    simp only [Option.map_eq_some_iff] at h
    obtain ⟨e, h1, rfl⟩ := h
    exact ⟨rfl, h1⟩
  have hmem : ∀ (k : Nat) (q : Nat × va_E), ((List.range H.size).filterMap (fun a => (w a).map (fun e => (a, e))))[k]? = some q → w q.1 = some q.2 := by
    intro k q h
    obtain ⟨a, -, ha⟩ := List.mem_filterMap.mp (List.mem_of_getElem? h)
    obtain ⟨h1, h2⟩ := hf a q ha
    rw [h1]; exact h2
  refine ⟨(List.range H.size).filterMap (fun a => (w a).map (fun e => (a, e))), fun k q h => hP q.1 q.2 (hmem k q h), ⟨?_, fun k q h => hI _ _ (hmem k q h)⟩, ?_, hmem⟩
  · intro i j p q hi hj hpq
    have hp : ((List.range H.size).filterMap (fun a => (w a).map (fun e => (a, e)))).Pairwise (fun x y => x.1 < y.1) := by
      refine List.Pairwise.filterMap _ ?_ List.pairwise_lt_range
      intro a a' haa b hb b' hb'
      rw [(hf a b hb).1, (hf a' b' hb').1]; exact haa
    rw [List.pairwise_iff_getElem] at hp
    obtain ⟨hi1, hi2⟩ := List.getElem?_eq_some_iff.mp hi
    obtain ⟨hj1, hj2⟩ := List.getElem?_eq_some_iff.mp hj
    rcases Nat.lt_trichotomy i j with h | h | h
    · have := hp i j hi1 hj1 h
      rw [hi2, hj2, hpq] at this; omega
    · exact h
    · have := hp j i hj1 hi1 h
      rw [hi2, hj2, hpq] at this; omega
  · intro a e h
    have hlt : a < H.size := (hP a e h).lt
    exact List.getElem?_of_mem (List.mem_filterMap.mpr ⟨a, List.mem_range.mpr hlt, by simp [h]⟩)
theorem wo_set {E : EV} {w : wo} {H1 : Heap} {ws : va_W} {k a : Nat} {e e' : va_E} (h1 : ∀ (a : Nat) (e : va_E), w a = some e → ∃ k : Nat, ws[k]? = some (a, e)) (hk : ws[k]? = some (a, e)) (hP : va_P E.1 vwCl (ws.set k (a, e')) H1) : wo_P E (wo_up w a e') H1 := by
  intro b eb hb
  by_cases hba : b = a
  · subst hba
    rw [wo_up_s] at hb
    cases hb
    exact hP k (b, e') (by rw [List.getElem?_set_self (List.getElem?_eq_some_iff.mp hk).1])
  · rw [wo_up_n hba] at hb
    obtain ⟨j, hj⟩ := h1 b eb hb
    have hjk : k ≠ j := by
      intro h
      subst h
      rw [hk] at hj
      cases hj
      exact hba rfl
    exact hP j (b, eb) (by rw [List.getElem?_set_ne hjk]; exact hj)
theorem wo_push {E : EV} {w : wo} {H1 : Heap} {ws : va_W} {q : Nat} {e : va_E} (h1 : ∀ (a : Nat) (e : va_E), w a = some e → ∃ k : Nat, ws[k]? = some (a, e)) (hP : va_P E.1 vwCl (ws ++ [(q, e)]) H1) : wo_P E (wo_up w q e) H1 := by
  intro b eb hb
  by_cases hba : b = q
  · subst hba
    rw [wo_up_s] at hb
    cases hb
    exact hP ws.length (b, e) (by simp)
  · rw [wo_up_n hba] at hb
    obtain ⟨j, hj⟩ := h1 b eb hb
    exact hP j (b, eb) (by rw [List.getElem?_append_left (List.getElem?_eq_some_iff.mp hj).1]; exact hj)
theorem wo_fresh {A : Nat → Prop} {w : wo} {ws : va_W} {q : Nat} {e : va_E} (h1 : ∀ (a : Nat) (e : va_E), w a = some e → ∃ k : Nat, ws[k]? = some (a, e)) (hD : va_D A (ws ++ [(q, e)])) : w q = none := by
  cases h : w q with
  | none => rfl
  | some x =>
    obtain ⟨k, hk⟩ := h1 q x h
    have hl := (List.getElem?_eq_some_iff.mp hk).1
    have := hD.1 k ws.length (q, x) (q, e) (by rw [List.getElem?_append_left hl]; exact hk) (by simp) rfl
    omega
theorem wo_I.up {A : Nat → Prop} {w : wo} {a : Nat} {e : va_E} (h : wo_I A w) (ha : A a) : wo_I A (wo_up w a e) := by
  intro b x hb
  by_cases hba : b = a
  · rw [hba]; exact ha
  · rw [wo_up_n hba] at hb; exact h b x hb
theorem wo_one {E : EV} {w : wo} {H : Heap} {a : Nat} {e : va_E} (h : wo_P E w H) (ha : w a = some e) : va_P E.1 vwCl [(a, e)] H := by
  intro k q hq
  have hz : k < 1 := (List.getElem?_eq_some_iff.mp hq).1
  rw [show k = 0 by omega] at hq
  cases hq
  exact h a e ha
section WR
variable {p : Program} {l : Launch} {e : Env} {R : Room} {s : State} {m : MethodId} {args : Array Value} {below : List Frame} {meth : Method} {c : Code} {H : Heap} {locs : List Loc} {cells slots : Nat} {Q : State → Prop}
variable {cc : ByteArray} {pc nL : Nat} {ls : Array Slot} {rest : List Value} {E : EV} {A : Nat → Prop} {a : Nat} {w : wo} {Ts : List Cond} {own : String}
theorem g_get (S : CallFix p m c cc nL s args Ts own) (G : wo_G E A s w H locs) {ci : Nat} {fs : List Value} (hw : w a = some (.inr (ci, fs))) {C : String} {T : u_T} {N : Nat} (hc : vwCl[ci]? = some (C, T, N)) (hin : ∀ x ∈ u_ws C T N, x ∈ Ts) (k : Nat) (hk : k < N) {index : Nat} (hlink : Cond.fieldLink own index (T k).1 (T k).2.1 (T k).2.2.1 ∈ Ts) {v : Value} (hv : fs[k]? = some v) (hdg : decode cc pc = .ok (.getfield index, 3))
    (kk : W p l e R s m args below meth c H locs cells slots Q (F0 m (pc + 3) ls (v :: rest))) : W p l e R s m args below meth c H locs cells slots Q (F0 m pc ls (.ref a :: rest)) :=
  va_get (D := E.1) (cl := vwCl) (tys := ev_t E) (ws := [(a, .inr (ci, fs))]) S.1 S.2.1 S.2.2.2.2 hin S.2.2.2.1 G.1.1 (wo_one G.2.1 hw) 0 rfl hc k hk (S.2.2.2.2 _ hlink) (fun _ h => h) hv hdg kk
theorem g_put (S : CallFix p m c cc nL s args Ts own) (G : wo_G E A s w H locs) {ci : Nat} {fs fs' : List Value} (hw : w a = some (.inr (ci, fs))) {C : String} {T : u_T} {N : Nat} (hc : vwCl[ci]? = some (C, T, N)) (ty0 : Nat → FieldType) (hty : ∀ k, k < N → parseFieldDescriptor (T k).2.2.1 = some (ty0 k)) (hnm : ∀ a, a < N → ∀ b, b < N → a ≠ b → (T a).2.1 ≠ (T b).2.1) (hin : ∀ x ∈ u_ws C T N, x ∈ Ts) (k : Nat) (hk : k < N) {index : Nat} (hlink : Cond.fieldLink own index (T k).1 (T k).2.1 (T k).2.2.1 ∈ Ts) (hfin : (T k).2.2.2 = false) {ty : FieldType} {v : Value} (hd : parseFieldDescriptor (T k).2.2.1 = some ty) (hn : narrow ty v = v) (hfit : fits ty v = true) (hl : k < fs.length) (hfs : fs.set k v = fs') (hdg : decode cc pc = .ok (.putfield index, 3))
    (kk : ∀ (H1 : Heap) (locs1 : List Loc), wo_G E A s (wo_up w a (.inr (ci, fs'))) H1 locs1 → W p l e R s m args below meth c H1 locs1 cells slots Q (F0 m (pc + 3) ls rest)) : W p l e R s m args below meth c H locs cells slots Q (F0 m pc ls (v :: .ref a :: rest)) := by
  subst hfs
  obtain ⟨ws, hP, hD, h1, -⟩ := wo_list G.2.1 G.2.2.1
  obtain ⟨q0, hq⟩ := h1 a _ hw
  exact va_put (D := E.1) (cl := vwCl) (tys := ev_t E) (ws := ws) S.1 S.2.1 S.2.2.2.2 hin ty0 hty hnm S.2.2.2.1 G.1.1 hP hD G.2.2.2.1 q0 hq hc k hk (S.2.2.2.2 _ hlink) (fun _ h => h) hfin hd hn hfit hl hdg (fun H1 locs1 hP1 _ hS1 => kk H1 locs1 ⟨G.1, wo_set h1 hq hP1, G.2.2.1.up (G.2.2.1 a _ hw), hS1, G.2.2.2.2⟩)
theorem g_putF (S : CallFix p m c cc nL s args Ts own) (G : wo_G E A s w H locs) {ci : Nat} {fs fs' : List Value} (hw : w a = some (.inr (ci, fs))) {C : String} {T : u_T} {N : Nat} (hc : vwCl[ci]? = some (C, T, N)) (ty0 : Nat → FieldType) (hty : ∀ k, k < N → parseFieldDescriptor (T k).2.2.1 = some (ty0 k)) (hnm : ∀ a, a < N → ∀ b, b < N → a ≠ b → (T a).2.1 ≠ (T b).2.1) (hin : ∀ x ∈ u_ws C T N, x ∈ Ts) (k : Nat) (hk : k < N) {index : Nat} (hlink : Cond.fieldLink own index (T k).1 (T k).2.1 (T k).2.2.1 ∈ Ts) (hfin : (T k).2.2.2 = true) (hin2 : meth.name = "<init>") (hdecl : (T k).1 = own) {ty : FieldType} {v : Value} (hd : parseFieldDescriptor (T k).2.2.1 = some ty) (hn : narrow ty v = v) (hfit : fits ty v = true) (hl : k < fs.length) (hfs : fs.set k v = fs') (hdg : decode cc pc = .ok (.putfield index, 3))
    (kk : ∀ (H1 : Heap) (locs1 : List Loc), wo_G E A s (wo_up w a (.inr (ci, fs'))) H1 locs1 → W p l e R s m args below meth c H1 locs1 cells slots Q (F0 m (pc + 3) ls rest)) : W p l e R s m args below meth c H locs cells slots Q (F0 m pc ls (v :: .ref a :: rest)) := by
  subst hfs
  obtain ⟨ws, hP, hD, h1, -⟩ := wo_list G.2.1 G.2.2.1
  obtain ⟨q0, hq⟩ := h1 a _ hw
  exact va_putF (D := E.1) (cl := vwCl) (tys := ev_t E) (ws := ws) S.1 S.2.1 S.2.2.2.2 hin ty0 hty hnm S.2.2.2.1 G.1.1 hP hD G.2.2.2.1 q0 hq hc k hk (S.2.2.2.2 _ hlink) (fun _ h => h) hfin hin2 hdecl hd hn hfit hl hdg (fun H1 locs1 hP1 _ hS1 => kk H1 locs1 ⟨G.1, wo_set h1 hq hP1, G.2.2.1.up (G.2.2.1 a _ hw), hS1, G.2.2.2.2⟩)
theorem g_iald (S : CallFix p m c cc nL s args Ts own) (G : wo_G E A s w H locs) {n : Nat} {f : Nat → Int32} (hw : w a = some (.inl (E.2.1, n, .inl f))) {i : Int32} (hin : vp_in i n) (hdg : decode cc pc = .ok (.iaload, 1))
    (kk : W p l e R s m args below meth c H locs cells slots Q (F0 m (pc + 1) ls (.int (f i.toNatClampNeg) :: rest))) : W p l e R s m args below meth c H locs cells slots Q (F0 m pc ls (.int i :: .ref a :: rest)) :=
  va_iald (D := E.1) (cl := vwCl) (tys := ev_t E) (ws := [(a, .inl (E.2.1, n, .inl f))]) S.1 S.2.1 G.1.1 (wo_one G.2.1 hw) 0 0 rfl rfl hin hdg kk
theorem g_lald (S : CallFix p m c cc nL s args Ts own) (G : wo_G E A s w H locs) {n : Nat} {f : Nat → Int64} (hw : w a = some (.inl (E.2.2.1, n, .inr (.inl f)))) {i : Int32} (hin : vp_in i n) (hdg : decode cc pc = .ok (.laload, 1))
    (kk : W p l e R s m args below meth c H locs cells slots Q (F0 m (pc + 1) ls (.long (f i.toNatClampNeg) :: rest))) : W p l e R s m args below meth c H locs cells slots Q (F0 m pc ls (.int i :: .ref a :: rest)) :=
  va_lald (D := E.1) (cl := vwCl) (tys := ev_t E) (ws := [(a, .inl (E.2.2.1, n, .inr (.inl f)))]) S.1 S.2.1 G.1.1 (wo_one G.2.1 hw) 0 1 rfl rfl hin hdg kk
theorem g_aald (S : CallFix p m c cc nL s args Ts own) (G : wo_G E A s w H locs) {n : Nat} {f : Nat → Option Nat} (hw : w a = some (.inl (E.2.2.2, n, .inr (.inr (.inr (.inr f)))))) {i : Int32} (hin : vp_in i n) (hdg : decode cc pc = .ok (.aaload, 1))
    (kk : W p l e R s m args below meth c H locs cells slots Q (F0 m (pc + 1) ls (va_rf (f i.toNatClampNeg) :: rest))) : W p l e R s m args below meth c H locs cells slots Q (F0 m pc ls (.int i :: .ref a :: rest)) :=
  va_aldq (D := E.1) (cl := vwCl) (tys := ev_t E) (ws := [(a, .inl (E.2.2.2, n, .inr (.inr (.inr (.inr f)))))]) (C := RX2) S.1 S.2.1 G.1.1 (wo_one G.2.1 hw) 0 2 rfl rfl hin hdg kk
theorem g_iast (S : CallFix p m c cc nL s args Ts own) (G : wo_G E A s w H locs) {n : Nat} {f : Nat → Int32} (hw : w a = some (.inl (E.2.1, n, .inl f))) {i x : Int32} (hin : vp_in i n) (hdg : decode cc pc = .ok (.iastore, 1))
    (kk : ∀ (H1 : Heap) (locs1 : List Loc), wo_G E A s (wo_up w a (.inl (E.2.1, n, .inl (upd f i.toNatClampNeg x)))) H1 locs1 → W p l e R s m args below meth c H1 locs1 cells slots Q (F0 m (pc + 1) ls rest)) : W p l e R s m args below meth c H locs cells slots Q (F0 m pc ls (.int x :: .int i :: .ref a :: rest)) := by
  obtain ⟨ws, hP, hD, h1, -⟩ := wo_list G.2.1 G.2.2.1
  obtain ⟨q0, hq⟩ := h1 a _ hw
  exact va_iast (D := E.1) (cl := vwCl) (tys := ev_t E) (ws := ws) S.1 S.2.1 G.1.1 hP hD G.2.2.2.1 q0 0 hq rfl hin hdg (fun H1 locs1 hP1 _ hS1 => kk H1 locs1 ⟨G.1, wo_set h1 hq hP1, G.2.2.1.up (G.2.2.1 a _ hw), hS1, G.2.2.2.2⟩)
theorem g_last (S : CallFix p m c cc nL s args Ts own) (G : wo_G E A s w H locs) {n : Nat} {f : Nat → Int64} (hw : w a = some (.inl (E.2.2.1, n, .inr (.inl f)))) {i : Int32} {x : Int64} (hin : vp_in i n) (hdg : decode cc pc = .ok (.lastore, 1))
    (kk : ∀ (H1 : Heap) (locs1 : List Loc), wo_G E A s (wo_up w a (.inl (E.2.2.1, n, .inr (.inl (vp_updL f i.toNatClampNeg x))))) H1 locs1 → W p l e R s m args below meth c H1 locs1 cells slots Q (F0 m (pc + 1) ls rest)) : W p l e R s m args below meth c H locs cells slots Q (F0 m pc ls (.long x :: .int i :: .ref a :: rest)) := by
  obtain ⟨ws, hP, hD, h1, -⟩ := wo_list G.2.1 G.2.2.1
  obtain ⟨q0, hq⟩ := h1 a _ hw
  exact va_last (D := E.1) (cl := vwCl) (tys := ev_t E) (ws := ws) S.1 S.2.1 G.1.1 hP hD G.2.2.2.1 q0 1 hq rfl hin hdg (fun H1 locs1 hP1 _ hS1 => kk H1 locs1 ⟨G.1, wo_set h1 hq hP1, G.2.2.1.up (G.2.2.1 a _ hw), hS1, G.2.2.2.2⟩)
theorem g_aast (S : CallFix p m c cc nL s args Ts own) (G : wo_G E A s w H locs) {n v : Nat} {f : Nat → Option Nat} {vs : List Value} (hw : w a = some (.inl (E.2.2.2, n, .inr (.inr (.inr (.inr f)))))) (hv : w v = some (.inr (2, vs))) {i : Int32} (hin : vp_in i n) (hdg : decode cc pc = .ok (.aastore, 1))
    (kk : ∀ (H1 : Heap) (locs1 : List Loc), wo_G E A s (wo_up w a (.inl (E.2.2.2, n, .inr (.inr (.inr (.inr (va_up f i.toNatClampNeg (some v)))))))) H1 locs1 → W p l e R s m args below meth c H1 locs1 cells slots Q (F0 m (pc + 1) ls rest)) : W p l e R s m args below meth c H locs cells slots Q (F0 m pc ls (.ref v :: .int i :: .ref a :: rest)) := by
  obtain ⟨ws, hP, hD, h1, -⟩ := wo_list G.2.1 G.2.2.1
  obtain ⟨q0, hq⟩ := h1 a _ hw
  obtain ⟨qk, hqk⟩ := h1 v _ hv
  exact va_astq (D := E.1) (cl := vwCl) (tys := ev_t E) (ws := ws) (r := (RX2, TX2, 4)) S.1 S.2.1 G.1.1 hP hD G.2.2.2.1 q0 2 qk 2 hq rfl hqk rfl hin hdg (fun H1 locs1 hP1 _ hS1 => kk H1 locs1 ⟨G.1, wo_set h1 hq hP1, G.2.2.1.up (G.2.2.1 a _ hw), hS1, G.2.2.2.2⟩)
theorem g_ilen (S : CallFix p m c cc nL s args Ts own) (G : wo_G E A s w H locs) {n : Nat} {f : Nat → Int32} (hw : w a = some (.inl (E.2.1, n, .inl f))) (hdg : decode cc pc = .ok (.arraylength, 1))
    (kk : W p l e R s m args below meth c H locs cells slots Q (F0 m (pc + 1) ls (.int (nI n) :: rest))) : W p l e R s m args below meth c H locs cells slots Q (F0 m pc ls (.ref a :: rest)) :=
  va_alen (D := E.1) (cl := vwCl) (tys := ev_t E) (ws := [(a, .inl (E.2.1, n, .inl f))]) (ty := .int) S.1 S.2.1 G.1.1 (wo_one G.2.1 hw) 0 0 rfl rfl rfl hdg kk
theorem g_llen (S : CallFix p m c cc nL s args Ts own) (G : wo_G E A s w H locs) {n : Nat} {f : Nat → Int64} (hw : w a = some (.inl (E.2.2.1, n, .inr (.inl f)))) (hdg : decode cc pc = .ok (.arraylength, 1))
    (kk : W p l e R s m args below meth c H locs cells slots Q (F0 m (pc + 1) ls (.int (nI n) :: rest))) : W p l e R s m args below meth c H locs cells slots Q (F0 m pc ls (.ref a :: rest)) :=
  va_alen (D := E.1) (cl := vwCl) (tys := ev_t E) (ws := [(a, .inl (E.2.2.1, n, .inr (.inl f)))]) (ty := .long) S.1 S.2.1 G.1.1 (wo_one G.2.1 hw) 0 1 rfl rfl rfl hdg kk
theorem g_newi (S : CallFix p m c cc nL s args Ts own) (G : wo_G E A s w H locs) (harr : Cond.arrayClass .int ∈ Ts) {n : Int32} {N' : Nat} (hn : ¬ n < 0) (hN : n.toNatClampNeg = N') (hby : N' ≤ 100000) (hcells : cells + 1 ≤ R.cells) (hslots : slots + N' ≤ R.slots) (hdg : decode cc pc = .ok (.newarray .int, 2))
    (kk : ∀ (q : Nat) (H1 : Heap), w q = none → wo_G E A s (wo_up w q (.inl (E.2.1, N', .inl (fun _ => 0)))) H1 locs → W p l e R s m args below meth c H1 locs (cells + 1) (slots + N') Q (F0 m (pc + 2) ls (.ref q :: rest))) : W p l e R s m args below meth c H locs cells slots Q (F0 m pc ls (.int n :: rest)) := by
  obtain ⟨ws, hP, hD, h1, -⟩ := wo_list G.2.1 G.2.2.1
  refine va_newa (D := E.1) (cl := vwCl) (tys := ev_t E) (ws := ws) (ty := .int) (atype := .int) (a0 := (N', .inl (fun _ => 0))) S.1 S.2.1 (S.2.2.2.2 _ harr) rfl G.1.1 hP hD G.2.2.2.1 G.2.2.2.2 (fun _ => rfl) hn hN (by show N' * 4 ≤ _; omega) hcells hslots hdg (fun q cA H1 hK1 hP1 hD1 hS1 => ?_)
  have e1 : E.2.1 = cA := Option.some.inj ((G.1.1.2 0 _ rfl).2.symm.trans (hK1.2 3 _ rfl).2)
  subst e1
  exact kk q H1 (wo_fresh h1 hD1) ⟨G.1, wo_push h1 hP1, G.2.2.1.up (hD1.2 ws.length (q, _) (by simp; rfl)), hS1, G.2.2.2.2⟩
theorem g_newl (S : CallFix p m c cc nL s args Ts own) (G : wo_G E A s w H locs) (harr : Cond.arrayClass .long ∈ Ts) {n : Int32} {N' : Nat} (hn : ¬ n < 0) (hN : n.toNatClampNeg = N') (hby : N' ≤ 100000) (hcells : cells + 1 ≤ R.cells) (hslots : slots + N' ≤ R.slots) (hdg : decode cc pc = .ok (.newarray .long, 2))
    (kk : ∀ (q : Nat) (H1 : Heap), w q = none → wo_G E A s (wo_up w q (.inl (E.2.2.1, N', .inr (.inl (fun _ => 0))))) H1 locs → W p l e R s m args below meth c H1 locs (cells + 1) (slots + N') Q (F0 m (pc + 2) ls (.ref q :: rest))) : W p l e R s m args below meth c H locs cells slots Q (F0 m pc ls (.int n :: rest)) := by
  obtain ⟨ws, hP, hD, h1, -⟩ := wo_list G.2.1 G.2.2.1
  refine va_newa (D := E.1) (cl := vwCl) (tys := ev_t E) (ws := ws) (ty := .long) (atype := .long) (a0 := (N', .inr (.inl (fun _ => 0)))) S.1 S.2.1 (S.2.2.2.2 _ harr) rfl G.1.1 hP hD G.2.2.2.1 G.2.2.2.2 (fun _ => rfl) hn hN (by show N' * 8 ≤ _; omega) hcells hslots hdg (fun q cA H1 hK1 hP1 hD1 hS1 => ?_)
  have e1 : E.2.2.1 = cA := Option.some.inj ((G.1.1.2 1 _ rfl).2.symm.trans (hK1.2 3 _ rfl).2)
  subst e1
  exact kk q H1 (wo_fresh h1 hD1) ⟨G.1, wo_push h1 hP1, G.2.2.1.up (hD1.2 ws.length (q, _) (by simp; rfl)), hS1, G.2.2.2.2⟩
theorem g_newq (S : CallFix p m c cc nL s args Ts own) (G : wo_G E A s w H locs) {index : Nat} (hcl : Cond.classLink own index RX2 ∈ Ts) {n : Int32} {N' : Nat} (hn : ¬ n < 0) (hN : n.toNatClampNeg = N') (hby : N' ≤ 100000) (hcells : cells + 1 ≤ R.cells) (hslots : slots + N' ≤ R.slots) (hdg : decode cc pc = .ok (.anewarray index, 3))
    (kk : ∀ (q : Nat) (H1 : Heap), w q = none → wo_G E A s (wo_up w q (.inl (E.2.2.2, N', .inr (.inr (.inr (.inr (fun _ => none))))))) H1 locs → W p l e R s m args below meth c H1 locs (cells + 1) (slots + N') Q (F0 m (pc + 3) ls (.ref q :: rest))) : W p l e R s m args below meth c H locs cells slots Q (F0 m pc ls (.int n :: rest)) := by
  obtain ⟨ws, hP, hD, h1, -⟩ := wo_list G.2.1 G.2.2.1
  refine va_newq (D := E.1) (cl := vwCl) (tys := ev_t E) (ws := ws) (C := RX2) S.1 S.2.1 S.2.2.2.1 (S.2.2.2.2 _ hcl) G.1.2.2 G.1.1 hP hD G.2.2.2.1 G.2.2.2.2 hn hN (by omega) hcells hslots hdg (fun q cA H1 hK1 hP1 hD1 hS1 => ?_)
  have e1 : E.2.2.2 = cA := by
    obtain ⟨_, _, _, _, _, z1⟩ := (G.1.1.2 2 _ rfl).2
    obtain ⟨_, _, _, _, _, z2⟩ := (hK1.2 3 _ rfl).2
    exact Option.some.inj (z1.symm.trans z2)
  subst e1
  exact kk q H1 (wo_fresh h1 hD1) ⟨G.1, wo_push h1 hP1, G.2.2.1.up (hD1.2 ws.length (q, _) (by simp; rfl)), hS1, G.2.2.2.2⟩
theorem g_new (S : CallFix p m c cc nL s args Ts own) (G : wo_G E A s w H locs) {C : String} {T : u_T} {N ci index : Nat} (hc : vwCl[ci]? = some (C, T, N)) (ty : Nat → FieldType) (hty : ∀ k, k < N → parseFieldDescriptor (T k).2.2.1 = some (ty k)) (hin : ∀ x ∈ u_ws C T N, x ∈ Ts) (hcl : Cond.classLink own index C ∈ Ts) (hinst : Cond.instantiable C N ∈ Ts) (hini : Cond.initialized C ∈ Ts) {fs : List Value} (hfs : ∀ j, j < N → defaultValue (ty j) = vp_V fs j) (hcells : cells + 1 ≤ R.cells) (hslots : slots + N ≤ R.slots) (hdg : decode cc pc = .ok (.new index, 3))
    (kk : ∀ (q : Nat) (H1 : Heap), w q = none → wo_G E A s (wo_up w q (.inr (ci, fs))) H1 locs → W p l e R s m args below meth c H1 locs (cells + 1) (slots + N) Q (F0 m (pc + 3) ls (.ref q :: rest))) : W p l e R s m args below meth c H locs cells slots Q (F0 m pc ls rest) := by
  obtain ⟨ws, hP, hD, h1, -⟩ := wo_list G.2.1 G.2.2.1
  exact va_new (D := E.1) (cl := vwCl) (tys := ev_t E) (ws := ws) S.1 S.2.1 S.2.2.2.2 hin ty hty S.2.2.2.1 (S.2.2.2.2 _ hcl) (S.2.2.2.2 _ hinst) (S.2.2.2.2 _ hini) G.1.1 hP hD G.2.2.2.1 G.2.2.2.2 hc hfs hcells hslots hdg (fun q H1 hP1 hD1 hS1 => kk q H1 (wo_fresh h1 hD1) ⟨G.1, wo_push h1 hP1, G.2.2.1.up (hD1.2 ws.length (q, _) (by simp; rfl)), hS1, G.2.2.2.2⟩)
end WR
