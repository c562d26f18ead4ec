/-! THE CLAIM OUT OF ONE WALK OF THE LAW'S BODY. Your part is whole_start (and what it stands on); all else here is the same for every law, but numbers. -/
def R_law : String := "ClassRunnerLaw"
def lw_P (b : Addr) (xs : List Int32) (args : Array Value) (s : State) : Prop := args = #[.ref b] ∧ s.IntsAt b xs ∧ xs.length ≤ 3072 ∧ (Jvm.Cond.and given_1 narrow_1).before args s = true
def lw_Q (_ : Array Value) (s : State) (o : Outcome) (t : State) : Prop := o = .returned (some (.int 1)) ∧ Framed s o t [] 600000 7302250
def lw_Z (below : List Frame) (a : Array Value) (s : State) : State → Prop := fun t => ∃ o, t.status = .running ∧ Ended t below o ∧ lw_Q a s o t
/-- the law's own end, with 1 on the stack, nothing written that was there before, its room as the claim has it -/
theorem lw_ret {p : Program} {l : Launch} {e : Env} {s : State} {m : MethodId} {below : List Frame} {meth : Method} {c : Code} {b : Nat} (hx : p.tables.exec = Jvm.exec) (hb : c.code = code) (hr : meth.sig.returnType = ret) (hlocks : meth.locks = false) {pc : Nat} {H : Heap} {ls : Array Slot} (hdg : decode code pc = .ok (.ireturn, 1)) : W p l e room_1 s m #[Value.ref b] below meth c H [] 600000 7302250 (lw_Z below #[Value.ref b] s) (F0 m pc ls [.int 1]) := by
  intro T hT X
  obtain ⟨fs, hret, hrun, hended, hW, hframe⟩ := X.leave (v := some (.int 1)) (hlocks := hlocks) (fun h => by rw [hr] at h; cases h)
  have hmeth' : T.vm.method? m = some meth := X.method'
  refine ⟨T.setFrames fs, ?_, .returned (some (.int 1)), hrun, hended, rfl, ⟨_, rfl⟩, hW, hframe⟩
  jvm_step X.here [X.here.top, hx, hb, hdg, hmeth', hr, ret, narrow_b1]
  (try refine ⟨rfl, ?_⟩); (try refine ⟨rfl, ?_⟩)
  first | (intro acts; rw [hret _ acts rfl rfl rfl]) | rw [hret _ _ rfl rfl rfl]
  exact Steps.refl _
/-- what holds at the law's entry: the machine, the code, the tables' words (any of lw_tbl by 'hts w (by decide +kernel)'), the script of L ints xs at the cell b, what the Statement gives of the start (any of its parts by flat_of_before) -/
def lw_At (p : Program) (s : State) (m : MethodId) (meth : Method) (c : Code) (b L : Nat) (xs : Nat → Int32) : Prop :=
  p.tables.exec = Jvm.exec ∧ c.code = code ∧ meth.sig.returnType = ret ∧ c.maxLocals = 4 ∧ s.vm.findClass R_law = some m.cls ∧ (∀ w ∈ lw_tbl, w.before #[Value.ref b] s = true) ∧ va_X b L xs s s.heap ∧ b < s.heap.size ∧ meth.locks = false ∧ (Jvm.Cond.and given_1 narrow_1).before #[Value.ref b] s = true
/-! THE LAW: its calls, over both worlds -/
def Dj (a b : wo) : Prop := ∀ q : Nat, a q = none ∨ b q = none
theorem Dj.sym {a b : wo} (h : Dj a b) : Dj b a := fun q => (h q).symm
theorem RcX_x {E : EV} {w : wo} {x : Nat} {σ : ST} (h : RcX E w x σ) : ∃ fs : List Value, w x = some (.inr (4, fs)) := by
  obtain ⟨st, wk, tl, ta, tf, T, Rw, Ia, F, ⟨lim, wou, th⟩, R⟩ := h
  obtain ⟨n, cl, vs, lk, hd, nr, so, sz, it, oc, ow, bg, dp, td⟩ := σ
  exact ⟨_, Rc_x R⟩
theorem RmX_m {E : EV} {w : wo} {m : Nat} {σ : ST} (h : RmX E w m σ) : ∃ fs : List Value, w m = some (.inr (5, fs)) := by
  obtain ⟨aC, aV, aL, aH, aS, aZ, aI, aT, ⟨to, rs, nx⟩, R⟩ := h
  obtain ⟨n, cl, vs, lk, hd, nr, so, sz, it, oc, ow, bg, dp, td⟩ := σ
  exact ⟨_, Rm_m R⟩
section LC
variable {p : Program} {l : Launch} {e : Env} {R : Room} {s : State} {m : MethodId} {args : Array Value} {below : List Frame} {meth : Method} {c : Code} {H : Heap} {locs : List Loc} {cells slots mc ms : Nat} {Q : State → Prop}
variable {cc : ByteArray} {pc nL : Nat} {ls : Array Slot} {rest st0 : List Value} {E : EV} {A : Nat → Prop} {wa wb : wo} {Ts : List Cond} {own : String}
variable {y : MethodName} {ws ws' : List Cond} {bytes : ByteArray} {ret : Option FieldType} {C : String} {T : u_T} {b k n ci N maxL index : Nat} {As fs : List Value} {lv : List (Nat × Value)}
theorem wo_both {w' : wo} {H1 : Heap} {locs1 : List Loc} (Ga : wo_G E A s wa H locs) (Gb : wo_G E A s wb H locs) (dj : Dj wa wb) (hP : wo_P E w' H1) (hI : wo_I (wo_A wa H.size) w') (hk : ∀ q : Nat, q < H.size → ¬ wo_A wa H.size q → H1[q]? = H[q]?) (hS : va_S A s.heap H1 locs1) : wo_G E A s w' H1 locs1 ∧ wo_G E A s wb H1 locs1 ∧ Dj w' wb := by
  have out : ∀ (q : Nat) (x : va_E), wb q = some x → q < H.size ∧ ¬ wo_A wa H.size q := by
    intro q x hq
    have h1 : q < H.size := (Gb.2.1 q x hq).lt
    refine ⟨h1, fun z => ?_⟩
    rcases z with ⟨x2, z⟩ | z
    · rcases dj q with d | d
      · rw [d] at z; cases z
      · rw [d] at hq; cases hq
    · omega
  refine ⟨⟨Ga.1, hP, fun a x h => wo_AA Ga a (hI a x h), hS, Ga.2.2.2.2⟩, ⟨Gb.1, fun q x hq => (Gb.2.1 q x hq).kept (hk q (out q x hq).1 (out q x hq).2), Gb.2.2.1, hS, Gb.2.2.2.2⟩, fun q => ?_⟩
  cases h1 : wb q with
  | none => exact Or.inr rfl
  | some x =>
    cases h2 : w' q with
    | none => exact Or.inl rfl
    | some x2 => exact absurd (hI q x2 h2) (out q x h1).2
theorem L_Vi {post : Int32 → wo → Prop} (S : CallFix p m c cc nL s args Ts own) (Ga : wo_G E A s wa H locs) (Gb : wo_G E A s wb H locs) (dj : Dj wa wb) (hls : lv_has ls nL lv) (hM : ct_i l E y ws k mc ms (.ref b :: As) wa post) (hT : GoodIn Ts (wsV own index C y ws)) (hwd : ws = Cond.code y bytes maxL ret :: ws') (hd : y.cls = C ∧ y.cls ≠ "java/lang/invoke/MethodHandle" ∧ y.cls ≠ "java/lang/invoke/VarHandle" ∧ (parseMethodDescriptor y.desc).map (fun d => d.parameters.length) = some n) (hw : wa b = some (.inr (ci, fs))) (hc : vwCl[ci]? = some (C, T, N)) (hn : As.length = n) (hst : st0 = As.reverse ++ .ref b :: rest) (hrm : (rest.map fun v => v.category).sum ≤ 8) (hR : k + 1 ≤ R.frames ∧ 8 + (maxL + 11) + 40 * k ≤ R.locals) (hf : cells + mc ≤ R.cells ∧ slots + ms ≤ R.slots) (hdg : decode cc pc = .ok (.invokevirtual index, 3))
    (kk : ∀ (r : Int32) (w' : wo) (H1 : Heap) (locs1 : List Loc), post r w' → wo_G E A s w' H1 locs1 → wo_G E A s wb H1 locs1 → Dj w' wb → W p l e R s m args below meth c H1 locs1 (cells + mc) (slots + ms) Q (F0 m (pc + 3) ls (.int r :: rest))) : W p l e R s m args below meth c H locs cells slots Q (F0 m pc ls st0) :=
  va_calli (va_runV (As := As) (rest := rest) S (hM H.size) (cwV n S.2.2.2.2 hT hwd rfl rfl hd hR) (wo_pv Ga hw hc) rfl hn hls.1 hst (lv_room hrm) hdg hf) Ga.2.2.2.1 (fun q _ h => wo_AA Ga q h) (wo_AA Ga) (fun r w' _ H1 locs1 ht _ hp hB _ hk hS => by
    obtain ⟨g1, g2, g3⟩ := wo_both (w' := w') (H1 := H1) Ga Gb dj (by rw [← ht]; exact hB.1) hB.2 hk hS
    exact kk r w' H1 locs1 hp g1 g2 g3)
theorem L_Vl {post : Int64 → wo → Prop} (S : CallFix p m c cc nL s args Ts own) (Ga : wo_G E A s wa H locs) (Gb : wo_G E A s wb H locs) (dj : Dj wa wb) (hls : lv_has ls nL lv) (hM : ct_l l E y ws k mc ms (.ref b :: As) wa post) (hT : GoodIn Ts (wsV own index C y ws)) (hwd : ws = Cond.code y bytes maxL ret :: ws') (hd : y.cls = C ∧ y.cls ≠ "java/lang/invoke/MethodHandle" ∧ y.cls ≠ "java/lang/invoke/VarHandle" ∧ (parseMethodDescriptor y.desc).map (fun d => d.parameters.length) = some n) (hw : wa b = some (.inr (ci, fs))) (hc : vwCl[ci]? = some (C, T, N)) (hn : As.length = n) (hst : st0 = As.reverse ++ .ref b :: rest) (hrm : (rest.map fun v => v.category).sum ≤ 8) (hR : k + 1 ≤ R.frames ∧ 8 + (maxL + 11) + 40 * k ≤ R.locals) (hf : cells + mc ≤ R.cells ∧ slots + ms ≤ R.slots) (hdg : decode cc pc = .ok (.invokevirtual index, 3))
    (kk : ∀ (r : Int64) (w' : wo) (H1 : Heap) (locs1 : List Loc), post r w' → wo_G E A s w' H1 locs1 → wo_G E A s wb H1 locs1 → Dj w' wb → W p l e R s m args below meth c H1 locs1 (cells + mc) (slots + ms) Q (F0 m (pc + 3) ls (.long r :: rest))) : W p l e R s m args below meth c H locs cells slots Q (F0 m pc ls st0) :=
  va_calll (va_runV (As := As) (rest := rest) S (hM H.size) (cwV n S.2.2.2.2 hT hwd rfl rfl hd hR) (wo_pv Ga hw hc) rfl hn hls.1 hst (lv_room hrm) hdg hf) Ga.2.2.2.1 (fun q _ h => wo_AA Ga q h) (wo_AA Ga) (fun r w' _ H1 locs1 ht _ hp hB _ hk hS => by
    obtain ⟨g1, g2, g3⟩ := wo_both (w' := w') (H1 := H1) Ga Gb dj (by rw [← ht]; exact hB.1) hB.2 hk hS
    exact kk r w' H1 locs1 hp g1 g2 g3)
end LC
theorem nr_thing {σ : ST} (c : Int32) (v : Int32) : nr_of (S_thing c v σ).2 ≤ nr_of σ + 1 := by
  obtain ⟨n, cl, vs, lk, hd, nr, so, sz, it, oc, ow, bg, dp, td⟩ := σ
  have h0 : nr ≤ nr + 1 := Nat.le_succ nr
  have h1 : nr + 1 ≤ nr + 1 := Nat.le_refl _
  unfold S_thing
  dsimp only
  repeat' split
  all_goals first | exact h0 | exact h1
theorem nr_become {σ : ST} (t : Int32) (v : Int32) : nr_of (S_become t v σ).2 ≤ nr_of σ + 1 := by
  obtain ⟨n, cl, vs, lk, hd, nr, so, sz, it, oc, ow, bg, dp, td⟩ := σ
  have h0 : nr ≤ nr + 1 := Nat.le_succ nr
  have h1 : nr + 1 ≤ nr + 1 := Nat.le_refl _
  unfold S_become
  dsimp only
  repeat' split
  all_goals first | exact h0 | exact h1
theorem nr_link {σ : ST} (t : Int32) (o : Int32) : nr_of (S_link t o σ).2 ≤ nr_of σ + 1 := by
  obtain ⟨n, cl, vs, lk, hd, nr, so, sz, it, oc, ow, bg, dp, td⟩ := σ
  have h0 : nr ≤ nr + 1 := Nat.le_succ nr
  have h1 : nr + 1 ≤ nr + 1 := Nat.le_refl _
  unfold S_link
  dsimp only
  repeat' split
  all_goals first | exact h0 | exact h1
theorem nr_follow {σ : ST} (t : Int32) : nr_of (S_follow t σ).2 ≤ nr_of σ + 1 := by
  obtain ⟨n, cl, vs, lk, hd, nr, so, sz, it, oc, ow, bg, dp, td⟩ := σ
  have h0 : nr ≤ nr + 1 := Nat.le_succ nr
  have h1 : nr + 1 ≤ nr + 1 := Nat.le_refl _
  unfold S_follow
  dsimp only
  repeat' split
  all_goals first | exact h0 | exact h1
theorem nr_trade {σ : ST} (t : Int32) : nr_of (S_trade t σ).2 ≤ nr_of σ + 1 := by
  obtain ⟨n, cl, vs, lk, hd, nr, so, sz, it, oc, ow, bg, dp, td⟩ := σ
  have h0 : nr ≤ nr + 1 := Nat.le_succ nr
  have h1 : nr + 1 ≤ nr + 1 := Nat.le_refl _
  unfold S_trade
  dsimp only
  repeat' split
  all_goals first | exact h0 | exact h1
theorem nr_hold {σ : ST} (t : Int32) (s : Int32) (z : Int32) : nr_of (S_hold t s z σ).2 ≤ nr_of σ + 1 := by
  obtain ⟨n, cl, vs, lk, hd, nr, so, sz, it, oc, ow, bg, dp, td⟩ := σ
  have h0 : nr ≤ nr + 1 := Nat.le_succ nr
  have h1 : nr + 1 ≤ nr + 1 := Nat.le_refl _
  unfold S_hold
  dsimp only
  repeat' split
  all_goals first | exact h0 | exact h1
theorem nr_share {σ : ST} (t : Int32) (o : Int32) : nr_of (S_share t o σ).2 ≤ nr_of σ + 1 := by
  obtain ⟨n, cl, vs, lk, hd, nr, so, sz, it, oc, ow, bg, dp, td⟩ := σ
  have h0 : nr ≤ nr + 1 := Nat.le_succ nr
  have h1 : nr + 1 ≤ nr + 1 := Nat.le_refl _
  unfold S_share
  dsimp only
  repeat' split
  all_goals first | exact h0 | exact h1
theorem nr_size {σ : ST} (t : Int32) : nr_of (S_size t σ).2 ≤ nr_of σ + 1 := by
  obtain ⟨n, cl, vs, lk, hd, nr, so, sz, it, oc, ow, bg, dp, td⟩ := σ
  have h0 : nr ≤ nr + 1 := Nat.le_succ nr
  have h1 : nr + 1 ≤ nr + 1 := Nat.le_refl _
  unfold S_size
  dsimp only
  repeat' split
  all_goals first | exact h0 | exact h1
theorem nr_at {σ : ST} (t : Int32) (k : Int32) : nr_of (S_at t k σ).2 ≤ nr_of σ + 1 := by
  obtain ⟨n, cl, vs, lk, hd, nr, so, sz, it, oc, ow, bg, dp, td⟩ := σ
  have h0 : nr ≤ nr + 1 := Nat.le_succ nr
  have h1 : nr + 1 ≤ nr + 1 := Nat.le_refl _
  unfold S_at
  dsimp only
  repeat' split
  all_goals first | exact h0 | exact h1
theorem nr_lay {σ : ST} (t : Int32) (k : Int32) (v : Int64) : nr_of (S_lay t k v σ).2 ≤ nr_of σ + 1 := by
  obtain ⟨n, cl, vs, lk, hd, nr, so, sz, it, oc, ow, bg, dp, td⟩ := σ
  have h0 : nr ≤ nr + 1 := Nat.le_succ nr
  have h1 : nr + 1 ≤ nr + 1 := Nat.le_refl _
  unfold S_lay
  dsimp only
  repeat' split
  all_goals first | exact h0 | exact h1
theorem nr_set {σ : ST} (t : Int32) (k : Int32) (o : Int32) : nr_of (S_set t k o σ).2 ≤ nr_of σ + 1 := by
  obtain ⟨n, cl, vs, lk, hd, nr, so, sz, it, oc, ow, bg, dp, td⟩ := σ
  have h0 : nr ≤ nr + 1 := Nat.le_succ nr
  have h1 : nr + 1 ≤ nr + 1 := Nat.le_refl _
  unfold S_set
  dsimp only
  repeat' split
  all_goals first | exact h0 | exact h1
theorem nr_move {σ : ST} (t : Int32) (i : Int32) (o : Int32) (j : Int32) (z : Int32) : nr_of (S_move t i o j z σ).2 ≤ nr_of σ + 1 := by
  obtain ⟨n, cl, vs, lk, hd, nr, so, sz, it, oc, ow, bg, dp, td⟩ := σ
  have h0 : nr ≤ nr + 1 := Nat.le_succ nr
  have h1 : nr + 1 ≤ nr + 1 := Nat.le_refl _
  unfold S_move
  dsimp only
  repeat' split
  all_goals first | exact h0 | exact h1
theorem nr_run {σ : ST} (t : Int32) (li : Int32) : nr_of (S_run t li σ).2 ≤ nr_of σ + 1 := by
  obtain ⟨n, cl, vs, lk, hd, nr, so, sz, it, oc, ow, bg, dp, td⟩ := σ
  have h0 : nr ≤ nr + 1 := Nat.le_succ nr
  have h1 : nr + 1 ≤ nr + 1 := Nat.le_refl _
  unfold S_run
  dsimp only
  repeat' split
  all_goals first | exact h0 | exact h1
theorem nr_either {σ : ST} (t : Int32) (o : Int32) (li : Int32) : nr_of (S_either t o li σ).2 ≤ nr_of σ + 1 := by
  obtain ⟨n, cl, vs, lk, hd, nr, so, sz, it, oc, ow, bg, dp, td⟩ := σ
  have h0 : nr ≤ nr + 1 := Nat.le_succ nr
  have h1 : nr + 1 ≤ nr + 1 := Nat.le_refl _
  unfold S_either
  dsimp only
  repeat' split
  all_goals first | exact h0 | exact h1
theorem nr_gather {σ : ST} (t : Int32) (li : Int32) : nr_of (S_gather t li σ).2 ≤ nr_of σ + 1 := by
  obtain ⟨n, cl, vs, lk, hd, nr, so, sz, it, oc, ow, bg, dp, td⟩ := σ
  have h0 : nr ≤ nr + 1 := Nat.le_succ nr
  have h1 : nr + 1 ≤ nr + 1 := Nat.le_refl _
  unfold S_gather
  dsimp only
  repeat' split
  all_goals first | exact h0 | exact h1
theorem nr_keep {σ : ST} (t : Int32) (o : Int32) (k : Int32) (li : Int32) : nr_of (S_keep t o k li σ).2 ≤ nr_of σ + 1 := by
  obtain ⟨n, cl, vs, lk, hd, nr, so, sz, it, oc, ow, bg, dp, td⟩ := σ
  have h0 : nr ≤ nr + 1 := Nat.le_succ nr
  have h1 : nr + 1 ≤ nr + 1 := Nat.le_refl _
  unfold S_keep
  dsimp only
  repeat' split
  all_goals first | exact h0 | exact h1
