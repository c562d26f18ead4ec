section
-- ===== PART A: goes FIRST, ahead of the names: the tables' words, and 'selects' of the private methods out of them =====
/-- a private method of a class that the tables say can be made, by its rows of tables_1 -/
def lw_okq (q : MethodName × Nat) : Prop := (q.1.cls ≠ "java/lang/invoke/MethodHandle" ∧ q.1.cls ≠ "java/lang/invoke/VarHandle") ∧ Cond.instantiable q.1.cls q.2 ∈ tables_1 ∧ Cond.privateMethod q.1 ∈ tables_1 ∧ Cond.instanceMethod q.1 ∈ tables_1
theorem lw_p0 : lw_okq (⟨"ClassRunner", "refuse", "(I)I"⟩, 5) := ⟨⟨by decide +kernel, by decide +kernel⟩, List.mem_of_getElem? (i := 10) (by decide +kernel), List.mem_of_getElem? (i := 179) (by decide +kernel), List.mem_of_getElem? (i := 180) (by decide +kernel)⟩
theorem lw_p1 : lw_okq (⟨"ClassRunner", "tell", "(I)I"⟩, 5) := ⟨⟨by decide +kernel, by decide +kernel⟩, List.mem_of_getElem? (i := 10) (by decide +kernel), List.mem_of_getElem? (i := 183) (by decide +kernel), List.mem_of_getElem? (i := 184) (by decide +kernel)⟩
theorem lw_p2 : lw_okq (⟨"ClassRunner", "leavesAhead", "(LClassRunner$Row;II)I"⟩, 5) := ⟨⟨by decide +kernel, by decide +kernel⟩, List.mem_of_getElem? (i := 10) (by decide +kernel), List.mem_of_getElem? (i := 274) (by decide +kernel), List.mem_of_getElem? (i := 275) (by decide +kernel)⟩
theorem lw_p3 : lw_okq (⟨"ClassRunner$Work", "begin", "(LClassRunner$Thing;I)I"⟩, 6) := ⟨⟨by decide +kernel, by decide +kernel⟩, List.mem_of_getElem? (i := 34) (by decide +kernel), List.mem_of_getElem? (i := 296) (by decide +kernel), List.mem_of_getElem? (i := 297) (by decide +kernel)⟩
theorem lw_p4 : lw_okq (⟨"ClassRunner$Work", "stop", "(II)I"⟩, 6) := ⟨⟨by decide +kernel, by decide +kernel⟩, List.mem_of_getElem? (i := 34) (by decide +kernel), List.mem_of_getElem? (i := 300) (by decide +kernel), List.mem_of_getElem? (i := 301) (by decide +kernel)⟩
theorem lw_p5 : lw_okq (⟨"ClassRunner$Work", "workOut", "(LClassRunner$Thing;I)I"⟩, 6) := ⟨⟨by decide +kernel, by decide +kernel⟩, List.mem_of_getElem? (i := 34) (by decide +kernel), List.mem_of_getElem? (i := 304) (by decide +kernel), List.mem_of_getElem? (i := 305) (by decide +kernel)⟩
theorem lw_p6 : lw_okq (⟨"ClassRunner$Work", "throwOwn", "(II)I"⟩, 6) := ⟨⟨by decide +kernel, by decide +kernel⟩, List.mem_of_getElem? (i := 34) (by decide +kernel), List.mem_of_getElem? (i := 309) (by decide +kernel), List.mem_of_getElem? (i := 310) (by decide +kernel)⟩
theorem lw_p7 : lw_okq (⟨"ClassRunner$Work", "firstOf", "(LClassRunner$Row;I)I"⟩, 6) := ⟨⟨by decide +kernel, by decide +kernel⟩, List.mem_of_getElem? (i := 34) (by decide +kernel), List.mem_of_getElem? (i := 313) (by decide +kernel), List.mem_of_getElem? (i := 314) (by decide +kernel)⟩
theorem lw_p8 : lw_okq (⟨"ClassRunner$Work", "sumOf", "(LClassRunner$Row;I)I"⟩, 6) := ⟨⟨by decide +kernel, by decide +kernel⟩, List.mem_of_getElem? (i := 34) (by decide +kernel), List.mem_of_getElem? (i := 319) (by decide +kernel), List.mem_of_getElem? (i := 320) (by decide +kernel)⟩
theorem lw_p9 : lw_okq (⟨"ClassRunnerModel", "isThing", "(I)Z"⟩, 17) := ⟨⟨by decide +kernel, by decide +kernel⟩, List.mem_of_getElem? (i := 340) (by decide +kernel), List.mem_of_getElem? (i := 432) (by decide +kernel), List.mem_of_getElem? (i := 433) (by decide +kernel)⟩
theorem lw_p10 : lw_okq (⟨"ClassRunnerModel", "tell", "(I)I"⟩, 17) := ⟨⟨by decide +kernel, by decide +kernel⟩, List.mem_of_getElem? (i := 340) (by decide +kernel), List.mem_of_getElem? (i := 460) (by decide +kernel), List.mem_of_getElem? (i := 461) (by decide +kernel)⟩
theorem lw_p11 : lw_okq (⟨"ClassRunnerModel", "isItem", "(II)Z"⟩, 17) := ⟨⟨by decide +kernel, by decide +kernel⟩, List.mem_of_getElem? (i := 340) (by decide +kernel), List.mem_of_getElem? (i := 492) (by decide +kernel), List.mem_of_getElem? (i := 493) (by decide +kernel)⟩
theorem lw_p12 : lw_okq (⟨"ClassRunnerModel", "isLeaf", "(I)Z"⟩, 17) := ⟨⟨by decide +kernel, by decide +kernel⟩, List.mem_of_getElem? (i := 340) (by decide +kernel), List.mem_of_getElem? (i := 504) (by decide +kernel), List.mem_of_getElem? (i := 505) (by decide +kernel)⟩
theorem lw_p13 : lw_okq (⟨"ClassRunnerModel", "going", "(IIII)I"⟩, 17) := ⟨⟨by decide +kernel, by decide +kernel⟩, List.mem_of_getElem? (i := 340) (by decide +kernel), List.mem_of_getElem? (i := 512) (by decide +kernel), List.mem_of_getElem? (i := 513) (by decide +kernel)⟩
theorem lw_p14 : lw_okq (⟨"ClassRunnerModel", "number", "(II)I"⟩, 17) := ⟨⟨by decide +kernel, by decide +kernel⟩, List.mem_of_getElem? (i := 340) (by decide +kernel), List.mem_of_getElem? (i := 521) (by decide +kernel), List.mem_of_getElem? (i := 522) (by decide +kernel)⟩
theorem lw_p15 : lw_okq (⟨"ClassRunnerModel", "takes", "(I)I"⟩, 17) := ⟨⟨by decide +kernel, by decide +kernel⟩, List.mem_of_getElem? (i := 340) (by decide +kernel), List.mem_of_getElem? (i := 525) (by decide +kernel), List.mem_of_getElem? (i := 526) (by decide +kernel)⟩
def lw_privs_1 : List (MethodName × Nat) := [(⟨"ClassRunner", "refuse", "(I)I"⟩, 5), (⟨"ClassRunner", "tell", "(I)I"⟩, 5), (⟨"ClassRunner", "leavesAhead", "(LClassRunner$Row;II)I"⟩, 5), (⟨"ClassRunner$Work", "begin", "(LClassRunner$Thing;I)I"⟩, 6), (⟨"ClassRunner$Work", "stop", "(II)I"⟩, 6), (⟨"ClassRunner$Work", "workOut", "(LClassRunner$Thing;I)I"⟩, 6), (⟨"ClassRunner$Work", "throwOwn", "(II)I"⟩, 6), (⟨"ClassRunner$Work", "firstOf", "(LClassRunner$Row;I)I"⟩, 6), (⟨"ClassRunner$Work", "sumOf", "(LClassRunner$Row;I)I"⟩, 6), (⟨"ClassRunnerModel", "isThing", "(I)Z"⟩, 17), (⟨"ClassRunnerModel", "tell", "(I)I"⟩, 17), (⟨"ClassRunnerModel", "isItem", "(II)Z"⟩, 17), (⟨"ClassRunnerModel", "isLeaf", "(I)Z"⟩, 17), (⟨"ClassRunnerModel", "going", "(IIII)I"⟩, 17), (⟨"ClassRunnerModel", "number", "(II)I"⟩, 17), (⟨"ClassRunnerModel", "takes", "(I)I"⟩, 17)]
theorem lw_r1 : ∀ q ∈ lw_privs_1, lw_okq q := List.forall_mem_cons.mpr ⟨lw_p0, List.forall_mem_cons.mpr ⟨lw_p1, List.forall_mem_cons.mpr ⟨lw_p2, List.forall_mem_cons.mpr ⟨lw_p3, List.forall_mem_cons.mpr ⟨lw_p4, List.forall_mem_cons.mpr ⟨lw_p5, List.forall_mem_cons.mpr ⟨lw_p6, List.forall_mem_cons.mpr ⟨lw_p7, List.forall_mem_cons.mpr ⟨lw_p8, List.forall_mem_cons.mpr ⟨lw_p9, List.forall_mem_cons.mpr ⟨lw_p10, List.forall_mem_cons.mpr ⟨lw_p11, List.forall_mem_cons.mpr ⟨lw_p12, List.forall_mem_cons.mpr ⟨lw_p13, List.forall_mem_cons.mpr ⟨lw_p14, List.forall_mem_cons.mpr ⟨lw_p15, fun _ h => absurd h List.not_mem_nil⟩⟩⟩⟩⟩⟩⟩⟩⟩⟩⟩⟩⟩⟩⟩⟩
theorem lw_p16 : lw_okq (⟨"ClassRunnerModel", "plain", "(I)I"⟩, 17) := ⟨⟨by decide +kernel, by decide +kernel⟩, List.mem_of_getElem? (i := 340) (by decide +kernel), List.mem_of_getElem? (i := 529) (by decide +kernel), List.mem_of_getElem? (i := 530) (by decide +kernel)⟩
theorem lw_p17 : lw_okq (⟨"ClassRunnerModel", "summed", "(I)I"⟩, 17) := ⟨⟨by decide +kernel, by decide +kernel⟩, List.mem_of_getElem? (i := 340) (by decide +kernel), List.mem_of_getElem? (i := 533) (by decide +kernel), List.mem_of_getElem? (i := 534) (by decide +kernel)⟩
theorem lw_p18 : lw_okq (⟨"ClassRunnerModel", "ended", "(II)I"⟩, 17) := ⟨⟨by decide +kernel, by decide +kernel⟩, List.mem_of_getElem? (i := 340) (by decide +kernel), List.mem_of_getElem? (i := 537) (by decide +kernel), List.mem_of_getElem? (i := 538) (by decide +kernel)⟩
def lw_privs_2 : List (MethodName × Nat) := [(⟨"ClassRunnerModel", "plain", "(I)I"⟩, 17), (⟨"ClassRunnerModel", "summed", "(I)I"⟩, 17), (⟨"ClassRunnerModel", "ended", "(II)I"⟩, 17)]
theorem lw_r2 : ∀ q ∈ lw_privs_2, lw_okq q := List.forall_mem_cons.mpr ⟨lw_p16, List.forall_mem_cons.mpr ⟨lw_p17, List.forall_mem_cons.mpr ⟨lw_p18, fun _ h => absurd h List.not_mem_nil⟩⟩⟩
def lw_privs : List (MethodName × Nat) := lw_privs_1 ++ (lw_privs_2)
def lw_tbl : List Cond := k2_sels lw_privs ++ tables_1
theorem lw_privs_ok : ∀ q ∈ lw_privs, lw_okq q := by
  show ∀ q ∈ lw_privs_1 ++ (lw_privs_2), lw_okq q
  exact List.forall_mem_append.mpr ⟨lw_r1, lw_r2⟩
end
section
/-! ===== BEGIN words of one list among another's, by their places ===== -/
theorem goodIn_r {big : List Cond} (ws : List Cond) (ps : List Nat) (hp : ws = ps.filterMap (fun i => big[i]?)) (h : ws.all goodWord = true) : GoodIn big ws := by
  intro w hw
  have h1 := List.all_eq_true.mp h w hw
  rw [hp] at hw
  obtain ⟨i, -, hi⟩ := List.mem_filterMap.mp hw
  have hm : w ∈ big := by first | exact List.mem_of_getElem? hi | exact List.getElem?_mem hi
  exact ⟨hm, good_of_word h1⟩
theorem goodIn_app {big a b : List Cond} (ha : GoodIn big a) (hb : GoodIn big b) : GoodIn big (a ++ b) := fun w h => (List.mem_append.mp h).elim (ha w) (hb w)
theorem goodIn_ca {big a b : List Cond} {c : Cond} (ha : GoodIn big (c :: a)) (hb : GoodIn big b) : GoodIn big (c :: (a ++ b)) := fun w h => (List.mem_cons.mp h).elim (fun e => ha w (List.mem_cons.mpr (Or.inl e))) (fun h => (List.mem_append.mp h).elim (fun h => ha w (List.mem_cons.mpr (Or.inr h))) (hb w))
theorem goodIn_sub {big ws : List Cond} (hm : ∀ w ∈ ws, w ∈ big) (h : ws.all goodWord = true) : GoodIn big ws := fun w hw => ⟨hm w hw, good_of_word (List.all_eq_true.mp h w hw)⟩
/-! ===== END ===== -/

/-! ===== BEGIN printed: names, fields, word lists, decode rows ===== -/
def RX0 : String := "ClassRunner$Row"
def TX0 : u_T := fun k => match k with
  | 0 => ("ClassRunner$Row", "sort", "I", true)
  | _ => ("ClassRunner$Row", "items", "[J", true)
def tyX0 : Nat → FieldType := fun k => match k with
  | 0 => .int
  | _ => .array .long
abbrev wsX00 : List Cond := u_ws RX0 TX0 2
theorem nmX0 : ∀ a, a < 2 → ∀ b, b < 2 → a ≠ b → (TX0 a).2.1 ≠ (TX0 b).2.1 := by decide +kernel
theorem tyX0_ok : ∀ k, k < 2 → parseFieldDescriptor (TX0 k).2.2.1 = some (tyX0 k) := by decide +kernel
abbrev cX0_init : ByteArray := prog_2_method_1_code
def yX0_init : MethodName := ⟨RX0, "<init>", "(II)V"⟩
abbrev cX0_isOfThings : ByteArray := prog_2_method_2_code
def yX0_isOfThings : MethodName := ⟨RX0, "isOfThings", "()Z"⟩
abbrev cX0_hasItems : ByteArray := prog_2_method_3_code
def yX0_hasItems : MethodName := ⟨RX0, "hasItems", "(II)Z"⟩
abbrev cX0_put : ByteArray := prog_2_method_4_code
def yX0_put : MethodName := ⟨RX0, "put", "(IJ)J"⟩
def RX1 : String := "ClassRunner$Store"
def TX1 : u_T := fun k => match k with
  | 0 => ("ClassRunner$Store", "things", "[LClassRunner$Thing;", true)
  | _ => ("ClassRunner$Store", "count", "I", false)
def tyX1 : Nat → FieldType := fun k => match k with
  | 0 => .array (.object "ClassRunner$Thing")
  | _ => .int
abbrev wsX10 : List Cond := u_ws RX1 TX1 2
theorem nmX1 : ∀ a, a < 2 → ∀ b, b < 2 → a ≠ b → (TX1 a).2.1 ≠ (TX1 b).2.1 := by decide +kernel
theorem tyX1_ok : ∀ k, k < 2 → parseFieldDescriptor (TX1 k).2.2.1 = some (tyX1 k) := by decide +kernel
abbrev cX1_init : ByteArray := prog_3_method_1_code
def yX1_init : MethodName := ⟨RX1, "<init>", "()V"⟩
abbrev cX1_add : ByteArray := prog_3_method_2_code
def yX1_add : MethodName := ⟨RX1, "add", "(II)I"⟩
abbrev cX1_find : ByteArray := prog_3_method_3_code
def yX1_find : MethodName := ⟨RX1, "find", "(I)LClassRunner$Thing;"⟩
abbrev cX1_hasOrNone : ByteArray := prog_3_method_4_code
def yX1_hasOrNone : MethodName := ⟨RX1, "hasOrNone", "(I)Z"⟩
abbrev cX1_isLeafOrNone : ByteArray := prog_3_method_5_code
def yX1_isLeafOrNone : MethodName := ⟨RX1, "isLeafOrNone", "(I)Z"⟩
def RX2 : String := "ClassRunner$Thing"
def TX2 : u_T := fun k => match k with
  | 0 => ("ClassRunner$Thing", "cls", "I", true)
  | 1 => ("ClassRunner$Thing", "v", "I", false)
  | 2 => ("ClassRunner$Thing", "link", "I", false)
  | _ => ("ClassRunner$Thing", "row", "LClassRunner$Row;", false)
def tyX2 : Nat → FieldType := fun k => match k with
  | 0 => .int
  | 1 => .int
  | 2 => .int
  | _ => .object "ClassRunner$Row"
abbrev wsX20 : List Cond := u_ws RX2 TX2 4
theorem nmX2 : ∀ a, a < 4 → ∀ b, b < 4 → a ≠ b → (TX2 a).2.1 ≠ (TX2 b).2.1 := by decide +kernel
theorem tyX2_ok : ∀ k, k < 4 → parseFieldDescriptor (TX2 k).2.2.1 = some (tyX2 k) := by decide +kernel
abbrev cX2_init : ByteArray := prog_4_method_1_code
def yX2_init : MethodName := ⟨RX2, "<init>", "(II)V"⟩
abbrev cX2_isOf : ByteArray := prog_4_method_2_code
def yX2_isOf : MethodName := ⟨RX2, "isOf", "(I)Z"⟩
abbrev cX2_heldSort : ByteArray := prog_4_method_3_code
def yX2_heldSort : MethodName := ⟨RX2, "heldSort", "()I"⟩
def RX3 : String := "ClassRunner$Work"
def TX3 : u_T := fun k => match k with
  | 0 => ("ClassRunner$Work", "store", "LClassRunner$Store;", true)
  | 1 => ("ClassRunner$Work", "limit", "I", false)
  | 2 => ("ClassRunner$Work", "begun", "I", false)
  | 3 => ("ClassRunner$Work", "outcome", "I", false)
  | 4 => ("ClassRunner$Work", "deep", "I", false)
  | _ => ("ClassRunner$Work", "thrown", "I", false)
def tyX3 : Nat → FieldType := fun k => match k with
  | 0 => .object "ClassRunner$Store"
  | 1 => .int
  | 2 => .int
  | 3 => .int
  | 4 => .int
  | _ => .int
abbrev wsX30 : List Cond := u_ws RX3 TX3 6
theorem nmX3 : ∀ a, a < 6 → ∀ b, b < 6 → a ≠ b → (TX3 a).2.1 ≠ (TX3 b).2.1 := by decide +kernel
theorem tyX3_ok : ∀ k, k < 6 → parseFieldDescriptor (TX3 k).2.2.1 = some (tyX3 k) := by decide +kernel
abbrev cX3_init : ByteArray := prog_5_method_1_code
def yX3_init : MethodName := ⟨RX3, "<init>", "(LClassRunner$Store;)V"⟩
abbrev cX3_first : ByteArray := prog_5_method_2_code
def yX3_first : MethodName := ⟨RX3, "first", "(LClassRunner$Thing;I)I"⟩
abbrev cX3_next : ByteArray := prog_5_method_3_code
def yX3_next : MethodName := ⟨RX3, "next", "(LClassRunner$Thing;)I"⟩
abbrev cX3_begin : ByteArray := prog_5_method_4_code
def yX3_begin : MethodName := ⟨RX3, "begin", "(LClassRunner$Thing;I)I"⟩
abbrev cX3_workOut : ByteArray := prog_5_method_5_code
def yX3_workOut : MethodName := ⟨RX3, "workOut", "(LClassRunner$Thing;I)I"⟩
abbrev cX3_throwOwn : ByteArray := prog_5_method_6_code
def yX3_throwOwn : MethodName := ⟨RX3, "throwOwn", "(II)I"⟩
abbrev cX3_firstOf : ByteArray := prog_5_method_7_code
def yX3_firstOf : MethodName := ⟨RX3, "firstOf", "(LClassRunner$Row;I)I"⟩
abbrev cX3_sumOf : ByteArray := prog_5_method_8_code
def yX3_sumOf : MethodName := ⟨RX3, "sumOf", "(LClassRunner$Row;I)I"⟩
abbrev cX3_stop : ByteArray := prog_5_method_9_code
def yX3_stop : MethodName := ⟨RX3, "stop", "(II)I"⟩
def RX4 : String := "ClassRunner"
def TX4 : u_T := fun k => match k with
  | 0 => ("ClassRunner", "store", "LClassRunner$Store;", true)
  | 1 => ("ClassRunner", "work", "LClassRunner$Work;", true)
  | 2 => ("ClassRunner", "told", "[I", true)
  | 3 => ("ClassRunner", "outcome", "I", false)
  | _ => ("ClassRunner", "own", "I", false)
def tyX4 : Nat → FieldType := fun k => match k with
  | 0 => .object "ClassRunner$Store"
  | 1 => .object "ClassRunner$Work"
  | 2 => .array .int
  | 3 => .int
  | _ => .int
abbrev wsX40 : List Cond := u_ws RX4 TX4 5
theorem nmX4 : ∀ a, a < 5 → ∀ b, b < 5 → a ≠ b → (TX4 a).2.1 ≠ (TX4 b).2.1 := by decide +kernel
theorem tyX4_ok : ∀ k, k < 5 → parseFieldDescriptor (TX4 k).2.2.1 = some (tyX4 k) := by decide +kernel
abbrev cX4_init : ByteArray := prog_1_method_1_code
def yX4_init : MethodName := ⟨RX4, "<init>", "()V"⟩
abbrev cX4_thing : ByteArray := prog_1_method_2_code
def yX4_thing : MethodName := ⟨RX4, "thing", "(II)I"⟩
abbrev cX4_outcome : ByteArray := prog_1_method_3_code
def yX4_outcome : MethodName := ⟨RX4, "outcome", "()I"⟩
abbrev cX4_own : ByteArray := prog_1_method_4_code
def yX4_own : MethodName := ⟨RX4, "own", "()I"⟩
abbrev cX4_begun : ByteArray := prog_1_method_5_code
def yX4_begun : MethodName := ⟨RX4, "begun", "()I"⟩
abbrev cX4_deep : ByteArray := prog_1_method_6_code
def yX4_deep : MethodName := ⟨RX4, "deep", "()I"⟩
abbrev cX4_told : ByteArray := prog_1_method_7_code
def yX4_told : MethodName := ⟨RX4, "told", "(I)I"⟩
abbrev cX4_cls : ByteArray := prog_1_method_8_code
def yX4_cls : MethodName := ⟨RX4, "cls", "(I)I"⟩
abbrev cX4_is : ByteArray := prog_1_method_9_code
def yX4_is : MethodName := ⟨RX4, "is", "(II)I"⟩
abbrev cX4_v : ByteArray := prog_1_method_10_code
def yX4_v : MethodName := ⟨RX4, "v", "(I)I"⟩
abbrev cX4_become : ByteArray := prog_1_method_11_code
def yX4_become : MethodName := ⟨RX4, "become", "(II)I"⟩
abbrev cX4_link : ByteArray := prog_1_method_12_code
def yX4_link : MethodName := ⟨RX4, "link", "(II)I"⟩
abbrev cX4_linked : ByteArray := prog_1_method_13_code
def yX4_linked : MethodName := ⟨RX4, "linked", "(I)I"⟩
abbrev cX4_follow : ByteArray := prog_1_method_14_code
def yX4_follow : MethodName := ⟨RX4, "follow", "(I)I"⟩
abbrev cX4_trade : ByteArray := prog_1_method_15_code
def yX4_trade : MethodName := ⟨RX4, "trade", "(I)I"⟩
abbrev cX4_hold : ByteArray := prog_1_method_16_code
def yX4_hold : MethodName := ⟨RX4, "hold", "(III)I"⟩
abbrev cX4_share : ByteArray := prog_1_method_17_code
def yX4_share : MethodName := ⟨RX4, "share", "(II)I"⟩
abbrev cX4_holds : ByteArray := prog_1_method_18_code
def yX4_holds : MethodName := ⟨RX4, "holds", "(I)I"⟩
abbrev cX4_size : ByteArray := prog_1_method_19_code
def yX4_size : MethodName := ⟨RX4, "size", "(I)I"⟩
abbrev cX4_at : ByteArray := prog_1_method_20_code
def yX4_at : MethodName := ⟨RX4, "at", "(II)J"⟩
abbrev cX4_lay : ByteArray := prog_1_method_21_code
def yX4_lay : MethodName := ⟨RX4, "lay", "(IIJ)J"⟩
abbrev cX4_set : ByteArray := prog_1_method_22_code
def yX4_set : MethodName := ⟨RX4, "set", "(III)I"⟩
abbrev cX4_move : ByteArray := prog_1_method_23_code
def yX4_move : MethodName := ⟨RX4, "move", "(IIIII)I"⟩
abbrev cX4_run : ByteArray := prog_1_method_24_code
def yX4_run : MethodName := ⟨RX4, "run", "(II)I"⟩
abbrev cX4_either : ByteArray := prog_1_method_25_code
def yX4_either : MethodName := ⟨RX4, "either", "(III)I"⟩
abbrev cX4_gather : ByteArray := prog_1_method_26_code
def yX4_gather : MethodName := ⟨RX4, "gather", "(II)I"⟩
abbrev cX4_keep : ByteArray := prog_1_method_27_code
def yX4_keep : MethodName := ⟨RX4, "keep", "(IIII)I"⟩
abbrev cX4_things : ByteArray := prog_1_method_28_code
def yX4_things : MethodName := ⟨RX4, "things", "()I"⟩
abbrev cX4_tell : ByteArray := prog_1_method_29_code
def yX4_tell : MethodName := ⟨RX4, "tell", "(I)I"⟩
abbrev cX4_refuse : ByteArray := prog_1_method_30_code
def yX4_refuse : MethodName := ⟨RX4, "refuse", "(I)I"⟩
abbrev cX4_isClass : ByteArray := prog_1_method_31_code
def yX4_isClass : MethodName := ⟨RX4, "isClass", "(I)Z"⟩
abbrev cX4_isLimit : ByteArray := prog_1_method_32_code
def yX4_isLimit : MethodName := ⟨RX4, "isLimit", "(I)Z"⟩
abbrev cX4_againstItem : ByteArray := prog_1_method_33_code
def yX4_againstItem : MethodName := ⟨RX4, "againstItem", "(LClassRunner$Row;III)I"⟩
abbrev cX4_againstMove : ByteArray := prog_1_method_34_code
def yX4_againstMove : MethodName := ⟨RX4, "againstMove", "(LClassRunner$Row;ILClassRunner$Row;II)I"⟩
abbrev cX4_leavesAhead : ByteArray := prog_1_method_35_code
def yX4_leavesAhead : MethodName := ⟨RX4, "leavesAhead", "(LClassRunner$Row;II)I"⟩
def RX5 : String := "ClassRunnerModel"
def TX5 : u_T := fun k => match k with
  | 0 => ("ClassRunnerModel", "things", "I", false)
  | 1 => ("ClassRunnerModel", "classes", "[I", true)
  | 2 => ("ClassRunnerModel", "vs", "[I", true)
  | 3 => ("ClassRunnerModel", "links", "[I", true)
  | 4 => ("ClassRunnerModel", "held", "[I", true)
  | 5 => ("ClassRunnerModel", "rows", "I", false)
  | 6 => ("ClassRunnerModel", "sorts", "[I", true)
  | 7 => ("ClassRunnerModel", "sizes", "[I", true)
  | 8 => ("ClassRunnerModel", "items", "[J", true)
  | 9 => ("ClassRunnerModel", "outcome", "I", false)
  | 10 => ("ClassRunnerModel", "own", "I", false)
  | 11 => ("ClassRunnerModel", "begun", "I", false)
  | 12 => ("ClassRunnerModel", "deep", "I", false)
  | 13 => ("ClassRunnerModel", "told", "[I", true)
  | 14 => ("ClassRunnerModel", "thrownOwn", "I", false)
  | 15 => ("ClassRunnerModel", "result", "I", false)
  | _ => ("ClassRunnerModel", "next", "I", false)
def tyX5 : Nat → FieldType := fun k => match k with
  | 0 => .int
  | 1 => .array .int
  | 2 => .array .int
  | 3 => .array .int
  | 4 => .array .int
  | 5 => .int
  | 6 => .array .int
  | 7 => .array .int
  | 8 => .array .long
  | 9 => .int
  | 10 => .int
  | 11 => .int
  | 12 => .int
  | 13 => .array .int
  | 14 => .int
  | 15 => .int
  | _ => .int
abbrev wsX50 : List Cond := u_ws RX5 TX5 17
theorem nmX5 : ∀ a, a < 17 → ∀ b, b < 17 → a ≠ b → (TX5 a).2.1 ≠ (TX5 b).2.1 := by decide +kernel
theorem tyX5_ok : ∀ k, k < 17 → parseFieldDescriptor (TX5 k).2.2.1 = some (tyX5 k) := by decide +kernel
abbrev cX5_init : ByteArray := prog_7_method_1_code
def yX5_init : MethodName := ⟨RX5, "<init>", "()V"⟩
abbrev cX5_in : ByteArray := prog_7_method_3_code
def yX5_in : MethodName := ⟨RX5, "in", "(JJJ)Z"⟩
abbrev cX5_isThing : ByteArray := prog_7_method_4_code
def yX5_isThing : MethodName := ⟨RX5, "isThing", "(I)Z"⟩
abbrev cX5_isLeaf : ByteArray := prog_7_method_5_code
def yX5_isLeaf : MethodName := ⟨RX5, "isLeaf", "(I)Z"⟩
abbrev cX5_tell : ByteArray := prog_7_method_6_code
def yX5_tell : MethodName := ⟨RX5, "tell", "(I)I"⟩
abbrev cX5_thing : ByteArray := prog_7_method_7_code
def yX5_thing : MethodName := ⟨RX5, "thing", "(II)I"⟩
abbrev cX5_outcome : ByteArray := prog_7_method_8_code
def yX5_outcome : MethodName := ⟨RX5, "outcome", "()I"⟩
abbrev cX5_own : ByteArray := prog_7_method_9_code
def yX5_own : MethodName := ⟨RX5, "own", "()I"⟩
abbrev cX5_begun : ByteArray := prog_7_method_10_code
def yX5_begun : MethodName := ⟨RX5, "begun", "()I"⟩
abbrev cX5_deep : ByteArray := prog_7_method_11_code
def yX5_deep : MethodName := ⟨RX5, "deep", "()I"⟩
abbrev cX5_told : ByteArray := prog_7_method_12_code
def yX5_told : MethodName := ⟨RX5, "told", "(I)I"⟩
abbrev cX5_cls : ByteArray := prog_7_method_13_code
def yX5_cls : MethodName := ⟨RX5, "cls", "(I)I"⟩
abbrev cX5_is : ByteArray := prog_7_method_14_code
def yX5_is : MethodName := ⟨RX5, "is", "(II)I"⟩
abbrev cX5_v : ByteArray := prog_7_method_15_code
def yX5_v : MethodName := ⟨RX5, "v", "(I)I"⟩
abbrev cX5_become : ByteArray := prog_7_method_16_code
def yX5_become : MethodName := ⟨RX5, "become", "(II)I"⟩
abbrev cX5_link : ByteArray := prog_7_method_17_code
def yX5_link : MethodName := ⟨RX5, "link", "(II)I"⟩
abbrev cX5_linked : ByteArray := prog_7_method_18_code
def yX5_linked : MethodName := ⟨RX5, "linked", "(I)I"⟩
abbrev cX5_follow : ByteArray := prog_7_method_19_code
def yX5_follow : MethodName := ⟨RX5, "follow", "(I)I"⟩
abbrev cX5_trade : ByteArray := prog_7_method_20_code
def yX5_trade : MethodName := ⟨RX5, "trade", "(I)I"⟩
abbrev cX5_hold : ByteArray := prog_7_method_21_code
def yX5_hold : MethodName := ⟨RX5, "hold", "(III)I"⟩
abbrev cX5_share : ByteArray := prog_7_method_22_code
def yX5_share : MethodName := ⟨RX5, "share", "(II)I"⟩
abbrev cX5_holds : ByteArray := prog_7_method_23_code
def yX5_holds : MethodName := ⟨RX5, "holds", "(I)I"⟩
abbrev cX5_size : ByteArray := prog_7_method_24_code
def yX5_size : MethodName := ⟨RX5, "size", "(I)I"⟩
abbrev cX5_isItem : ByteArray := prog_7_method_25_code
def yX5_isItem : MethodName := ⟨RX5, "isItem", "(II)Z"⟩
abbrev cX5_at : ByteArray := prog_7_method_26_code
def yX5_at : MethodName := ⟨RX5, "at", "(II)J"⟩
abbrev cX5_lay : ByteArray := prog_7_method_27_code
def yX5_lay : MethodName := ⟨RX5, "lay", "(IIJ)J"⟩
abbrev cX5_set : ByteArray := prog_7_method_28_code
def yX5_set : MethodName := ⟨RX5, "set", "(III)I"⟩
abbrev cX5_going : ByteArray := prog_7_method_29_code
def yX5_going : MethodName := ⟨RX5, "going", "(IIII)I"⟩
abbrev cX5_move : ByteArray := prog_7_method_30_code
def yX5_move : MethodName := ⟨RX5, "move", "(IIIII)I"⟩
abbrev cX5_plain : ByteArray := prog_7_method_31_code
def yX5_plain : MethodName := ⟨RX5, "plain", "(I)I"⟩
abbrev cX5_summed : ByteArray := prog_7_method_32_code
def yX5_summed : MethodName := ⟨RX5, "summed", "(I)I"⟩
abbrev cX5_takes : ByteArray := prog_7_method_33_code
def yX5_takes : MethodName := ⟨RX5, "takes", "(I)I"⟩
abbrev cX5_number : ByteArray := prog_7_method_34_code
def yX5_number : MethodName := ⟨RX5, "number", "(II)I"⟩
abbrev cX5_ended : ByteArray := prog_7_method_35_code
def yX5_ended : MethodName := ⟨RX5, "ended", "(II)I"⟩
abbrev cX5_run : ByteArray := prog_7_method_36_code
def yX5_run : MethodName := ⟨RX5, "run", "(II)I"⟩
abbrev cX5_either : ByteArray := prog_7_method_37_code
def yX5_either : MethodName := ⟨RX5, "either", "(III)I"⟩
abbrev cX5_gather : ByteArray := prog_7_method_38_code
def yX5_gather : MethodName := ⟨RX5, "gather", "(II)I"⟩
abbrev cX5_keep : ByteArray := prog_7_method_39_code
def yX5_keep : MethodName := ⟨RX5, "keep", "(IIII)I"⟩
abbrev cX5_things : ByteArray := prog_7_method_40_code
def yX5_things : MethodName := ⟨RX5, "things", "()I"⟩
def RJ10 : String := "java/lang/System"
def TJ10 : u_T := fun k => match k with
  | _ => ("", "", "", false)
def tyJ10 : Nat → FieldType := fun k => match k with
  | _ => .int
abbrev wsJ100 : List Cond := u_ws RJ10 TJ10 0
theorem nmJ10 : ∀ a, a < 0 → ∀ b, b < 0 → a ≠ b → (TJ10 a).2.1 ≠ (TJ10 b).2.1 := by decide +kernel
theorem tyJ10_ok : ∀ k, k < 0 → parseFieldDescriptor (TJ10 k).2.2.1 = some (tyJ10 k) := by decide +kernel
def RJ7 : String := "java/util/Arrays"
def TJ7 : u_T := fun k => match k with
  | _ => ("", "", "", false)
def tyJ7 : Nat → FieldType := fun k => match k with
  | _ => .int
abbrev wsJ70 : List Cond := u_ws RJ7 TJ7 0
theorem nmJ7 : ∀ a, a < 0 → ∀ b, b < 0 → a ≠ b → (TJ7 a).2.1 ≠ (TJ7 b).2.1 := by decide +kernel
theorem tyJ7_ok : ∀ k, k < 0 → parseFieldDescriptor (TJ7 k).2.2.1 = some (tyJ7 k) := by decide +kernel
abbrev cJ7_fill_d0a16 : ByteArray := prog_9_method_101_code
def yJ7_fill_d0a16 : MethodName := ⟨RJ7, "fill", "([JJ)V"⟩
def RL : String := "ClassRunnerLaw"
abbrev cL_law : ByteArray := code
def yL_law : MethodName := ⟨RL, "law", "([I)Z"⟩
def wsJ7_fill_d0a16 : List Cond := .code yJ7_fill_d0a16 cJ7_fill_d0a16 5 none :: ([])
def wsX0_init : List Cond := .code yX0_init cX0_init 3 none :: ([.methodLink RX0 3 objectInit, .instanceMethod objectInit, .code objectInit ⟨#[0xb1]⟩ 1 none, .fieldLink RX0 9 "ClassRunner$Row" "sort" "I", .arrayClass .long, .fieldLink RX0 15 "ClassRunner$Row" "items" "[J", .constantLong RX0 19 (-1), .methodLink RX0 21 yJ7_fill_d0a16, .static yJ7_fill_d0a16, .initialized RJ7, .code yJ7_fill_d0a16 cJ7_fill_d0a16 5 none] ++ wsX00)
def wsX0_isOfThings : List Cond := .code yX0_isOfThings cX0_isOfThings 1 (some .boolean) :: ([.fieldLink RX0 9 "ClassRunner$Row" "sort" "I"] ++ wsX00)
def wsX0_hasItems : List Cond := .code yX0_hasItems cX0_hasItems 3 (some .boolean) :: ([.fieldLink RX0 15 "ClassRunner$Row" "items" "[J"] ++ wsX00)
def wsX0_put : List Cond := .code yX0_put cX0_put 6 (some .long) :: ([.fieldLink RX0 15 "ClassRunner$Row" "items" "[J"] ++ wsX00)
def wsX1_init : List Cond := .code yX1_init cX1_init 1 none :: ([.methodLink RX1 3 objectInit, .instanceMethod objectInit, .code objectInit ⟨#[0xb1]⟩ 1 none, .classLink RX1 9 RX2, .fieldLink RX1 11 "ClassRunner$Store" "things" "[LClassRunner$Thing;"] ++ wsX10)
def wsX2_init : List Cond := .code yX2_init cX2_init 3 none :: ([.methodLink RX2 3 objectInit, .instanceMethod objectInit, .code objectInit ⟨#[0xb1]⟩ 1 none, .fieldLink RX2 9 "ClassRunner$Thing" "cls" "I", .fieldLink RX2 15 "ClassRunner$Thing" "v" "I", .fieldLink RX2 18 "ClassRunner$Thing" "link" "I"] ++ wsX20)
def wsX1_add : List Cond := .code yX1_add cX1_add 3 (some .int) :: ([.fieldLink RX1 17 "ClassRunner$Store" "count" "I", .fieldLink RX1 11 "ClassRunner$Store" "things" "[LClassRunner$Thing;", .classLink RX1 9 RX2, .instantiable RX2 4, .initialized RX2, .methodLink RX1 21 yX2_init, .instanceMethod yX2_init, .code yX2_init cX2_init 3 none, .methodLink RX2 3 objectInit, .instanceMethod objectInit, .code objectInit ⟨#[0xb1]⟩ 1 none, .fieldLink RX2 9 "ClassRunner$Thing" "cls" "I", .fieldLink RX2 15 "ClassRunner$Thing" "v" "I", .fieldLink RX2 18 "ClassRunner$Thing" "link" "I"] ++ wsX10 ++ wsX20)
def wsX1_find : List Cond := .code yX1_find cX1_find 2 (some (.object "ClassRunner$Thing")) :: ([.fieldLink RX1 17 "ClassRunner$Store" "count" "I", .fieldLink RX1 11 "ClassRunner$Store" "things" "[LClassRunner$Thing;"] ++ wsX10)
def wsX1_hasOrNone : List Cond := .code yX1_hasOrNone cX1_hasOrNone 2 (some .boolean) :: ([.methodLink RX1 24 yX1_find, .instanceMethod yX1_find, .selects RX1 yX1_find yX1_find, .initialized RX1, .code yX1_find cX1_find 2 (some (.object "ClassRunner$Thing")), .fieldLink RX1 17 "ClassRunner$Store" "count" "I", .fieldLink RX1 11 "ClassRunner$Store" "things" "[LClassRunner$Thing;"] ++ wsX10)
def wsX2_isOf : List Cond := .code yX2_isOf cX2_isOf 2 (some .boolean) :: ([.fieldLink RX2 9 "ClassRunner$Thing" "cls" "I"] ++ wsX20)
def wsX1_isLeafOrNone : List Cond := .code yX1_isLeafOrNone cX1_isLeafOrNone 3 (some .boolean) :: ([.methodLink RX1 24 yX1_find, .instanceMethod yX1_find, .selects RX1 yX1_find yX1_find, .initialized RX1, .code yX1_find cX1_find 2 (some (.object "ClassRunner$Thing")), .fieldLink RX1 17 "ClassRunner$Store" "count" "I", .fieldLink RX1 11 "ClassRunner$Store" "things" "[LClassRunner$Thing;", .methodLink RX1 28 yX2_isOf, .instanceMethod yX2_isOf, .selects RX2 yX2_isOf yX2_isOf, .initialized RX2, .code yX2_isOf cX2_isOf 2 (some .boolean), .fieldLink RX2 9 "ClassRunner$Thing" "cls" "I"] ++ wsX10 ++ wsX20)
def wsX2_heldSort : List Cond := .code yX2_heldSort cX2_heldSort 1 (some .int) :: ([.fieldLink RX2 21 "ClassRunner$Thing" "row" "LClassRunner$Row;", .fieldLink RX2 25 "ClassRunner$Row" "sort" "I"] ++ wsX20 ++ wsX00)
def wsX3_init : List Cond := .code yX3_init cX3_init 2 none :: ([.methodLink RX3 3 objectInit, .instanceMethod objectInit, .code objectInit ⟨#[0xb1]⟩ 1 none, .fieldLink RX3 9 "ClassRunner$Work" "store" "LClassRunner$Store;"] ++ wsX30)
def wsX3_stop : List Cond := .code yX3_stop cX3_stop 3 (some .int) :: ([.fieldLink RX3 26 "ClassRunner$Work" "outcome" "I", .fieldLink RX3 29 "ClassRunner$Work" "deep" "I"] ++ wsX30)
def wsX4_againstItem : List Cond := .code yX4_againstItem cX4_againstItem 4 (some .int) :: ([.fieldLink RX4 102 "ClassRunner$Row" "sort" "I", .methodLink RX4 144 yX0_hasItems, .instanceMethod yX0_hasItems, .selects RX0 yX0_hasItems yX0_hasItems, .initialized RX0, .code yX0_hasItems cX0_hasItems 3 (some .boolean), .fieldLink RX0 15 "ClassRunner$Row" "items" "[J"] ++ wsX00)
def wsX3_throwOwn : List Cond := .code yX3_throwOwn cX3_throwOwn 3 (some .int) :: ([.fieldLink RX3 74 "ClassRunner$Work" "thrown" "I", .methodLink RX3 36 yX3_stop, .instanceMethod yX3_stop, .selects RX3 yX3_stop yX3_stop, .initialized RX3, .code yX3_stop cX3_stop 3 (some .int), .fieldLink RX3 26 "ClassRunner$Work" "outcome" "I", .fieldLink RX3 29 "ClassRunner$Work" "deep" "I"] ++ wsX30)
def wsX3_sumOf : List Cond := .code yX3_sumOf cX3_sumOf 9 (some .int) :: ([.fieldLink RX3 91 "ClassRunner$Row" "sort" "I", .fieldLink RX3 81 "ClassRunner$Row" "items" "[J", .methodLink RX3 36 yX3_stop, .instanceMethod yX3_stop, .selects RX3 yX3_stop yX3_stop, .initialized RX3, .code yX3_stop cX3_stop 3 (some .int), .fieldLink RX3 26 "ClassRunner$Work" "outcome" "I", .fieldLink RX3 29 "ClassRunner$Work" "deep" "I"] ++ wsX00 ++ wsX30)
def wsX3_begin_r1 : List Cond := [Cond.fieldLink RX3 19 "ClassRunner$Work" "begun" "I", Cond.fieldLink RX3 15 "ClassRunner$Work" "limit" "I", Cond.methodLink RX3 36 yX3_stop, Cond.instanceMethod yX3_stop, Cond.selects RX3 yX3_stop yX3_stop, Cond.initialized RX3, Cond.code yX3_stop cX3_stop 3 (some .int), Cond.fieldLink RX3 26 "ClassRunner$Work" "outcome" "I", Cond.fieldLink RX3 29 "ClassRunner$Work" "deep" "I", Cond.methodLink RX3 40 yX3_workOut, Cond.instanceMethod yX3_workOut, Cond.selects RX3 yX3_workOut yX3_workOut, Cond.code yX3_firstOf cX3_firstOf 5 (some .int), Cond.fieldLink RX3 81 "ClassRunner$Row" "items" "[J", Cond.fieldLink RX3 9 "ClassRunner$Work" "store" "LClassRunner$Store;", Cond.static yX4_againstItem, Cond.initialized RX4, Cond.code yX4_againstItem cX4_againstItem 4 (some .int), Cond.fieldLink RX4 102 "ClassRunner$Row" "sort" "I", Cond.methodLink RX4 144 yX0_hasItems, Cond.instanceMethod yX0_hasItems, Cond.selects RX0 yX0_hasItems yX0_hasItems, Cond.initialized RX0, Cond.code yX0_hasItems cX0_hasItems 3 (some .boolean)]
def wsX3_begin_r2 : List Cond := [Cond.fieldLink RX0 15 "ClassRunner$Row" "items" "[J", Cond.methodLink RX3 87 yX0_isOfThings, Cond.instanceMethod yX0_isOfThings, Cond.selects RX0 yX0_isOfThings yX0_isOfThings, Cond.code yX0_isOfThings cX0_isOfThings 1 (some .boolean), Cond.fieldLink RX0 9 "ClassRunner$Row" "sort" "I", Cond.methodLink RX3 54 yX1_find, Cond.instanceMethod yX1_find, Cond.selects RX1 yX1_find yX1_find, Cond.initialized RX1, Cond.code yX1_find cX1_find 2 (some (.object "ClassRunner$Thing")), Cond.fieldLink RX1 17 "ClassRunner$Store" "count" "I", Cond.fieldLink RX1 11 "ClassRunner$Store" "things" "[LClassRunner$Thing;", Cond.methodLink RX3 32 yX3_begin, Cond.instanceMethod yX3_begin, Cond.selects RX3 yX3_begin yX3_begin, Cond.code yX3_workOut cX3_workOut 3 (some .int), Cond.fieldLink RX3 43 "ClassRunner$Thing" "cls" "I", Cond.fieldLink RX3 48 "ClassRunner$Thing" "v" "I", Cond.fieldLink RX3 51 "ClassRunner$Thing" "link" "I", Cond.fieldLink RX3 63 "ClassRunner$Thing" "row" "LClassRunner$Row;", Cond.methodLink RX3 60 yX3_throwOwn, Cond.instanceMethod yX3_throwOwn, Cond.selects RX3 yX3_throwOwn yX3_throwOwn]
def wsX3_begin_r3 : List Cond := [Cond.code yX3_throwOwn cX3_throwOwn 3 (some .int), Cond.fieldLink RX3 74 "ClassRunner$Work" "thrown" "I", Cond.methodLink RX3 67 yX3_firstOf, Cond.instanceMethod yX3_firstOf, Cond.selects RX3 yX3_firstOf yX3_firstOf, Cond.methodLink RX3 71 yX3_sumOf, Cond.instanceMethod yX3_sumOf, Cond.selects RX3 yX3_sumOf yX3_sumOf, Cond.code yX3_sumOf cX3_sumOf 9 (some .int), Cond.fieldLink RX3 91 "ClassRunner$Row" "sort" "I"]
def wsX3_begin : List Cond := .code yX3_begin cX3_begin 3 (some .int) :: ((wsX3_begin_r1 ++ (wsX3_begin_r2 ++ wsX3_begin_r3)) ++ wsX30 ++ wsX00 ++ wsX10 ++ wsX20)
def wsX3_firstOf_r1 : List Cond := [Cond.fieldLink RX3 81 "ClassRunner$Row" "items" "[J", Cond.fieldLink RX3 9 "ClassRunner$Work" "store" "LClassRunner$Store;", Cond.static yX4_againstItem, Cond.initialized RX4, Cond.code yX4_againstItem cX4_againstItem 4 (some .int), Cond.fieldLink RX4 102 "ClassRunner$Row" "sort" "I", Cond.methodLink RX4 144 yX0_hasItems, Cond.instanceMethod yX0_hasItems, Cond.selects RX0 yX0_hasItems yX0_hasItems, Cond.initialized RX0, Cond.code yX0_hasItems cX0_hasItems 3 (some .boolean), Cond.fieldLink RX0 15 "ClassRunner$Row" "items" "[J", Cond.methodLink RX3 36 yX3_stop, Cond.instanceMethod yX3_stop, Cond.selects RX3 yX3_stop yX3_stop, Cond.initialized RX3, Cond.code yX3_stop cX3_stop 3 (some .int), Cond.fieldLink RX3 26 "ClassRunner$Work" "outcome" "I", Cond.fieldLink RX3 29 "ClassRunner$Work" "deep" "I", Cond.methodLink RX3 87 yX0_isOfThings, Cond.instanceMethod yX0_isOfThings, Cond.selects RX0 yX0_isOfThings yX0_isOfThings, Cond.code yX0_isOfThings cX0_isOfThings 1 (some .boolean), Cond.fieldLink RX0 9 "ClassRunner$Row" "sort" "I"]
def wsX3_firstOf_r2 : List Cond := [Cond.methodLink RX3 54 yX1_find, Cond.instanceMethod yX1_find, Cond.selects RX1 yX1_find yX1_find, Cond.initialized RX1, Cond.code yX1_find cX1_find 2 (some (.object "ClassRunner$Thing")), Cond.fieldLink RX1 17 "ClassRunner$Store" "count" "I", Cond.fieldLink RX1 11 "ClassRunner$Store" "things" "[LClassRunner$Thing;", Cond.methodLink RX3 32 yX3_begin, Cond.instanceMethod yX3_begin, Cond.selects RX3 yX3_begin yX3_begin, Cond.code yX3_begin cX3_begin 3 (some .int), Cond.fieldLink RX3 19 "ClassRunner$Work" "begun" "I", Cond.fieldLink RX3 15 "ClassRunner$Work" "limit" "I", Cond.methodLink RX3 40 yX3_workOut, Cond.instanceMethod yX3_workOut, Cond.selects RX3 yX3_workOut yX3_workOut, Cond.code yX3_workOut cX3_workOut 3 (some .int), Cond.fieldLink RX3 43 "ClassRunner$Thing" "cls" "I", Cond.fieldLink RX3 48 "ClassRunner$Thing" "v" "I", Cond.fieldLink RX3 51 "ClassRunner$Thing" "link" "I", Cond.fieldLink RX3 63 "ClassRunner$Thing" "row" "LClassRunner$Row;", Cond.methodLink RX3 60 yX3_throwOwn, Cond.instanceMethod yX3_throwOwn, Cond.selects RX3 yX3_throwOwn yX3_throwOwn]
def wsX3_firstOf_r3 : List Cond := [Cond.code yX3_throwOwn cX3_throwOwn 3 (some .int), Cond.fieldLink RX3 74 "ClassRunner$Work" "thrown" "I", Cond.methodLink RX3 67 yX3_firstOf, Cond.instanceMethod yX3_firstOf, Cond.selects RX3 yX3_firstOf yX3_firstOf, Cond.methodLink RX3 71 yX3_sumOf, Cond.instanceMethod yX3_sumOf, Cond.selects RX3 yX3_sumOf yX3_sumOf, Cond.code yX3_sumOf cX3_sumOf 9 (some .int), Cond.fieldLink RX3 91 "ClassRunner$Row" "sort" "I"]
def wsX3_firstOf : List Cond := .code yX3_firstOf cX3_firstOf 5 (some .int) :: ((wsX3_firstOf_r1 ++ (wsX3_firstOf_r2 ++ wsX3_firstOf_r3)) ++ wsX30 ++ wsX00 ++ wsX10 ++ wsX20)
def wsX3_workOut_r1 : List Cond := [Cond.fieldLink RX3 43 "ClassRunner$Thing" "cls" "I", Cond.fieldLink RX3 48 "ClassRunner$Thing" "v" "I", Cond.fieldLink RX3 9 "ClassRunner$Work" "store" "LClassRunner$Store;", Cond.fieldLink RX3 51 "ClassRunner$Thing" "link" "I", Cond.fieldLink RX3 63 "ClassRunner$Thing" "row" "LClassRunner$Row;", Cond.methodLink RX3 36 yX3_stop, Cond.instanceMethod yX3_stop, Cond.selects RX3 yX3_stop yX3_stop, Cond.initialized RX3, Cond.code yX3_stop cX3_stop 3 (some .int), Cond.fieldLink RX3 26 "ClassRunner$Work" "outcome" "I", Cond.fieldLink RX3 29 "ClassRunner$Work" "deep" "I", Cond.methodLink RX3 54 yX1_find, Cond.instanceMethod yX1_find, Cond.selects RX1 yX1_find yX1_find, Cond.initialized RX1, Cond.code yX1_find cX1_find 2 (some (.object "ClassRunner$Thing")), Cond.fieldLink RX1 17 "ClassRunner$Store" "count" "I", Cond.fieldLink RX1 11 "ClassRunner$Store" "things" "[LClassRunner$Thing;", Cond.methodLink RX3 32 yX3_begin, Cond.instanceMethod yX3_begin, Cond.selects RX3 yX3_begin yX3_begin, Cond.methodLink RX3 60 yX3_throwOwn, Cond.instanceMethod yX3_throwOwn]
def wsX3_workOut_r2 : List Cond := [Cond.selects RX3 yX3_throwOwn yX3_throwOwn, Cond.code yX3_throwOwn cX3_throwOwn 3 (some .int), Cond.fieldLink RX3 74 "ClassRunner$Work" "thrown" "I", Cond.methodLink RX3 67 yX3_firstOf, Cond.instanceMethod yX3_firstOf, Cond.selects RX3 yX3_firstOf yX3_firstOf, Cond.methodLink RX3 71 yX3_sumOf, Cond.instanceMethod yX3_sumOf, Cond.selects RX3 yX3_sumOf yX3_sumOf, Cond.code yX3_sumOf cX3_sumOf 9 (some .int), Cond.fieldLink RX3 91 "ClassRunner$Row" "sort" "I", Cond.fieldLink RX3 81 "ClassRunner$Row" "items" "[J", Cond.code yX3_begin cX3_begin 3 (some .int), Cond.fieldLink RX3 19 "ClassRunner$Work" "begun" "I", Cond.fieldLink RX3 15 "ClassRunner$Work" "limit" "I", Cond.methodLink RX3 40 yX3_workOut, Cond.instanceMethod yX3_workOut, Cond.selects RX3 yX3_workOut yX3_workOut, Cond.code yX3_firstOf cX3_firstOf 5 (some .int), Cond.static yX4_againstItem, Cond.initialized RX4, Cond.code yX4_againstItem cX4_againstItem 4 (some .int), Cond.fieldLink RX4 102 "ClassRunner$Row" "sort" "I", Cond.methodLink RX4 144 yX0_hasItems]
def wsX3_workOut_r3 : List Cond := [Cond.instanceMethod yX0_hasItems, Cond.selects RX0 yX0_hasItems yX0_hasItems, Cond.initialized RX0, Cond.code yX0_hasItems cX0_hasItems 3 (some .boolean), Cond.fieldLink RX0 15 "ClassRunner$Row" "items" "[J", Cond.methodLink RX3 87 yX0_isOfThings, Cond.instanceMethod yX0_isOfThings, Cond.selects RX0 yX0_isOfThings yX0_isOfThings, Cond.code yX0_isOfThings cX0_isOfThings 1 (some .boolean), Cond.fieldLink RX0 9 "ClassRunner$Row" "sort" "I"]
def wsX3_workOut : List Cond := .code yX3_workOut cX3_workOut 3 (some .int) :: ((wsX3_workOut_r1 ++ (wsX3_workOut_r2 ++ wsX3_workOut_r3)) ++ wsX30 ++ wsX00 ++ wsX10 ++ wsX20)
def wsX3_next_r1 : List Cond := [Cond.fieldLink RX3 26 "ClassRunner$Work" "outcome" "I", Cond.fieldLink RX3 29 "ClassRunner$Work" "deep" "I", Cond.methodLink RX3 32 yX3_begin, Cond.instanceMethod yX3_begin, Cond.selects RX3 yX3_begin yX3_begin, Cond.initialized RX3, Cond.code yX3_begin cX3_begin 3 (some .int), Cond.fieldLink RX3 19 "ClassRunner$Work" "begun" "I", Cond.fieldLink RX3 15 "ClassRunner$Work" "limit" "I", Cond.methodLink RX3 36 yX3_stop, Cond.instanceMethod yX3_stop, Cond.selects RX3 yX3_stop yX3_stop, Cond.code yX3_stop cX3_stop 3 (some .int), Cond.methodLink RX3 40 yX3_workOut, Cond.instanceMethod yX3_workOut, Cond.selects RX3 yX3_workOut yX3_workOut, Cond.code yX3_firstOf cX3_firstOf 5 (some .int), Cond.fieldLink RX3 81 "ClassRunner$Row" "items" "[J", Cond.fieldLink RX3 9 "ClassRunner$Work" "store" "LClassRunner$Store;", Cond.static yX4_againstItem, Cond.initialized RX4, Cond.code yX4_againstItem cX4_againstItem 4 (some .int), Cond.fieldLink RX4 102 "ClassRunner$Row" "sort" "I", Cond.methodLink RX4 144 yX0_hasItems]
def wsX3_next_r2 : List Cond := [Cond.instanceMethod yX0_hasItems, Cond.selects RX0 yX0_hasItems yX0_hasItems, Cond.initialized RX0, Cond.code yX0_hasItems cX0_hasItems 3 (some .boolean), Cond.fieldLink RX0 15 "ClassRunner$Row" "items" "[J", Cond.methodLink RX3 87 yX0_isOfThings, Cond.instanceMethod yX0_isOfThings, Cond.selects RX0 yX0_isOfThings yX0_isOfThings, Cond.code yX0_isOfThings cX0_isOfThings 1 (some .boolean), Cond.fieldLink RX0 9 "ClassRunner$Row" "sort" "I", Cond.methodLink RX3 54 yX1_find, Cond.instanceMethod yX1_find, Cond.selects RX1 yX1_find yX1_find, Cond.initialized RX1, Cond.code yX1_find cX1_find 2 (some (.object "ClassRunner$Thing")), Cond.fieldLink RX1 17 "ClassRunner$Store" "count" "I", Cond.fieldLink RX1 11 "ClassRunner$Store" "things" "[LClassRunner$Thing;", Cond.code yX3_workOut cX3_workOut 3 (some .int), Cond.fieldLink RX3 43 "ClassRunner$Thing" "cls" "I", Cond.fieldLink RX3 48 "ClassRunner$Thing" "v" "I", Cond.fieldLink RX3 51 "ClassRunner$Thing" "link" "I", Cond.fieldLink RX3 63 "ClassRunner$Thing" "row" "LClassRunner$Row;", Cond.methodLink RX3 60 yX3_throwOwn, Cond.instanceMethod yX3_throwOwn]
def wsX3_next_r3 : List Cond := [Cond.selects RX3 yX3_throwOwn yX3_throwOwn, Cond.code yX3_throwOwn cX3_throwOwn 3 (some .int), Cond.fieldLink RX3 74 "ClassRunner$Work" "thrown" "I", Cond.methodLink RX3 67 yX3_firstOf, Cond.instanceMethod yX3_firstOf, Cond.selects RX3 yX3_firstOf yX3_firstOf, Cond.methodLink RX3 71 yX3_sumOf, Cond.instanceMethod yX3_sumOf, Cond.selects RX3 yX3_sumOf yX3_sumOf, Cond.code yX3_sumOf cX3_sumOf 9 (some .int), Cond.fieldLink RX3 91 "ClassRunner$Row" "sort" "I"]
def wsX3_next : List Cond := .code yX3_next cX3_next 2 (some .int) :: ((wsX3_next_r1 ++ (wsX3_next_r2 ++ wsX3_next_r3)) ++ wsX30 ++ wsX00 ++ wsX10 ++ wsX20)
def wsX3_first_r1 : List Cond := [Cond.fieldLink RX3 15 "ClassRunner$Work" "limit" "I", Cond.fieldLink RX3 19 "ClassRunner$Work" "begun" "I", Cond.methodLink RX3 22 yX3_next, Cond.instanceMethod yX3_next, Cond.selects RX3 yX3_next yX3_next, Cond.initialized RX3, Cond.code yX3_next cX3_next 2 (some .int), Cond.fieldLink RX3 26 "ClassRunner$Work" "outcome" "I", Cond.fieldLink RX3 29 "ClassRunner$Work" "deep" "I", Cond.methodLink RX3 32 yX3_begin, Cond.instanceMethod yX3_begin, Cond.selects RX3 yX3_begin yX3_begin, Cond.code yX3_begin cX3_begin 3 (some .int), Cond.methodLink RX3 36 yX3_stop, Cond.instanceMethod yX3_stop, Cond.selects RX3 yX3_stop yX3_stop, Cond.code yX3_stop cX3_stop 3 (some .int), Cond.methodLink RX3 40 yX3_workOut, Cond.instanceMethod yX3_workOut, Cond.selects RX3 yX3_workOut yX3_workOut, Cond.code yX3_firstOf cX3_firstOf 5 (some .int), Cond.fieldLink RX3 81 "ClassRunner$Row" "items" "[J", Cond.fieldLink RX3 9 "ClassRunner$Work" "store" "LClassRunner$Store;", Cond.static yX4_againstItem]
def wsX3_first_r2 : List Cond := [Cond.initialized RX4, Cond.code yX4_againstItem cX4_againstItem 4 (some .int), Cond.fieldLink RX4 102 "ClassRunner$Row" "sort" "I", Cond.methodLink RX4 144 yX0_hasItems, Cond.instanceMethod yX0_hasItems, Cond.selects RX0 yX0_hasItems yX0_hasItems, Cond.initialized RX0, Cond.code yX0_hasItems cX0_hasItems 3 (some .boolean), Cond.fieldLink RX0 15 "ClassRunner$Row" "items" "[J", Cond.methodLink RX3 87 yX0_isOfThings, Cond.instanceMethod yX0_isOfThings, Cond.selects RX0 yX0_isOfThings yX0_isOfThings, Cond.code yX0_isOfThings cX0_isOfThings 1 (some .boolean), Cond.fieldLink RX0 9 "ClassRunner$Row" "sort" "I", Cond.methodLink RX3 54 yX1_find, Cond.instanceMethod yX1_find, Cond.selects RX1 yX1_find yX1_find, Cond.initialized RX1, Cond.code yX1_find cX1_find 2 (some (.object "ClassRunner$Thing")), Cond.fieldLink RX1 17 "ClassRunner$Store" "count" "I", Cond.fieldLink RX1 11 "ClassRunner$Store" "things" "[LClassRunner$Thing;", Cond.code yX3_workOut cX3_workOut 3 (some .int), Cond.fieldLink RX3 43 "ClassRunner$Thing" "cls" "I", Cond.fieldLink RX3 48 "ClassRunner$Thing" "v" "I"]
def wsX3_first_r3 : List Cond := [Cond.fieldLink RX3 51 "ClassRunner$Thing" "link" "I", Cond.fieldLink RX3 63 "ClassRunner$Thing" "row" "LClassRunner$Row;", Cond.methodLink RX3 60 yX3_throwOwn, Cond.instanceMethod yX3_throwOwn, Cond.selects RX3 yX3_throwOwn yX3_throwOwn, Cond.code yX3_throwOwn cX3_throwOwn 3 (some .int), Cond.fieldLink RX3 74 "ClassRunner$Work" "thrown" "I", Cond.methodLink RX3 67 yX3_firstOf, Cond.instanceMethod yX3_firstOf, Cond.selects RX3 yX3_firstOf yX3_firstOf, Cond.methodLink RX3 71 yX3_sumOf, Cond.instanceMethod yX3_sumOf, Cond.selects RX3 yX3_sumOf yX3_sumOf, Cond.code yX3_sumOf cX3_sumOf 9 (some .int), Cond.fieldLink RX3 91 "ClassRunner$Row" "sort" "I"]
def wsX3_first : List Cond := .code yX3_first cX3_first 3 (some .int) :: ((wsX3_first_r1 ++ (wsX3_first_r2 ++ wsX3_first_r3)) ++ wsX30 ++ wsX00 ++ wsX10 ++ wsX20)
def wsX4_init : List Cond := .code yX4_init cX4_init 1 none :: ([.methodLink RX4 1 objectInit, .instanceMethod objectInit, .code objectInit ⟨#[0xb1]⟩ 1 none, .classLink RX4 7 RX1, .instantiable RX1 2, .initialized RX1, .fieldLink RX4 10 "ClassRunner" "store" "LClassRunner$Store;", .classLink RX4 16 RX3, .instantiable RX3 6, .initialized RX3, .fieldLink RX4 21 "ClassRunner" "work" "LClassRunner$Work;", .arrayClass .int, .fieldLink RX4 25 "ClassRunner" "told" "[I", .methodLink RX4 9 yX1_init, .instanceMethod yX1_init, .code yX1_init cX1_init 1 none, .methodLink RX1 3 objectInit, .classLink RX1 9 RX2, .fieldLink RX1 11 "ClassRunner$Store" "things" "[LClassRunner$Thing;", .methodLink RX4 18 yX3_init, .instanceMethod yX3_init, .code yX3_init cX3_init 2 none, .methodLink RX3 3 objectInit, .fieldLink RX3 9 "ClassRunner$Work" "store" "LClassRunner$Store;"] ++ wsX10 ++ wsX40 ++ wsX30)
def wsX4_isClass : List Cond := .code yX4_isClass cX4_isClass 1 (some .boolean) :: ([])
def wsX4_thing_r1 : List Cond := [Cond.constant RX4 33 (-2000000001), Cond.fieldLink RX4 10 "ClassRunner" "store" "LClassRunner$Store;", Cond.methodLink RX4 29 yX4_isClass, Cond.static yX4_isClass, Cond.initialized RX4, Cond.code yX4_isClass cX4_isClass 1 (some .boolean), Cond.methodLink RX4 34 yX1_add, Cond.instanceMethod yX1_add, Cond.selects RX1 yX1_add yX1_add, Cond.initialized RX1, Cond.code yX1_add cX1_add 3 (some .int), Cond.fieldLink RX1 17 "ClassRunner$Store" "count" "I", Cond.fieldLink RX1 11 "ClassRunner$Store" "things" "[LClassRunner$Thing;", Cond.classLink RX1 9 RX2, Cond.instantiable RX2 4, Cond.initialized RX2, Cond.methodLink RX1 21 yX2_init, Cond.instanceMethod yX2_init, Cond.code yX2_init cX2_init 3 none, Cond.methodLink RX2 3 objectInit, Cond.instanceMethod objectInit, Cond.code objectInit ⟨#[0xb1]⟩ 1 none, Cond.fieldLink RX2 9 "ClassRunner$Thing" "cls" "I", Cond.fieldLink RX2 15 "ClassRunner$Thing" "v" "I"]
def wsX4_thing_r2 : List Cond := [Cond.fieldLink RX2 18 "ClassRunner$Thing" "link" "I"]
def wsX4_thing : List Cond := .code yX4_thing cX4_thing 3 (some .int) :: ((wsX4_thing_r1 ++ wsX4_thing_r2) ++ wsX40 ++ wsX10 ++ wsX20)
def wsX4_outcome : List Cond := .code yX4_outcome cX4_outcome 1 (some .int) :: ([.fieldLink RX4 38 "ClassRunner" "outcome" "I"] ++ wsX40)
def wsX4_own : List Cond := .code yX4_own cX4_own 1 (some .int) :: ([.fieldLink RX4 42 "ClassRunner" "own" "I"] ++ wsX40)
def wsX4_begun : List Cond := .code yX4_begun cX4_begun 1 (some .int) :: ([.fieldLink RX4 21 "ClassRunner" "work" "LClassRunner$Work;", .fieldLink RX4 45 "ClassRunner$Work" "begun" "I"] ++ wsX40 ++ wsX30)
def wsX4_deep : List Cond := .code yX4_deep cX4_deep 1 (some .int) :: ([.fieldLink RX4 21 "ClassRunner" "work" "LClassRunner$Work;", .fieldLink RX4 48 "ClassRunner$Work" "deep" "I"] ++ wsX40 ++ wsX30)
def wsX4_told : List Cond := .code yX4_told cX4_told 2 (some .int) :: ([.constant RX4 33 (-2000000001), .fieldLink RX4 25 "ClassRunner" "told" "[I"] ++ wsX40)
def wsX4_cls : List Cond := .code yX4_cls cX4_cls 3 (some .int) :: ([.fieldLink RX4 10 "ClassRunner" "store" "LClassRunner$Store;", .constant RX4 33 (-2000000001), .fieldLink RX4 55 "ClassRunner$Thing" "cls" "I", .methodLink RX4 51 yX1_find, .instanceMethod yX1_find, .selects RX1 yX1_find yX1_find, .initialized RX1, .code yX1_find cX1_find 2 (some (.object "ClassRunner$Thing")), .fieldLink RX1 17 "ClassRunner$Store" "count" "I", .fieldLink RX1 11 "ClassRunner$Store" "things" "[LClassRunner$Thing;"] ++ wsX40 ++ wsX20 ++ wsX10)
def wsX4_is : List Cond := .code yX4_is cX4_is 4 (some .int) :: ([.fieldLink RX4 10 "ClassRunner" "store" "LClassRunner$Store;", .constant RX4 33 (-2000000001), .methodLink RX4 51 yX1_find, .instanceMethod yX1_find, .selects RX1 yX1_find yX1_find, .initialized RX1, .code yX1_find cX1_find 2 (some (.object "ClassRunner$Thing")), .fieldLink RX1 17 "ClassRunner$Store" "count" "I", .fieldLink RX1 11 "ClassRunner$Store" "things" "[LClassRunner$Thing;", .methodLink RX4 29 yX4_isClass, .static yX4_isClass, .initialized RX4, .code yX4_isClass cX4_isClass 1 (some .boolean), .methodLink RX4 60 yX2_isOf, .instanceMethod yX2_isOf, .selects RX2 yX2_isOf yX2_isOf, .initialized RX2, .code yX2_isOf cX2_isOf 2 (some .boolean), .fieldLink RX2 9 "ClassRunner$Thing" "cls" "I"] ++ wsX40 ++ wsX10 ++ wsX20)
def wsX4_v : List Cond := .code yX4_v cX4_v 3 (some .int) :: ([.fieldLink RX4 10 "ClassRunner" "store" "LClassRunner$Store;", .constant RX4 33 (-2000000001), .fieldLink RX4 63 "ClassRunner$Thing" "v" "I", .methodLink RX4 51 yX1_find, .instanceMethod yX1_find, .selects RX1 yX1_find yX1_find, .initialized RX1, .code yX1_find cX1_find 2 (some (.object "ClassRunner$Thing")), .fieldLink RX1 17 "ClassRunner$Store" "count" "I", .fieldLink RX1 11 "ClassRunner$Store" "things" "[LClassRunner$Thing;"] ++ wsX40 ++ wsX20 ++ wsX10)
def wsX4_become : List Cond := .code yX4_become cX4_become 5 (some .int) :: ([.fieldLink RX4 10 "ClassRunner" "store" "LClassRunner$Store;", .constant RX4 33 (-2000000001), .fieldLink RX4 63 "ClassRunner$Thing" "v" "I", .methodLink RX4 51 yX1_find, .instanceMethod yX1_find, .selects RX1 yX1_find yX1_find, .initialized RX1, .code yX1_find cX1_find 2 (some (.object "ClassRunner$Thing")), .fieldLink RX1 17 "ClassRunner$Store" "count" "I", .fieldLink RX1 11 "ClassRunner$Store" "things" "[LClassRunner$Thing;"] ++ wsX40 ++ wsX20 ++ wsX10)
def wsX4_link : List Cond := .code yX4_link cX4_link 5 (some .int) :: ([.fieldLink RX4 10 "ClassRunner" "store" "LClassRunner$Store;", .constant RX4 33 (-2000000001), .fieldLink RX4 69 "ClassRunner$Thing" "link" "I", .methodLink RX4 51 yX1_find, .instanceMethod yX1_find, .selects RX1 yX1_find yX1_find, .initialized RX1, .code yX1_find cX1_find 2 (some (.object "ClassRunner$Thing")), .fieldLink RX1 17 "ClassRunner$Store" "count" "I", .fieldLink RX1 11 "ClassRunner$Store" "things" "[LClassRunner$Thing;", .methodLink RX4 66 yX1_hasOrNone, .instanceMethod yX1_hasOrNone, .selects RX1 yX1_hasOrNone yX1_hasOrNone, .code yX1_hasOrNone cX1_hasOrNone 2 (some .boolean), .methodLink RX1 24 yX1_find] ++ wsX40 ++ wsX20 ++ wsX10)
def wsX4_linked : List Cond := .code yX4_linked cX4_linked 3 (some .int) :: ([.fieldLink RX4 10 "ClassRunner" "store" "LClassRunner$Store;", .constant RX4 33 (-2000000001), .fieldLink RX4 69 "ClassRunner$Thing" "link" "I", .methodLink RX4 51 yX1_find, .instanceMethod yX1_find, .selects RX1 yX1_find yX1_find, .initialized RX1, .code yX1_find cX1_find 2 (some (.object "ClassRunner$Thing")), .fieldLink RX1 17 "ClassRunner$Store" "count" "I", .fieldLink RX1 11 "ClassRunner$Store" "things" "[LClassRunner$Thing;"] ++ wsX40 ++ wsX20 ++ wsX10)
def wsX4_tell : List Cond := .code yX4_tell cX4_tell 2 (some .int) :: ([.fieldLink RX4 38 "ClassRunner" "outcome" "I", .fieldLink RX4 25 "ClassRunner" "told" "[I", .fieldLink RX4 21 "ClassRunner" "work" "LClassRunner$Work;", .fieldLink RX4 141 "ClassRunner$Work" "thrown" "I", .fieldLink RX4 42 "ClassRunner" "own" "I"] ++ wsX40 ++ wsX30)
def wsX4_refuse : List Cond := .code yX4_refuse cX4_refuse 2 (some .int) :: ([.methodLink RX4 76 yX4_tell, .instanceMethod yX4_tell, .selects RX4 yX4_tell yX4_tell, .initialized RX4, .code yX4_tell cX4_tell 2 (some .int), .fieldLink RX4 38 "ClassRunner" "outcome" "I", .fieldLink RX4 25 "ClassRunner" "told" "[I", .fieldLink RX4 21 "ClassRunner" "work" "LClassRunner$Work;", .fieldLink RX4 141 "ClassRunner$Work" "thrown" "I", .fieldLink RX4 42 "ClassRunner" "own" "I"] ++ wsX40 ++ wsX30)
def wsX4_follow : List Cond := .code yX4_follow cX4_follow 4 (some .int) :: ([.fieldLink RX4 10 "ClassRunner" "store" "LClassRunner$Store;", .constant RX4 33 (-2000000001), .fieldLink RX4 69 "ClassRunner$Thing" "link" "I", .methodLink RX4 51 yX1_find, .instanceMethod yX1_find, .selects RX1 yX1_find yX1_find, .initialized RX1, .code yX1_find cX1_find 2 (some (.object "ClassRunner$Thing")), .fieldLink RX1 17 "ClassRunner$Store" "count" "I", .fieldLink RX1 11 "ClassRunner$Store" "things" "[LClassRunner$Thing;", .methodLink RX4 72 yX4_refuse, .instanceMethod yX4_refuse, .selects RX4 yX4_refuse yX4_refuse, .initialized RX4, .code yX4_refuse cX4_refuse 2 (some .int), .methodLink RX4 76 yX4_tell, .instanceMethod yX4_tell, .selects RX4 yX4_tell yX4_tell, .code yX4_tell cX4_tell 2 (some .int), .fieldLink RX4 38 "ClassRunner" "outcome" "I", .fieldLink RX4 25 "ClassRunner" "told" "[I", .fieldLink RX4 21 "ClassRunner" "work" "LClassRunner$Work;", .fieldLink RX4 141 "ClassRunner$Work" "thrown" "I", .fieldLink RX4 42 "ClassRunner" "own" "I"] ++ wsX40 ++ wsX20 ++ wsX10 ++ wsX30)
def wsX4_trade_r1 : List Cond := [Cond.fieldLink RX4 10 "ClassRunner" "store" "LClassRunner$Store;", Cond.constant RX4 33 (-2000000001), Cond.fieldLink RX4 69 "ClassRunner$Thing" "link" "I", Cond.fieldLink RX4 63 "ClassRunner$Thing" "v" "I", Cond.methodLink RX4 51 yX1_find, Cond.instanceMethod yX1_find, Cond.selects RX1 yX1_find yX1_find, Cond.initialized RX1, Cond.code yX1_find cX1_find 2 (some (.object "ClassRunner$Thing")), Cond.fieldLink RX1 17 "ClassRunner$Store" "count" "I", Cond.fieldLink RX1 11 "ClassRunner$Store" "things" "[LClassRunner$Thing;", Cond.methodLink RX4 72 yX4_refuse, Cond.instanceMethod yX4_refuse, Cond.selects RX4 yX4_refuse yX4_refuse, Cond.initialized RX4, Cond.code yX4_refuse cX4_refuse 2 (some .int), Cond.methodLink RX4 76 yX4_tell, Cond.instanceMethod yX4_tell, Cond.selects RX4 yX4_tell yX4_tell, Cond.code yX4_tell cX4_tell 2 (some .int), Cond.fieldLink RX4 38 "ClassRunner" "outcome" "I", Cond.fieldLink RX4 25 "ClassRunner" "told" "[I", Cond.fieldLink RX4 21 "ClassRunner" "work" "LClassRunner$Work;", Cond.fieldLink RX4 141 "ClassRunner$Work" "thrown" "I"]
def wsX4_trade_r2 : List Cond := [Cond.fieldLink RX4 42 "ClassRunner" "own" "I"]
def wsX4_trade : List Cond := .code yX4_trade cX4_trade 5 (some .int) :: ((wsX4_trade_r1 ++ wsX4_trade_r2) ++ wsX40 ++ wsX20 ++ wsX10 ++ wsX30)
def wsX4_hold_r1 : List Cond := [Cond.fieldLink RX4 10 "ClassRunner" "store" "LClassRunner$Store;", Cond.constant RX4 33 (-2000000001), Cond.fieldLink RX4 79 "ClassRunner$Thing" "row" "LClassRunner$Row;", Cond.classLink RX4 83 RX0, Cond.instantiable RX0 2, Cond.initialized RX0, Cond.methodLink RX4 51 yX1_find, Cond.instanceMethod yX1_find, Cond.selects RX1 yX1_find yX1_find, Cond.initialized RX1, Cond.code yX1_find cX1_find 2 (some (.object "ClassRunner$Thing")), Cond.fieldLink RX1 17 "ClassRunner$Store" "count" "I", Cond.fieldLink RX1 11 "ClassRunner$Store" "things" "[LClassRunner$Thing;", Cond.methodLink RX4 76 yX4_tell, Cond.instanceMethod yX4_tell, Cond.selects RX4 yX4_tell yX4_tell, Cond.initialized RX4, Cond.code yX4_tell cX4_tell 2 (some .int), Cond.fieldLink RX4 38 "ClassRunner" "outcome" "I", Cond.fieldLink RX4 25 "ClassRunner" "told" "[I", Cond.fieldLink RX4 21 "ClassRunner" "work" "LClassRunner$Work;", Cond.fieldLink RX4 141 "ClassRunner$Work" "thrown" "I", Cond.fieldLink RX4 42 "ClassRunner" "own" "I", Cond.methodLink RX4 72 yX4_refuse]
def wsX4_hold_r2 : List Cond := [Cond.instanceMethod yX4_refuse, Cond.selects RX4 yX4_refuse yX4_refuse, Cond.code yX4_refuse cX4_refuse 2 (some .int), Cond.methodLink RX4 85 yX0_init, Cond.instanceMethod yX0_init, Cond.code yX0_init cX0_init 3 none, Cond.methodLink RX0 3 objectInit, Cond.instanceMethod objectInit, Cond.code objectInit ⟨#[0xb1]⟩ 1 none, Cond.fieldLink RX0 9 "ClassRunner$Row" "sort" "I", Cond.arrayClass .long, Cond.fieldLink RX0 15 "ClassRunner$Row" "items" "[J", Cond.constantLong RX0 19 (-1), Cond.methodLink RX0 21 yJ7_fill_d0a16, Cond.static yJ7_fill_d0a16, Cond.initialized RJ7, Cond.code yJ7_fill_d0a16 cJ7_fill_d0a16 5 none]
def wsX4_hold : List Cond := .code yX4_hold cX4_hold 5 (some .int) :: ((wsX4_hold_r1 ++ wsX4_hold_r2) ++ wsX40 ++ wsX20 ++ wsX00 ++ wsX10 ++ wsX30)
def wsX4_share : List Cond := .code yX4_share cX4_share 5 (some .int) :: ([.fieldLink RX4 10 "ClassRunner" "store" "LClassRunner$Store;", .constant RX4 33 (-2000000001), .fieldLink RX4 79 "ClassRunner$Thing" "row" "LClassRunner$Row;", .methodLink RX4 51 yX1_find, .instanceMethod yX1_find, .selects RX1 yX1_find yX1_find, .initialized RX1, .code yX1_find cX1_find 2 (some (.object "ClassRunner$Thing")), .fieldLink RX1 17 "ClassRunner$Store" "count" "I", .fieldLink RX1 11 "ClassRunner$Store" "things" "[LClassRunner$Thing;", .methodLink RX4 88 yX2_heldSort, .instanceMethod yX2_heldSort, .selects RX2 yX2_heldSort yX2_heldSort, .initialized RX2, .code yX2_heldSort cX2_heldSort 1 (some .int), .fieldLink RX2 21 "ClassRunner$Thing" "row" "LClassRunner$Row;", .fieldLink RX2 25 "ClassRunner$Row" "sort" "I"] ++ wsX40 ++ wsX20 ++ wsX10 ++ wsX00)
def wsX4_holds : List Cond := .code yX4_holds cX4_holds 3 (some .int) :: ([.fieldLink RX4 10 "ClassRunner" "store" "LClassRunner$Store;", .constant RX4 33 (-2000000001), .methodLink RX4 51 yX1_find, .instanceMethod yX1_find, .selects RX1 yX1_find yX1_find, .initialized RX1, .code yX1_find cX1_find 2 (some (.object "ClassRunner$Thing")), .fieldLink RX1 17 "ClassRunner$Store" "count" "I", .fieldLink RX1 11 "ClassRunner$Store" "things" "[LClassRunner$Thing;", .methodLink RX4 88 yX2_heldSort, .instanceMethod yX2_heldSort, .selects RX2 yX2_heldSort yX2_heldSort, .initialized RX2, .code yX2_heldSort cX2_heldSort 1 (some .int), .fieldLink RX2 21 "ClassRunner$Thing" "row" "LClassRunner$Row;", .fieldLink RX2 25 "ClassRunner$Row" "sort" "I"] ++ wsX40 ++ wsX10 ++ wsX20 ++ wsX00)
def wsX4_size_r1 : List Cond := [Cond.fieldLink RX4 10 "ClassRunner" "store" "LClassRunner$Store;", Cond.constant RX4 33 (-2000000001), Cond.fieldLink RX4 79 "ClassRunner$Thing" "row" "LClassRunner$Row;", Cond.fieldLink RX4 92 "ClassRunner$Row" "items" "[J", Cond.methodLink RX4 51 yX1_find, Cond.instanceMethod yX1_find, Cond.selects RX1 yX1_find yX1_find, Cond.initialized RX1, Cond.code yX1_find cX1_find 2 (some (.object "ClassRunner$Thing")), Cond.fieldLink RX1 17 "ClassRunner$Store" "count" "I", Cond.fieldLink RX1 11 "ClassRunner$Store" "things" "[LClassRunner$Thing;", Cond.methodLink RX4 72 yX4_refuse, Cond.instanceMethod yX4_refuse, Cond.selects RX4 yX4_refuse yX4_refuse, Cond.initialized RX4, Cond.code yX4_refuse cX4_refuse 2 (some .int), Cond.methodLink RX4 76 yX4_tell, Cond.instanceMethod yX4_tell, Cond.selects RX4 yX4_tell yX4_tell, Cond.code yX4_tell cX4_tell 2 (some .int), Cond.fieldLink RX4 38 "ClassRunner" "outcome" "I", Cond.fieldLink RX4 25 "ClassRunner" "told" "[I", Cond.fieldLink RX4 21 "ClassRunner" "work" "LClassRunner$Work;", Cond.fieldLink RX4 141 "ClassRunner$Work" "thrown" "I"]
def wsX4_size_r2 : List Cond := [Cond.fieldLink RX4 42 "ClassRunner" "own" "I"]
def wsX4_size : List Cond := .code yX4_size cX4_size 4 (some .int) :: ((wsX4_size_r1 ++ wsX4_size_r2) ++ wsX40 ++ wsX20 ++ wsX00 ++ wsX10 ++ wsX30)
def wsX4_at_r1 : List Cond := [Cond.fieldLink RX4 10 "ClassRunner" "store" "LClassRunner$Store;", Cond.constantLong RX4 96 (-2000000001), Cond.fieldLink RX4 79 "ClassRunner$Thing" "row" "LClassRunner$Row;", Cond.fieldLink RX4 92 "ClassRunner$Row" "items" "[J", Cond.methodLink RX4 51 yX1_find, Cond.instanceMethod yX1_find, Cond.selects RX1 yX1_find yX1_find, Cond.initialized RX1, Cond.code yX1_find cX1_find 2 (some (.object "ClassRunner$Thing")), Cond.fieldLink RX1 17 "ClassRunner$Store" "count" "I", Cond.fieldLink RX1 11 "ClassRunner$Store" "things" "[LClassRunner$Thing;", Cond.methodLink RX4 98 yX4_againstItem, Cond.static yX4_againstItem, Cond.initialized RX4, Cond.code yX4_againstItem cX4_againstItem 4 (some .int), Cond.fieldLink RX4 102 "ClassRunner$Row" "sort" "I", Cond.methodLink RX4 144 yX0_hasItems, Cond.instanceMethod yX0_hasItems, Cond.selects RX0 yX0_hasItems yX0_hasItems, Cond.initialized RX0, Cond.code yX0_hasItems cX0_hasItems 3 (some .boolean), Cond.fieldLink RX0 15 "ClassRunner$Row" "items" "[J", Cond.methodLink RX4 72 yX4_refuse, Cond.instanceMethod yX4_refuse]
def wsX4_at_r2 : List Cond := [Cond.selects RX4 yX4_refuse yX4_refuse, Cond.code yX4_refuse cX4_refuse 2 (some .int), Cond.methodLink RX4 76 yX4_tell, Cond.instanceMethod yX4_tell, Cond.selects RX4 yX4_tell yX4_tell, Cond.code yX4_tell cX4_tell 2 (some .int), Cond.fieldLink RX4 38 "ClassRunner" "outcome" "I", Cond.fieldLink RX4 25 "ClassRunner" "told" "[I", Cond.fieldLink RX4 21 "ClassRunner" "work" "LClassRunner$Work;", Cond.fieldLink RX4 141 "ClassRunner$Work" "thrown" "I", Cond.fieldLink RX4 42 "ClassRunner" "own" "I"]
def wsX4_at : List Cond := .code yX4_at cX4_at 6 (some .long) :: ((wsX4_at_r1 ++ wsX4_at_r2) ++ wsX40 ++ wsX20 ++ wsX00 ++ wsX10 ++ wsX30)
def wsX4_lay_r1 : List Cond := [Cond.fieldLink RX4 10 "ClassRunner" "store" "LClassRunner$Store;", Cond.constantLong RX4 96 (-2000000001), Cond.fieldLink RX4 79 "ClassRunner$Thing" "row" "LClassRunner$Row;", Cond.fieldLink RX4 102 "ClassRunner$Row" "sort" "I", Cond.methodLink RX4 51 yX1_find, Cond.instanceMethod yX1_find, Cond.selects RX1 yX1_find yX1_find, Cond.initialized RX1, Cond.code yX1_find cX1_find 2 (some (.object "ClassRunner$Thing")), Cond.fieldLink RX1 17 "ClassRunner$Store" "count" "I", Cond.fieldLink RX1 11 "ClassRunner$Store" "things" "[LClassRunner$Thing;", Cond.methodLink RX4 98 yX4_againstItem, Cond.static yX4_againstItem, Cond.initialized RX4, Cond.code yX4_againstItem cX4_againstItem 4 (some .int), Cond.methodLink RX4 144 yX0_hasItems, Cond.instanceMethod yX0_hasItems, Cond.selects RX0 yX0_hasItems yX0_hasItems, Cond.initialized RX0, Cond.code yX0_hasItems cX0_hasItems 3 (some .boolean), Cond.fieldLink RX0 15 "ClassRunner$Row" "items" "[J", Cond.methodLink RX4 72 yX4_refuse, Cond.instanceMethod yX4_refuse, Cond.selects RX4 yX4_refuse yX4_refuse]
def wsX4_lay_r2 : List Cond := [Cond.code yX4_refuse cX4_refuse 2 (some .int), Cond.methodLink RX4 76 yX4_tell, Cond.instanceMethod yX4_tell, Cond.selects RX4 yX4_tell yX4_tell, Cond.code yX4_tell cX4_tell 2 (some .int), Cond.fieldLink RX4 38 "ClassRunner" "outcome" "I", Cond.fieldLink RX4 25 "ClassRunner" "told" "[I", Cond.fieldLink RX4 21 "ClassRunner" "work" "LClassRunner$Work;", Cond.fieldLink RX4 141 "ClassRunner$Work" "thrown" "I", Cond.fieldLink RX4 42 "ClassRunner" "own" "I", Cond.methodLink RX4 105 yX0_put, Cond.instanceMethod yX0_put, Cond.selects RX0 yX0_put yX0_put, Cond.code yX0_put cX0_put 6 (some .long)]
def wsX4_lay : List Cond := .code yX4_lay cX4_lay 8 (some .long) :: ((wsX4_lay_r1 ++ wsX4_lay_r2) ++ wsX40 ++ wsX20 ++ wsX00 ++ wsX10 ++ wsX30)
def wsX4_set_r1 : List Cond := [Cond.fieldLink RX4 10 "ClassRunner" "store" "LClassRunner$Store;", Cond.constant RX4 33 (-2000000001), Cond.fieldLink RX4 79 "ClassRunner$Thing" "row" "LClassRunner$Row;", Cond.fieldLink RX4 102 "ClassRunner$Row" "sort" "I", Cond.methodLink RX4 51 yX1_find, Cond.instanceMethod yX1_find, Cond.selects RX1 yX1_find yX1_find, Cond.initialized RX1, Cond.code yX1_find cX1_find 2 (some (.object "ClassRunner$Thing")), Cond.fieldLink RX1 17 "ClassRunner$Store" "count" "I", Cond.fieldLink RX1 11 "ClassRunner$Store" "things" "[LClassRunner$Thing;", Cond.methodLink RX4 66 yX1_hasOrNone, Cond.instanceMethod yX1_hasOrNone, Cond.selects RX1 yX1_hasOrNone yX1_hasOrNone, Cond.code yX1_hasOrNone cX1_hasOrNone 2 (some .boolean), Cond.methodLink RX1 24 yX1_find, Cond.methodLink RX4 98 yX4_againstItem, Cond.static yX4_againstItem, Cond.initialized RX4, Cond.code yX4_againstItem cX4_againstItem 4 (some .int), Cond.methodLink RX4 144 yX0_hasItems, Cond.instanceMethod yX0_hasItems, Cond.selects RX0 yX0_hasItems yX0_hasItems, Cond.initialized RX0]
def wsX4_set_r2 : List Cond := [Cond.code yX0_hasItems cX0_hasItems 3 (some .boolean), Cond.fieldLink RX0 15 "ClassRunner$Row" "items" "[J", Cond.methodLink RX4 72 yX4_refuse, Cond.instanceMethod yX4_refuse, Cond.selects RX4 yX4_refuse yX4_refuse, Cond.code yX4_refuse cX4_refuse 2 (some .int), Cond.methodLink RX4 76 yX4_tell, Cond.instanceMethod yX4_tell, Cond.selects RX4 yX4_tell yX4_tell, Cond.code yX4_tell cX4_tell 2 (some .int), Cond.fieldLink RX4 38 "ClassRunner" "outcome" "I", Cond.fieldLink RX4 25 "ClassRunner" "told" "[I", Cond.fieldLink RX4 21 "ClassRunner" "work" "LClassRunner$Work;", Cond.fieldLink RX4 141 "ClassRunner$Work" "thrown" "I", Cond.fieldLink RX4 42 "ClassRunner" "own" "I", Cond.methodLink RX4 109 yX1_isLeafOrNone, Cond.instanceMethod yX1_isLeafOrNone, Cond.selects RX1 yX1_isLeafOrNone yX1_isLeafOrNone, Cond.code yX1_isLeafOrNone cX1_isLeafOrNone 3 (some .boolean), Cond.methodLink RX1 28 yX2_isOf, Cond.instanceMethod yX2_isOf, Cond.selects RX2 yX2_isOf yX2_isOf, Cond.initialized RX2, Cond.code yX2_isOf cX2_isOf 2 (some .boolean)]
def wsX4_set_r3 : List Cond := [Cond.fieldLink RX2 9 "ClassRunner$Thing" "cls" "I", Cond.methodLink RX4 105 yX0_put, Cond.instanceMethod yX0_put, Cond.selects RX0 yX0_put yX0_put, Cond.code yX0_put cX0_put 6 (some .long)]
def wsX4_set : List Cond := .code yX4_set cX4_set 7 (some .int) :: ((wsX4_set_r1 ++ (wsX4_set_r2 ++ wsX4_set_r3)) ++ wsX40 ++ wsX20 ++ wsX00 ++ wsX10 ++ wsX30)
def wsX4_againstMove : List Cond := .code yX4_againstMove cX4_againstMove 5 (some .int) :: ([.fieldLink RX4 102 "ClassRunner$Row" "sort" "I", .methodLink RX4 148 yX0_isOfThings, .instanceMethod yX0_isOfThings, .selects RX0 yX0_isOfThings yX0_isOfThings, .initialized RX0, .code yX0_isOfThings cX0_isOfThings 1 (some .boolean), .fieldLink RX0 9 "ClassRunner$Row" "sort" "I", .methodLink RX4 144 yX0_hasItems, .instanceMethod yX0_hasItems, .selects RX0 yX0_hasItems yX0_hasItems, .code yX0_hasItems cX0_hasItems 3 (some .boolean), .fieldLink RX0 15 "ClassRunner$Row" "items" "[J"] ++ wsX00)
def wsX4_leavesAhead : List Cond := .code yX4_leavesAhead cX4_leavesAhead 5 (some .int) :: ([.fieldLink RX4 10 "ClassRunner" "store" "LClassRunner$Store;", .fieldLink RX4 92 "ClassRunner$Row" "items" "[J", .methodLink RX4 109 yX1_isLeafOrNone, .instanceMethod yX1_isLeafOrNone, .selects RX1 yX1_isLeafOrNone yX1_isLeafOrNone, .initialized RX1, .code yX1_isLeafOrNone cX1_isLeafOrNone 3 (some .boolean), .methodLink RX1 24 yX1_find, .instanceMethod yX1_find, .selects RX1 yX1_find yX1_find, .code yX1_find cX1_find 2 (some (.object "ClassRunner$Thing")), .fieldLink RX1 17 "ClassRunner$Store" "count" "I", .fieldLink RX1 11 "ClassRunner$Store" "things" "[LClassRunner$Thing;", .methodLink RX1 28 yX2_isOf, .instanceMethod yX2_isOf, .selects RX2 yX2_isOf yX2_isOf, .initialized RX2, .code yX2_isOf cX2_isOf 2 (some .boolean), .fieldLink RX2 9 "ClassRunner$Thing" "cls" "I"] ++ wsX40 ++ wsX00 ++ wsX10 ++ wsX20)
def wsX4_move_r1 : List Cond := [Cond.fieldLink RX4 10 "ClassRunner" "store" "LClassRunner$Store;", Cond.constant RX4 33 (-2000000001), Cond.fieldLink RX4 79 "ClassRunner$Thing" "row" "LClassRunner$Row;", Cond.fieldLink RX4 102 "ClassRunner$Row" "sort" "I", Cond.fieldLink RX4 92 "ClassRunner$Row" "items" "[J", Cond.methodLink RX4 120 arraycopyName, Cond.native arraycopyName, Cond.static arraycopyName, Cond.initialized "java/lang/System", Cond.methodLink RX4 51 yX1_find, Cond.instanceMethod yX1_find, Cond.selects RX1 yX1_find yX1_find, Cond.initialized RX1, Cond.code yX1_find cX1_find 2 (some (.object "ClassRunner$Thing")), Cond.fieldLink RX1 17 "ClassRunner$Store" "count" "I", Cond.fieldLink RX1 11 "ClassRunner$Store" "things" "[LClassRunner$Thing;", Cond.methodLink RX4 112 yX4_againstMove, Cond.static yX4_againstMove, Cond.initialized RX4, Cond.code yX4_againstMove cX4_againstMove 5 (some .int), Cond.methodLink RX4 148 yX0_isOfThings, Cond.instanceMethod yX0_isOfThings, Cond.selects RX0 yX0_isOfThings yX0_isOfThings, Cond.initialized RX0]
def wsX4_move_r2 : List Cond := [Cond.code yX0_isOfThings cX0_isOfThings 1 (some .boolean), Cond.fieldLink RX0 9 "ClassRunner$Row" "sort" "I", Cond.methodLink RX4 144 yX0_hasItems, Cond.instanceMethod yX0_hasItems, Cond.selects RX0 yX0_hasItems yX0_hasItems, Cond.code yX0_hasItems cX0_hasItems 3 (some .boolean), Cond.fieldLink RX0 15 "ClassRunner$Row" "items" "[J", Cond.methodLink RX4 72 yX4_refuse, Cond.instanceMethod yX4_refuse, Cond.selects RX4 yX4_refuse yX4_refuse, Cond.code yX4_refuse cX4_refuse 2 (some .int), Cond.methodLink RX4 76 yX4_tell, Cond.instanceMethod yX4_tell, Cond.selects RX4 yX4_tell yX4_tell, Cond.code yX4_tell cX4_tell 2 (some .int), Cond.fieldLink RX4 38 "ClassRunner" "outcome" "I", Cond.fieldLink RX4 25 "ClassRunner" "told" "[I", Cond.fieldLink RX4 21 "ClassRunner" "work" "LClassRunner$Work;", Cond.fieldLink RX4 141 "ClassRunner$Work" "thrown" "I", Cond.fieldLink RX4 42 "ClassRunner" "own" "I", Cond.methodLink RX4 116 yX4_leavesAhead, Cond.instanceMethod yX4_leavesAhead, Cond.selects RX4 yX4_leavesAhead yX4_leavesAhead, Cond.code yX4_leavesAhead cX4_leavesAhead 5 (some .int)]
def wsX4_move_r3 : List Cond := [Cond.methodLink RX4 109 yX1_isLeafOrNone, Cond.instanceMethod yX1_isLeafOrNone, Cond.selects RX1 yX1_isLeafOrNone yX1_isLeafOrNone, Cond.code yX1_isLeafOrNone cX1_isLeafOrNone 3 (some .boolean), Cond.methodLink RX1 24 yX1_find, Cond.methodLink RX1 28 yX2_isOf, Cond.instanceMethod yX2_isOf, Cond.selects RX2 yX2_isOf yX2_isOf, Cond.initialized RX2, Cond.code yX2_isOf cX2_isOf 2 (some .boolean), Cond.fieldLink RX2 9 "ClassRunner$Thing" "cls" "I"]
def wsX4_move : List Cond := .code yX4_move cX4_move 12 (some .int) :: ((wsX4_move_r1 ++ (wsX4_move_r2 ++ wsX4_move_r3)) ++ wsX40 ++ wsX20 ++ wsX00 ++ wsX10 ++ wsX30)
def wsX4_isLimit : List Cond := .code yX4_isLimit cX4_isLimit 1 (some .boolean) :: ([])
def wsX4_run_r1 : List Cond := [Cond.fieldLink RX4 10 "ClassRunner" "store" "LClassRunner$Store;", Cond.constant RX4 33 (-2000000001), Cond.fieldLink RX4 21 "ClassRunner" "work" "LClassRunner$Work;", Cond.fieldLink RX4 133 "ClassRunner$Work" "outcome" "I", Cond.methodLink RX4 51 yX1_find, Cond.instanceMethod yX1_find, Cond.selects RX1 yX1_find yX1_find, Cond.initialized RX1, Cond.code yX1_find cX1_find 2 (some (.object "ClassRunner$Thing")), Cond.fieldLink RX1 17 "ClassRunner$Store" "count" "I", Cond.fieldLink RX1 11 "ClassRunner$Store" "things" "[LClassRunner$Thing;", Cond.methodLink RX4 126 yX4_isLimit, Cond.static yX4_isLimit, Cond.initialized RX4, Cond.code yX4_isLimit cX4_isLimit 1 (some .boolean), Cond.methodLink RX4 129 yX3_first, Cond.instanceMethod yX3_first, Cond.selects RX3 yX3_first yX3_first, Cond.initialized RX3, Cond.code yX3_first cX3_first 3 (some .int), Cond.fieldLink RX3 15 "ClassRunner$Work" "limit" "I", Cond.fieldLink RX3 19 "ClassRunner$Work" "begun" "I", Cond.methodLink RX3 22 yX3_next, Cond.instanceMethod yX3_next]
def wsX4_run_r2 : List Cond := [Cond.selects RX3 yX3_next yX3_next, Cond.code yX3_next cX3_next 2 (some .int), Cond.fieldLink RX3 26 "ClassRunner$Work" "outcome" "I", Cond.fieldLink RX3 29 "ClassRunner$Work" "deep" "I", Cond.methodLink RX3 32 yX3_begin, Cond.instanceMethod yX3_begin, Cond.selects RX3 yX3_begin yX3_begin, Cond.code yX3_begin cX3_begin 3 (some .int), Cond.methodLink RX3 36 yX3_stop, Cond.instanceMethod yX3_stop, Cond.selects RX3 yX3_stop yX3_stop, Cond.code yX3_stop cX3_stop 3 (some .int), Cond.methodLink RX3 40 yX3_workOut, Cond.instanceMethod yX3_workOut, Cond.selects RX3 yX3_workOut yX3_workOut, Cond.code yX3_firstOf cX3_firstOf 5 (some .int), Cond.fieldLink RX3 81 "ClassRunner$Row" "items" "[J", Cond.fieldLink RX3 9 "ClassRunner$Work" "store" "LClassRunner$Store;", Cond.static yX4_againstItem, Cond.code yX4_againstItem cX4_againstItem 4 (some .int), Cond.fieldLink RX4 102 "ClassRunner$Row" "sort" "I", Cond.methodLink RX4 144 yX0_hasItems, Cond.instanceMethod yX0_hasItems, Cond.selects RX0 yX0_hasItems yX0_hasItems]
def wsX4_run_r3 : List Cond := [Cond.initialized RX0, Cond.code yX0_hasItems cX0_hasItems 3 (some .boolean), Cond.fieldLink RX0 15 "ClassRunner$Row" "items" "[J", Cond.methodLink RX3 87 yX0_isOfThings, Cond.instanceMethod yX0_isOfThings, Cond.selects RX0 yX0_isOfThings yX0_isOfThings, Cond.code yX0_isOfThings cX0_isOfThings 1 (some .boolean), Cond.fieldLink RX0 9 "ClassRunner$Row" "sort" "I", Cond.methodLink RX3 54 yX1_find, Cond.code yX3_workOut cX3_workOut 3 (some .int), Cond.fieldLink RX3 43 "ClassRunner$Thing" "cls" "I", Cond.fieldLink RX3 48 "ClassRunner$Thing" "v" "I", Cond.fieldLink RX3 51 "ClassRunner$Thing" "link" "I", Cond.fieldLink RX3 63 "ClassRunner$Thing" "row" "LClassRunner$Row;", Cond.methodLink RX3 60 yX3_throwOwn, Cond.instanceMethod yX3_throwOwn, Cond.selects RX3 yX3_throwOwn yX3_throwOwn, Cond.code yX3_throwOwn cX3_throwOwn 3 (some .int), Cond.fieldLink RX3 74 "ClassRunner$Work" "thrown" "I", Cond.methodLink RX3 67 yX3_firstOf, Cond.instanceMethod yX3_firstOf, Cond.selects RX3 yX3_firstOf yX3_firstOf, Cond.methodLink RX3 71 yX3_sumOf, Cond.instanceMethod yX3_sumOf]
def wsX4_run_r4 : List Cond := [Cond.selects RX3 yX3_sumOf yX3_sumOf, Cond.code yX3_sumOf cX3_sumOf 9 (some .int), Cond.fieldLink RX3 91 "ClassRunner$Row" "sort" "I", Cond.methodLink RX4 76 yX4_tell, Cond.instanceMethod yX4_tell, Cond.selects RX4 yX4_tell yX4_tell, Cond.code yX4_tell cX4_tell 2 (some .int), Cond.fieldLink RX4 38 "ClassRunner" "outcome" "I", Cond.fieldLink RX4 25 "ClassRunner" "told" "[I", Cond.fieldLink RX4 141 "ClassRunner$Work" "thrown" "I", Cond.fieldLink RX4 42 "ClassRunner" "own" "I"]
def wsX4_run : List Cond := .code yX4_run cX4_run 5 (some .int) :: ((wsX4_run_r1 ++ (wsX4_run_r2 ++ (wsX4_run_r3 ++ wsX4_run_r4))) ++ wsX40 ++ wsX30 ++ wsX10 ++ wsX00 ++ wsX20)
def wsX4_either_r1 : List Cond := [Cond.fieldLink RX4 10 "ClassRunner" "store" "LClassRunner$Store;", Cond.constant RX4 33 (-2000000001), Cond.fieldLink RX4 21 "ClassRunner" "work" "LClassRunner$Work;", Cond.fieldLink RX4 133 "ClassRunner$Work" "outcome" "I", Cond.methodLink RX4 51 yX1_find, Cond.instanceMethod yX1_find, Cond.selects RX1 yX1_find yX1_find, Cond.initialized RX1, Cond.code yX1_find cX1_find 2 (some (.object "ClassRunner$Thing")), Cond.fieldLink RX1 17 "ClassRunner$Store" "count" "I", Cond.fieldLink RX1 11 "ClassRunner$Store" "things" "[LClassRunner$Thing;", Cond.methodLink RX4 126 yX4_isLimit, Cond.static yX4_isLimit, Cond.initialized RX4, Cond.code yX4_isLimit cX4_isLimit 1 (some .boolean), Cond.methodLink RX4 129 yX3_first, Cond.instanceMethod yX3_first, Cond.selects RX3 yX3_first yX3_first, Cond.initialized RX3, Cond.code yX3_first cX3_first 3 (some .int), Cond.fieldLink RX3 15 "ClassRunner$Work" "limit" "I", Cond.fieldLink RX3 19 "ClassRunner$Work" "begun" "I", Cond.methodLink RX3 22 yX3_next, Cond.instanceMethod yX3_next]
def wsX4_either_r2 : List Cond := [Cond.selects RX3 yX3_next yX3_next, Cond.code yX3_next cX3_next 2 (some .int), Cond.fieldLink RX3 26 "ClassRunner$Work" "outcome" "I", Cond.fieldLink RX3 29 "ClassRunner$Work" "deep" "I", Cond.methodLink RX3 32 yX3_begin, Cond.instanceMethod yX3_begin, Cond.selects RX3 yX3_begin yX3_begin, Cond.code yX3_begin cX3_begin 3 (some .int), Cond.methodLink RX3 36 yX3_stop, Cond.instanceMethod yX3_stop, Cond.selects RX3 yX3_stop yX3_stop, Cond.code yX3_stop cX3_stop 3 (some .int), Cond.methodLink RX3 40 yX3_workOut, Cond.instanceMethod yX3_workOut, Cond.selects RX3 yX3_workOut yX3_workOut, Cond.code yX3_firstOf cX3_firstOf 5 (some .int), Cond.fieldLink RX3 81 "ClassRunner$Row" "items" "[J", Cond.fieldLink RX3 9 "ClassRunner$Work" "store" "LClassRunner$Store;", Cond.static yX4_againstItem, Cond.code yX4_againstItem cX4_againstItem 4 (some .int), Cond.fieldLink RX4 102 "ClassRunner$Row" "sort" "I", Cond.methodLink RX4 144 yX0_hasItems, Cond.instanceMethod yX0_hasItems, Cond.selects RX0 yX0_hasItems yX0_hasItems]
def wsX4_either_r3 : List Cond := [Cond.initialized RX0, Cond.code yX0_hasItems cX0_hasItems 3 (some .boolean), Cond.fieldLink RX0 15 "ClassRunner$Row" "items" "[J", Cond.methodLink RX3 87 yX0_isOfThings, Cond.instanceMethod yX0_isOfThings, Cond.selects RX0 yX0_isOfThings yX0_isOfThings, Cond.code yX0_isOfThings cX0_isOfThings 1 (some .boolean), Cond.fieldLink RX0 9 "ClassRunner$Row" "sort" "I", Cond.methodLink RX3 54 yX1_find, Cond.code yX3_workOut cX3_workOut 3 (some .int), Cond.fieldLink RX3 43 "ClassRunner$Thing" "cls" "I", Cond.fieldLink RX3 48 "ClassRunner$Thing" "v" "I", Cond.fieldLink RX3 51 "ClassRunner$Thing" "link" "I", Cond.fieldLink RX3 63 "ClassRunner$Thing" "row" "LClassRunner$Row;", Cond.methodLink RX3 60 yX3_throwOwn, Cond.instanceMethod yX3_throwOwn, Cond.selects RX3 yX3_throwOwn yX3_throwOwn, Cond.code yX3_throwOwn cX3_throwOwn 3 (some .int), Cond.fieldLink RX3 74 "ClassRunner$Work" "thrown" "I", Cond.methodLink RX3 67 yX3_firstOf, Cond.instanceMethod yX3_firstOf, Cond.selects RX3 yX3_firstOf yX3_firstOf, Cond.methodLink RX3 71 yX3_sumOf, Cond.instanceMethod yX3_sumOf]
def wsX4_either_r4 : List Cond := [Cond.selects RX3 yX3_sumOf yX3_sumOf, Cond.code yX3_sumOf cX3_sumOf 9 (some .int), Cond.fieldLink RX3 91 "ClassRunner$Row" "sort" "I", Cond.methodLink RX4 134 yX3_next, Cond.methodLink RX4 76 yX4_tell, Cond.instanceMethod yX4_tell, Cond.selects RX4 yX4_tell yX4_tell, Cond.code yX4_tell cX4_tell 2 (some .int), Cond.fieldLink RX4 38 "ClassRunner" "outcome" "I", Cond.fieldLink RX4 25 "ClassRunner" "told" "[I", Cond.fieldLink RX4 141 "ClassRunner$Work" "thrown" "I", Cond.fieldLink RX4 42 "ClassRunner" "own" "I"]
def wsX4_either : List Cond := .code yX4_either cX4_either 7 (some .int) :: ((wsX4_either_r1 ++ (wsX4_either_r2 ++ (wsX4_either_r3 ++ wsX4_either_r4))) ++ wsX40 ++ wsX30 ++ wsX10 ++ wsX00 ++ wsX20)
def wsX4_gather_r1 : List Cond := [Cond.fieldLink RX4 10 "ClassRunner" "store" "LClassRunner$Store;", Cond.constant RX4 33 (-2000000001), Cond.fieldLink RX4 21 "ClassRunner" "work" "LClassRunner$Work;", Cond.fieldLink RX4 69 "ClassRunner$Thing" "link" "I", Cond.fieldLink RX4 133 "ClassRunner$Work" "outcome" "I", Cond.fieldLink RX4 63 "ClassRunner$Thing" "v" "I", Cond.methodLink RX4 51 yX1_find, Cond.instanceMethod yX1_find, Cond.selects RX1 yX1_find yX1_find, Cond.initialized RX1, Cond.code yX1_find cX1_find 2 (some (.object "ClassRunner$Thing")), Cond.fieldLink RX1 17 "ClassRunner$Store" "count" "I", Cond.fieldLink RX1 11 "ClassRunner$Store" "things" "[LClassRunner$Thing;", Cond.methodLink RX4 126 yX4_isLimit, Cond.static yX4_isLimit, Cond.initialized RX4, Cond.code yX4_isLimit cX4_isLimit 1 (some .boolean), Cond.methodLink RX4 129 yX3_first, Cond.instanceMethod yX3_first, Cond.selects RX3 yX3_first yX3_first, Cond.initialized RX3, Cond.code yX3_first cX3_first 3 (some .int), Cond.fieldLink RX3 15 "ClassRunner$Work" "limit" "I", Cond.fieldLink RX3 19 "ClassRunner$Work" "begun" "I"]
def wsX4_gather_r2 : List Cond := [Cond.methodLink RX3 22 yX3_next, Cond.instanceMethod yX3_next, Cond.selects RX3 yX3_next yX3_next, Cond.code yX3_next cX3_next 2 (some .int), Cond.fieldLink RX3 26 "ClassRunner$Work" "outcome" "I", Cond.fieldLink RX3 29 "ClassRunner$Work" "deep" "I", Cond.methodLink RX3 32 yX3_begin, Cond.instanceMethod yX3_begin, Cond.selects RX3 yX3_begin yX3_begin, Cond.code yX3_begin cX3_begin 3 (some .int), Cond.methodLink RX3 36 yX3_stop, Cond.instanceMethod yX3_stop, Cond.selects RX3 yX3_stop yX3_stop, Cond.code yX3_stop cX3_stop 3 (some .int), Cond.methodLink RX3 40 yX3_workOut, Cond.instanceMethod yX3_workOut, Cond.selects RX3 yX3_workOut yX3_workOut, Cond.code yX3_firstOf cX3_firstOf 5 (some .int), Cond.fieldLink RX3 81 "ClassRunner$Row" "items" "[J", Cond.fieldLink RX3 9 "ClassRunner$Work" "store" "LClassRunner$Store;", Cond.static yX4_againstItem, Cond.code yX4_againstItem cX4_againstItem 4 (some .int), Cond.fieldLink RX4 102 "ClassRunner$Row" "sort" "I", Cond.methodLink RX4 144 yX0_hasItems]
def wsX4_gather_r3 : List Cond := [Cond.instanceMethod yX0_hasItems, Cond.selects RX0 yX0_hasItems yX0_hasItems, Cond.initialized RX0, Cond.code yX0_hasItems cX0_hasItems 3 (some .boolean), Cond.fieldLink RX0 15 "ClassRunner$Row" "items" "[J", Cond.methodLink RX3 87 yX0_isOfThings, Cond.instanceMethod yX0_isOfThings, Cond.selects RX0 yX0_isOfThings yX0_isOfThings, Cond.code yX0_isOfThings cX0_isOfThings 1 (some .boolean), Cond.fieldLink RX0 9 "ClassRunner$Row" "sort" "I", Cond.methodLink RX3 54 yX1_find, Cond.code yX3_workOut cX3_workOut 3 (some .int), Cond.fieldLink RX3 43 "ClassRunner$Thing" "cls" "I", Cond.fieldLink RX3 48 "ClassRunner$Thing" "v" "I", Cond.fieldLink RX3 51 "ClassRunner$Thing" "link" "I", Cond.fieldLink RX3 63 "ClassRunner$Thing" "row" "LClassRunner$Row;", Cond.methodLink RX3 60 yX3_throwOwn, Cond.instanceMethod yX3_throwOwn, Cond.selects RX3 yX3_throwOwn yX3_throwOwn, Cond.code yX3_throwOwn cX3_throwOwn 3 (some .int), Cond.fieldLink RX3 74 "ClassRunner$Work" "thrown" "I", Cond.methodLink RX3 67 yX3_firstOf, Cond.instanceMethod yX3_firstOf, Cond.selects RX3 yX3_firstOf yX3_firstOf]
def wsX4_gather_r4 : List Cond := [Cond.methodLink RX3 71 yX3_sumOf, Cond.instanceMethod yX3_sumOf, Cond.selects RX3 yX3_sumOf yX3_sumOf, Cond.code yX3_sumOf cX3_sumOf 9 (some .int), Cond.fieldLink RX3 91 "ClassRunner$Row" "sort" "I", Cond.methodLink RX4 72 yX4_refuse, Cond.instanceMethod yX4_refuse, Cond.selects RX4 yX4_refuse yX4_refuse, Cond.code yX4_refuse cX4_refuse 2 (some .int), Cond.methodLink RX4 76 yX4_tell, Cond.instanceMethod yX4_tell, Cond.selects RX4 yX4_tell yX4_tell, Cond.code yX4_tell cX4_tell 2 (some .int), Cond.fieldLink RX4 38 "ClassRunner" "outcome" "I", Cond.fieldLink RX4 25 "ClassRunner" "told" "[I", Cond.fieldLink RX4 141 "ClassRunner$Work" "thrown" "I", Cond.fieldLink RX4 42 "ClassRunner" "own" "I"]
def wsX4_gather : List Cond := .code yX4_gather cX4_gather 5 (some .int) :: ((wsX4_gather_r1 ++ (wsX4_gather_r2 ++ (wsX4_gather_r3 ++ wsX4_gather_r4))) ++ wsX40 ++ wsX20 ++ wsX30 ++ wsX10 ++ wsX00)
def wsX4_keep_r1 : List Cond := [Cond.fieldLink RX4 10 "ClassRunner" "store" "LClassRunner$Store;", Cond.constant RX4 33 (-2000000001), Cond.fieldLink RX4 21 "ClassRunner" "work" "LClassRunner$Work;", Cond.fieldLink RX4 133 "ClassRunner$Work" "outcome" "I", Cond.fieldLink RX4 79 "ClassRunner$Thing" "row" "LClassRunner$Row;", Cond.methodLink RX4 51 yX1_find, Cond.instanceMethod yX1_find, Cond.selects RX1 yX1_find yX1_find, Cond.initialized RX1, Cond.code yX1_find cX1_find 2 (some (.object "ClassRunner$Thing")), Cond.fieldLink RX1 17 "ClassRunner$Store" "count" "I", Cond.fieldLink RX1 11 "ClassRunner$Store" "things" "[LClassRunner$Thing;", Cond.methodLink RX4 126 yX4_isLimit, Cond.static yX4_isLimit, Cond.initialized RX4, Cond.code yX4_isLimit cX4_isLimit 1 (some .boolean), Cond.methodLink RX4 129 yX3_first, Cond.instanceMethod yX3_first, Cond.selects RX3 yX3_first yX3_first, Cond.initialized RX3, Cond.code yX3_first cX3_first 3 (some .int), Cond.fieldLink RX3 15 "ClassRunner$Work" "limit" "I", Cond.fieldLink RX3 19 "ClassRunner$Work" "begun" "I", Cond.methodLink RX3 22 yX3_next]
def wsX4_keep_r2 : List Cond := [Cond.instanceMethod yX3_next, Cond.selects RX3 yX3_next yX3_next, Cond.code yX3_next cX3_next 2 (some .int), Cond.fieldLink RX3 26 "ClassRunner$Work" "outcome" "I", Cond.fieldLink RX3 29 "ClassRunner$Work" "deep" "I", Cond.methodLink RX3 32 yX3_begin, Cond.instanceMethod yX3_begin, Cond.selects RX3 yX3_begin yX3_begin, Cond.code yX3_begin cX3_begin 3 (some .int), Cond.methodLink RX3 36 yX3_stop, Cond.instanceMethod yX3_stop, Cond.selects RX3 yX3_stop yX3_stop, Cond.code yX3_stop cX3_stop 3 (some .int), Cond.methodLink RX3 40 yX3_workOut, Cond.instanceMethod yX3_workOut, Cond.selects RX3 yX3_workOut yX3_workOut, Cond.code yX3_firstOf cX3_firstOf 5 (some .int), Cond.fieldLink RX3 81 "ClassRunner$Row" "items" "[J", Cond.fieldLink RX3 9 "ClassRunner$Work" "store" "LClassRunner$Store;", Cond.static yX4_againstItem, Cond.code yX4_againstItem cX4_againstItem 4 (some .int), Cond.fieldLink RX4 102 "ClassRunner$Row" "sort" "I", Cond.methodLink RX4 144 yX0_hasItems, Cond.instanceMethod yX0_hasItems]
def wsX4_keep_r3 : List Cond := [Cond.selects RX0 yX0_hasItems yX0_hasItems, Cond.initialized RX0, Cond.code yX0_hasItems cX0_hasItems 3 (some .boolean), Cond.fieldLink RX0 15 "ClassRunner$Row" "items" "[J", Cond.methodLink RX3 87 yX0_isOfThings, Cond.instanceMethod yX0_isOfThings, Cond.selects RX0 yX0_isOfThings yX0_isOfThings, Cond.code yX0_isOfThings cX0_isOfThings 1 (some .boolean), Cond.fieldLink RX0 9 "ClassRunner$Row" "sort" "I", Cond.methodLink RX3 54 yX1_find, Cond.code yX3_workOut cX3_workOut 3 (some .int), Cond.fieldLink RX3 43 "ClassRunner$Thing" "cls" "I", Cond.fieldLink RX3 48 "ClassRunner$Thing" "v" "I", Cond.fieldLink RX3 51 "ClassRunner$Thing" "link" "I", Cond.fieldLink RX3 63 "ClassRunner$Thing" "row" "LClassRunner$Row;", Cond.methodLink RX3 60 yX3_throwOwn, Cond.instanceMethod yX3_throwOwn, Cond.selects RX3 yX3_throwOwn yX3_throwOwn, Cond.code yX3_throwOwn cX3_throwOwn 3 (some .int), Cond.fieldLink RX3 74 "ClassRunner$Work" "thrown" "I", Cond.methodLink RX3 67 yX3_firstOf, Cond.instanceMethod yX3_firstOf, Cond.selects RX3 yX3_firstOf yX3_firstOf, Cond.methodLink RX3 71 yX3_sumOf]
def wsX4_keep_r4 : List Cond := [Cond.instanceMethod yX3_sumOf, Cond.selects RX3 yX3_sumOf yX3_sumOf, Cond.code yX3_sumOf cX3_sumOf 9 (some .int), Cond.fieldLink RX3 91 "ClassRunner$Row" "sort" "I", Cond.methodLink RX4 72 yX4_refuse, Cond.instanceMethod yX4_refuse, Cond.selects RX4 yX4_refuse yX4_refuse, Cond.code yX4_refuse cX4_refuse 2 (some .int), Cond.methodLink RX4 76 yX4_tell, Cond.instanceMethod yX4_tell, Cond.selects RX4 yX4_tell yX4_tell, Cond.code yX4_tell cX4_tell 2 (some .int), Cond.fieldLink RX4 38 "ClassRunner" "outcome" "I", Cond.fieldLink RX4 25 "ClassRunner" "told" "[I", Cond.fieldLink RX4 141 "ClassRunner$Work" "thrown" "I", Cond.fieldLink RX4 42 "ClassRunner" "own" "I", Cond.methodLink RX4 98 yX4_againstItem, Cond.methodLink RX4 105 yX0_put, Cond.instanceMethod yX0_put, Cond.selects RX0 yX0_put yX0_put, Cond.code yX0_put cX0_put 6 (some .long)]
def wsX4_keep : List Cond := .code yX4_keep cX4_keep 10 (some .int) :: ((wsX4_keep_r1 ++ (wsX4_keep_r2 ++ (wsX4_keep_r3 ++ wsX4_keep_r4))) ++ wsX40 ++ wsX30 ++ wsX20 ++ wsX10 ++ wsX00)
def wsX4_things : List Cond := .code yX4_things cX4_things 1 (some .int) :: ([.fieldLink RX4 10 "ClassRunner" "store" "LClassRunner$Store;", .fieldLink RX4 138 "ClassRunner$Store" "count" "I"] ++ wsX40 ++ wsX10)
def wsX5_init : List Cond := .code yX5_init cX5_init 1 none :: ([.methodLink RX5 1 objectInit, .instanceMethod objectInit, .code objectInit ⟨#[0xb1]⟩ 1 none, .arrayClass .int, .fieldLink RX5 7 "ClassRunnerModel" "classes" "[I", .fieldLink RX5 13 "ClassRunnerModel" "vs" "[I", .fieldLink RX5 16 "ClassRunnerModel" "links" "[I", .fieldLink RX5 19 "ClassRunnerModel" "held" "[I", .fieldLink RX5 22 "ClassRunnerModel" "sorts" "[I", .fieldLink RX5 25 "ClassRunnerModel" "sizes" "[I", .arrayClass .long, .fieldLink RX5 28 "ClassRunnerModel" "items" "[J", .fieldLink RX5 32 "ClassRunnerModel" "told" "[I"] ++ wsX50)
def wsX5_in : List Cond := .code yX5_in cX5_in 6 (some .boolean) :: ([])
def wsX5_isThing : List Cond := .code yX5_isThing cX5_isThing 2 (some .boolean) :: ([.fieldLink RX5 35 "ClassRunnerModel" "things" "I", .methodLink RX5 39 yX5_in, .static yX5_in, .initialized RX5, .code yX5_in cX5_in 6 (some .boolean)] ++ wsX50)
def wsX5_isLeaf : List Cond := .code yX5_isLeaf cX5_isLeaf 2 (some .boolean) :: ([.fieldLink RX5 7 "ClassRunnerModel" "classes" "[I"] ++ wsX50)
def wsX5_tell : List Cond := .code yX5_tell cX5_tell 2 (some .int) :: ([.fieldLink RX5 43 "ClassRunnerModel" "outcome" "I", .fieldLink RX5 32 "ClassRunnerModel" "told" "[I"] ++ wsX50)
def wsX5_thing : List Cond := .code yX5_thing cX5_thing 3 (some .int) :: ([.constantLong RX5 46 (7), .constant RX5 48 (-2000000001), .fieldLink RX5 35 "ClassRunnerModel" "things" "I", .fieldLink RX5 7 "ClassRunnerModel" "classes" "[I", .fieldLink RX5 13 "ClassRunnerModel" "vs" "[I", .fieldLink RX5 16 "ClassRunnerModel" "links" "[I", .fieldLink RX5 19 "ClassRunnerModel" "held" "[I", .methodLink RX5 39 yX5_in, .static yX5_in, .initialized RX5, .code yX5_in cX5_in 6 (some .boolean)] ++ wsX50)
def wsX5_outcome : List Cond := .code yX5_outcome cX5_outcome 1 (some .int) :: ([.fieldLink RX5 43 "ClassRunnerModel" "outcome" "I"] ++ wsX50)
def wsX5_own : List Cond := .code yX5_own cX5_own 1 (some .int) :: ([.fieldLink RX5 49 "ClassRunnerModel" "own" "I"] ++ wsX50)
def wsX5_begun : List Cond := .code yX5_begun cX5_begun 1 (some .int) :: ([.fieldLink RX5 52 "ClassRunnerModel" "begun" "I"] ++ wsX50)
def wsX5_deep : List Cond := .code yX5_deep cX5_deep 1 (some .int) :: ([.fieldLink RX5 55 "ClassRunnerModel" "deep" "I"] ++ wsX50)
def wsX5_told : List Cond := .code yX5_told cX5_told 2 (some .int) :: ([.constantLong RX5 58 (9), .fieldLink RX5 32 "ClassRunnerModel" "told" "[I", .constant RX5 48 (-2000000001), .methodLink RX5 39 yX5_in, .static yX5_in, .initialized RX5, .code yX5_in cX5_in 6 (some .boolean)] ++ wsX50)
def wsX5_cls : List Cond := .code yX5_cls cX5_cls 2 (some .int) :: ([.fieldLink RX5 7 "ClassRunnerModel" "classes" "[I", .constant RX5 48 (-2000000001), .methodLink RX5 60 yX5_isThing, .instanceMethod yX5_isThing, .selects RX5 yX5_isThing yX5_isThing, .initialized RX5, .code yX5_isThing cX5_isThing 2 (some .boolean), .fieldLink RX5 35 "ClassRunnerModel" "things" "I", .methodLink RX5 39 yX5_in, .static yX5_in, .code yX5_in cX5_in 6 (some .boolean)] ++ wsX50)
def wsX5_is : List Cond := .code yX5_is cX5_is 3 (some .int) :: ([.constantLong RX5 46 (7), .constant RX5 48 (-2000000001), .fieldLink RX5 7 "ClassRunnerModel" "classes" "[I", .methodLink RX5 60 yX5_isThing, .instanceMethod yX5_isThing, .selects RX5 yX5_isThing yX5_isThing, .initialized RX5, .code yX5_isThing cX5_isThing 2 (some .boolean), .fieldLink RX5 35 "ClassRunnerModel" "things" "I", .methodLink RX5 39 yX5_in, .static yX5_in, .code yX5_in cX5_in 6 (some .boolean)] ++ wsX50)
def wsX5_v : List Cond := .code yX5_v cX5_v 2 (some .int) :: ([.fieldLink RX5 13 "ClassRunnerModel" "vs" "[I", .constant RX5 48 (-2000000001), .methodLink RX5 60 yX5_isThing, .instanceMethod yX5_isThing, .selects RX5 yX5_isThing yX5_isThing, .initialized RX5, .code yX5_isThing cX5_isThing 2 (some .boolean), .fieldLink RX5 35 "ClassRunnerModel" "things" "I", .methodLink RX5 39 yX5_in, .static yX5_in, .code yX5_in cX5_in 6 (some .boolean)] ++ wsX50)
def wsX5_become : List Cond := .code yX5_become cX5_become 4 (some .int) :: ([.constant RX5 48 (-2000000001), .fieldLink RX5 13 "ClassRunnerModel" "vs" "[I", .methodLink RX5 60 yX5_isThing, .instanceMethod yX5_isThing, .selects RX5 yX5_isThing yX5_isThing, .initialized RX5, .code yX5_isThing cX5_isThing 2 (some .boolean), .fieldLink RX5 35 "ClassRunnerModel" "things" "I", .methodLink RX5 39 yX5_in, .static yX5_in, .code yX5_in cX5_in 6 (some .boolean)] ++ wsX50)
def wsX5_link : List Cond := .code yX5_link cX5_link 4 (some .int) :: ([.constant RX5 48 (-2000000001), .fieldLink RX5 16 "ClassRunnerModel" "links" "[I", .methodLink RX5 60 yX5_isThing, .instanceMethod yX5_isThing, .selects RX5 yX5_isThing yX5_isThing, .initialized RX5, .code yX5_isThing cX5_isThing 2 (some .boolean), .fieldLink RX5 35 "ClassRunnerModel" "things" "I", .methodLink RX5 39 yX5_in, .static yX5_in, .code yX5_in cX5_in 6 (some .boolean)] ++ wsX50)
def wsX5_linked : List Cond := .code yX5_linked cX5_linked 2 (some .int) :: ([.fieldLink RX5 16 "ClassRunnerModel" "links" "[I", .constant RX5 48 (-2000000001), .methodLink RX5 60 yX5_isThing, .instanceMethod yX5_isThing, .selects RX5 yX5_isThing yX5_isThing, .initialized RX5, .code yX5_isThing cX5_isThing 2 (some .boolean), .fieldLink RX5 35 "ClassRunnerModel" "things" "I", .methodLink RX5 39 yX5_in, .static yX5_in, .code yX5_in cX5_in 6 (some .boolean)] ++ wsX50)
def wsX5_follow : List Cond := .code yX5_follow cX5_follow 2 (some .int) :: ([.constant RX5 48 (-2000000001), .fieldLink RX5 16 "ClassRunnerModel" "links" "[I", .methodLink RX5 60 yX5_isThing, .instanceMethod yX5_isThing, .selects RX5 yX5_isThing yX5_isThing, .initialized RX5, .code yX5_isThing cX5_isThing 2 (some .boolean), .fieldLink RX5 35 "ClassRunnerModel" "things" "I", .methodLink RX5 39 yX5_in, .static yX5_in, .code yX5_in cX5_in 6 (some .boolean), .methodLink RX5 64 yX5_tell, .instanceMethod yX5_tell, .selects RX5 yX5_tell yX5_tell, .code yX5_tell cX5_tell 2 (some .int), .fieldLink RX5 43 "ClassRunnerModel" "outcome" "I", .fieldLink RX5 32 "ClassRunnerModel" "told" "[I"] ++ wsX50)
def wsX5_trade : List Cond := .code yX5_trade cX5_trade 4 (some .int) :: ([.constant RX5 48 (-2000000001), .fieldLink RX5 16 "ClassRunnerModel" "links" "[I", .fieldLink RX5 13 "ClassRunnerModel" "vs" "[I", .methodLink RX5 60 yX5_isThing, .instanceMethod yX5_isThing, .selects RX5 yX5_isThing yX5_isThing, .initialized RX5, .code yX5_isThing cX5_isThing 2 (some .boolean), .fieldLink RX5 35 "ClassRunnerModel" "things" "I", .methodLink RX5 39 yX5_in, .static yX5_in, .code yX5_in cX5_in 6 (some .boolean), .methodLink RX5 64 yX5_tell, .instanceMethod yX5_tell, .selects RX5 yX5_tell yX5_tell, .code yX5_tell cX5_tell 2 (some .int), .fieldLink RX5 43 "ClassRunnerModel" "outcome" "I", .fieldLink RX5 32 "ClassRunnerModel" "told" "[I"] ++ wsX50)
def wsX5_hold : List Cond := .code yX5_hold cX5_hold 5 (some .int) :: ([.constantLong RX5 68 (3), .constant RX5 48 (-2000000001), .fieldLink RX5 19 "ClassRunnerModel" "held" "[I", .fieldLink RX5 22 "ClassRunnerModel" "sorts" "[I", .fieldLink RX5 70 "ClassRunnerModel" "rows" "I", .fieldLink RX5 25 "ClassRunnerModel" "sizes" "[I", .fieldLink RX5 28 "ClassRunnerModel" "items" "[J", .constantLong RX5 73 (-1), .methodLink RX5 60 yX5_isThing, .instanceMethod yX5_isThing, .selects RX5 yX5_isThing yX5_isThing, .initialized RX5, .code yX5_isThing cX5_isThing 2 (some .boolean), .fieldLink RX5 35 "ClassRunnerModel" "things" "I", .methodLink RX5 39 yX5_in, .static yX5_in, .code yX5_in cX5_in 6 (some .boolean), .methodLink RX5 64 yX5_tell, .instanceMethod yX5_tell, .selects RX5 yX5_tell yX5_tell, .code yX5_tell cX5_tell 2 (some .int), .fieldLink RX5 43 "ClassRunnerModel" "outcome" "I", .fieldLink RX5 32 "ClassRunnerModel" "told" "[I"] ++ wsX50)
def wsX5_holds : List Cond := .code yX5_holds cX5_holds 2 (some .int) :: ([.constant RX5 48 (-2000000001), .fieldLink RX5 19 "ClassRunnerModel" "held" "[I", .fieldLink RX5 22 "ClassRunnerModel" "sorts" "[I", .methodLink RX5 60 yX5_isThing, .instanceMethod yX5_isThing, .selects RX5 yX5_isThing yX5_isThing, .initialized RX5, .code yX5_isThing cX5_isThing 2 (some .boolean), .fieldLink RX5 35 "ClassRunnerModel" "things" "I", .methodLink RX5 39 yX5_in, .static yX5_in, .code yX5_in cX5_in 6 (some .boolean)] ++ wsX50)
def wsX5_share : List Cond := .code yX5_share cX5_share 3 (some .int) :: ([.constant RX5 48 (-2000000001), .fieldLink RX5 19 "ClassRunnerModel" "held" "[I", .methodLink RX5 60 yX5_isThing, .instanceMethod yX5_isThing, .selects RX5 yX5_isThing yX5_isThing, .initialized RX5, .code yX5_isThing cX5_isThing 2 (some .boolean), .fieldLink RX5 35 "ClassRunnerModel" "things" "I", .methodLink RX5 39 yX5_in, .static yX5_in, .code yX5_in cX5_in 6 (some .boolean), .methodLink RX5 75 yX5_holds, .instanceMethod yX5_holds, .selects RX5 yX5_holds yX5_holds, .code yX5_holds cX5_holds 2 (some .int), .fieldLink RX5 22 "ClassRunnerModel" "sorts" "[I"] ++ wsX50)
def wsX5_size : List Cond := .code yX5_size cX5_size 2 (some .int) :: ([.constant RX5 48 (-2000000001), .fieldLink RX5 19 "ClassRunnerModel" "held" "[I", .fieldLink RX5 25 "ClassRunnerModel" "sizes" "[I", .methodLink RX5 60 yX5_isThing, .instanceMethod yX5_isThing, .selects RX5 yX5_isThing yX5_isThing, .initialized RX5, .code yX5_isThing cX5_isThing 2 (some .boolean), .fieldLink RX5 35 "ClassRunnerModel" "things" "I", .methodLink RX5 39 yX5_in, .static yX5_in, .code yX5_in cX5_in 6 (some .boolean), .methodLink RX5 64 yX5_tell, .instanceMethod yX5_tell, .selects RX5 yX5_tell yX5_tell, .code yX5_tell cX5_tell 2 (some .int), .fieldLink RX5 43 "ClassRunnerModel" "outcome" "I", .fieldLink RX5 32 "ClassRunnerModel" "told" "[I"] ++ wsX50)
def wsX5_isItem : List Cond := .code yX5_isItem cX5_isItem 3 (some .boolean) :: ([.fieldLink RX5 25 "ClassRunnerModel" "sizes" "[I", .fieldLink RX5 19 "ClassRunnerModel" "held" "[I", .methodLink RX5 39 yX5_in, .static yX5_in, .initialized RX5, .code yX5_in cX5_in 6 (some .boolean)] ++ wsX50)
def wsX5_at : List Cond := .code yX5_at cX5_at 4 (some .long) :: ([.constantLong RX5 78 (-2000000001), .fieldLink RX5 19 "ClassRunnerModel" "held" "[I", .fieldLink RX5 28 "ClassRunnerModel" "items" "[J", .methodLink RX5 60 yX5_isThing, .instanceMethod yX5_isThing, .selects RX5 yX5_isThing yX5_isThing, .initialized RX5, .code yX5_isThing cX5_isThing 2 (some .boolean), .fieldLink RX5 35 "ClassRunnerModel" "things" "I", .methodLink RX5 39 yX5_in, .static yX5_in, .code yX5_in cX5_in 6 (some .boolean), .methodLink RX5 80 yX5_isItem, .instanceMethod yX5_isItem, .selects RX5 yX5_isItem yX5_isItem, .code yX5_isItem cX5_isItem 3 (some .boolean), .fieldLink RX5 25 "ClassRunnerModel" "sizes" "[I", .methodLink RX5 64 yX5_tell, .instanceMethod yX5_tell, .selects RX5 yX5_tell yX5_tell, .code yX5_tell cX5_tell 2 (some .int), .fieldLink RX5 43 "ClassRunnerModel" "outcome" "I", .fieldLink RX5 32 "ClassRunnerModel" "told" "[I"] ++ wsX50)
def wsX5_lay : List Cond := .code yX5_lay cX5_lay 9 (some .long) :: ([.constantLong RX5 78 (-2000000001), .fieldLink RX5 19 "ClassRunnerModel" "held" "[I", .fieldLink RX5 22 "ClassRunnerModel" "sorts" "[I", .fieldLink RX5 28 "ClassRunnerModel" "items" "[J", .methodLink RX5 60 yX5_isThing, .instanceMethod yX5_isThing, .selects RX5 yX5_isThing yX5_isThing, .initialized RX5, .code yX5_isThing cX5_isThing 2 (some .boolean), .fieldLink RX5 35 "ClassRunnerModel" "things" "I", .methodLink RX5 39 yX5_in, .static yX5_in, .code yX5_in cX5_in 6 (some .boolean), .methodLink RX5 80 yX5_isItem, .instanceMethod yX5_isItem, .selects RX5 yX5_isItem yX5_isItem, .code yX5_isItem cX5_isItem 3 (some .boolean), .fieldLink RX5 25 "ClassRunnerModel" "sizes" "[I", .methodLink RX5 64 yX5_tell, .instanceMethod yX5_tell, .selects RX5 yX5_tell yX5_tell, .code yX5_tell cX5_tell 2 (some .int), .fieldLink RX5 43 "ClassRunnerModel" "outcome" "I", .fieldLink RX5 32 "ClassRunnerModel" "told" "[I"] ++ wsX50)
def wsX5_set_r1 : List Cond := [Cond.constant RX5 48 (-2000000001), Cond.fieldLink RX5 19 "ClassRunnerModel" "held" "[I", Cond.fieldLink RX5 22 "ClassRunnerModel" "sorts" "[I", Cond.fieldLink RX5 28 "ClassRunnerModel" "items" "[J", Cond.methodLink RX5 60 yX5_isThing, Cond.instanceMethod yX5_isThing, Cond.selects RX5 yX5_isThing yX5_isThing, Cond.initialized RX5, Cond.code yX5_isThing cX5_isThing 2 (some .boolean), Cond.fieldLink RX5 35 "ClassRunnerModel" "things" "I", Cond.methodLink RX5 39 yX5_in, Cond.static yX5_in, Cond.code yX5_in cX5_in 6 (some .boolean), Cond.methodLink RX5 80 yX5_isItem, Cond.instanceMethod yX5_isItem, Cond.selects RX5 yX5_isItem yX5_isItem, Cond.code yX5_isItem cX5_isItem 3 (some .boolean), Cond.fieldLink RX5 25 "ClassRunnerModel" "sizes" "[I", Cond.methodLink RX5 84 yX5_isLeaf, Cond.instanceMethod yX5_isLeaf, Cond.selects RX5 yX5_isLeaf yX5_isLeaf, Cond.code yX5_isLeaf cX5_isLeaf 2 (some .boolean), Cond.fieldLink RX5 7 "ClassRunnerModel" "classes" "[I", Cond.methodLink RX5 64 yX5_tell]
def wsX5_set_r2 : List Cond := [Cond.instanceMethod yX5_tell, Cond.selects RX5 yX5_tell yX5_tell, Cond.code yX5_tell cX5_tell 2 (some .int), Cond.fieldLink RX5 43 "ClassRunnerModel" "outcome" "I", Cond.fieldLink RX5 32 "ClassRunnerModel" "told" "[I"]
def wsX5_set : List Cond := .code yX5_set cX5_set 7 (some .int) :: ((wsX5_set_r1 ++ wsX5_set_r2) ++ wsX50)
def wsX5_going : List Cond := .code yX5_going cX5_going 6 (some .int) :: ([.fieldLink RX5 22 "ClassRunnerModel" "sorts" "[I", .fieldLink RX5 28 "ClassRunnerModel" "items" "[J", .constantLong RX5 73 (-1), .methodLink RX5 84 yX5_isLeaf, .instanceMethod yX5_isLeaf, .selects RX5 yX5_isLeaf yX5_isLeaf, .initialized RX5, .code yX5_isLeaf cX5_isLeaf 2 (some .boolean), .fieldLink RX5 7 "ClassRunnerModel" "classes" "[I"] ++ wsX50)
def wsX5_move_r1 : List Cond := [Cond.constant RX5 48 (-2000000001), Cond.fieldLink RX5 19 "ClassRunnerModel" "held" "[I", Cond.fieldLink RX5 22 "ClassRunnerModel" "sorts" "[I", Cond.fieldLink RX5 25 "ClassRunnerModel" "sizes" "[I", Cond.fieldLink RX5 28 "ClassRunnerModel" "items" "[J", Cond.methodLink RX5 60 yX5_isThing, Cond.instanceMethod yX5_isThing, Cond.selects RX5 yX5_isThing yX5_isThing, Cond.initialized RX5, Cond.code yX5_isThing cX5_isThing 2 (some .boolean), Cond.fieldLink RX5 35 "ClassRunnerModel" "things" "I", Cond.methodLink RX5 39 yX5_in, Cond.static yX5_in, Cond.code yX5_in cX5_in 6 (some .boolean), Cond.methodLink RX5 64 yX5_tell, Cond.instanceMethod yX5_tell, Cond.selects RX5 yX5_tell yX5_tell, Cond.code yX5_tell cX5_tell 2 (some .int), Cond.fieldLink RX5 43 "ClassRunnerModel" "outcome" "I", Cond.fieldLink RX5 32 "ClassRunnerModel" "told" "[I", Cond.methodLink RX5 87 yX5_going, Cond.instanceMethod yX5_going, Cond.selects RX5 yX5_going yX5_going, Cond.code yX5_going cX5_going 6 (some .int)]
def wsX5_move_r2 : List Cond := [Cond.constantLong RX5 73 (-1), Cond.methodLink RX5 84 yX5_isLeaf, Cond.instanceMethod yX5_isLeaf, Cond.selects RX5 yX5_isLeaf yX5_isLeaf, Cond.code yX5_isLeaf cX5_isLeaf 2 (some .boolean), Cond.fieldLink RX5 7 "ClassRunnerModel" "classes" "[I"]
def wsX5_move : List Cond := .code yX5_move cX5_move 13 (some .int) :: ((wsX5_move_r1 ++ wsX5_move_r2) ++ wsX50)
def wsX5_summed : List Cond := .code yX5_summed cX5_summed 3 (some .int) :: ([.fieldLink RX5 91 "ClassRunnerModel" "result" "I", .fieldLink RX5 25 "ClassRunnerModel" "sizes" "[I", .fieldLink RX5 28 "ClassRunnerModel" "items" "[J"] ++ wsX50)
def wsX5_plain : List Cond := .code yX5_plain cX5_plain 4 (some .int) :: ([.fieldLink RX5 13 "ClassRunnerModel" "vs" "[I", .fieldLink RX5 19 "ClassRunnerModel" "held" "[I", .fieldLink RX5 7 "ClassRunnerModel" "classes" "[I", .fieldLink RX5 91 "ClassRunnerModel" "result" "I", .fieldLink RX5 94 "ClassRunnerModel" "thrownOwn" "I", .fieldLink RX5 28 "ClassRunnerModel" "items" "[J", .fieldLink RX5 22 "ClassRunnerModel" "sorts" "[I", .methodLink RX5 97 yX5_summed, .instanceMethod yX5_summed, .selects RX5 yX5_summed yX5_summed, .initialized RX5, .code yX5_summed cX5_summed 3 (some .int), .fieldLink RX5 25 "ClassRunnerModel" "sizes" "[I"] ++ wsX50)
def wsX5_takes : List Cond := .code yX5_takes cX5_takes 3 (some .int) :: ([.fieldLink RX5 100 "ClassRunnerModel" "next" "I", .fieldLink RX5 7 "ClassRunnerModel" "classes" "[I", .fieldLink RX5 16 "ClassRunnerModel" "links" "[I", .fieldLink RX5 19 "ClassRunnerModel" "held" "[I", .fieldLink RX5 25 "ClassRunnerModel" "sizes" "[I", .fieldLink RX5 22 "ClassRunnerModel" "sorts" "[I", .fieldLink RX5 28 "ClassRunnerModel" "items" "[J"] ++ wsX50)
def wsX5_number_r1 : List Cond := [Cond.fieldLink RX5 55 "ClassRunnerModel" "deep" "I", Cond.fieldLink RX5 52 "ClassRunnerModel" "begun" "I", Cond.fieldLink RX5 100 "ClassRunnerModel" "next" "I", Cond.fieldLink RX5 91 "ClassRunnerModel" "result" "I", Cond.fieldLink RX5 7 "ClassRunnerModel" "classes" "[I", Cond.methodLink RX5 103 yX5_takes, Cond.instanceMethod yX5_takes, Cond.selects RX5 yX5_takes yX5_takes, Cond.initialized RX5, Cond.code yX5_takes cX5_takes 3 (some .int), Cond.fieldLink RX5 16 "ClassRunnerModel" "links" "[I", Cond.fieldLink RX5 19 "ClassRunnerModel" "held" "[I", Cond.fieldLink RX5 25 "ClassRunnerModel" "sizes" "[I", Cond.fieldLink RX5 22 "ClassRunnerModel" "sorts" "[I", Cond.fieldLink RX5 28 "ClassRunnerModel" "items" "[J", Cond.methodLink RX5 106 yX5_plain, Cond.instanceMethod yX5_plain, Cond.selects RX5 yX5_plain yX5_plain, Cond.code yX5_plain cX5_plain 4 (some .int), Cond.fieldLink RX5 13 "ClassRunnerModel" "vs" "[I", Cond.fieldLink RX5 94 "ClassRunnerModel" "thrownOwn" "I", Cond.methodLink RX5 97 yX5_summed, Cond.instanceMethod yX5_summed, Cond.selects RX5 yX5_summed yX5_summed]
def wsX5_number_r2 : List Cond := [Cond.code yX5_summed cX5_summed 3 (some .int)]
def wsX5_number : List Cond := .code yX5_number cX5_number 7 (some .int) :: ((wsX5_number_r1 ++ wsX5_number_r2) ++ wsX50)
def wsX5_ended : List Cond := .code yX5_ended cX5_ended 3 (some .int) :: ([.fieldLink RX5 94 "ClassRunnerModel" "thrownOwn" "I", .fieldLink RX5 49 "ClassRunnerModel" "own" "I", .methodLink RX5 64 yX5_tell, .instanceMethod yX5_tell, .selects RX5 yX5_tell yX5_tell, .initialized RX5, .code yX5_tell cX5_tell 2 (some .int), .fieldLink RX5 43 "ClassRunnerModel" "outcome" "I", .fieldLink RX5 32 "ClassRunnerModel" "told" "[I"] ++ wsX50)
def wsX5_run_r1 : List Cond := [Cond.constantLong RX5 109 (100), Cond.constant RX5 48 (-2000000001), Cond.fieldLink RX5 52 "ClassRunnerModel" "begun" "I", Cond.fieldLink RX5 91 "ClassRunnerModel" "result" "I", Cond.methodLink RX5 60 yX5_isThing, Cond.instanceMethod yX5_isThing, Cond.selects RX5 yX5_isThing yX5_isThing, Cond.initialized RX5, Cond.code yX5_isThing cX5_isThing 2 (some .boolean), Cond.fieldLink RX5 35 "ClassRunnerModel" "things" "I", Cond.methodLink RX5 39 yX5_in, Cond.static yX5_in, Cond.code yX5_in cX5_in 6 (some .boolean), Cond.methodLink RX5 111 yX5_number, Cond.instanceMethod yX5_number, Cond.selects RX5 yX5_number yX5_number, Cond.code yX5_number cX5_number 7 (some .int), Cond.fieldLink RX5 55 "ClassRunnerModel" "deep" "I", Cond.fieldLink RX5 100 "ClassRunnerModel" "next" "I", Cond.fieldLink RX5 7 "ClassRunnerModel" "classes" "[I", Cond.methodLink RX5 103 yX5_takes, Cond.instanceMethod yX5_takes, Cond.selects RX5 yX5_takes yX5_takes, Cond.code yX5_takes cX5_takes 3 (some .int)]
def wsX5_run_r2 : List Cond := [Cond.fieldLink RX5 16 "ClassRunnerModel" "links" "[I", Cond.fieldLink RX5 19 "ClassRunnerModel" "held" "[I", Cond.fieldLink RX5 25 "ClassRunnerModel" "sizes" "[I", Cond.fieldLink RX5 22 "ClassRunnerModel" "sorts" "[I", Cond.fieldLink RX5 28 "ClassRunnerModel" "items" "[J", Cond.methodLink RX5 106 yX5_plain, Cond.instanceMethod yX5_plain, Cond.selects RX5 yX5_plain yX5_plain, Cond.code yX5_plain cX5_plain 4 (some .int), Cond.fieldLink RX5 13 "ClassRunnerModel" "vs" "[I", Cond.fieldLink RX5 94 "ClassRunnerModel" "thrownOwn" "I", Cond.methodLink RX5 97 yX5_summed, Cond.instanceMethod yX5_summed, Cond.selects RX5 yX5_summed yX5_summed, Cond.code yX5_summed cX5_summed 3 (some .int), Cond.methodLink RX5 115 yX5_ended, Cond.instanceMethod yX5_ended, Cond.selects RX5 yX5_ended yX5_ended, Cond.code yX5_ended cX5_ended 3 (some .int), Cond.fieldLink RX5 49 "ClassRunnerModel" "own" "I", Cond.methodLink RX5 64 yX5_tell, Cond.instanceMethod yX5_tell, Cond.selects RX5 yX5_tell yX5_tell, Cond.code yX5_tell cX5_tell 2 (some .int)]
def wsX5_run_r3 : List Cond := [Cond.fieldLink RX5 43 "ClassRunnerModel" "outcome" "I", Cond.fieldLink RX5 32 "ClassRunnerModel" "told" "[I"]
def wsX5_run : List Cond := .code yX5_run cX5_run 4 (some .int) :: ((wsX5_run_r1 ++ (wsX5_run_r2 ++ wsX5_run_r3)) ++ wsX50)
def wsX5_either_r1 : List Cond := [Cond.constantLong RX5 109 (100), Cond.constant RX5 48 (-2000000001), Cond.fieldLink RX5 52 "ClassRunnerModel" "begun" "I", Cond.fieldLink RX5 91 "ClassRunnerModel" "result" "I", Cond.methodLink RX5 60 yX5_isThing, Cond.instanceMethod yX5_isThing, Cond.selects RX5 yX5_isThing yX5_isThing, Cond.initialized RX5, Cond.code yX5_isThing cX5_isThing 2 (some .boolean), Cond.fieldLink RX5 35 "ClassRunnerModel" "things" "I", Cond.methodLink RX5 39 yX5_in, Cond.static yX5_in, Cond.code yX5_in cX5_in 6 (some .boolean), Cond.methodLink RX5 111 yX5_number, Cond.instanceMethod yX5_number, Cond.selects RX5 yX5_number yX5_number, Cond.code yX5_number cX5_number 7 (some .int), Cond.fieldLink RX5 55 "ClassRunnerModel" "deep" "I", Cond.fieldLink RX5 100 "ClassRunnerModel" "next" "I", Cond.fieldLink RX5 7 "ClassRunnerModel" "classes" "[I", Cond.methodLink RX5 103 yX5_takes, Cond.instanceMethod yX5_takes, Cond.selects RX5 yX5_takes yX5_takes, Cond.code yX5_takes cX5_takes 3 (some .int)]
def wsX5_either_r2 : List Cond := [Cond.fieldLink RX5 16 "ClassRunnerModel" "links" "[I", Cond.fieldLink RX5 19 "ClassRunnerModel" "held" "[I", Cond.fieldLink RX5 25 "ClassRunnerModel" "sizes" "[I", Cond.fieldLink RX5 22 "ClassRunnerModel" "sorts" "[I", Cond.fieldLink RX5 28 "ClassRunnerModel" "items" "[J", Cond.methodLink RX5 106 yX5_plain, Cond.instanceMethod yX5_plain, Cond.selects RX5 yX5_plain yX5_plain, Cond.code yX5_plain cX5_plain 4 (some .int), Cond.fieldLink RX5 13 "ClassRunnerModel" "vs" "[I", Cond.fieldLink RX5 94 "ClassRunnerModel" "thrownOwn" "I", Cond.methodLink RX5 97 yX5_summed, Cond.instanceMethod yX5_summed, Cond.selects RX5 yX5_summed yX5_summed, Cond.code yX5_summed cX5_summed 3 (some .int), Cond.methodLink RX5 115 yX5_ended, Cond.instanceMethod yX5_ended, Cond.selects RX5 yX5_ended yX5_ended, Cond.code yX5_ended cX5_ended 3 (some .int), Cond.fieldLink RX5 49 "ClassRunnerModel" "own" "I", Cond.methodLink RX5 64 yX5_tell, Cond.instanceMethod yX5_tell, Cond.selects RX5 yX5_tell yX5_tell, Cond.code yX5_tell cX5_tell 2 (some .int)]
def wsX5_either_r3 : List Cond := [Cond.fieldLink RX5 43 "ClassRunnerModel" "outcome" "I", Cond.fieldLink RX5 32 "ClassRunnerModel" "told" "[I"]
def wsX5_either : List Cond := .code yX5_either cX5_either 5 (some .int) :: ((wsX5_either_r1 ++ (wsX5_either_r2 ++ wsX5_either_r3)) ++ wsX50)
def wsX5_gather_r1 : List Cond := [Cond.constantLong RX5 109 (100), Cond.constant RX5 48 (-2000000001), Cond.fieldLink RX5 52 "ClassRunnerModel" "begun" "I", Cond.fieldLink RX5 55 "ClassRunnerModel" "deep" "I", Cond.fieldLink RX5 16 "ClassRunnerModel" "links" "[I", Cond.fieldLink RX5 13 "ClassRunnerModel" "vs" "[I", Cond.fieldLink RX5 91 "ClassRunnerModel" "result" "I", Cond.methodLink RX5 60 yX5_isThing, Cond.instanceMethod yX5_isThing, Cond.selects RX5 yX5_isThing yX5_isThing, Cond.initialized RX5, Cond.code yX5_isThing cX5_isThing 2 (some .boolean), Cond.fieldLink RX5 35 "ClassRunnerModel" "things" "I", Cond.methodLink RX5 39 yX5_in, Cond.static yX5_in, Cond.code yX5_in cX5_in 6 (some .boolean), Cond.methodLink RX5 111 yX5_number, Cond.instanceMethod yX5_number, Cond.selects RX5 yX5_number yX5_number, Cond.code yX5_number cX5_number 7 (some .int), Cond.fieldLink RX5 100 "ClassRunnerModel" "next" "I", Cond.fieldLink RX5 7 "ClassRunnerModel" "classes" "[I", Cond.methodLink RX5 103 yX5_takes, Cond.instanceMethod yX5_takes]
def wsX5_gather_r2 : List Cond := [Cond.selects RX5 yX5_takes yX5_takes, Cond.code yX5_takes cX5_takes 3 (some .int), Cond.fieldLink RX5 19 "ClassRunnerModel" "held" "[I", Cond.fieldLink RX5 25 "ClassRunnerModel" "sizes" "[I", Cond.fieldLink RX5 22 "ClassRunnerModel" "sorts" "[I", Cond.fieldLink RX5 28 "ClassRunnerModel" "items" "[J", Cond.methodLink RX5 106 yX5_plain, Cond.instanceMethod yX5_plain, Cond.selects RX5 yX5_plain yX5_plain, Cond.code yX5_plain cX5_plain 4 (some .int), Cond.fieldLink RX5 94 "ClassRunnerModel" "thrownOwn" "I", Cond.methodLink RX5 97 yX5_summed, Cond.instanceMethod yX5_summed, Cond.selects RX5 yX5_summed yX5_summed, Cond.code yX5_summed cX5_summed 3 (some .int), Cond.methodLink RX5 115 yX5_ended, Cond.instanceMethod yX5_ended, Cond.selects RX5 yX5_ended yX5_ended, Cond.code yX5_ended cX5_ended 3 (some .int), Cond.fieldLink RX5 49 "ClassRunnerModel" "own" "I", Cond.methodLink RX5 64 yX5_tell, Cond.instanceMethod yX5_tell, Cond.selects RX5 yX5_tell yX5_tell, Cond.code yX5_tell cX5_tell 2 (some .int)]
def wsX5_gather_r3 : List Cond := [Cond.fieldLink RX5 43 "ClassRunnerModel" "outcome" "I", Cond.fieldLink RX5 32 "ClassRunnerModel" "told" "[I"]
def wsX5_gather : List Cond := .code yX5_gather cX5_gather 4 (some .int) :: ((wsX5_gather_r1 ++ (wsX5_gather_r2 ++ wsX5_gather_r3)) ++ wsX50)
def wsX5_keep_r1 : List Cond := [Cond.constantLong RX5 109 (100), Cond.constant RX5 48 (-2000000001), Cond.fieldLink RX5 52 "ClassRunnerModel" "begun" "I", Cond.fieldLink RX5 19 "ClassRunnerModel" "held" "[I", Cond.fieldLink RX5 22 "ClassRunnerModel" "sorts" "[I", Cond.fieldLink RX5 28 "ClassRunnerModel" "items" "[J", Cond.fieldLink RX5 91 "ClassRunnerModel" "result" "I", Cond.methodLink RX5 60 yX5_isThing, Cond.instanceMethod yX5_isThing, Cond.selects RX5 yX5_isThing yX5_isThing, Cond.initialized RX5, Cond.code yX5_isThing cX5_isThing 2 (some .boolean), Cond.fieldLink RX5 35 "ClassRunnerModel" "things" "I", Cond.methodLink RX5 39 yX5_in, Cond.static yX5_in, Cond.code yX5_in cX5_in 6 (some .boolean), Cond.methodLink RX5 111 yX5_number, Cond.instanceMethod yX5_number, Cond.selects RX5 yX5_number yX5_number, Cond.code yX5_number cX5_number 7 (some .int), Cond.fieldLink RX5 55 "ClassRunnerModel" "deep" "I", Cond.fieldLink RX5 100 "ClassRunnerModel" "next" "I", Cond.fieldLink RX5 7 "ClassRunnerModel" "classes" "[I", Cond.methodLink RX5 103 yX5_takes]
def wsX5_keep_r2 : List Cond := [Cond.instanceMethod yX5_takes, Cond.selects RX5 yX5_takes yX5_takes, Cond.code yX5_takes cX5_takes 3 (some .int), Cond.fieldLink RX5 16 "ClassRunnerModel" "links" "[I", Cond.fieldLink RX5 25 "ClassRunnerModel" "sizes" "[I", Cond.methodLink RX5 106 yX5_plain, Cond.instanceMethod yX5_plain, Cond.selects RX5 yX5_plain yX5_plain, Cond.code yX5_plain cX5_plain 4 (some .int), Cond.fieldLink RX5 13 "ClassRunnerModel" "vs" "[I", Cond.fieldLink RX5 94 "ClassRunnerModel" "thrownOwn" "I", Cond.methodLink RX5 97 yX5_summed, Cond.instanceMethod yX5_summed, Cond.selects RX5 yX5_summed yX5_summed, Cond.code yX5_summed cX5_summed 3 (some .int), Cond.methodLink RX5 80 yX5_isItem, Cond.instanceMethod yX5_isItem, Cond.selects RX5 yX5_isItem yX5_isItem, Cond.code yX5_isItem cX5_isItem 3 (some .boolean), Cond.methodLink RX5 115 yX5_ended, Cond.instanceMethod yX5_ended, Cond.selects RX5 yX5_ended yX5_ended, Cond.code yX5_ended cX5_ended 3 (some .int), Cond.fieldLink RX5 49 "ClassRunnerModel" "own" "I"]
def wsX5_keep_r3 : List Cond := [Cond.methodLink RX5 64 yX5_tell, Cond.instanceMethod yX5_tell, Cond.selects RX5 yX5_tell yX5_tell, Cond.code yX5_tell cX5_tell 2 (some .int), Cond.fieldLink RX5 43 "ClassRunnerModel" "outcome" "I", Cond.fieldLink RX5 32 "ClassRunnerModel" "told" "[I"]
def wsX5_keep : List Cond := .code yX5_keep cX5_keep 7 (some .int) :: ((wsX5_keep_r1 ++ (wsX5_keep_r2 ++ wsX5_keep_r3)) ++ wsX50)
def wsX5_things : List Cond := .code yX5_things cX5_things 1 (some .int) :: ([.fieldLink RX5 35 "ClassRunnerModel" "things" "I"] ++ wsX50)
def wsL_law_r1 : List Cond := [Cond.classLink RL 7 RX4, Cond.instantiable RX4 5, Cond.initialized RX4, Cond.classLink RL 10 RX5, Cond.instantiable RX5 17, Cond.initialized RX5, Cond.constantLong RL 94 (4294967295), Cond.methodLink RL 9 yX4_init, Cond.instanceMethod yX4_init, Cond.code yX4_init cX4_init 1 none, Cond.methodLink RX4 1 objectInit, Cond.instanceMethod objectInit, Cond.code objectInit ⟨#[0xb1]⟩ 1 none, Cond.classLink RX4 7 RX1, Cond.instantiable RX1 2, Cond.initialized RX1, Cond.fieldLink RX4 10 "ClassRunner" "store" "LClassRunner$Store;", Cond.classLink RX4 16 RX3, Cond.instantiable RX3 6, Cond.initialized RX3, Cond.fieldLink RX4 21 "ClassRunner" "work" "LClassRunner$Work;", Cond.arrayClass .int, Cond.fieldLink RX4 25 "ClassRunner" "told" "[I", Cond.methodLink RX4 9 yX1_init]
def wsL_law_r2 : List Cond := [Cond.instanceMethod yX1_init, Cond.code yX1_init cX1_init 1 none, Cond.methodLink RX1 3 objectInit, Cond.classLink RX1 9 RX2, Cond.fieldLink RX1 11 "ClassRunner$Store" "things" "[LClassRunner$Thing;", Cond.methodLink RX4 18 yX3_init, Cond.instanceMethod yX3_init, Cond.code yX3_init cX3_init 2 none, Cond.methodLink RX3 3 objectInit, Cond.fieldLink RX3 9 "ClassRunner$Work" "store" "LClassRunner$Store;", Cond.methodLink RL 12 yX5_init, Cond.instanceMethod yX5_init, Cond.code yX5_init cX5_init 1 none, Cond.methodLink RX5 1 objectInit, Cond.fieldLink RX5 7 "ClassRunnerModel" "classes" "[I", Cond.fieldLink RX5 13 "ClassRunnerModel" "vs" "[I", Cond.fieldLink RX5 16 "ClassRunnerModel" "links" "[I", Cond.fieldLink RX5 19 "ClassRunnerModel" "held" "[I", Cond.fieldLink RX5 22 "ClassRunnerModel" "sorts" "[I", Cond.fieldLink RX5 25 "ClassRunnerModel" "sizes" "[I", Cond.arrayClass .long, Cond.fieldLink RX5 28 "ClassRunnerModel" "items" "[J", Cond.fieldLink RX5 32 "ClassRunnerModel" "told" "[I", Cond.methodLink RL 13 yX4_thing]
def wsL_law_r3 : List Cond := [Cond.instanceMethod yX4_thing, Cond.selects RX4 yX4_thing yX4_thing, Cond.code yX4_thing cX4_thing 3 (some .int), Cond.constant RX4 33 (-2000000001), Cond.methodLink RX4 29 yX4_isClass, Cond.static yX4_isClass, Cond.code yX4_isClass cX4_isClass 1 (some .boolean), Cond.methodLink RX4 34 yX1_add, Cond.instanceMethod yX1_add, Cond.selects RX1 yX1_add yX1_add, Cond.code yX1_add cX1_add 3 (some .int), Cond.fieldLink RX1 17 "ClassRunner$Store" "count" "I", Cond.instantiable RX2 4, Cond.initialized RX2, Cond.methodLink RX1 21 yX2_init, Cond.instanceMethod yX2_init, Cond.code yX2_init cX2_init 3 none, Cond.methodLink RX2 3 objectInit, Cond.fieldLink RX2 9 "ClassRunner$Thing" "cls" "I", Cond.fieldLink RX2 15 "ClassRunner$Thing" "v" "I", Cond.fieldLink RX2 18 "ClassRunner$Thing" "link" "I", Cond.methodLink RL 17 yX5_thing, Cond.instanceMethod yX5_thing, Cond.selects RX5 yX5_thing yX5_thing]
def wsL_law_r4 : List Cond := [Cond.code yX5_thing cX5_thing 3 (some .int), Cond.constantLong RX5 46 (7), Cond.constant RX5 48 (-2000000001), Cond.fieldLink RX5 35 "ClassRunnerModel" "things" "I", Cond.methodLink RX5 39 yX5_in, Cond.static yX5_in, Cond.code yX5_in cX5_in 6 (some .boolean), Cond.methodLink RL 18 yX4_outcome, Cond.instanceMethod yX4_outcome, Cond.selects RX4 yX4_outcome yX4_outcome, Cond.code yX4_outcome cX4_outcome 1 (some .int), Cond.fieldLink RX4 38 "ClassRunner" "outcome" "I", Cond.methodLink RL 22 yX5_outcome, Cond.instanceMethod yX5_outcome, Cond.selects RX5 yX5_outcome yX5_outcome, Cond.code yX5_outcome cX5_outcome 1 (some .int), Cond.fieldLink RX5 43 "ClassRunnerModel" "outcome" "I", Cond.methodLink RL 23 yX4_own, Cond.instanceMethod yX4_own, Cond.selects RX4 yX4_own yX4_own, Cond.code yX4_own cX4_own 1 (some .int), Cond.fieldLink RX4 42 "ClassRunner" "own" "I", Cond.methodLink RL 26 yX5_own, Cond.instanceMethod yX5_own]
def wsL_law_r5 : List Cond := [Cond.selects RX5 yX5_own yX5_own, Cond.code yX5_own cX5_own 1 (some .int), Cond.fieldLink RX5 49 "ClassRunnerModel" "own" "I", Cond.methodLink RL 27 yX4_begun, Cond.instanceMethod yX4_begun, Cond.selects RX4 yX4_begun yX4_begun, Cond.code yX4_begun cX4_begun 1 (some .int), Cond.fieldLink RX4 45 "ClassRunner$Work" "begun" "I", Cond.methodLink RL 30 yX5_begun, Cond.instanceMethod yX5_begun, Cond.selects RX5 yX5_begun yX5_begun, Cond.code yX5_begun cX5_begun 1 (some .int), Cond.fieldLink RX5 52 "ClassRunnerModel" "begun" "I", Cond.methodLink RL 31 yX4_deep, Cond.instanceMethod yX4_deep, Cond.selects RX4 yX4_deep yX4_deep, Cond.code yX4_deep cX4_deep 1 (some .int), Cond.fieldLink RX4 48 "ClassRunner$Work" "deep" "I", Cond.methodLink RL 34 yX5_deep, Cond.instanceMethod yX5_deep, Cond.selects RX5 yX5_deep yX5_deep, Cond.code yX5_deep cX5_deep 1 (some .int), Cond.fieldLink RX5 55 "ClassRunnerModel" "deep" "I", Cond.methodLink RL 35 yX4_told]
def wsL_law_r6 : List Cond := [Cond.instanceMethod yX4_told, Cond.selects RX4 yX4_told yX4_told, Cond.code yX4_told cX4_told 2 (some .int), Cond.methodLink RL 39 yX5_told, Cond.instanceMethod yX5_told, Cond.selects RX5 yX5_told yX5_told, Cond.code yX5_told cX5_told 2 (some .int), Cond.constantLong RX5 58 (9), Cond.methodLink RL 40 yX4_cls, Cond.instanceMethod yX4_cls, Cond.selects RX4 yX4_cls yX4_cls, Cond.code yX4_cls cX4_cls 3 (some .int), Cond.fieldLink RX4 55 "ClassRunner$Thing" "cls" "I", Cond.methodLink RX4 51 yX1_find, Cond.instanceMethod yX1_find, Cond.selects RX1 yX1_find yX1_find, Cond.code yX1_find cX1_find 2 (some (.object "ClassRunner$Thing")), Cond.methodLink RL 43 yX5_cls, Cond.instanceMethod yX5_cls, Cond.selects RX5 yX5_cls yX5_cls, Cond.code yX5_cls cX5_cls 2 (some .int), Cond.methodLink RX5 60 yX5_isThing, Cond.instanceMethod yX5_isThing, Cond.selects RX5 yX5_isThing yX5_isThing]
def wsL_law_r7 : List Cond := [Cond.code yX5_isThing cX5_isThing 2 (some .boolean), Cond.methodLink RL 44 yX4_is, Cond.instanceMethod yX4_is, Cond.selects RX4 yX4_is yX4_is, Cond.code yX4_is cX4_is 4 (some .int), Cond.methodLink RX4 60 yX2_isOf, Cond.instanceMethod yX2_isOf, Cond.selects RX2 yX2_isOf yX2_isOf, Cond.code yX2_isOf cX2_isOf 2 (some .boolean), Cond.methodLink RL 47 yX5_is, Cond.instanceMethod yX5_is, Cond.selects RX5 yX5_is yX5_is, Cond.code yX5_is cX5_is 3 (some .int), Cond.methodLink RL 48 yX4_v, Cond.instanceMethod yX4_v, Cond.selects RX4 yX4_v yX4_v, Cond.code yX4_v cX4_v 3 (some .int), Cond.fieldLink RX4 63 "ClassRunner$Thing" "v" "I", Cond.methodLink RL 51 yX5_v, Cond.instanceMethod yX5_v, Cond.selects RX5 yX5_v yX5_v, Cond.code yX5_v cX5_v 2 (some .int), Cond.methodLink RL 52 yX4_become, Cond.instanceMethod yX4_become]
def wsL_law_r8 : List Cond := [Cond.selects RX4 yX4_become yX4_become, Cond.code yX4_become cX4_become 5 (some .int), Cond.methodLink RL 55 yX5_become, Cond.instanceMethod yX5_become, Cond.selects RX5 yX5_become yX5_become, Cond.code yX5_become cX5_become 4 (some .int), Cond.methodLink RL 56 yX4_link, Cond.instanceMethod yX4_link, Cond.selects RX4 yX4_link yX4_link, Cond.code yX4_link cX4_link 5 (some .int), Cond.fieldLink RX4 69 "ClassRunner$Thing" "link" "I", Cond.methodLink RX4 66 yX1_hasOrNone, Cond.instanceMethod yX1_hasOrNone, Cond.selects RX1 yX1_hasOrNone yX1_hasOrNone, Cond.code yX1_hasOrNone cX1_hasOrNone 2 (some .boolean), Cond.methodLink RX1 24 yX1_find, Cond.methodLink RL 59 yX5_link, Cond.instanceMethod yX5_link, Cond.selects RX5 yX5_link yX5_link, Cond.code yX5_link cX5_link 4 (some .int), Cond.methodLink RL 60 yX4_linked, Cond.instanceMethod yX4_linked, Cond.selects RX4 yX4_linked yX4_linked, Cond.code yX4_linked cX4_linked 3 (some .int)]
def wsL_law_r9 : List Cond := [Cond.methodLink RL 63 yX5_linked, Cond.instanceMethod yX5_linked, Cond.selects RX5 yX5_linked yX5_linked, Cond.code yX5_linked cX5_linked 2 (some .int), Cond.methodLink RL 64 yX4_follow, Cond.instanceMethod yX4_follow, Cond.selects RX4 yX4_follow yX4_follow, Cond.code yX4_follow cX4_follow 4 (some .int), Cond.methodLink RX4 72 yX4_refuse, Cond.instanceMethod yX4_refuse, Cond.selects RX4 yX4_refuse yX4_refuse, Cond.code yX4_refuse cX4_refuse 2 (some .int), Cond.methodLink RX4 76 yX4_tell, Cond.instanceMethod yX4_tell, Cond.selects RX4 yX4_tell yX4_tell, Cond.code yX4_tell cX4_tell 2 (some .int), Cond.fieldLink RX4 141 "ClassRunner$Work" "thrown" "I", Cond.methodLink RL 67 yX5_follow, Cond.instanceMethod yX5_follow, Cond.selects RX5 yX5_follow yX5_follow, Cond.code yX5_follow cX5_follow 2 (some .int), Cond.methodLink RX5 64 yX5_tell, Cond.instanceMethod yX5_tell, Cond.selects RX5 yX5_tell yX5_tell]
def wsL_law_r10 : List Cond := [Cond.code yX5_tell cX5_tell 2 (some .int), Cond.methodLink RL 68 yX4_trade, Cond.instanceMethod yX4_trade, Cond.selects RX4 yX4_trade yX4_trade, Cond.code yX4_trade cX4_trade 5 (some .int), Cond.methodLink RL 71 yX5_trade, Cond.instanceMethod yX5_trade, Cond.selects RX5 yX5_trade yX5_trade, Cond.code yX5_trade cX5_trade 4 (some .int), Cond.methodLink RL 72 yX4_hold, Cond.instanceMethod yX4_hold, Cond.selects RX4 yX4_hold yX4_hold, Cond.code yX4_hold cX4_hold 5 (some .int), Cond.fieldLink RX4 79 "ClassRunner$Thing" "row" "LClassRunner$Row;", Cond.classLink RX4 83 RX0, Cond.instantiable RX0 2, Cond.initialized RX0, Cond.methodLink RX4 85 yX0_init, Cond.instanceMethod yX0_init, Cond.code yX0_init cX0_init 3 none, Cond.methodLink RX0 3 objectInit, Cond.fieldLink RX0 9 "ClassRunner$Row" "sort" "I", Cond.fieldLink RX0 15 "ClassRunner$Row" "items" "[J", Cond.constantLong RX0 19 (-1)]
def wsL_law_r11 : List Cond := [Cond.methodLink RX0 21 yJ7_fill_d0a16, Cond.static yJ7_fill_d0a16, Cond.initialized RJ7, Cond.code yJ7_fill_d0a16 cJ7_fill_d0a16 5 none, Cond.methodLink RL 76 yX5_hold, Cond.instanceMethod yX5_hold, Cond.selects RX5 yX5_hold yX5_hold, Cond.code yX5_hold cX5_hold 5 (some .int), Cond.constantLong RX5 68 (3), Cond.fieldLink RX5 70 "ClassRunnerModel" "rows" "I", Cond.constantLong RX5 73 (-1), Cond.methodLink RL 77 yX4_share, Cond.instanceMethod yX4_share, Cond.selects RX4 yX4_share yX4_share, Cond.code yX4_share cX4_share 5 (some .int), Cond.methodLink RX4 88 yX2_heldSort, Cond.instanceMethod yX2_heldSort, Cond.selects RX2 yX2_heldSort yX2_heldSort, Cond.code yX2_heldSort cX2_heldSort 1 (some .int), Cond.fieldLink RX2 21 "ClassRunner$Thing" "row" "LClassRunner$Row;", Cond.fieldLink RX2 25 "ClassRunner$Row" "sort" "I", Cond.methodLink RL 80 yX5_share, Cond.instanceMethod yX5_share, Cond.selects RX5 yX5_share yX5_share]
def wsL_law_r12 : List Cond := [Cond.code yX5_share cX5_share 3 (some .int), Cond.methodLink RX5 75 yX5_holds, Cond.instanceMethod yX5_holds, Cond.selects RX5 yX5_holds yX5_holds, Cond.code yX5_holds cX5_holds 2 (some .int), Cond.methodLink RL 81 yX4_holds, Cond.instanceMethod yX4_holds, Cond.selects RX4 yX4_holds yX4_holds, Cond.code yX4_holds cX4_holds 3 (some .int), Cond.methodLink RL 84 yX5_holds, Cond.methodLink RL 85 yX4_size, Cond.instanceMethod yX4_size, Cond.selects RX4 yX4_size yX4_size, Cond.code yX4_size cX4_size 4 (some .int), Cond.fieldLink RX4 92 "ClassRunner$Row" "items" "[J", Cond.methodLink RL 88 yX5_size, Cond.instanceMethod yX5_size, Cond.selects RX5 yX5_size yX5_size, Cond.code yX5_size cX5_size 2 (some .int), Cond.methodLink RL 89 yX4_at, Cond.instanceMethod yX4_at, Cond.selects RX4 yX4_at yX4_at, Cond.code yX4_at cX4_at 6 (some .long), Cond.constantLong RX4 96 (-2000000001)]
def wsL_law_r13 : List Cond := [Cond.methodLink RX4 98 yX4_againstItem, Cond.static yX4_againstItem, Cond.code yX4_againstItem cX4_againstItem 4 (some .int), Cond.fieldLink RX4 102 "ClassRunner$Row" "sort" "I", Cond.methodLink RX4 144 yX0_hasItems, Cond.instanceMethod yX0_hasItems, Cond.selects RX0 yX0_hasItems yX0_hasItems, Cond.code yX0_hasItems cX0_hasItems 3 (some .boolean), Cond.methodLink RL 93 yX5_at, Cond.instanceMethod yX5_at, Cond.selects RX5 yX5_at yX5_at, Cond.code yX5_at cX5_at 4 (some .long), Cond.constantLong RX5 78 (-2000000001), Cond.methodLink RX5 80 yX5_isItem, Cond.instanceMethod yX5_isItem, Cond.selects RX5 yX5_isItem yX5_isItem, Cond.code yX5_isItem cX5_isItem 3 (some .boolean), Cond.methodLink RL 96 yX4_lay, Cond.instanceMethod yX4_lay, Cond.selects RX4 yX4_lay yX4_lay, Cond.code yX4_lay cX4_lay 8 (some .long), Cond.methodLink RX4 105 yX0_put, Cond.instanceMethod yX0_put, Cond.selects RX0 yX0_put yX0_put]
def wsL_law_r14 : List Cond := [Cond.code yX0_put cX0_put 6 (some .long), Cond.methodLink RL 100 yX5_lay, Cond.instanceMethod yX5_lay, Cond.selects RX5 yX5_lay yX5_lay, Cond.code yX5_lay cX5_lay 9 (some .long), Cond.methodLink RL 101 yX4_set, Cond.instanceMethod yX4_set, Cond.selects RX4 yX4_set yX4_set, Cond.code yX4_set cX4_set 7 (some .int), Cond.methodLink RX4 109 yX1_isLeafOrNone, Cond.instanceMethod yX1_isLeafOrNone, Cond.selects RX1 yX1_isLeafOrNone yX1_isLeafOrNone, Cond.code yX1_isLeafOrNone cX1_isLeafOrNone 3 (some .boolean), Cond.methodLink RX1 28 yX2_isOf, Cond.methodLink RL 104 yX5_set, Cond.instanceMethod yX5_set, Cond.selects RX5 yX5_set yX5_set, Cond.code yX5_set cX5_set 7 (some .int), Cond.methodLink RX5 84 yX5_isLeaf, Cond.instanceMethod yX5_isLeaf, Cond.selects RX5 yX5_isLeaf yX5_isLeaf, Cond.code yX5_isLeaf cX5_isLeaf 2 (some .boolean), Cond.methodLink RL 105 yX4_move, Cond.instanceMethod yX4_move]
def wsL_law_r15 : List Cond := [Cond.selects RX4 yX4_move yX4_move, Cond.code yX4_move cX4_move 12 (some .int), Cond.methodLink RX4 120 arraycopyName, Cond.native arraycopyName, Cond.static arraycopyName, Cond.initialized "java/lang/System", Cond.methodLink RX4 112 yX4_againstMove, Cond.static yX4_againstMove, Cond.code yX4_againstMove cX4_againstMove 5 (some .int), Cond.methodLink RX4 148 yX0_isOfThings, Cond.instanceMethod yX0_isOfThings, Cond.selects RX0 yX0_isOfThings yX0_isOfThings, Cond.code yX0_isOfThings cX0_isOfThings 1 (some .boolean), Cond.methodLink RX4 116 yX4_leavesAhead, Cond.instanceMethod yX4_leavesAhead, Cond.selects RX4 yX4_leavesAhead yX4_leavesAhead, Cond.code yX4_leavesAhead cX4_leavesAhead 5 (some .int), Cond.methodLink RL 109 yX5_move, Cond.instanceMethod yX5_move, Cond.selects RX5 yX5_move yX5_move, Cond.code yX5_move cX5_move 13 (some .int), Cond.methodLink RX5 87 yX5_going, Cond.instanceMethod yX5_going, Cond.selects RX5 yX5_going yX5_going]
def wsL_law_r16 : List Cond := [Cond.code yX5_going cX5_going 6 (some .int), Cond.methodLink RL 110 yX4_run, Cond.instanceMethod yX4_run, Cond.selects RX4 yX4_run yX4_run, Cond.code yX4_run cX4_run 5 (some .int), Cond.fieldLink RX4 133 "ClassRunner$Work" "outcome" "I", Cond.methodLink RX4 126 yX4_isLimit, Cond.static yX4_isLimit, Cond.code yX4_isLimit cX4_isLimit 1 (some .boolean), Cond.methodLink RX4 129 yX3_first, Cond.instanceMethod yX3_first, Cond.selects RX3 yX3_first yX3_first, Cond.code yX3_first cX3_first 3 (some .int), Cond.fieldLink RX3 15 "ClassRunner$Work" "limit" "I", Cond.fieldLink RX3 19 "ClassRunner$Work" "begun" "I", Cond.methodLink RX3 22 yX3_next, Cond.instanceMethod yX3_next, Cond.selects RX3 yX3_next yX3_next, Cond.code yX3_next cX3_next 2 (some .int), Cond.fieldLink RX3 26 "ClassRunner$Work" "outcome" "I", Cond.fieldLink RX3 29 "ClassRunner$Work" "deep" "I", Cond.methodLink RX3 32 yX3_begin, Cond.instanceMethod yX3_begin, Cond.selects RX3 yX3_begin yX3_begin]
def wsL_law_r17 : List Cond := [Cond.code yX3_begin cX3_begin 3 (some .int), Cond.methodLink RX3 36 yX3_stop, Cond.instanceMethod yX3_stop, Cond.selects RX3 yX3_stop yX3_stop, Cond.code yX3_stop cX3_stop 3 (some .int), Cond.methodLink RX3 40 yX3_workOut, Cond.instanceMethod yX3_workOut, Cond.selects RX3 yX3_workOut yX3_workOut, Cond.code yX3_firstOf cX3_firstOf 5 (some .int), Cond.fieldLink RX3 81 "ClassRunner$Row" "items" "[J", Cond.methodLink RX3 87 yX0_isOfThings, Cond.methodLink RX3 54 yX1_find, Cond.code yX3_workOut cX3_workOut 3 (some .int), Cond.fieldLink RX3 43 "ClassRunner$Thing" "cls" "I", Cond.fieldLink RX3 48 "ClassRunner$Thing" "v" "I", Cond.fieldLink RX3 51 "ClassRunner$Thing" "link" "I", Cond.fieldLink RX3 63 "ClassRunner$Thing" "row" "LClassRunner$Row;", Cond.methodLink RX3 60 yX3_throwOwn, Cond.instanceMethod yX3_throwOwn, Cond.selects RX3 yX3_throwOwn yX3_throwOwn, Cond.code yX3_throwOwn cX3_throwOwn 3 (some .int), Cond.fieldLink RX3 74 "ClassRunner$Work" "thrown" "I", Cond.methodLink RX3 67 yX3_firstOf, Cond.instanceMethod yX3_firstOf]
def wsL_law_r18 : List Cond := [Cond.selects RX3 yX3_firstOf yX3_firstOf, Cond.methodLink RX3 71 yX3_sumOf, Cond.instanceMethod yX3_sumOf, Cond.selects RX3 yX3_sumOf yX3_sumOf, Cond.code yX3_sumOf cX3_sumOf 9 (some .int), Cond.fieldLink RX3 91 "ClassRunner$Row" "sort" "I", Cond.methodLink RL 113 yX5_run, Cond.instanceMethod yX5_run, Cond.selects RX5 yX5_run yX5_run, Cond.code yX5_run cX5_run 4 (some .int), Cond.constantLong RX5 109 (100), Cond.fieldLink RX5 91 "ClassRunnerModel" "result" "I", Cond.methodLink RX5 111 yX5_number, Cond.instanceMethod yX5_number, Cond.selects RX5 yX5_number yX5_number, Cond.code yX5_number cX5_number 7 (some .int), Cond.fieldLink RX5 100 "ClassRunnerModel" "next" "I", Cond.methodLink RX5 103 yX5_takes, Cond.instanceMethod yX5_takes, Cond.selects RX5 yX5_takes yX5_takes, Cond.code yX5_takes cX5_takes 3 (some .int), Cond.methodLink RX5 106 yX5_plain, Cond.instanceMethod yX5_plain, Cond.selects RX5 yX5_plain yX5_plain]
def wsL_law_r19 : List Cond := [Cond.code yX5_plain cX5_plain 4 (some .int), Cond.fieldLink RX5 94 "ClassRunnerModel" "thrownOwn" "I", Cond.methodLink RX5 97 yX5_summed, Cond.instanceMethod yX5_summed, Cond.selects RX5 yX5_summed yX5_summed, Cond.code yX5_summed cX5_summed 3 (some .int), Cond.methodLink RX5 115 yX5_ended, Cond.instanceMethod yX5_ended, Cond.selects RX5 yX5_ended yX5_ended, Cond.code yX5_ended cX5_ended 3 (some .int), Cond.methodLink RL 114 yX4_either, Cond.instanceMethod yX4_either, Cond.selects RX4 yX4_either yX4_either, Cond.code yX4_either cX4_either 7 (some .int), Cond.methodLink RX4 134 yX3_next, Cond.methodLink RL 117 yX5_either, Cond.instanceMethod yX5_either, Cond.selects RX5 yX5_either yX5_either, Cond.code yX5_either cX5_either 5 (some .int), Cond.methodLink RL 118 yX4_gather, Cond.instanceMethod yX4_gather, Cond.selects RX4 yX4_gather yX4_gather, Cond.code yX4_gather cX4_gather 5 (some .int), Cond.methodLink RL 121 yX5_gather]
def wsL_law_r20 : List Cond := [Cond.instanceMethod yX5_gather, Cond.selects RX5 yX5_gather yX5_gather, Cond.code yX5_gather cX5_gather 4 (some .int), Cond.methodLink RL 122 yX4_keep, Cond.instanceMethod yX4_keep, Cond.selects RX4 yX4_keep yX4_keep, Cond.code yX4_keep cX4_keep 10 (some .int), Cond.methodLink RL 126 yX5_keep, Cond.instanceMethod yX5_keep, Cond.selects RX5 yX5_keep yX5_keep, Cond.code yX5_keep cX5_keep 7 (some .int), Cond.methodLink RL 127 yX4_things, Cond.instanceMethod yX4_things, Cond.selects RX4 yX4_things yX4_things, Cond.code yX4_things cX4_things 1 (some .int), Cond.fieldLink RX4 138 "ClassRunner$Store" "count" "I", Cond.methodLink RL 130 yX5_things, Cond.instanceMethod yX5_things, Cond.selects RX5 yX5_things yX5_things, Cond.code yX5_things cX5_things 1 (some .int)]
def wsL_law : List Cond := (wsL_law_r1 ++ (wsL_law_r2 ++ (wsL_law_r3 ++ (wsL_law_r4 ++ (wsL_law_r5 ++ (wsL_law_r6 ++ (wsL_law_r7 ++ (wsL_law_r8 ++ (wsL_law_r9 ++ (wsL_law_r10 ++ (wsL_law_r11 ++ (wsL_law_r12 ++ (wsL_law_r13 ++ (wsL_law_r14 ++ (wsL_law_r15 ++ (wsL_law_r16 ++ (wsL_law_r17 ++ (wsL_law_r18 ++ (wsL_law_r19 ++ wsL_law_r20))))))))))))))))))) ++ wsX40 ++ wsX50 ++ wsX10 ++ wsX30 ++ wsX20 ++ wsX00 ++ ([] : List Cond)
end
section
theorem mem_r {big : List Cond} (ws : List Cond) (ps : List Nat) (hp : ws = ps.filterMap (fun i => big[i]?)) : ∀ w ∈ ws, w ∈ big := by
  intro w hw
  rw [hp] at hw
  obtain ⟨i, -, hi⟩ := List.mem_filterMap.mp hw
  exact List.mem_of_getElem? hi
theorem mem_ap {big a b : List Cond} (ha : ∀ w ∈ a, w ∈ big) (hb : ∀ w ∈ b, w ∈ big) : ∀ w ∈ a ++ b, w ∈ big := fun w h => (List.mem_append.mp h).elim (ha w) (hb w)
set_option maxRecDepth 20000 in
theorem in_wsL_law_r1 : ∀ w ∈ wsL_law_r1, w ∈ lw_tbl := mem_r _ [28, 29, 20, 358, 359, 23, 575, 30, 31, 32, 33, 34, 35, 36, 37, 21, 81, 52, 53, 22, 82, 97, 83, 38] (by decide +kernel)
set_option maxRecDepth 20000 in
theorem in_wsL_law_r2 : ∀ w ∈ wsL_law_r2, w ∈ lw_tbl := mem_r _ [39, 40, 41, 42, 44, 54, 55, 56, 57, 58, 360, 361, 362, 363, 365, 366, 367, 368, 370, 371, 235, 372, 377, 98] (by decide +kernel)
set_option maxRecDepth 20000 in
theorem in_wsL_law_r3 : ∀ w ∈ wsL_law_r3, w ∈ lw_tbl := mem_r _ [99, 100, 101, 105, 102, 103, 104, 106, 107, 108, 109, 45, 110, 24, 111, 112, 113, 114, 115, 118, 121, 416, 417, 418] (by decide +kernel)
set_option maxRecDepth 20000 in
theorem in_wsL_law_r4 : ∀ w ∈ wsL_law_r4, w ∈ lw_tbl := mem_r _ [419, 420, 424, 364, 421, 422, 423, 136, 137, 138, 139, 84, 425, 426, 427, 428, 373, 140, 141, 142, 143, 85, 429, 430] (by decide +kernel)
set_option maxRecDepth 20000 in
theorem in_wsL_law_r5 : ∀ w ∈ wsL_law_r5, w ∈ lw_tbl := mem_r _ [431, 432, 374, 144, 145, 146, 147, 61, 433, 434, 435, 436, 375, 148, 149, 150, 151, 65, 437, 438, 439, 440, 376, 152] (by decide +kernel)
set_option maxRecDepth 20000 in
theorem in_wsL_law_r6 : ∀ w ∈ wsL_law_r6, w ∈ lw_tbl := mem_r _ [153, 154, 155, 441, 442, 443, 444, 445, 156, 157, 158, 159, 117, 160, 161, 162, 163, 446, 447, 448, 449, 450, 452, 9] (by decide +kernel)
set_option maxRecDepth 20000 in
theorem in_wsL_law_r7 : ∀ w ∈ wsL_law_r7, w ∈ lw_tbl := mem_r _ [453, 164, 165, 166, 167, 168, 169, 170, 171, 454, 455, 456, 457, 172, 173, 174, 175, 120, 458, 459, 460, 461, 176, 177] (by decide +kernel)
set_option maxRecDepth 20000 in
theorem in_wsL_law_r8 : ∀ w ∈ wsL_law_r8, w ∈ lw_tbl := mem_r _ [178, 179, 462, 463, 464, 465, 180, 181, 182, 183, 123, 184, 185, 186, 187, 188, 466, 467, 468, 469, 189, 190, 191, 192] (by decide +kernel)
set_option maxRecDepth 20000 in
theorem in_wsL_law_r9 : ∀ w ∈ wsL_law_r9, w ∈ lw_tbl := mem_r _ [470, 471, 472, 473, 193, 194, 195, 196, 197, 199, 0, 200, 201, 203, 1, 204, 67, 474, 475, 476, 477, 478, 480, 10] (by decide +kernel)
set_option maxRecDepth 20000 in
theorem in_wsL_law_r10 : ∀ w ∈ wsL_law_r10, w ∈ lw_tbl := mem_r _ [481, 205, 206, 207, 208, 482, 483, 484, 485, 209, 210, 211, 212, 126, 213, 214, 25, 215, 216, 217, 218, 223, 227, 219] (by decide +kernel)
set_option maxRecDepth 20000 in
theorem in_wsL_law_r11 : ∀ w ∈ wsL_law_r11, w ∈ lw_tbl := mem_r _ [220, 221, 26, 222, 486, 487, 488, 489, 490, 369, 491, 236, 237, 238, 239, 240, 241, 242, 243, 124, 224, 492, 493, 494] (by decide +kernel)
set_option maxRecDepth 20000 in
theorem in_wsL_law_r12 : ∀ w ∈ wsL_law_r12, w ∈ lw_tbl := mem_r _ [495, 496, 497, 498, 499, 244, 245, 246, 247, 500, 248, 249, 250, 251, 229, 501, 502, 503, 504, 252, 253, 254, 255, 256] (by decide +kernel)
set_option maxRecDepth 20000 in
theorem in_wsL_law_r13 : ∀ w ∈ wsL_law_r13, w ∈ lw_tbl := mem_r _ [257, 258, 259, 226, 260, 261, 262, 263, 505, 506, 507, 508, 509, 510, 512, 11, 513, 264, 265, 266, 267, 268, 269, 270] (by decide +kernel)
set_option maxRecDepth 20000 in
theorem in_wsL_law_r14 : ∀ w ∈ wsL_law_r14, w ∈ lw_tbl := mem_r _ [271, 514, 515, 516, 517, 272, 273, 274, 275, 276, 277, 278, 279, 280, 518, 519, 520, 521, 522, 524, 12, 525, 281, 282] (by decide +kernel)
set_option maxRecDepth 20000 in
theorem in_wsL_law_r15 : ∀ w ∈ wsL_law_r15, w ∈ lw_tbl := mem_r _ [283, 284, 296, 298, 297, 27, 285, 286, 287, 288, 289, 290, 291, 292, 294, 2, 295, 526, 527, 528, 529, 530, 532, 13] (by decide +kernel)
set_option maxRecDepth 20000 in
theorem in_wsL_law_r16 : ∀ w ∈ wsL_law_r16, w ∈ lw_tbl := mem_r _ [533, 299, 300, 301, 302, 63, 303, 304, 305, 306, 307, 308, 309, 59, 60, 310, 311, 312, 313, 62, 64, 314, 316, 3] (by decide +kernel)
set_option maxRecDepth 20000 in
theorem in_wsL_law_r17 : ∀ w ∈ wsL_law_r17, w ∈ lw_tbl := mem_r _ [317, 318, 320, 4, 321, 322, 324, 5, 334, 228, 336, 326, 325, 116, 119, 122, 125, 327, 329, 6, 330, 66, 331, 333] (by decide +kernel)
set_option maxRecDepth 20000 in
theorem in_wsL_law_r18 : ∀ w ∈ wsL_law_r18, w ∈ lw_tbl := mem_r _ [7, 337, 339, 8, 340, 225, 534, 535, 536, 537, 538, 379, 539, 541, 14, 542, 380, 543, 545, 15, 546, 547, 549, 16] (by decide +kernel)
set_option maxRecDepth 20000 in
theorem in_wsL_law_r19 : ∀ w ∈ wsL_law_r19, w ∈ lw_tbl := mem_r _ [550, 378, 551, 553, 17, 554, 555, 557, 18, 558, 341, 342, 343, 344, 345, 559, 560, 561, 562, 346, 347, 348, 349, 563] (by decide +kernel)
set_option maxRecDepth 20000 in
theorem in_wsL_law_r20 : ∀ w ∈ wsL_law_r20, w ∈ lw_tbl := mem_r _ [564, 565, 566, 350, 351, 352, 353, 567, 568, 569, 570, 354, 355, 356, 357, 46, 571, 572, 573, 574] (by decide +kernel)
set_option maxRecDepth 20000 in
theorem in_wsX40 : ∀ w ∈ wsX40, w ∈ lw_tbl := mem_r _ [86, 88, 90, 92, 94] (by decide +kernel)
set_option maxRecDepth 20000 in
theorem in_wsX50 : ∀ w ∈ wsX50, w ∈ lw_tbl := mem_r _ [381, 383, 385, 387, 389, 391, 393, 395, 397, 399, 401, 403, 405, 407, 409, 411, 413] (by decide +kernel)
set_option maxRecDepth 20000 in
theorem in_wsX00 : ∀ w ∈ wsX00, w ∈ lw_tbl := mem_r _ [230, 232] (by decide +kernel)
set_option maxRecDepth 20000 in
theorem in_wsX30 : ∀ w ∈ wsX30, w ∈ lw_tbl := mem_r _ [68, 70, 72, 74, 76, 78] (by decide +kernel)
set_option maxRecDepth 20000 in
theorem in_wsX10 : ∀ w ∈ wsX10, w ∈ lw_tbl := mem_r _ [47, 49] (by decide +kernel)
set_option maxRecDepth 20000 in
theorem in_wsX20 : ∀ w ∈ wsX20, w ∈ lw_tbl := mem_r _ [127, 129, 131, 133] (by decide +kernel)
theorem wsL_law_in : ∀ w ∈ wsL_law, w ∈ lw_tbl := mem_ap (mem_ap (mem_ap (mem_ap (mem_ap (mem_ap (mem_ap (mem_ap in_wsL_law_r1 (mem_ap in_wsL_law_r2 (mem_ap in_wsL_law_r3 (mem_ap in_wsL_law_r4 (mem_ap in_wsL_law_r5 (mem_ap in_wsL_law_r6 (mem_ap in_wsL_law_r7 (mem_ap in_wsL_law_r8 (mem_ap in_wsL_law_r9 (mem_ap in_wsL_law_r10 (mem_ap in_wsL_law_r11 (mem_ap in_wsL_law_r12 (mem_ap in_wsL_law_r13 (mem_ap in_wsL_law_r14 (mem_ap in_wsL_law_r15 (mem_ap in_wsL_law_r16 (mem_ap in_wsL_law_r17 (mem_ap in_wsL_law_r18 (mem_ap in_wsL_law_r19 in_wsL_law_r20))))))))))))))))))) in_wsX40) in_wsX50) in_wsX10) in_wsX30) in_wsX20) in_wsX00) (fun _ h => absurd h List.not_mem_nil)
theorem inlX0 : ∀ w ∈ wsX00, w ∈ wsL_law := fun _ h => List.mem_append_left _ (List.mem_append_right _ h)
theorem inX0 : ∀ w ∈ wsX00, w ∈ lw_tbl := fun w h => wsL_law_in w (inlX0 w h)
theorem inlX1 : ∀ w ∈ wsX10, w ∈ wsL_law := fun _ h => List.mem_append_left _ (List.mem_append_left _ (List.mem_append_left _ (List.mem_append_left _ (List.mem_append_right _ h))))
theorem inX1 : ∀ w ∈ wsX10, w ∈ lw_tbl := fun w h => wsL_law_in w (inlX1 w h)
theorem inlX2 : ∀ w ∈ wsX20, w ∈ wsL_law := fun _ h => List.mem_append_left _ (List.mem_append_left _ (List.mem_append_right _ h))
theorem inX2 : ∀ w ∈ wsX20, w ∈ lw_tbl := fun w h => wsL_law_in w (inlX2 w h)
theorem inlX3 : ∀ w ∈ wsX30, w ∈ wsL_law := fun _ h => List.mem_append_left _ (List.mem_append_left _ (List.mem_append_left _ (List.mem_append_right _ h)))
theorem inX3 : ∀ w ∈ wsX30, w ∈ lw_tbl := fun w h => wsL_law_in w (inlX3 w h)
theorem inlX4 : ∀ w ∈ wsX40, w ∈ wsL_law := fun _ h => List.mem_append_left _ (List.mem_append_left _ (List.mem_append_left _ (List.mem_append_left _ (List.mem_append_left _ (List.mem_append_left _ (List.mem_append_right _ h))))))
theorem inX4 : ∀ w ∈ wsX40, w ∈ lw_tbl := fun w h => wsL_law_in w (inlX4 w h)
theorem inlX5 : ∀ w ∈ wsX50, w ∈ wsL_law := fun _ h => List.mem_append_left _ (List.mem_append_left _ (List.mem_append_left _ (List.mem_append_left _ (List.mem_append_left _ (List.mem_append_right _ h)))))
theorem inX5 : ∀ w ∈ wsX50, w ∈ lw_tbl := fun w h => wsL_law_in w (inlX5 w h)
theorem inJ10 : ∀ w ∈ wsJ100, w ∈ lw_tbl := by decide +kernel
theorem inJ7 : ∀ w ∈ wsJ70, w ∈ lw_tbl := by decide +kernel
set_option maxRecDepth 20000 in
theorem ggX0_init_J7_fill_d0a16 : GoodIn wsX0_init wsJ7_fill_d0a16 := goodIn_r _ [11] (by decide +kernel) (by decide +kernel)
set_option maxRecDepth 20000 in
theorem gX0_init_J7_fill_d0a16 : GoodIn wsX0_init (va_wsS RX0 21 yJ7_fill_d0a16 wsJ7_fill_d0a16) := goodIn_app (goodIn_of _ (by decide +kernel)) ggX0_init_J7_fill_d0a16
theorem dX0_init_0 : decode cX0_init 0 = .ok (.aload_n 0, 1) := by decide +kernel
theorem dX0_init_1 : decode cX0_init 1 = .ok (.invokespecial 3, 3) := by decide +kernel
theorem dX0_init_4 : decode cX0_init 4 = .ok (.aload_n 0, 1) := by decide +kernel
theorem dX0_init_5 : decode cX0_init 5 = .ok (.iload_n 1, 1) := by decide +kernel
theorem dX0_init_6 : decode cX0_init 6 = .ok (.putfield 9, 3) := by decide +kernel
theorem dX0_init_9 : decode cX0_init 9 = .ok (.aload_n 0, 1) := by decide +kernel
theorem dX0_init_10 : decode cX0_init 10 = .ok (.iload_n 2, 1) := by decide +kernel
theorem dX0_init_11 : decode cX0_init 11 = .ok (.newarray .long, 2) := by decide +kernel
theorem dX0_init_13 : decode cX0_init 13 = .ok (.putfield 15, 3) := by decide +kernel
theorem dX0_init_16 : decode cX0_init 16 = .ok (.iload_n 1, 1) := by decide +kernel
theorem dX0_init_17 : decode cX0_init 17 = .ok (.iconst 2, 1) := by decide +kernel
theorem dX0_init_18 : decode cX0_init 18 = .ok (.if_icmp .eq 8, 3) := by decide +kernel
theorem dX0_init_21 : decode cX0_init 21 = .ok (.iload_n 1, 1) := by decide +kernel
theorem dX0_init_22 : decode cX0_init 22 = .ok (.iconst 3, 1) := by decide +kernel
theorem dX0_init_23 : decode cX0_init 23 = .ok (.if_icmp .ne 13, 3) := by decide +kernel
theorem dX0_init_26 : decode cX0_init 26 = .ok (.aload_n 0, 1) := by decide +kernel
theorem dX0_init_27 : decode cX0_init 27 = .ok (.getfield 15, 3) := by decide +kernel
theorem dX0_init_30 : decode cX0_init 30 = .ok (.ldc2_w 19, 3) := by decide +kernel
theorem dX0_init_33 : decode cX0_init 33 = .ok (.invokestatic 21, 3) := by decide +kernel
theorem dX0_init_36 : decode cX0_init 36 = .ok (.return_, 1) := by decide +kernel
theorem dX0_isOfThings_0 : decode cX0_isOfThings 0 = .ok (.aload_n 0, 1) := by decide +kernel
theorem dX0_isOfThings_1 : decode cX0_isOfThings 1 = .ok (.getfield 9, 3) := by decide +kernel
theorem dX0_isOfThings_4 : decode cX0_isOfThings 4 = .ok (.iconst 2, 1) := by decide +kernel
theorem dX0_isOfThings_5 : decode cX0_isOfThings 5 = .ok (.if_icmp .eq 11, 3) := by decide +kernel
theorem dX0_isOfThings_8 : decode cX0_isOfThings 8 = .ok (.aload_n 0, 1) := by decide +kernel
theorem dX0_isOfThings_9 : decode cX0_isOfThings 9 = .ok (.getfield 9, 3) := by decide +kernel
theorem dX0_isOfThings_12 : decode cX0_isOfThings 12 = .ok (.iconst 3, 1) := by decide +kernel
theorem dX0_isOfThings_13 : decode cX0_isOfThings 13 = .ok (.if_icmp .ne 7, 3) := by decide +kernel
theorem dX0_isOfThings_16 : decode cX0_isOfThings 16 = .ok (.iconst 1, 1) := by decide +kernel
theorem dX0_isOfThings_17 : decode cX0_isOfThings 17 = .ok (.goto 4, 3) := by decide +kernel
theorem dX0_isOfThings_20 : decode cX0_isOfThings 20 = .ok (.iconst 0, 1) := by decide +kernel
theorem dX0_isOfThings_21 : decode cX0_isOfThings 21 = .ok (.ireturn, 1) := by decide +kernel
theorem dX0_hasItems_0 : decode cX0_hasItems 0 = .ok (.iload_n 1, 1) := by decide +kernel
theorem dX0_hasItems_1 : decode cX0_hasItems 1 = .ok (.ifCond .lt 22, 3) := by decide +kernel
theorem dX0_hasItems_4 : decode cX0_hasItems 4 = .ok (.iload_n 2, 1) := by decide +kernel
theorem dX0_hasItems_5 : decode cX0_hasItems 5 = .ok (.ifCond .lt 18, 3) := by decide +kernel
theorem dX0_hasItems_8 : decode cX0_hasItems 8 = .ok (.iload_n 1, 1) := by decide +kernel
theorem dX0_hasItems_9 : decode cX0_hasItems 9 = .ok (.aload_n 0, 1) := by decide +kernel
theorem dX0_hasItems_10 : decode cX0_hasItems 10 = .ok (.getfield 15, 3) := by decide +kernel
theorem dX0_hasItems_13 : decode cX0_hasItems 13 = .ok (.arraylength, 1) := by decide +kernel
theorem dX0_hasItems_14 : decode cX0_hasItems 14 = .ok (.iload_n 2, 1) := by decide +kernel
theorem dX0_hasItems_15 : decode cX0_hasItems 15 = .ok (.isub, 1) := by decide +kernel
theorem dX0_hasItems_16 : decode cX0_hasItems 16 = .ok (.if_icmp .gt 7, 3) := by decide +kernel
theorem dX0_hasItems_19 : decode cX0_hasItems 19 = .ok (.iconst 1, 1) := by decide +kernel
theorem dX0_hasItems_20 : decode cX0_hasItems 20 = .ok (.goto 4, 3) := by decide +kernel
theorem dX0_hasItems_23 : decode cX0_hasItems 23 = .ok (.iconst 0, 1) := by decide +kernel
theorem dX0_hasItems_24 : decode cX0_hasItems 24 = .ok (.ireturn, 1) := by decide +kernel
theorem dX0_put_0 : decode cX0_put 0 = .ok (.aload_n 0, 1) := by decide +kernel
theorem dX0_put_1 : decode cX0_put 1 = .ok (.getfield 15, 3) := by decide +kernel
theorem dX0_put_4 : decode cX0_put 4 = .ok (.iload_n 1, 1) := by decide +kernel
theorem dX0_put_5 : decode cX0_put 5 = .ok (.laload, 1) := by decide +kernel
theorem dX0_put_6 : decode cX0_put 6 = .ok (.lstore 4, 2) := by decide +kernel
theorem dX0_put_8 : decode cX0_put 8 = .ok (.aload_n 0, 1) := by decide +kernel
theorem dX0_put_9 : decode cX0_put 9 = .ok (.getfield 15, 3) := by decide +kernel
theorem dX0_put_12 : decode cX0_put 12 = .ok (.iload_n 1, 1) := by decide +kernel
theorem dX0_put_13 : decode cX0_put 13 = .ok (.lload_n 2, 1) := by decide +kernel
theorem dX0_put_14 : decode cX0_put 14 = .ok (.lastore, 1) := by decide +kernel
theorem dX0_put_15 : decode cX0_put 15 = .ok (.lload 4, 2) := by decide +kernel
theorem dX0_put_17 : decode cX0_put 17 = .ok (.lreturn, 1) := by decide +kernel
theorem dX1_init_0 : decode cX1_init 0 = .ok (.aload_n 0, 1) := by decide +kernel
theorem dX1_init_1 : decode cX1_init 1 = .ok (.invokespecial 3, 3) := by decide +kernel
theorem dX1_init_4 : decode cX1_init 4 = .ok (.aload_n 0, 1) := by decide +kernel
theorem dX1_init_5 : decode cX1_init 5 = .ok (.bipush 40, 2) := by decide +kernel
theorem dX1_init_7 : decode cX1_init 7 = .ok (.anewarray 9, 3) := by decide +kernel
theorem dX1_init_10 : decode cX1_init 10 = .ok (.putfield 11, 3) := by decide +kernel
theorem dX1_init_13 : decode cX1_init 13 = .ok (.return_, 1) := by decide +kernel
set_option maxRecDepth 20000 in
theorem ggX1_add_X2_init : GoodIn wsX1_add wsX2_init := goodIn_r _ [8, 9, 10, 11, 12, 13, 14, 17, 18, 19, 20] (by decide +kernel) (by decide +kernel)
set_option maxRecDepth 20000 in
theorem gX1_add_X2_init : GoodIn wsX1_add (wsX2_init) := ggX1_add_X2_init
theorem dX1_add_0 : decode cX1_add 0 = .ok (.aload_n 0, 1) := by decide +kernel
theorem dX1_add_1 : decode cX1_add 1 = .ok (.getfield 17, 3) := by decide +kernel
theorem dX1_add_4 : decode cX1_add 4 = .ok (.bipush 40, 2) := by decide +kernel
theorem dX1_add_6 : decode cX1_add 6 = .ok (.if_icmp .lt 6, 3) := by decide +kernel
theorem dX1_add_9 : decode cX1_add 9 = .ok (.bipush (-2), 2) := by decide +kernel
theorem dX1_add_11 : decode cX1_add 11 = .ok (.ireturn, 1) := by decide +kernel
theorem dX1_add_12 : decode cX1_add 12 = .ok (.aload_n 0, 1) := by decide +kernel
theorem dX1_add_13 : decode cX1_add 13 = .ok (.getfield 11, 3) := by decide +kernel
theorem dX1_add_16 : decode cX1_add 16 = .ok (.aload_n 0, 1) := by decide +kernel
theorem dX1_add_17 : decode cX1_add 17 = .ok (.getfield 17, 3) := by decide +kernel
theorem dX1_add_20 : decode cX1_add 20 = .ok (.new 9, 3) := by decide +kernel
theorem dX1_add_23 : decode cX1_add 23 = .ok (.dup, 1) := by decide +kernel
theorem dX1_add_24 : decode cX1_add 24 = .ok (.iload_n 1, 1) := by decide +kernel
theorem dX1_add_25 : decode cX1_add 25 = .ok (.iload_n 2, 1) := by decide +kernel
theorem dX1_add_26 : decode cX1_add 26 = .ok (.invokespecial 21, 3) := by decide +kernel
theorem dX1_add_29 : decode cX1_add 29 = .ok (.aastore, 1) := by decide +kernel
theorem dX1_add_30 : decode cX1_add 30 = .ok (.aload_n 0, 1) := by decide +kernel
theorem dX1_add_31 : decode cX1_add 31 = .ok (.dup, 1) := by decide +kernel
theorem dX1_add_32 : decode cX1_add 32 = .ok (.getfield 17, 3) := by decide +kernel
theorem dX1_add_35 : decode cX1_add 35 = .ok (.dup_x1, 1) := by decide +kernel
theorem dX1_add_36 : decode cX1_add 36 = .ok (.iconst 1, 1) := by decide +kernel
theorem dX1_add_37 : decode cX1_add 37 = .ok (.iadd, 1) := by decide +kernel
theorem dX1_add_38 : decode cX1_add 38 = .ok (.putfield 17, 3) := by decide +kernel
end
section
theorem dX1_add_41 : decode cX1_add 41 = .ok (.ireturn, 1) := by decide +kernel
theorem dX1_find_0 : decode cX1_find 0 = .ok (.iload_n 1, 1) := by decide +kernel
theorem dX1_find_1 : decode cX1_find 1 = .ok (.ifCond .lt 20, 3) := by decide +kernel
theorem dX1_find_4 : decode cX1_find 4 = .ok (.iload_n 1, 1) := by decide +kernel
theorem dX1_find_5 : decode cX1_find 5 = .ok (.aload_n 0, 1) := by decide +kernel
theorem dX1_find_6 : decode cX1_find 6 = .ok (.getfield 17, 3) := by decide +kernel
theorem dX1_find_9 : decode cX1_find 9 = .ok (.if_icmp .ge 12, 3) := by decide +kernel
theorem dX1_find_12 : decode cX1_find 12 = .ok (.aload_n 0, 1) := by decide +kernel
theorem dX1_find_13 : decode cX1_find 13 = .ok (.getfield 11, 3) := by decide +kernel
theorem dX1_find_16 : decode cX1_find 16 = .ok (.iload_n 1, 1) := by decide +kernel
theorem dX1_find_17 : decode cX1_find 17 = .ok (.aaload, 1) := by decide +kernel
theorem dX1_find_18 : decode cX1_find 18 = .ok (.goto 4, 3) := by decide +kernel
theorem dX1_find_21 : decode cX1_find 21 = .ok (.aconst_null, 1) := by decide +kernel
theorem dX1_find_22 : decode cX1_find 22 = .ok (.areturn, 1) := by decide +kernel
set_option maxRecDepth 20000 in
theorem ggX1_hasOrNone_X1_find : GoodIn wsX1_hasOrNone wsX1_find := goodIn_r _ [5, 6, 7, 8, 9] (by decide +kernel) (by decide +kernel)
set_option maxRecDepth 20000 in
theorem gX1_hasOrNone_X1_find : GoodIn wsX1_hasOrNone (wsV RX1 24 RX1 yX1_find wsX1_find) := goodIn_app (goodIn_of _ (by decide +kernel)) ggX1_hasOrNone_X1_find
theorem dX1_hasOrNone_0 : decode cX1_hasOrNone 0 = .ok (.iload_n 1, 1) := by decide +kernel
theorem dX1_hasOrNone_1 : decode cX1_hasOrNone 1 = .ok (.iconst (-1), 1) := by decide +kernel
theorem dX1_hasOrNone_2 : decode cX1_hasOrNone 2 = .ok (.if_icmp .eq 11, 3) := by decide +kernel
theorem dX1_hasOrNone_5 : decode cX1_hasOrNone 5 = .ok (.aload_n 0, 1) := by decide +kernel
theorem dX1_hasOrNone_6 : decode cX1_hasOrNone 6 = .ok (.iload_n 1, 1) := by decide +kernel
theorem dX1_hasOrNone_7 : decode cX1_hasOrNone 7 = .ok (.invokevirtual 24, 3) := by decide +kernel
theorem dX1_hasOrNone_10 : decode cX1_hasOrNone 10 = .ok (.ifnull 7, 3) := by decide +kernel
theorem dX1_hasOrNone_13 : decode cX1_hasOrNone 13 = .ok (.iconst 1, 1) := by decide +kernel
theorem dX1_hasOrNone_14 : decode cX1_hasOrNone 14 = .ok (.goto 4, 3) := by decide +kernel
theorem dX1_hasOrNone_17 : decode cX1_hasOrNone 17 = .ok (.iconst 0, 1) := by decide +kernel
theorem dX1_hasOrNone_18 : decode cX1_hasOrNone 18 = .ok (.ireturn, 1) := by decide +kernel
set_option maxRecDepth 20000 in
theorem ggX1_isLeafOrNone_X1_find : GoodIn wsX1_isLeafOrNone wsX1_find := goodIn_r _ [5, 6, 7, 14, 15] (by decide +kernel) (by decide +kernel)
set_option maxRecDepth 20000 in
theorem gX1_isLeafOrNone_X1_find : GoodIn wsX1_isLeafOrNone (wsV RX1 24 RX1 yX1_find wsX1_find) := goodIn_app (goodIn_of _ (by decide +kernel)) ggX1_isLeafOrNone_X1_find
set_option maxRecDepth 20000 in
theorem ggX1_isLeafOrNone_X2_isOf : GoodIn wsX1_isLeafOrNone wsX2_isOf := goodIn_r _ [12, 13, 16, 17, 18, 19] (by decide +kernel) (by decide +kernel)
set_option maxRecDepth 20000 in
theorem gX1_isLeafOrNone_X2_isOf : GoodIn wsX1_isLeafOrNone (wsV RX1 28 RX2 yX2_isOf wsX2_isOf) := goodIn_app (goodIn_of _ (by decide +kernel)) ggX1_isLeafOrNone_X2_isOf
theorem dX1_isLeafOrNone_0 : decode cX1_isLeafOrNone 0 = .ok (.aload_n 0, 1) := by decide +kernel
theorem dX1_isLeafOrNone_1 : decode cX1_isLeafOrNone 1 = .ok (.iload_n 1, 1) := by decide +kernel
theorem dX1_isLeafOrNone_2 : decode cX1_isLeafOrNone 2 = .ok (.invokevirtual 24, 3) := by decide +kernel
theorem dX1_isLeafOrNone_5 : decode cX1_isLeafOrNone 5 = .ok (.astore_n 2, 1) := by decide +kernel
theorem dX1_isLeafOrNone_6 : decode cX1_isLeafOrNone 6 = .ok (.aload_n 2, 1) := by decide +kernel
theorem dX1_isLeafOrNone_7 : decode cX1_isLeafOrNone 7 = .ok (.ifnull 11, 3) := by decide +kernel
theorem dX1_isLeafOrNone_10 : decode cX1_isLeafOrNone 10 = .ok (.aload_n 2, 1) := by decide +kernel
theorem dX1_isLeafOrNone_11 : decode cX1_isLeafOrNone 11 = .ok (.iconst 0, 1) := by decide +kernel
theorem dX1_isLeafOrNone_12 : decode cX1_isLeafOrNone 12 = .ok (.invokevirtual 28, 3) := by decide +kernel
theorem dX1_isLeafOrNone_15 : decode cX1_isLeafOrNone 15 = .ok (.ifCond .eq 7, 3) := by decide +kernel
theorem dX1_isLeafOrNone_18 : decode cX1_isLeafOrNone 18 = .ok (.iconst 1, 1) := by decide +kernel
theorem dX1_isLeafOrNone_19 : decode cX1_isLeafOrNone 19 = .ok (.goto 4, 3) := by decide +kernel
theorem dX1_isLeafOrNone_22 : decode cX1_isLeafOrNone 22 = .ok (.iconst 0, 1) := by decide +kernel
theorem dX1_isLeafOrNone_23 : decode cX1_isLeafOrNone 23 = .ok (.ireturn, 1) := by decide +kernel
theorem dX2_init_0 : decode cX2_init 0 = .ok (.aload_n 0, 1) := by decide +kernel
theorem dX2_init_1 : decode cX2_init 1 = .ok (.invokespecial 3, 3) := by decide +kernel
theorem dX2_init_4 : decode cX2_init 4 = .ok (.aload_n 0, 1) := by decide +kernel
theorem dX2_init_5 : decode cX2_init 5 = .ok (.iload_n 1, 1) := by decide +kernel
theorem dX2_init_6 : decode cX2_init 6 = .ok (.putfield 9, 3) := by decide +kernel
theorem dX2_init_9 : decode cX2_init 9 = .ok (.aload_n 0, 1) := by decide +kernel
theorem dX2_init_10 : decode cX2_init 10 = .ok (.iload_n 2, 1) := by decide +kernel
theorem dX2_init_11 : decode cX2_init 11 = .ok (.putfield 15, 3) := by decide +kernel
theorem dX2_init_14 : decode cX2_init 14 = .ok (.aload_n 0, 1) := by decide +kernel
theorem dX2_init_15 : decode cX2_init 15 = .ok (.iconst (-1), 1) := by decide +kernel
theorem dX2_init_16 : decode cX2_init 16 = .ok (.putfield 18, 3) := by decide +kernel
theorem dX2_init_19 : decode cX2_init 19 = .ok (.return_, 1) := by decide +kernel
theorem dX2_isOf_0 : decode cX2_isOf 0 = .ok (.aload_n 0, 1) := by decide +kernel
theorem dX2_isOf_1 : decode cX2_isOf 1 = .ok (.getfield 9, 3) := by decide +kernel
theorem dX2_isOf_4 : decode cX2_isOf 4 = .ok (.iload_n 1, 1) := by decide +kernel
theorem dX2_isOf_5 : decode cX2_isOf 5 = .ok (.if_icmp .eq 19, 3) := by decide +kernel
theorem dX2_isOf_8 : decode cX2_isOf 8 = .ok (.iload_n 1, 1) := by decide +kernel
theorem dX2_isOf_9 : decode cX2_isOf 9 = .ok (.aload_n 0, 1) := by decide +kernel
theorem dX2_isOf_10 : decode cX2_isOf 10 = .ok (.getfield 9, 3) := by decide +kernel
theorem dX2_isOf_13 : decode cX2_isOf 13 = .ok (.if_icmp .ge 15, 3) := by decide +kernel
theorem dX2_isOf_16 : decode cX2_isOf 16 = .ok (.aload_n 0, 1) := by decide +kernel
theorem dX2_isOf_17 : decode cX2_isOf 17 = .ok (.getfield 9, 3) := by decide +kernel
theorem dX2_isOf_20 : decode cX2_isOf 20 = .ok (.iconst 2, 1) := by decide +kernel
theorem dX2_isOf_21 : decode cX2_isOf 21 = .ok (.if_icmp .gt 7, 3) := by decide +kernel
theorem dX2_isOf_24 : decode cX2_isOf 24 = .ok (.iconst 1, 1) := by decide +kernel
theorem dX2_isOf_25 : decode cX2_isOf 25 = .ok (.goto 4, 3) := by decide +kernel
theorem dX2_isOf_28 : decode cX2_isOf 28 = .ok (.iconst 0, 1) := by decide +kernel
theorem dX2_isOf_29 : decode cX2_isOf 29 = .ok (.ireturn, 1) := by decide +kernel
theorem dX2_heldSort_0 : decode cX2_heldSort 0 = .ok (.aload_n 0, 1) := by decide +kernel
theorem dX2_heldSort_1 : decode cX2_heldSort 1 = .ok (.getfield 21, 3) := by decide +kernel
theorem dX2_heldSort_4 : decode cX2_heldSort 4 = .ok (.ifnonnull 7, 3) := by decide +kernel
theorem dX2_heldSort_7 : decode cX2_heldSort 7 = .ok (.iconst (-1), 1) := by decide +kernel
theorem dX2_heldSort_8 : decode cX2_heldSort 8 = .ok (.goto 10, 3) := by decide +kernel
theorem dX2_heldSort_11 : decode cX2_heldSort 11 = .ok (.aload_n 0, 1) := by decide +kernel
theorem dX2_heldSort_12 : decode cX2_heldSort 12 = .ok (.getfield 21, 3) := by decide +kernel
theorem dX2_heldSort_15 : decode cX2_heldSort 15 = .ok (.getfield 25, 3) := by decide +kernel
theorem dX2_heldSort_18 : decode cX2_heldSort 18 = .ok (.ireturn, 1) := by decide +kernel
theorem dX3_init_0 : decode cX3_init 0 = .ok (.aload_n 0, 1) := by decide +kernel
theorem dX3_init_1 : decode cX3_init 1 = .ok (.invokespecial 3, 3) := by decide +kernel
theorem dX3_init_4 : decode cX3_init 4 = .ok (.aload_n 0, 1) := by decide +kernel
theorem dX3_init_5 : decode cX3_init 5 = .ok (.aload_n 1, 1) := by decide +kernel
theorem dX3_init_6 : decode cX3_init 6 = .ok (.putfield 9, 3) := by decide +kernel
theorem dX3_init_9 : decode cX3_init 9 = .ok (.return_, 1) := by decide +kernel
set_option maxRecDepth 20000 in
theorem ggX3_first_X3_next : GoodIn wsX3_first wsX3_next := goodIn_r _ [7, 8, 9, 10, 11, 12, 6, 13, 2, 1, 14, 15, 16, 17, 18, 19, 20, 21, 22, 23, 24, 25, 26, 27, 28, 29, 30, 31, 32, 33, 34, 35, 36, 37, 38, 39, 40, 41, 42, 43, 44, 45, 46, 47, 48, 49, 50, 51, 52, 53, 54, 55, 56, 57, 58, 59, 60, 61, 62, 63, 64, 65, 66, 67, 68, 69, 70, 71, 72, 73, 74, 75, 76, 77] (by decide +kernel) (by decide +kernel)
set_option maxRecDepth 20000 in
theorem gX3_first_X3_next : GoodIn wsX3_first (wsV RX3 22 RX3 yX3_next wsX3_next) := goodIn_app (goodIn_of _ (by decide +kernel)) ggX3_first_X3_next
theorem dX3_first_0 : decode cX3_first 0 = .ok (.aload_n 0, 1) := by decide +kernel
theorem dX3_first_1 : decode cX3_first 1 = .ok (.iload_n 2, 1) := by decide +kernel
theorem dX3_first_2 : decode cX3_first 2 = .ok (.putfield 15, 3) := by decide +kernel
theorem dX3_first_5 : decode cX3_first 5 = .ok (.aload_n 0, 1) := by decide +kernel
theorem dX3_first_6 : decode cX3_first 6 = .ok (.iconst 0, 1) := by decide +kernel
theorem dX3_first_7 : decode cX3_first 7 = .ok (.putfield 19, 3) := by decide +kernel
theorem dX3_first_10 : decode cX3_first 10 = .ok (.aload_n 0, 1) := by decide +kernel
theorem dX3_first_11 : decode cX3_first 11 = .ok (.aload_n 1, 1) := by decide +kernel
theorem dX3_first_12 : decode cX3_first 12 = .ok (.invokevirtual 22, 3) := by decide +kernel
theorem dX3_first_15 : decode cX3_first 15 = .ok (.ireturn, 1) := by decide +kernel
set_option maxRecDepth 20000 in
theorem ggX3_next_X3_begin : GoodIn wsX3_next wsX3_begin := goodIn_r _ [7, 8, 9, 10, 11, 12, 6, 13, 1, 2, 14, 15, 16, 17, 18, 19, 20, 21, 22, 23, 24, 25, 26, 27, 28, 29, 30, 31, 32, 33, 34, 35, 36, 37, 38, 39, 40, 41, 3, 4, 5, 42, 43, 44, 45, 46, 47, 48, 49, 50, 51, 52, 53, 54, 55, 56, 57, 58, 59, 60, 61, 62, 63, 64, 65, 66, 67, 68, 69, 70, 71, 72, 73] (by decide +kernel) (by decide +kernel)
set_option maxRecDepth 20000 in
theorem gX3_next_X3_begin : GoodIn wsX3_next (wsV RX3 32 RX3 yX3_begin wsX3_begin) := goodIn_app (goodIn_of _ (by decide +kernel)) ggX3_next_X3_begin
theorem dX3_next_0 : decode cX3_next 0 = .ok (.aload_n 0, 1) := by decide +kernel
theorem dX3_next_1 : decode cX3_next 1 = .ok (.iconst 0, 1) := by decide +kernel
theorem dX3_next_2 : decode cX3_next 2 = .ok (.putfield 26, 3) := by decide +kernel
theorem dX3_next_5 : decode cX3_next 5 = .ok (.aload_n 0, 1) := by decide +kernel
theorem dX3_next_6 : decode cX3_next 6 = .ok (.iconst 0, 1) := by decide +kernel
theorem dX3_next_7 : decode cX3_next 7 = .ok (.putfield 29, 3) := by decide +kernel
theorem dX3_next_10 : decode cX3_next 10 = .ok (.aload_n 0, 1) := by decide +kernel
theorem dX3_next_11 : decode cX3_next 11 = .ok (.aload_n 1, 1) := by decide +kernel
theorem dX3_next_12 : decode cX3_next 12 = .ok (.iconst 0, 1) := by decide +kernel
theorem dX3_next_13 : decode cX3_next 13 = .ok (.invokevirtual 32, 3) := by decide +kernel
theorem dX3_next_16 : decode cX3_next 16 = .ok (.ireturn, 1) := by decide +kernel
set_option maxRecDepth 20000 in
theorem ggX3_begin_X3_stop : GoodIn wsX3_begin wsX3_stop := goodIn_r _ [7, 8, 9, 59, 60, 61, 62, 63, 64] (by decide +kernel) (by decide +kernel)
set_option maxRecDepth 20000 in
theorem gX3_begin_X3_stop : GoodIn wsX3_begin (wsV RX3 36 RX3 yX3_stop wsX3_stop) := goodIn_app (goodIn_of _ (by decide +kernel)) ggX3_begin_X3_stop
set_option maxRecDepth 20000 in
theorem ggX3_begin_X3_workOut : GoodIn wsX3_begin wsX3_workOut := goodIn_r _ [41, 42, 43, 15, 44, 45, 3, 4, 5, 6, 7, 8, 9, 31, 32, 33, 34, 35, 36, 37, 38, 39, 40, 46, 47, 48, 49, 50, 51, 52, 53, 54, 55, 56, 57, 58, 14, 0, 1, 2, 10, 11, 12, 13, 16, 17, 18, 19, 20, 21, 22, 23, 24, 25, 26, 27, 28, 29, 30, 59, 60, 61, 62, 63, 64, 65, 66, 67, 68, 69, 70, 71, 72] (by decide +kernel) (by decide +kernel)
set_option maxRecDepth 20000 in
theorem gX3_begin_X3_workOut : GoodIn wsX3_begin (wsV RX3 40 RX3 yX3_workOut wsX3_workOut) := goodIn_app (goodIn_of _ (by decide +kernel)) ggX3_begin_X3_workOut
theorem dX3_begin_0 : decode cX3_begin 0 = .ok (.aload_n 1, 1) := by decide +kernel
theorem dX3_begin_1 : decode cX3_begin 1 = .ok (.ifnonnull 10, 3) := by decide +kernel
theorem dX3_begin_4 : decode cX3_begin 4 = .ok (.aload_n 0, 1) := by decide +kernel
theorem dX3_begin_5 : decode cX3_begin 5 = .ok (.iconst 1, 1) := by decide +kernel
theorem dX3_begin_6 : decode cX3_begin 6 = .ok (.iload_n 2, 1) := by decide +kernel
theorem dX3_begin_7 : decode cX3_begin 7 = .ok (.invokevirtual 36, 3) := by decide +kernel
theorem dX3_begin_10 : decode cX3_begin 10 = .ok (.ireturn, 1) := by decide +kernel
theorem dX3_begin_11 : decode cX3_begin 11 = .ok (.aload_n 0, 1) := by decide +kernel
theorem dX3_begin_12 : decode cX3_begin 12 = .ok (.getfield 19, 3) := by decide +kernel
theorem dX3_begin_15 : decode cX3_begin 15 = .ok (.aload_n 0, 1) := by decide +kernel
theorem dX3_begin_16 : decode cX3_begin 16 = .ok (.getfield 15, 3) := by decide +kernel
theorem dX3_begin_19 : decode cX3_begin 19 = .ok (.if_icmp .lt 11, 3) := by decide +kernel
theorem dX3_begin_22 : decode cX3_begin 22 = .ok (.aload_n 0, 1) := by decide +kernel
theorem dX3_begin_23 : decode cX3_begin 23 = .ok (.bipush 9, 2) := by decide +kernel
theorem dX3_begin_25 : decode cX3_begin 25 = .ok (.iload_n 2, 1) := by decide +kernel
theorem dX3_begin_26 : decode cX3_begin 26 = .ok (.invokevirtual 36, 3) := by decide +kernel
theorem dX3_begin_29 : decode cX3_begin 29 = .ok (.ireturn, 1) := by decide +kernel
theorem dX3_begin_30 : decode cX3_begin 30 = .ok (.iload_n 2, 1) := by decide +kernel
theorem dX3_begin_31 : decode cX3_begin 31 = .ok (.bipush 30, 2) := by decide +kernel
theorem dX3_begin_33 : decode cX3_begin 33 = .ok (.if_icmp .lt 11, 3) := by decide +kernel
theorem dX3_begin_36 : decode cX3_begin 36 = .ok (.aload_n 0, 1) := by decide +kernel
theorem dX3_begin_37 : decode cX3_begin 37 = .ok (.bipush 8, 2) := by decide +kernel
theorem dX3_begin_39 : decode cX3_begin 39 = .ok (.iload_n 2, 1) := by decide +kernel
theorem dX3_begin_40 : decode cX3_begin 40 = .ok (.invokevirtual 36, 3) := by decide +kernel
theorem dX3_begin_43 : decode cX3_begin 43 = .ok (.ireturn, 1) := by decide +kernel
theorem dX3_begin_44 : decode cX3_begin 44 = .ok (.aload_n 0, 1) := by decide +kernel
theorem dX3_begin_45 : decode cX3_begin 45 = .ok (.dup, 1) := by decide +kernel
theorem dX3_begin_46 : decode cX3_begin 46 = .ok (.getfield 19, 3) := by decide +kernel
theorem dX3_begin_49 : decode cX3_begin 49 = .ok (.iconst 1, 1) := by decide +kernel
theorem dX3_begin_50 : decode cX3_begin 50 = .ok (.iadd, 1) := by decide +kernel
theorem dX3_begin_51 : decode cX3_begin 51 = .ok (.putfield 19, 3) := by decide +kernel
theorem dX3_begin_54 : decode cX3_begin 54 = .ok (.aload_n 0, 1) := by decide +kernel
theorem dX3_begin_55 : decode cX3_begin 55 = .ok (.aload_n 1, 1) := by decide +kernel
theorem dX3_begin_56 : decode cX3_begin 56 = .ok (.iload_n 2, 1) := by decide +kernel
theorem dX3_begin_57 : decode cX3_begin 57 = .ok (.iconst 1, 1) := by decide +kernel
theorem dX3_begin_58 : decode cX3_begin 58 = .ok (.iadd, 1) := by decide +kernel
theorem dX3_begin_59 : decode cX3_begin 59 = .ok (.invokevirtual 40, 3) := by decide +kernel
theorem dX3_begin_62 : decode cX3_begin 62 = .ok (.ireturn, 1) := by decide +kernel
set_option maxRecDepth 20000 in
theorem ggX3_workOut_X3_stop : GoodIn wsX3_workOut wsX3_stop := goodIn_r _ [10, 11, 12, 59, 60, 61, 62, 63, 64] (by decide +kernel) (by decide +kernel)
set_option maxRecDepth 20000 in
theorem gX3_workOut_X3_stop : GoodIn wsX3_workOut (wsV RX3 36 RX3 yX3_stop wsX3_stop) := goodIn_app (goodIn_of _ (by decide +kernel)) ggX3_workOut_X3_stop
set_option maxRecDepth 20000 in
theorem ggX3_workOut_X1_find : GoodIn wsX3_workOut wsX1_find := goodIn_r _ [17, 18, 19, 67, 68] (by decide +kernel) (by decide +kernel)
set_option maxRecDepth 20000 in
theorem gX3_workOut_X1_find : GoodIn wsX3_workOut (wsV RX3 54 RX1 yX1_find wsX1_find) := goodIn_app (goodIn_of _ (by decide +kernel)) ggX3_workOut_X1_find
set_option maxRecDepth 20000 in
theorem ggX3_workOut_X3_begin : GoodIn wsX3_workOut wsX3_begin := goodIn_r _ [37, 38, 39, 6, 7, 8, 9, 10, 11, 12, 40, 41, 42, 43, 36, 3, 44, 45, 46, 47, 48, 49, 50, 51, 52, 53, 54, 55, 56, 57, 58, 13, 14, 15, 16, 17, 18, 19, 20, 21, 22, 0, 1, 2, 4, 5, 23, 24, 25, 26, 27, 28, 29, 30, 31, 32, 33, 34, 35, 59, 60, 61, 62, 63, 64, 65, 66, 67, 68, 69, 70, 71, 72] (by decide +kernel) (by decide +kernel)
set_option maxRecDepth 20000 in
theorem gX3_workOut_X3_begin : GoodIn wsX3_workOut (wsV RX3 32 RX3 yX3_begin wsX3_begin) := goodIn_app (goodIn_of _ (by decide +kernel)) ggX3_workOut_X3_begin
set_option maxRecDepth 20000 in
theorem ggX3_workOut_X3_throwOwn : GoodIn wsX3_workOut wsX3_throwOwn := goodIn_r _ [26, 27, 6, 7, 8, 9, 10, 11, 12, 59, 60, 61, 62, 63, 64] (by decide +kernel) (by decide +kernel)
set_option maxRecDepth 20000 in
theorem gX3_workOut_X3_throwOwn : GoodIn wsX3_workOut (wsV RX3 60 RX3 yX3_throwOwn wsX3_throwOwn) := goodIn_app (goodIn_of _ (by decide +kernel)) ggX3_workOut_X3_throwOwn
set_option maxRecDepth 20000 in
theorem ggX3_workOut_X3_firstOf : GoodIn wsX3_workOut wsX3_firstOf := goodIn_r _ [43, 36, 3, 44, 45, 46, 47, 48, 49, 50, 51, 52, 53, 6, 7, 8, 9, 10, 11, 12, 54, 55, 56, 57, 58, 13, 14, 15, 16, 17, 18, 19, 20, 21, 22, 37, 38, 39, 40, 41, 42, 0, 1, 2, 4, 5, 23, 24, 25, 26, 27, 28, 29, 30, 31, 32, 33, 34, 35, 59, 60, 61, 62, 63, 64, 65, 66, 67, 68, 69, 70, 71, 72] (by decide +kernel) (by decide +kernel)
set_option maxRecDepth 20000 in
theorem gX3_workOut_X3_firstOf : GoodIn wsX3_workOut (wsV RX3 67 RX3 yX3_firstOf wsX3_firstOf) := goodIn_app (goodIn_of _ (by decide +kernel)) ggX3_workOut_X3_firstOf
set_option maxRecDepth 20000 in
theorem ggX3_workOut_X3_sumOf : GoodIn wsX3_workOut wsX3_sumOf := goodIn_r _ [34, 35, 36, 6, 7, 8, 9, 10, 11, 12, 65, 66, 59, 60, 61, 62, 63, 64] (by decide +kernel) (by decide +kernel)
set_option maxRecDepth 20000 in
theorem gX3_workOut_X3_sumOf : GoodIn wsX3_workOut (wsV RX3 71 RX3 yX3_sumOf wsX3_sumOf) := goodIn_app (goodIn_of _ (by decide +kernel)) ggX3_workOut_X3_sumOf
theorem dX3_workOut_0 : decode cX3_workOut 0 = .ok (.aload_n 1, 1) := by decide +kernel
theorem dX3_workOut_1 : decode cX3_workOut 1 = .ok (.getfield 43, 3) := by decide +kernel
theorem dX3_workOut_4 : decode cX3_workOut 4 = .ok (.tableswitch 133 0 6 #[44, 49, 56, 68, 94, 113, 123], 44) := by decide +kernel
theorem dX3_workOut_48 : decode cX3_workOut 48 = .ok (.aload_n 1, 1) := by decide +kernel
theorem dX3_workOut_49 : decode cX3_workOut 49 = .ok (.getfield 48, 3) := by decide +kernel
theorem dX3_workOut_52 : decode cX3_workOut 52 = .ok (.ireturn, 1) := by decide +kernel
theorem dX3_workOut_53 : decode cX3_workOut 53 = .ok (.iconst 2, 1) := by decide +kernel
theorem dX3_workOut_54 : decode cX3_workOut 54 = .ok (.aload_n 1, 1) := by decide +kernel
theorem dX3_workOut_55 : decode cX3_workOut 55 = .ok (.getfield 48, 3) := by decide +kernel
theorem dX3_workOut_58 : decode cX3_workOut 58 = .ok (.imul, 1) := by decide +kernel
theorem dX3_workOut_59 : decode cX3_workOut 59 = .ok (.ireturn, 1) := by decide +kernel
theorem dX3_workOut_60 : decode cX3_workOut 60 = .ok (.iconst 2, 1) := by decide +kernel
theorem dX3_workOut_61 : decode cX3_workOut 61 = .ok (.aload_n 1, 1) := by decide +kernel
theorem dX3_workOut_62 : decode cX3_workOut 62 = .ok (.getfield 48, 3) := by decide +kernel
theorem dX3_workOut_65 : decode cX3_workOut 65 = .ok (.imul, 1) := by decide +kernel
theorem dX3_workOut_66 : decode cX3_workOut 66 = .ok (.aload_n 1, 1) := by decide +kernel
theorem dX3_workOut_67 : decode cX3_workOut 67 = .ok (.getfield 48, 3) := by decide +kernel
theorem dX3_workOut_70 : decode cX3_workOut 70 = .ok (.iadd, 1) := by decide +kernel
theorem dX3_workOut_71 : decode cX3_workOut 71 = .ok (.ireturn, 1) := by decide +kernel
theorem dX3_workOut_72 : decode cX3_workOut 72 = .ok (.aload_n 1, 1) := by decide +kernel
theorem dX3_workOut_73 : decode cX3_workOut 73 = .ok (.getfield 48, 3) := by decide +kernel
theorem dX3_workOut_76 : decode cX3_workOut 76 = .ok (.ifCond .ne 13, 3) := by decide +kernel
theorem dX3_workOut_79 : decode cX3_workOut 79 = .ok (.aload_n 0, 1) := by decide +kernel
theorem dX3_workOut_80 : decode cX3_workOut 80 = .ok (.bipush 6, 2) := by decide +kernel
theorem dX3_workOut_82 : decode cX3_workOut 82 = .ok (.iload_n 2, 1) := by decide +kernel
theorem dX3_workOut_83 : decode cX3_workOut 83 = .ok (.invokevirtual 36, 3) := by decide +kernel
theorem dX3_workOut_86 : decode cX3_workOut 86 = .ok (.goto 11, 3) := by decide +kernel
theorem dX3_workOut_89 : decode cX3_workOut 89 = .ok (.sipush 1000, 3) := by decide +kernel
theorem dX3_workOut_92 : decode cX3_workOut 92 = .ok (.aload_n 1, 1) := by decide +kernel
theorem dX3_workOut_93 : decode cX3_workOut 93 = .ok (.getfield 48, 3) := by decide +kernel
theorem dX3_workOut_96 : decode cX3_workOut 96 = .ok (.idiv, 1) := by decide +kernel
theorem dX3_workOut_97 : decode cX3_workOut 97 = .ok (.ireturn, 1) := by decide +kernel
theorem dX3_workOut_98 : decode cX3_workOut 98 = .ok (.aload_n 0, 1) := by decide +kernel
theorem dX3_workOut_99 : decode cX3_workOut 99 = .ok (.aload_n 0, 1) := by decide +kernel
theorem dX3_workOut_100 : decode cX3_workOut 100 = .ok (.getfield 9, 3) := by decide +kernel
theorem dX3_workOut_103 : decode cX3_workOut 103 = .ok (.aload_n 1, 1) := by decide +kernel
theorem dX3_workOut_104 : decode cX3_workOut 104 = .ok (.getfield 51, 3) := by decide +kernel
theorem dX3_workOut_107 : decode cX3_workOut 107 = .ok (.invokevirtual 54, 3) := by decide +kernel
theorem dX3_workOut_110 : decode cX3_workOut 110 = .ok (.iload_n 2, 1) := by decide +kernel
theorem dX3_workOut_111 : decode cX3_workOut 111 = .ok (.invokevirtual 32, 3) := by decide +kernel
theorem dX3_workOut_114 : decode cX3_workOut 114 = .ok (.iconst 1, 1) := by decide +kernel
theorem dX3_workOut_115 : decode cX3_workOut 115 = .ok (.iadd, 1) := by decide +kernel
theorem dX3_workOut_116 : decode cX3_workOut 116 = .ok (.ireturn, 1) := by decide +kernel
theorem dX3_workOut_117 : decode cX3_workOut 117 = .ok (.aload_n 0, 1) := by decide +kernel
theorem dX3_workOut_118 : decode cX3_workOut 118 = .ok (.aload_n 1, 1) := by decide +kernel
theorem dX3_workOut_119 : decode cX3_workOut 119 = .ok (.getfield 48, 3) := by decide +kernel
theorem dX3_workOut_122 : decode cX3_workOut 122 = .ok (.iload_n 2, 1) := by decide +kernel
theorem dX3_workOut_123 : decode cX3_workOut 123 = .ok (.invokevirtual 60, 3) := by decide +kernel
theorem dX3_workOut_126 : decode cX3_workOut 126 = .ok (.ireturn, 1) := by decide +kernel
theorem dX3_workOut_127 : decode cX3_workOut 127 = .ok (.aload_n 0, 1) := by decide +kernel
theorem dX3_workOut_128 : decode cX3_workOut 128 = .ok (.aload_n 1, 1) := by decide +kernel
theorem dX3_workOut_129 : decode cX3_workOut 129 = .ok (.getfield 63, 3) := by decide +kernel
theorem dX3_workOut_132 : decode cX3_workOut 132 = .ok (.iload_n 2, 1) := by decide +kernel
theorem dX3_workOut_133 : decode cX3_workOut 133 = .ok (.invokevirtual 67, 3) := by decide +kernel
theorem dX3_workOut_136 : decode cX3_workOut 136 = .ok (.ireturn, 1) := by decide +kernel
theorem dX3_workOut_137 : decode cX3_workOut 137 = .ok (.aload_n 0, 1) := by decide +kernel
theorem dX3_workOut_138 : decode cX3_workOut 138 = .ok (.aload_n 1, 1) := by decide +kernel
theorem dX3_workOut_139 : decode cX3_workOut 139 = .ok (.getfield 63, 3) := by decide +kernel
theorem dX3_workOut_142 : decode cX3_workOut 142 = .ok (.iload_n 2, 1) := by decide +kernel
theorem dX3_workOut_143 : decode cX3_workOut 143 = .ok (.invokevirtual 71, 3) := by decide +kernel
theorem dX3_workOut_146 : decode cX3_workOut 146 = .ok (.ireturn, 1) := by decide +kernel
set_option maxRecDepth 20000 in
theorem ggX3_throwOwn_X3_stop : GoodIn wsX3_throwOwn wsX3_stop := goodIn_r _ [6, 7, 8, 9, 10, 11, 12, 13, 14] (by decide +kernel) (by decide +kernel)
set_option maxRecDepth 20000 in
theorem gX3_throwOwn_X3_stop : GoodIn wsX3_throwOwn (wsV RX3 36 RX3 yX3_stop wsX3_stop) := goodIn_app (goodIn_of _ (by decide +kernel)) ggX3_throwOwn_X3_stop
theorem dX3_throwOwn_0 : decode cX3_throwOwn 0 = .ok (.iload_n 1, 1) := by decide +kernel
theorem dX3_throwOwn_1 : decode cX3_throwOwn 1 = .ok (.ifCond .ne 10, 3) := by decide +kernel
theorem dX3_throwOwn_4 : decode cX3_throwOwn 4 = .ok (.aload_n 0, 1) := by decide +kernel
theorem dX3_throwOwn_5 : decode cX3_throwOwn 5 = .ok (.iconst 1, 1) := by decide +kernel
theorem dX3_throwOwn_6 : decode cX3_throwOwn 6 = .ok (.iload_n 2, 1) := by decide +kernel
theorem dX3_throwOwn_7 : decode cX3_throwOwn 7 = .ok (.invokevirtual 36, 3) := by decide +kernel
theorem dX3_throwOwn_10 : decode cX3_throwOwn 10 = .ok (.ireturn, 1) := by decide +kernel
theorem dX3_throwOwn_11 : decode cX3_throwOwn 11 = .ok (.aload_n 0, 1) := by decide +kernel
theorem dX3_throwOwn_12 : decode cX3_throwOwn 12 = .ok (.iload_n 1, 1) := by decide +kernel
theorem dX3_throwOwn_13 : decode cX3_throwOwn 13 = .ok (.putfield 74, 3) := by decide +kernel
theorem dX3_throwOwn_16 : decode cX3_throwOwn 16 = .ok (.aload_n 0, 1) := by decide +kernel
theorem dX3_throwOwn_17 : decode cX3_throwOwn 17 = .ok (.bipush 7, 2) := by decide +kernel
theorem dX3_throwOwn_19 : decode cX3_throwOwn 19 = .ok (.iload_n 2, 1) := by decide +kernel
theorem dX3_throwOwn_20 : decode cX3_throwOwn 20 = .ok (.invokevirtual 36, 3) := by decide +kernel
theorem dX3_throwOwn_23 : decode cX3_throwOwn 23 = .ok (.ireturn, 1) := by decide +kernel
set_option maxRecDepth 20000 in
theorem ggX3_firstOf_X4_againstItem : GoodIn wsX3_firstOf wsX4_againstItem := goodIn_r _ [5, 6, 7, 8, 9, 10, 11, 12, 65, 66] (by decide +kernel) (by decide +kernel)
set_option maxRecDepth 20000 in
theorem gX3_firstOf_X4_againstItem_n77 : GoodIn wsX3_firstOf (wsX4_againstItem) := ggX3_firstOf_X4_againstItem
set_option maxRecDepth 20000 in
theorem ggX3_firstOf_X3_stop : GoodIn wsX3_firstOf wsX3_stop := goodIn_r _ [17, 18, 19, 59, 60, 61, 62, 63, 64] (by decide +kernel) (by decide +kernel)
set_option maxRecDepth 20000 in
theorem gX3_firstOf_X3_stop : GoodIn wsX3_firstOf (wsV RX3 36 RX3 yX3_stop wsX3_stop) := goodIn_app (goodIn_of _ (by decide +kernel)) ggX3_firstOf_X3_stop
set_option maxRecDepth 20000 in
theorem ggX3_firstOf_X0_isOfThings : GoodIn wsX3_firstOf wsX0_isOfThings := goodIn_r _ [23, 24, 65, 66] (by decide +kernel) (by decide +kernel)
set_option maxRecDepth 20000 in
theorem gX3_firstOf_X0_isOfThings : GoodIn wsX3_firstOf (wsV RX3 87 RX0 yX0_isOfThings wsX0_isOfThings) := goodIn_app (goodIn_of _ (by decide +kernel)) ggX3_firstOf_X0_isOfThings
set_option maxRecDepth 20000 in
theorem ggX3_firstOf_X1_find : GoodIn wsX3_firstOf wsX1_find := goodIn_r _ [29, 30, 31, 67, 68] (by decide +kernel) (by decide +kernel)
set_option maxRecDepth 20000 in
theorem gX3_firstOf_X1_find : GoodIn wsX3_firstOf (wsV RX3 54 RX1 yX1_find wsX1_find) := goodIn_app (goodIn_of _ (by decide +kernel)) ggX3_firstOf_X1_find
set_option maxRecDepth 20000 in
theorem ggX3_firstOf_X3_begin : GoodIn wsX3_firstOf wsX3_begin := goodIn_r _ [35, 36, 37, 13, 14, 15, 16, 17, 18, 19, 38, 39, 40, 0, 1, 2, 3, 4, 5, 6, 7, 8, 9, 10, 11, 12, 20, 21, 22, 23, 24, 25, 26, 27, 28, 29, 30, 31, 32, 33, 34, 41, 42, 43, 44, 45, 46, 47, 48, 49, 50, 51, 52, 53, 54, 55, 56, 57, 58, 59, 60, 61, 62, 63, 64, 65, 66, 67, 68, 69, 70, 71, 72] (by decide +kernel) (by decide +kernel)
set_option maxRecDepth 20000 in
theorem gX3_firstOf_X3_begin : GoodIn wsX3_firstOf (wsV RX3 32 RX3 yX3_begin wsX3_begin) := goodIn_app (goodIn_of _ (by decide +kernel)) ggX3_firstOf_X3_begin
theorem dX3_firstOf_0 : decode cX3_firstOf 0 = .ok (.aload_n 1, 1) := by decide +kernel
theorem dX3_firstOf_1 : decode cX3_firstOf 1 = .ok (.iconst 0, 1) := by decide +kernel
theorem dX3_firstOf_2 : decode cX3_firstOf 2 = .ok (.iconst 3, 1) := by decide +kernel
theorem dX3_firstOf_3 : decode cX3_firstOf 3 = .ok (.iconst 0, 1) := by decide +kernel
theorem dX3_firstOf_4 : decode cX3_firstOf 4 = .ok (.invokestatic 77, 3) := by decide +kernel
theorem dX3_firstOf_7 : decode cX3_firstOf 7 = .ok (.istore_n 3, 1) := by decide +kernel
theorem dX3_firstOf_8 : decode cX3_firstOf 8 = .ok (.iload_n 3, 1) := by decide +kernel
theorem dX3_firstOf_9 : decode cX3_firstOf 9 = .ok (.ifCond .eq 10, 3) := by decide +kernel
theorem dX3_firstOf_12 : decode cX3_firstOf 12 = .ok (.aload_n 0, 1) := by decide +kernel
theorem dX3_firstOf_13 : decode cX3_firstOf 13 = .ok (.iload_n 3, 1) := by decide +kernel
theorem dX3_firstOf_14 : decode cX3_firstOf 14 = .ok (.iload_n 2, 1) := by decide +kernel
theorem dX3_firstOf_15 : decode cX3_firstOf 15 = .ok (.invokevirtual 36, 3) := by decide +kernel
theorem dX3_firstOf_18 : decode cX3_firstOf 18 = .ok (.ireturn, 1) := by decide +kernel
theorem dX3_firstOf_19 : decode cX3_firstOf 19 = .ok (.aload_n 1, 1) := by decide +kernel
theorem dX3_firstOf_20 : decode cX3_firstOf 20 = .ok (.getfield 81, 3) := by decide +kernel
theorem dX3_firstOf_23 : decode cX3_firstOf 23 = .ok (.iconst 0, 1) := by decide +kernel
theorem dX3_firstOf_24 : decode cX3_firstOf 24 = .ok (.laload, 1) := by decide +kernel
theorem dX3_firstOf_25 : decode cX3_firstOf 25 = .ok (.l2i, 1) := by decide +kernel
theorem dX3_firstOf_26 : decode cX3_firstOf 26 = .ok (.istore 4, 2) := by decide +kernel
theorem dX3_firstOf_28 : decode cX3_firstOf 28 = .ok (.aload_n 1, 1) := by decide +kernel
theorem dX3_firstOf_29 : decode cX3_firstOf 29 = .ok (.invokevirtual 87, 3) := by decide +kernel
theorem dX3_firstOf_32 : decode cX3_firstOf 32 = .ok (.ifCond .eq 20, 3) := by decide +kernel
theorem dX3_firstOf_35 : decode cX3_firstOf 35 = .ok (.aload_n 0, 1) := by decide +kernel
theorem dX3_firstOf_36 : decode cX3_firstOf 36 = .ok (.aload_n 0, 1) := by decide +kernel
theorem dX3_firstOf_37 : decode cX3_firstOf 37 = .ok (.getfield 9, 3) := by decide +kernel
theorem dX3_firstOf_40 : decode cX3_firstOf 40 = .ok (.iload 4, 2) := by decide +kernel
theorem dX3_firstOf_42 : decode cX3_firstOf 42 = .ok (.invokevirtual 54, 3) := by decide +kernel
theorem dX3_firstOf_45 : decode cX3_firstOf 45 = .ok (.iload_n 2, 1) := by decide +kernel
theorem dX3_firstOf_46 : decode cX3_firstOf 46 = .ok (.invokevirtual 32, 3) := by decide +kernel
theorem dX3_firstOf_49 : decode cX3_firstOf 49 = .ok (.goto 5, 3) := by decide +kernel
theorem dX3_firstOf_52 : decode cX3_firstOf 52 = .ok (.iload 4, 2) := by decide +kernel
theorem dX3_firstOf_54 : decode cX3_firstOf 54 = .ok (.ireturn, 1) := by decide +kernel
set_option maxRecDepth 20000 in
theorem ggX3_sumOf_X3_stop : GoodIn wsX3_sumOf wsX3_stop := goodIn_r _ [7, 8, 9, 12, 13, 14, 15, 16, 17] (by decide +kernel) (by decide +kernel)
set_option maxRecDepth 20000 in
theorem gX3_sumOf_X3_stop : GoodIn wsX3_sumOf (wsV RX3 36 RX3 yX3_stop wsX3_stop) := goodIn_app (goodIn_of _ (by decide +kernel)) ggX3_sumOf_X3_stop
theorem dX3_sumOf_0 : decode cX3_sumOf 0 = .ok (.aload_n 1, 1) := by decide +kernel
theorem dX3_sumOf_1 : decode cX3_sumOf 1 = .ok (.ifnonnull 10, 3) := by decide +kernel
theorem dX3_sumOf_4 : decode cX3_sumOf 4 = .ok (.aload_n 0, 1) := by decide +kernel
theorem dX3_sumOf_5 : decode cX3_sumOf 5 = .ok (.iconst 1, 1) := by decide +kernel
theorem dX3_sumOf_6 : decode cX3_sumOf 6 = .ok (.iload_n 2, 1) := by decide +kernel
theorem dX3_sumOf_7 : decode cX3_sumOf 7 = .ok (.invokevirtual 36, 3) := by decide +kernel
theorem dX3_sumOf_10 : decode cX3_sumOf 10 = .ok (.ireturn, 1) := by decide +kernel
theorem dX3_sumOf_11 : decode cX3_sumOf 11 = .ok (.aload_n 1, 1) := by decide +kernel
theorem dX3_sumOf_12 : decode cX3_sumOf 12 = .ok (.getfield 91, 3) := by decide +kernel
theorem dX3_sumOf_15 : decode cX3_sumOf 15 = .ok (.ifCond .eq 10, 3) := by decide +kernel
theorem dX3_sumOf_18 : decode cX3_sumOf 18 = .ok (.aload_n 0, 1) := by decide +kernel
theorem dX3_sumOf_19 : decode cX3_sumOf 19 = .ok (.iconst 2, 1) := by decide +kernel
theorem dX3_sumOf_20 : decode cX3_sumOf 20 = .ok (.iload_n 2, 1) := by decide +kernel
theorem dX3_sumOf_21 : decode cX3_sumOf 21 = .ok (.invokevirtual 36, 3) := by decide +kernel
theorem dX3_sumOf_24 : decode cX3_sumOf 24 = .ok (.ireturn, 1) := by decide +kernel
theorem dX3_sumOf_25 : decode cX3_sumOf 25 = .ok (.iconst 0, 1) := by decide +kernel
theorem dX3_sumOf_26 : decode cX3_sumOf 26 = .ok (.istore_n 3, 1) := by decide +kernel
theorem dX3_sumOf_27 : decode cX3_sumOf 27 = .ok (.aload_n 1, 1) := by decide +kernel
theorem dX3_sumOf_28 : decode cX3_sumOf 28 = .ok (.getfield 81, 3) := by decide +kernel
theorem dX3_sumOf_31 : decode cX3_sumOf 31 = .ok (.astore 4, 2) := by decide +kernel
theorem dX3_sumOf_33 : decode cX3_sumOf 33 = .ok (.aload 4, 2) := by decide +kernel
theorem dX3_sumOf_35 : decode cX3_sumOf 35 = .ok (.arraylength, 1) := by decide +kernel
theorem dX3_sumOf_36 : decode cX3_sumOf 36 = .ok (.istore 5, 2) := by decide +kernel
theorem dX3_sumOf_38 : decode cX3_sumOf 38 = .ok (.iconst 0, 1) := by decide +kernel
theorem dX3_sumOf_39 : decode cX3_sumOf 39 = .ok (.istore 6, 2) := by decide +kernel
theorem dX3_sumOf_41 : decode cX3_sumOf 41 = .ok (.iload 6, 2) := by decide +kernel
theorem dX3_sumOf_43 : decode cX3_sumOf 43 = .ok (.iload 5, 2) := by decide +kernel
theorem dX3_sumOf_45 : decode cX3_sumOf 45 = .ok (.if_icmp .ge 22, 3) := by decide +kernel
theorem dX3_sumOf_48 : decode cX3_sumOf 48 = .ok (.aload 4, 2) := by decide +kernel
theorem dX3_sumOf_50 : decode cX3_sumOf 50 = .ok (.iload 6, 2) := by decide +kernel
theorem dX3_sumOf_52 : decode cX3_sumOf 52 = .ok (.laload, 1) := by decide +kernel
theorem dX3_sumOf_53 : decode cX3_sumOf 53 = .ok (.lstore 7, 2) := by decide +kernel
theorem dX3_sumOf_55 : decode cX3_sumOf 55 = .ok (.iload_n 3, 1) := by decide +kernel
theorem dX3_sumOf_56 : decode cX3_sumOf 56 = .ok (.lload 7, 2) := by decide +kernel
theorem dX3_sumOf_58 : decode cX3_sumOf 58 = .ok (.l2i, 1) := by decide +kernel
theorem dX3_sumOf_59 : decode cX3_sumOf 59 = .ok (.iadd, 1) := by decide +kernel
theorem dX3_sumOf_60 : decode cX3_sumOf 60 = .ok (.istore_n 3, 1) := by decide +kernel
theorem dX3_sumOf_61 : decode cX3_sumOf 61 = .ok (.iinc 6 1, 3) := by decide +kernel
theorem dX3_sumOf_64 : decode cX3_sumOf 64 = .ok (.goto (-23), 3) := by decide +kernel
theorem dX3_sumOf_67 : decode cX3_sumOf 67 = .ok (.iload_n 3, 1) := by decide +kernel
theorem dX3_sumOf_68 : decode cX3_sumOf 68 = .ok (.ireturn, 1) := by decide +kernel
theorem dX3_stop_0 : decode cX3_stop 0 = .ok (.aload_n 0, 1) := by decide +kernel
theorem dX3_stop_1 : decode cX3_stop 1 = .ok (.iload_n 1, 1) := by decide +kernel
theorem dX3_stop_2 : decode cX3_stop 2 = .ok (.putfield 26, 3) := by decide +kernel
theorem dX3_stop_5 : decode cX3_stop 5 = .ok (.aload_n 0, 1) := by decide +kernel
theorem dX3_stop_6 : decode cX3_stop 6 = .ok (.iload_n 2, 1) := by decide +kernel
theorem dX3_stop_7 : decode cX3_stop 7 = .ok (.putfield 29, 3) := by decide +kernel
theorem dX3_stop_10 : decode cX3_stop 10 = .ok (.iconst 0, 1) := by decide +kernel
theorem dX3_stop_11 : decode cX3_stop 11 = .ok (.ireturn, 1) := by decide +kernel
set_option maxRecDepth 20000 in
theorem ggX4_init_X1_init : GoodIn wsX4_init wsX1_init := goodIn_r _ [16, 17, 2, 3, 18, 19, 25, 26] (by decide +kernel) (by decide +kernel)
set_option maxRecDepth 20000 in
theorem gX4_init_X1_init : GoodIn wsX4_init (wsX1_init) := ggX4_init_X1_init
set_option maxRecDepth 20000 in
theorem ggX4_init_X3_init : GoodIn wsX4_init wsX3_init := goodIn_r _ [22, 23, 2, 3, 24, 32, 33, 34, 35, 36, 37] (by decide +kernel) (by decide +kernel)
set_option maxRecDepth 20000 in
theorem gX4_init_X3_init : GoodIn wsX4_init (wsX3_init) := ggX4_init_X3_init
theorem dX4_init_0 : decode cX4_init 0 = .ok (.aload_n 0, 1) := by decide +kernel
theorem dX4_init_1 : decode cX4_init 1 = .ok (.invokespecial 1, 3) := by decide +kernel
theorem dX4_init_4 : decode cX4_init 4 = .ok (.aload_n 0, 1) := by decide +kernel
theorem dX4_init_5 : decode cX4_init 5 = .ok (.new 7, 3) := by decide +kernel
theorem dX4_init_8 : decode cX4_init 8 = .ok (.dup, 1) := by decide +kernel
theorem dX4_init_9 : decode cX4_init 9 = .ok (.invokespecial 9, 3) := by decide +kernel
theorem dX4_init_12 : decode cX4_init 12 = .ok (.putfield 10, 3) := by decide +kernel
theorem dX4_init_15 : decode cX4_init 15 = .ok (.aload_n 0, 1) := by decide +kernel
theorem dX4_init_16 : decode cX4_init 16 = .ok (.new 16, 3) := by decide +kernel
theorem dX4_init_19 : decode cX4_init 19 = .ok (.dup, 1) := by decide +kernel
theorem dX4_init_20 : decode cX4_init 20 = .ok (.aload_n 0, 1) := by decide +kernel
theorem dX4_init_21 : decode cX4_init 21 = .ok (.getfield 10, 3) := by decide +kernel
theorem dX4_init_24 : decode cX4_init 24 = .ok (.invokespecial 18, 3) := by decide +kernel
theorem dX4_init_27 : decode cX4_init 27 = .ok (.putfield 21, 3) := by decide +kernel
theorem dX4_init_30 : decode cX4_init 30 = .ok (.aload_n 0, 1) := by decide +kernel
theorem dX4_init_31 : decode cX4_init 31 = .ok (.bipush 10, 2) := by decide +kernel
theorem dX4_init_33 : decode cX4_init 33 = .ok (.newarray .int, 2) := by decide +kernel
theorem dX4_init_35 : decode cX4_init 35 = .ok (.putfield 25, 3) := by decide +kernel
theorem dX4_init_38 : decode cX4_init 38 = .ok (.return_, 1) := by decide +kernel
set_option maxRecDepth 20000 in
theorem ggX4_thing_X4_isClass : GoodIn wsX4_thing wsX4_isClass := goodIn_r _ [6] (by decide +kernel) (by decide +kernel)
set_option maxRecDepth 20000 in
theorem gX4_thing_X4_isClass : GoodIn wsX4_thing (va_wsS RX4 29 yX4_isClass wsX4_isClass) := goodIn_app (goodIn_of _ (by decide +kernel)) ggX4_thing_X4_isClass
set_option maxRecDepth 20000 in
theorem ggX4_thing_X1_add : GoodIn wsX4_thing wsX1_add := goodIn_r _ [11, 12, 13, 14, 15, 16, 17, 18, 19, 20, 21, 22, 23, 24, 25, 31, 32, 33, 34, 35, 36] (by decide +kernel) (by decide +kernel)
set_option maxRecDepth 20000 in
theorem gX4_thing_X1_add : GoodIn wsX4_thing (wsV RX4 34 RX1 yX1_add wsX1_add) := goodIn_app (goodIn_of _ (by decide +kernel)) ggX4_thing_X1_add
theorem dX4_thing_0 : decode cX4_thing 0 = .ok (.iload_n 1, 1) := by decide +kernel
theorem dX4_thing_1 : decode cX4_thing 1 = .ok (.invokestatic 29, 3) := by decide +kernel
theorem dX4_thing_4 : decode cX4_thing 4 = .ok (.ifCond .ne 6, 3) := by decide +kernel
theorem dX4_thing_7 : decode cX4_thing 7 = .ok (.ldc 33, 2) := by decide +kernel
theorem dX4_thing_9 : decode cX4_thing 9 = .ok (.ireturn, 1) := by decide +kernel
theorem dX4_thing_10 : decode cX4_thing 10 = .ok (.aload_n 0, 1) := by decide +kernel
theorem dX4_thing_11 : decode cX4_thing 11 = .ok (.getfield 10, 3) := by decide +kernel
theorem dX4_thing_14 : decode cX4_thing 14 = .ok (.iload_n 1, 1) := by decide +kernel
theorem dX4_thing_15 : decode cX4_thing 15 = .ok (.iload_n 2, 1) := by decide +kernel
theorem dX4_thing_16 : decode cX4_thing 16 = .ok (.invokevirtual 34, 3) := by decide +kernel
theorem dX4_thing_19 : decode cX4_thing 19 = .ok (.ireturn, 1) := by decide +kernel
theorem dX4_outcome_0 : decode cX4_outcome 0 = .ok (.aload_n 0, 1) := by decide +kernel
theorem dX4_outcome_1 : decode cX4_outcome 1 = .ok (.getfield 38, 3) := by decide +kernel
theorem dX4_outcome_4 : decode cX4_outcome 4 = .ok (.ireturn, 1) := by decide +kernel
theorem dX4_own_0 : decode cX4_own 0 = .ok (.aload_n 0, 1) := by decide +kernel
theorem dX4_own_1 : decode cX4_own 1 = .ok (.getfield 42, 3) := by decide +kernel
theorem dX4_own_4 : decode cX4_own 4 = .ok (.ireturn, 1) := by decide +kernel
theorem dX4_begun_0 : decode cX4_begun 0 = .ok (.aload_n 0, 1) := by decide +kernel
theorem dX4_begun_1 : decode cX4_begun 1 = .ok (.getfield 21, 3) := by decide +kernel
theorem dX4_begun_4 : decode cX4_begun 4 = .ok (.getfield 45, 3) := by decide +kernel
theorem dX4_begun_7 : decode cX4_begun 7 = .ok (.ireturn, 1) := by decide +kernel
theorem dX4_deep_0 : decode cX4_deep 0 = .ok (.aload_n 0, 1) := by decide +kernel
theorem dX4_deep_1 : decode cX4_deep 1 = .ok (.getfield 21, 3) := by decide +kernel
theorem dX4_deep_4 : decode cX4_deep 4 = .ok (.getfield 48, 3) := by decide +kernel
theorem dX4_deep_7 : decode cX4_deep 7 = .ok (.ireturn, 1) := by decide +kernel
theorem dX4_told_0 : decode cX4_told 0 = .ok (.iload_n 1, 1) := by decide +kernel
theorem dX4_told_1 : decode cX4_told 1 = .ok (.ifCond .lt 9, 3) := by decide +kernel
theorem dX4_told_4 : decode cX4_told 4 = .ok (.iload_n 1, 1) := by decide +kernel
theorem dX4_told_5 : decode cX4_told 5 = .ok (.bipush 9, 2) := by decide +kernel
theorem dX4_told_7 : decode cX4_told 7 = .ok (.if_icmp .le 6, 3) := by decide +kernel
theorem dX4_told_10 : decode cX4_told 10 = .ok (.ldc 33, 2) := by decide +kernel
theorem dX4_told_12 : decode cX4_told 12 = .ok (.ireturn, 1) := by decide +kernel
theorem dX4_told_13 : decode cX4_told 13 = .ok (.aload_n 0, 1) := by decide +kernel
theorem dX4_told_14 : decode cX4_told 14 = .ok (.getfield 25, 3) := by decide +kernel
theorem dX4_told_17 : decode cX4_told 17 = .ok (.iload_n 1, 1) := by decide +kernel
theorem dX4_told_18 : decode cX4_told 18 = .ok (.iaload, 1) := by decide +kernel
theorem dX4_told_19 : decode cX4_told 19 = .ok (.ireturn, 1) := by decide +kernel
set_option maxRecDepth 20000 in
theorem ggX4_cls_X1_find : GoodIn wsX4_cls wsX1_find := goodIn_r _ [8, 9, 10, 20, 21] (by decide +kernel) (by decide +kernel)
set_option maxRecDepth 20000 in
theorem gX4_cls_X1_find : GoodIn wsX4_cls (wsV RX4 51 RX1 yX1_find wsX1_find) := goodIn_app (goodIn_of _ (by decide +kernel)) ggX4_cls_X1_find
theorem dX4_cls_0 : decode cX4_cls 0 = .ok (.aload_n 0, 1) := by decide +kernel
theorem dX4_cls_1 : decode cX4_cls 1 = .ok (.getfield 10, 3) := by decide +kernel
theorem dX4_cls_4 : decode cX4_cls 4 = .ok (.iload_n 1, 1) := by decide +kernel
theorem dX4_cls_5 : decode cX4_cls 5 = .ok (.invokevirtual 51, 3) := by decide +kernel
theorem dX4_cls_8 : decode cX4_cls 8 = .ok (.astore_n 2, 1) := by decide +kernel
theorem dX4_cls_9 : decode cX4_cls 9 = .ok (.aload_n 2, 1) := by decide +kernel
theorem dX4_cls_10 : decode cX4_cls 10 = .ok (.ifnonnull 8, 3) := by decide +kernel
theorem dX4_cls_13 : decode cX4_cls 13 = .ok (.ldc 33, 2) := by decide +kernel
theorem dX4_cls_15 : decode cX4_cls 15 = .ok (.goto 7, 3) := by decide +kernel
theorem dX4_cls_18 : decode cX4_cls 18 = .ok (.aload_n 2, 1) := by decide +kernel
theorem dX4_cls_19 : decode cX4_cls 19 = .ok (.getfield 55, 3) := by decide +kernel
theorem dX4_cls_22 : decode cX4_cls 22 = .ok (.ireturn, 1) := by decide +kernel
set_option maxRecDepth 20000 in
theorem ggX4_is_X1_find : GoodIn wsX4_is wsX1_find := goodIn_r _ [7, 8, 9, 25, 26] (by decide +kernel) (by decide +kernel)
set_option maxRecDepth 20000 in
theorem gX4_is_X1_find : GoodIn wsX4_is (wsV RX4 51 RX1 yX1_find wsX1_find) := goodIn_app (goodIn_of _ (by decide +kernel)) ggX4_is_X1_find
set_option maxRecDepth 20000 in
theorem ggX4_is_X4_isClass : GoodIn wsX4_is wsX4_isClass := goodIn_r _ [13] (by decide +kernel) (by decide +kernel)
set_option maxRecDepth 20000 in
theorem gX4_is_X4_isClass : GoodIn wsX4_is (va_wsS RX4 29 yX4_isClass wsX4_isClass) := goodIn_app (goodIn_of _ (by decide +kernel)) ggX4_is_X4_isClass
set_option maxRecDepth 20000 in
theorem ggX4_is_X2_isOf : GoodIn wsX4_is wsX2_isOf := goodIn_r _ [18, 19, 27, 28, 29, 30] (by decide +kernel) (by decide +kernel)
set_option maxRecDepth 20000 in
theorem gX4_is_X2_isOf : GoodIn wsX4_is (wsV RX4 60 RX2 yX2_isOf wsX2_isOf) := goodIn_app (goodIn_of _ (by decide +kernel)) ggX4_is_X2_isOf
theorem dX4_is_0 : decode cX4_is 0 = .ok (.aload_n 0, 1) := by decide +kernel
theorem dX4_is_1 : decode cX4_is 1 = .ok (.getfield 10, 3) := by decide +kernel
theorem dX4_is_4 : decode cX4_is 4 = .ok (.iload_n 1, 1) := by decide +kernel
theorem dX4_is_5 : decode cX4_is 5 = .ok (.invokevirtual 51, 3) := by decide +kernel
theorem dX4_is_8 : decode cX4_is 8 = .ok (.astore_n 3, 1) := by decide +kernel
theorem dX4_is_9 : decode cX4_is 9 = .ok (.aload_n 3, 1) := by decide +kernel
theorem dX4_is_10 : decode cX4_is 10 = .ok (.ifnull 10, 3) := by decide +kernel
theorem dX4_is_13 : decode cX4_is 13 = .ok (.iload_n 2, 1) := by decide +kernel
theorem dX4_is_14 : decode cX4_is 14 = .ok (.invokestatic 29, 3) := by decide +kernel
theorem dX4_is_17 : decode cX4_is 17 = .ok (.ifCond .ne 6, 3) := by decide +kernel
theorem dX4_is_20 : decode cX4_is 20 = .ok (.ldc 33, 2) := by decide +kernel
theorem dX4_is_22 : decode cX4_is 22 = .ok (.ireturn, 1) := by decide +kernel
theorem dX4_is_23 : decode cX4_is 23 = .ok (.aload_n 3, 1) := by decide +kernel
theorem dX4_is_24 : decode cX4_is 24 = .ok (.iload_n 2, 1) := by decide +kernel
theorem dX4_is_25 : decode cX4_is 25 = .ok (.invokevirtual 60, 3) := by decide +kernel
theorem dX4_is_28 : decode cX4_is 28 = .ok (.ifCond .eq 7, 3) := by decide +kernel
theorem dX4_is_31 : decode cX4_is 31 = .ok (.iconst 1, 1) := by decide +kernel
theorem dX4_is_32 : decode cX4_is 32 = .ok (.goto 4, 3) := by decide +kernel
theorem dX4_is_35 : decode cX4_is 35 = .ok (.iconst 0, 1) := by decide +kernel
theorem dX4_is_36 : decode cX4_is 36 = .ok (.ireturn, 1) := by decide +kernel
set_option maxRecDepth 20000 in
theorem ggX4_v_X1_find : GoodIn wsX4_v wsX1_find := goodIn_r _ [8, 9, 10, 20, 21] (by decide +kernel) (by decide +kernel)
set_option maxRecDepth 20000 in
theorem gX4_v_X1_find : GoodIn wsX4_v (wsV RX4 51 RX1 yX1_find wsX1_find) := goodIn_app (goodIn_of _ (by decide +kernel)) ggX4_v_X1_find
theorem dX4_v_0 : decode cX4_v 0 = .ok (.aload_n 0, 1) := by decide +kernel
theorem dX4_v_1 : decode cX4_v 1 = .ok (.getfield 10, 3) := by decide +kernel
theorem dX4_v_4 : decode cX4_v 4 = .ok (.iload_n 1, 1) := by decide +kernel
theorem dX4_v_5 : decode cX4_v 5 = .ok (.invokevirtual 51, 3) := by decide +kernel
theorem dX4_v_8 : decode cX4_v 8 = .ok (.astore_n 2, 1) := by decide +kernel
theorem dX4_v_9 : decode cX4_v 9 = .ok (.aload_n 2, 1) := by decide +kernel
theorem dX4_v_10 : decode cX4_v 10 = .ok (.ifnonnull 8, 3) := by decide +kernel
theorem dX4_v_13 : decode cX4_v 13 = .ok (.ldc 33, 2) := by decide +kernel
theorem dX4_v_15 : decode cX4_v 15 = .ok (.goto 7, 3) := by decide +kernel
theorem dX4_v_18 : decode cX4_v 18 = .ok (.aload_n 2, 1) := by decide +kernel
theorem dX4_v_19 : decode cX4_v 19 = .ok (.getfield 63, 3) := by decide +kernel
theorem dX4_v_22 : decode cX4_v 22 = .ok (.ireturn, 1) := by decide +kernel
set_option maxRecDepth 20000 in
theorem ggX4_become_X1_find : GoodIn wsX4_become wsX1_find := goodIn_r _ [8, 9, 10, 20, 21] (by decide +kernel) (by decide +kernel)
set_option maxRecDepth 20000 in
theorem gX4_become_X1_find : GoodIn wsX4_become (wsV RX4 51 RX1 yX1_find wsX1_find) := goodIn_app (goodIn_of _ (by decide +kernel)) ggX4_become_X1_find
theorem dX4_become_0 : decode cX4_become 0 = .ok (.aload_n 0, 1) := by decide +kernel
theorem dX4_become_1 : decode cX4_become 1 = .ok (.getfield 10, 3) := by decide +kernel
theorem dX4_become_4 : decode cX4_become 4 = .ok (.iload_n 1, 1) := by decide +kernel
theorem dX4_become_5 : decode cX4_become 5 = .ok (.invokevirtual 51, 3) := by decide +kernel
theorem dX4_become_8 : decode cX4_become 8 = .ok (.astore_n 3, 1) := by decide +kernel
theorem dX4_become_9 : decode cX4_become 9 = .ok (.aload_n 3, 1) := by decide +kernel
theorem dX4_become_10 : decode cX4_become 10 = .ok (.ifnonnull 6, 3) := by decide +kernel
theorem dX4_become_13 : decode cX4_become 13 = .ok (.ldc 33, 2) := by decide +kernel
theorem dX4_become_15 : decode cX4_become 15 = .ok (.ireturn, 1) := by decide +kernel
theorem dX4_become_16 : decode cX4_become 16 = .ok (.aload_n 3, 1) := by decide +kernel
theorem dX4_become_17 : decode cX4_become 17 = .ok (.getfield 63, 3) := by decide +kernel
theorem dX4_become_20 : decode cX4_become 20 = .ok (.istore 4, 2) := by decide +kernel
theorem dX4_become_22 : decode cX4_become 22 = .ok (.aload_n 3, 1) := by decide +kernel
theorem dX4_become_23 : decode cX4_become 23 = .ok (.iload_n 2, 1) := by decide +kernel
theorem dX4_become_24 : decode cX4_become 24 = .ok (.putfield 63, 3) := by decide +kernel
theorem dX4_become_27 : decode cX4_become 27 = .ok (.iload 4, 2) := by decide +kernel
theorem dX4_become_29 : decode cX4_become 29 = .ok (.ireturn, 1) := by decide +kernel
set_option maxRecDepth 20000 in
theorem ggX4_link_X1_find : GoodIn wsX4_link wsX1_find := goodIn_r _ [8, 9, 10, 25, 26] (by decide +kernel) (by decide +kernel)
set_option maxRecDepth 20000 in
theorem gX4_link_X1_find : GoodIn wsX4_link (wsV RX4 51 RX1 yX1_find wsX1_find) := goodIn_app (goodIn_of _ (by decide +kernel)) ggX4_link_X1_find
set_option maxRecDepth 20000 in
theorem ggX4_link_X1_hasOrNone : GoodIn wsX4_link wsX1_hasOrNone := goodIn_r _ [14, 15, 5, 6, 7, 8, 9, 10, 25, 26] (by decide +kernel) (by decide +kernel)
set_option maxRecDepth 20000 in
theorem gX4_link_X1_hasOrNone : GoodIn wsX4_link (wsV RX4 66 RX1 yX1_hasOrNone wsX1_hasOrNone) := goodIn_app (goodIn_of _ (by decide +kernel)) ggX4_link_X1_hasOrNone
theorem dX4_link_0 : decode cX4_link 0 = .ok (.aload_n 0, 1) := by decide +kernel
theorem dX4_link_1 : decode cX4_link 1 = .ok (.getfield 10, 3) := by decide +kernel
theorem dX4_link_4 : decode cX4_link 4 = .ok (.iload_n 1, 1) := by decide +kernel
theorem dX4_link_5 : decode cX4_link 5 = .ok (.invokevirtual 51, 3) := by decide +kernel
theorem dX4_link_8 : decode cX4_link 8 = .ok (.astore_n 3, 1) := by decide +kernel
theorem dX4_link_9 : decode cX4_link 9 = .ok (.aload_n 3, 1) := by decide +kernel
theorem dX4_link_10 : decode cX4_link 10 = .ok (.ifnull 14, 3) := by decide +kernel
theorem dX4_link_13 : decode cX4_link 13 = .ok (.aload_n 0, 1) := by decide +kernel
theorem dX4_link_14 : decode cX4_link 14 = .ok (.getfield 10, 3) := by decide +kernel
theorem dX4_link_17 : decode cX4_link 17 = .ok (.iload_n 2, 1) := by decide +kernel
theorem dX4_link_18 : decode cX4_link 18 = .ok (.invokevirtual 66, 3) := by decide +kernel
theorem dX4_link_21 : decode cX4_link 21 = .ok (.ifCond .ne 6, 3) := by decide +kernel
theorem dX4_link_24 : decode cX4_link 24 = .ok (.ldc 33, 2) := by decide +kernel
theorem dX4_link_26 : decode cX4_link 26 = .ok (.ireturn, 1) := by decide +kernel
theorem dX4_link_27 : decode cX4_link 27 = .ok (.aload_n 3, 1) := by decide +kernel
theorem dX4_link_28 : decode cX4_link 28 = .ok (.getfield 69, 3) := by decide +kernel
theorem dX4_link_31 : decode cX4_link 31 = .ok (.istore 4, 2) := by decide +kernel
theorem dX4_link_33 : decode cX4_link 33 = .ok (.aload_n 3, 1) := by decide +kernel
theorem dX4_link_34 : decode cX4_link 34 = .ok (.iload_n 2, 1) := by decide +kernel
theorem dX4_link_35 : decode cX4_link 35 = .ok (.putfield 69, 3) := by decide +kernel
theorem dX4_link_38 : decode cX4_link 38 = .ok (.iload 4, 2) := by decide +kernel
theorem dX4_link_40 : decode cX4_link 40 = .ok (.ireturn, 1) := by decide +kernel
set_option maxRecDepth 20000 in
theorem ggX4_linked_X1_find : GoodIn wsX4_linked wsX1_find := goodIn_r _ [8, 9, 10, 20, 21] (by decide +kernel) (by decide +kernel)
set_option maxRecDepth 20000 in
theorem gX4_linked_X1_find : GoodIn wsX4_linked (wsV RX4 51 RX1 yX1_find wsX1_find) := goodIn_app (goodIn_of _ (by decide +kernel)) ggX4_linked_X1_find
theorem dX4_linked_0 : decode cX4_linked 0 = .ok (.aload_n 0, 1) := by decide +kernel
theorem dX4_linked_1 : decode cX4_linked 1 = .ok (.getfield 10, 3) := by decide +kernel
theorem dX4_linked_4 : decode cX4_linked 4 = .ok (.iload_n 1, 1) := by decide +kernel
theorem dX4_linked_5 : decode cX4_linked 5 = .ok (.invokevirtual 51, 3) := by decide +kernel
theorem dX4_linked_8 : decode cX4_linked 8 = .ok (.astore_n 2, 1) := by decide +kernel
theorem dX4_linked_9 : decode cX4_linked 9 = .ok (.aload_n 2, 1) := by decide +kernel
theorem dX4_linked_10 : decode cX4_linked 10 = .ok (.ifnonnull 8, 3) := by decide +kernel
theorem dX4_linked_13 : decode cX4_linked 13 = .ok (.ldc 33, 2) := by decide +kernel
theorem dX4_linked_15 : decode cX4_linked 15 = .ok (.goto 7, 3) := by decide +kernel
theorem dX4_linked_18 : decode cX4_linked 18 = .ok (.aload_n 2, 1) := by decide +kernel
theorem dX4_linked_19 : decode cX4_linked 19 = .ok (.getfield 69, 3) := by decide +kernel
theorem dX4_linked_22 : decode cX4_linked 22 = .ok (.ireturn, 1) := by decide +kernel
set_option maxRecDepth 20000 in
theorem ggX4_follow_X1_find : GoodIn wsX4_follow wsX1_find := goodIn_r _ [8, 9, 10, 34, 35] (by decide +kernel) (by decide +kernel)
set_option maxRecDepth 20000 in
theorem gX4_follow_X1_find : GoodIn wsX4_follow (wsV RX4 51 RX1 yX1_find wsX1_find) := goodIn_app (goodIn_of _ (by decide +kernel)) ggX4_follow_X1_find
set_option maxRecDepth 20000 in
theorem ggX4_follow_X4_refuse : GoodIn wsX4_follow wsX4_refuse := goodIn_r _ [15, 16, 17, 18, 14, 19, 20, 21, 22, 23, 24, 25, 26, 27, 28, 29, 36, 37, 38, 39, 40, 41] (by decide +kernel) (by decide +kernel)
set_option maxRecDepth 20000 in
theorem gX4_follow_X4_refuse : GoodIn wsX4_follow (wsV RX4 72 RX4 yX4_refuse wsX4_refuse) := goodIn_app (goodIn_of _ (by decide +kernel)) ggX4_follow_X4_refuse
set_option maxRecDepth 20000 in
theorem ggX4_follow_X4_tell : GoodIn wsX4_follow wsX4_tell := goodIn_r _ [19, 20, 21, 22, 23, 24, 25, 26, 27, 28, 29, 36, 37, 38, 39, 40, 41] (by decide +kernel) (by decide +kernel)
set_option maxRecDepth 20000 in
theorem gX4_follow_X4_tell : GoodIn wsX4_follow (wsV RX4 76 RX4 yX4_tell wsX4_tell) := goodIn_app (goodIn_of _ (by decide +kernel)) ggX4_follow_X4_tell
theorem dX4_follow_0 : decode cX4_follow 0 = .ok (.aload_n 0, 1) := by decide +kernel
theorem dX4_follow_1 : decode cX4_follow 1 = .ok (.getfield 10, 3) := by decide +kernel
theorem dX4_follow_4 : decode cX4_follow 4 = .ok (.iload_n 1, 1) := by decide +kernel
theorem dX4_follow_5 : decode cX4_follow 5 = .ok (.invokevirtual 51, 3) := by decide +kernel
theorem dX4_follow_8 : decode cX4_follow 8 = .ok (.astore_n 2, 1) := by decide +kernel
theorem dX4_follow_9 : decode cX4_follow 9 = .ok (.aload_n 2, 1) := by decide +kernel
theorem dX4_follow_10 : decode cX4_follow 10 = .ok (.ifnonnull 6, 3) := by decide +kernel
theorem dX4_follow_13 : decode cX4_follow 13 = .ok (.ldc 33, 2) := by decide +kernel
theorem dX4_follow_15 : decode cX4_follow 15 = .ok (.ireturn, 1) := by decide +kernel
theorem dX4_follow_16 : decode cX4_follow 16 = .ok (.aload_n 0, 1) := by decide +kernel
theorem dX4_follow_17 : decode cX4_follow 17 = .ok (.getfield 10, 3) := by decide +kernel
theorem dX4_follow_20 : decode cX4_follow 20 = .ok (.aload_n 2, 1) := by decide +kernel
theorem dX4_follow_21 : decode cX4_follow 21 = .ok (.getfield 69, 3) := by decide +kernel
theorem dX4_follow_24 : decode cX4_follow 24 = .ok (.invokevirtual 51, 3) := by decide +kernel
theorem dX4_follow_27 : decode cX4_follow 27 = .ok (.astore_n 3, 1) := by decide +kernel
theorem dX4_follow_28 : decode cX4_follow 28 = .ok (.aload_n 3, 1) := by decide +kernel
theorem dX4_follow_29 : decode cX4_follow 29 = .ok (.ifnonnull 9, 3) := by decide +kernel
theorem dX4_follow_32 : decode cX4_follow 32 = .ok (.aload_n 0, 1) := by decide +kernel
theorem dX4_follow_33 : decode cX4_follow 33 = .ok (.iconst 1, 1) := by decide +kernel
theorem dX4_follow_34 : decode cX4_follow 34 = .ok (.invokevirtual 72, 3) := by decide +kernel
theorem dX4_follow_37 : decode cX4_follow 37 = .ok (.ireturn, 1) := by decide +kernel
theorem dX4_follow_38 : decode cX4_follow 38 = .ok (.aload_n 0, 1) := by decide +kernel
theorem dX4_follow_39 : decode cX4_follow 39 = .ok (.iconst 0, 1) := by decide +kernel
theorem dX4_follow_40 : decode cX4_follow 40 = .ok (.invokevirtual 76, 3) := by decide +kernel
theorem dX4_follow_43 : decode cX4_follow 43 = .ok (.pop, 1) := by decide +kernel
theorem dX4_follow_44 : decode cX4_follow 44 = .ok (.aload_n 2, 1) := by decide +kernel
theorem dX4_follow_45 : decode cX4_follow 45 = .ok (.aload_n 3, 1) := by decide +kernel
theorem dX4_follow_46 : decode cX4_follow 46 = .ok (.getfield 69, 3) := by decide +kernel
theorem dX4_follow_49 : decode cX4_follow 49 = .ok (.putfield 69, 3) := by decide +kernel
theorem dX4_follow_52 : decode cX4_follow 52 = .ok (.aload_n 2, 1) := by decide +kernel
theorem dX4_follow_53 : decode cX4_follow 53 = .ok (.getfield 69, 3) := by decide +kernel
theorem dX4_follow_56 : decode cX4_follow 56 = .ok (.ireturn, 1) := by decide +kernel
set_option maxRecDepth 20000 in
theorem ggX4_trade_X1_find : GoodIn wsX4_trade wsX1_find := goodIn_r _ [9, 10, 11, 35, 36] (by decide +kernel) (by decide +kernel)
set_option maxRecDepth 20000 in
theorem gX4_trade_X1_find : GoodIn wsX4_trade (wsV RX4 51 RX1 yX1_find wsX1_find) := goodIn_app (goodIn_of _ (by decide +kernel)) ggX4_trade_X1_find
set_option maxRecDepth 20000 in
theorem ggX4_trade_X4_refuse : GoodIn wsX4_trade wsX4_refuse := goodIn_r _ [16, 17, 18, 19, 15, 20, 21, 22, 23, 24, 25, 26, 27, 28, 29, 30, 37, 38, 39, 40, 41, 42] (by decide +kernel) (by decide +kernel)
end
section
set_option maxRecDepth 20000 in
theorem gX4_trade_X4_refuse : GoodIn wsX4_trade (wsV RX4 72 RX4 yX4_refuse wsX4_refuse) := goodIn_app (goodIn_of _ (by decide +kernel)) ggX4_trade_X4_refuse
set_option maxRecDepth 20000 in
theorem ggX4_trade_X4_tell : GoodIn wsX4_trade wsX4_tell := goodIn_r _ [20, 21, 22, 23, 24, 25, 26, 27, 28, 29, 30, 37, 38, 39, 40, 41, 42] (by decide +kernel) (by decide +kernel)
set_option maxRecDepth 20000 in
theorem gX4_trade_X4_tell : GoodIn wsX4_trade (wsV RX4 76 RX4 yX4_tell wsX4_tell) := goodIn_app (goodIn_of _ (by decide +kernel)) ggX4_trade_X4_tell
theorem dX4_trade_0 : decode cX4_trade 0 = .ok (.aload_n 0, 1) := by decide +kernel
theorem dX4_trade_1 : decode cX4_trade 1 = .ok (.getfield 10, 3) := by decide +kernel
theorem dX4_trade_4 : decode cX4_trade 4 = .ok (.iload_n 1, 1) := by decide +kernel
theorem dX4_trade_5 : decode cX4_trade 5 = .ok (.invokevirtual 51, 3) := by decide +kernel
theorem dX4_trade_8 : decode cX4_trade 8 = .ok (.astore_n 2, 1) := by decide +kernel
theorem dX4_trade_9 : decode cX4_trade 9 = .ok (.aload_n 2, 1) := by decide +kernel
theorem dX4_trade_10 : decode cX4_trade 10 = .ok (.ifnonnull 6, 3) := by decide +kernel
theorem dX4_trade_13 : decode cX4_trade 13 = .ok (.ldc 33, 2) := by decide +kernel
theorem dX4_trade_15 : decode cX4_trade 15 = .ok (.ireturn, 1) := by decide +kernel
theorem dX4_trade_16 : decode cX4_trade 16 = .ok (.aload_n 0, 1) := by decide +kernel
theorem dX4_trade_17 : decode cX4_trade 17 = .ok (.getfield 10, 3) := by decide +kernel
theorem dX4_trade_20 : decode cX4_trade 20 = .ok (.aload_n 2, 1) := by decide +kernel
theorem dX4_trade_21 : decode cX4_trade 21 = .ok (.getfield 69, 3) := by decide +kernel
theorem dX4_trade_24 : decode cX4_trade 24 = .ok (.invokevirtual 51, 3) := by decide +kernel
theorem dX4_trade_27 : decode cX4_trade 27 = .ok (.astore_n 3, 1) := by decide +kernel
theorem dX4_trade_28 : decode cX4_trade 28 = .ok (.aload_n 3, 1) := by decide +kernel
theorem dX4_trade_29 : decode cX4_trade 29 = .ok (.ifnonnull 9, 3) := by decide +kernel
theorem dX4_trade_32 : decode cX4_trade 32 = .ok (.aload_n 0, 1) := by decide +kernel
theorem dX4_trade_33 : decode cX4_trade 33 = .ok (.iconst 1, 1) := by decide +kernel
theorem dX4_trade_34 : decode cX4_trade 34 = .ok (.invokevirtual 72, 3) := by decide +kernel
theorem dX4_trade_37 : decode cX4_trade 37 = .ok (.ireturn, 1) := by decide +kernel
theorem dX4_trade_38 : decode cX4_trade 38 = .ok (.aload_n 0, 1) := by decide +kernel
theorem dX4_trade_39 : decode cX4_trade 39 = .ok (.iconst 0, 1) := by decide +kernel
theorem dX4_trade_40 : decode cX4_trade 40 = .ok (.invokevirtual 76, 3) := by decide +kernel
theorem dX4_trade_43 : decode cX4_trade 43 = .ok (.pop, 1) := by decide +kernel
theorem dX4_trade_44 : decode cX4_trade 44 = .ok (.aload_n 2, 1) := by decide +kernel
theorem dX4_trade_45 : decode cX4_trade 45 = .ok (.getfield 63, 3) := by decide +kernel
theorem dX4_trade_48 : decode cX4_trade 48 = .ok (.istore 4, 2) := by decide +kernel
theorem dX4_trade_50 : decode cX4_trade 50 = .ok (.aload_n 2, 1) := by decide +kernel
theorem dX4_trade_51 : decode cX4_trade 51 = .ok (.aload_n 3, 1) := by decide +kernel
theorem dX4_trade_52 : decode cX4_trade 52 = .ok (.getfield 63, 3) := by decide +kernel
theorem dX4_trade_55 : decode cX4_trade 55 = .ok (.putfield 63, 3) := by decide +kernel
theorem dX4_trade_58 : decode cX4_trade 58 = .ok (.aload_n 3, 1) := by decide +kernel
theorem dX4_trade_59 : decode cX4_trade 59 = .ok (.iload 4, 2) := by decide +kernel
theorem dX4_trade_61 : decode cX4_trade 61 = .ok (.putfield 63, 3) := by decide +kernel
theorem dX4_trade_64 : decode cX4_trade 64 = .ok (.aload_n 2, 1) := by decide +kernel
theorem dX4_trade_65 : decode cX4_trade 65 = .ok (.getfield 63, 3) := by decide +kernel
theorem dX4_trade_68 : decode cX4_trade 68 = .ok (.ireturn, 1) := by decide +kernel
set_option maxRecDepth 20000 in
theorem ggX4_hold_X1_find : GoodIn wsX4_hold wsX1_find := goodIn_r _ [11, 12, 13, 53, 54] (by decide +kernel) (by decide +kernel)
set_option maxRecDepth 20000 in
theorem gX4_hold_X1_find : GoodIn wsX4_hold (wsV RX4 51 RX1 yX1_find wsX1_find) := goodIn_app (goodIn_of _ (by decide +kernel)) ggX4_hold_X1_find
set_option maxRecDepth 20000 in
theorem ggX4_hold_X4_tell : GoodIn wsX4_hold wsX4_tell := goodIn_r _ [18, 19, 20, 21, 22, 23, 42, 43, 44, 45, 46, 55, 56, 57, 58, 59, 60] (by decide +kernel) (by decide +kernel)
set_option maxRecDepth 20000 in
theorem gX4_hold_X4_tell : GoodIn wsX4_hold (wsV RX4 76 RX4 yX4_tell wsX4_tell) := goodIn_app (goodIn_of _ (by decide +kernel)) ggX4_hold_X4_tell
set_option maxRecDepth 20000 in
theorem ggX4_hold_X4_refuse : GoodIn wsX4_hold wsX4_refuse := goodIn_r _ [27, 14, 15, 16, 17, 18, 19, 20, 21, 22, 23, 42, 43, 44, 45, 46, 55, 56, 57, 58, 59, 60] (by decide +kernel) (by decide +kernel)
set_option maxRecDepth 20000 in
theorem gX4_hold_X4_refuse : GoodIn wsX4_hold (wsV RX4 72 RX4 yX4_refuse wsX4_refuse) := goodIn_app (goodIn_of _ (by decide +kernel)) ggX4_hold_X4_refuse
set_option maxRecDepth 20000 in
theorem ggX4_hold_X0_init : GoodIn wsX4_hold wsX0_init := goodIn_r _ [30, 31, 32, 33, 34, 35, 36, 37, 38, 39, 40, 41, 51, 52] (by decide +kernel) (by decide +kernel)
set_option maxRecDepth 20000 in
theorem gX4_hold_X0_init : GoodIn wsX4_hold (wsX0_init) := ggX4_hold_X0_init
theorem dX4_hold_0 : decode cX4_hold 0 = .ok (.aload_n 0, 1) := by decide +kernel
theorem dX4_hold_1 : decode cX4_hold 1 = .ok (.getfield 10, 3) := by decide +kernel
theorem dX4_hold_4 : decode cX4_hold 4 = .ok (.iload_n 1, 1) := by decide +kernel
theorem dX4_hold_5 : decode cX4_hold 5 = .ok (.invokevirtual 51, 3) := by decide +kernel
theorem dX4_hold_8 : decode cX4_hold 8 = .ok (.astore 4, 2) := by decide +kernel
theorem dX4_hold_10 : decode cX4_hold 10 = .ok (.aload 4, 2) := by decide +kernel
theorem dX4_hold_12 : decode cX4_hold 12 = .ok (.ifnull 19, 3) := by decide +kernel
theorem dX4_hold_15 : decode cX4_hold 15 = .ok (.iload_n 2, 1) := by decide +kernel
theorem dX4_hold_16 : decode cX4_hold 16 = .ok (.iconst (-1), 1) := by decide +kernel
theorem dX4_hold_17 : decode cX4_hold 17 = .ok (.if_icmp .lt 14, 3) := by decide +kernel
theorem dX4_hold_20 : decode cX4_hold 20 = .ok (.iload_n 2, 1) := by decide +kernel
theorem dX4_hold_21 : decode cX4_hold 21 = .ok (.iconst 3, 1) := by decide +kernel
theorem dX4_hold_22 : decode cX4_hold 22 = .ok (.if_icmp .gt 9, 3) := by decide +kernel
theorem dX4_hold_25 : decode cX4_hold 25 = .ok (.iload_n 3, 1) := by decide +kernel
theorem dX4_hold_26 : decode cX4_hold 26 = .ok (.bipush 12, 2) := by decide +kernel
theorem dX4_hold_28 : decode cX4_hold 28 = .ok (.if_icmp .le 6, 3) := by decide +kernel
theorem dX4_hold_31 : decode cX4_hold 31 = .ok (.ldc 33, 2) := by decide +kernel
theorem dX4_hold_33 : decode cX4_hold 33 = .ok (.ireturn, 1) := by decide +kernel
theorem dX4_hold_34 : decode cX4_hold 34 = .ok (.iload_n 2, 1) := by decide +kernel
theorem dX4_hold_35 : decode cX4_hold 35 = .ok (.iconst (-1), 1) := by decide +kernel
theorem dX4_hold_36 : decode cX4_hold 36 = .ok (.if_icmp .ne 17, 3) := by decide +kernel
theorem dX4_hold_39 : decode cX4_hold 39 = .ok (.aload_n 0, 1) := by decide +kernel
theorem dX4_hold_40 : decode cX4_hold 40 = .ok (.iconst 0, 1) := by decide +kernel
theorem dX4_hold_41 : decode cX4_hold 41 = .ok (.invokevirtual 76, 3) := by decide +kernel
theorem dX4_hold_44 : decode cX4_hold 44 = .ok (.pop, 1) := by decide +kernel
theorem dX4_hold_45 : decode cX4_hold 45 = .ok (.aload 4, 2) := by decide +kernel
theorem dX4_hold_47 : decode cX4_hold 47 = .ok (.aconst_null, 1) := by decide +kernel
theorem dX4_hold_48 : decode cX4_hold 48 = .ok (.putfield 79, 3) := by decide +kernel
theorem dX4_hold_51 : decode cX4_hold 51 = .ok (.iconst 0, 1) := by decide +kernel
theorem dX4_hold_52 : decode cX4_hold 52 = .ok (.ireturn, 1) := by decide +kernel
theorem dX4_hold_53 : decode cX4_hold 53 = .ok (.iload_n 3, 1) := by decide +kernel
theorem dX4_hold_54 : decode cX4_hold 54 = .ok (.ifCond .ge 9, 3) := by decide +kernel
theorem dX4_hold_57 : decode cX4_hold 57 = .ok (.aload_n 0, 1) := by decide +kernel
theorem dX4_hold_58 : decode cX4_hold 58 = .ok (.iconst 4, 1) := by decide +kernel
theorem dX4_hold_59 : decode cX4_hold 59 = .ok (.invokevirtual 72, 3) := by decide +kernel
theorem dX4_hold_62 : decode cX4_hold 62 = .ok (.ireturn, 1) := by decide +kernel
theorem dX4_hold_63 : decode cX4_hold 63 = .ok (.aload_n 0, 1) := by decide +kernel
theorem dX4_hold_64 : decode cX4_hold 64 = .ok (.iconst 0, 1) := by decide +kernel
theorem dX4_hold_65 : decode cX4_hold 65 = .ok (.invokevirtual 76, 3) := by decide +kernel
theorem dX4_hold_68 : decode cX4_hold 68 = .ok (.pop, 1) := by decide +kernel
theorem dX4_hold_69 : decode cX4_hold 69 = .ok (.aload 4, 2) := by decide +kernel
theorem dX4_hold_71 : decode cX4_hold 71 = .ok (.new 83, 3) := by decide +kernel
theorem dX4_hold_74 : decode cX4_hold 74 = .ok (.dup, 1) := by decide +kernel
theorem dX4_hold_75 : decode cX4_hold 75 = .ok (.iload_n 2, 1) := by decide +kernel
theorem dX4_hold_76 : decode cX4_hold 76 = .ok (.iload_n 3, 1) := by decide +kernel
theorem dX4_hold_77 : decode cX4_hold 77 = .ok (.invokespecial 85, 3) := by decide +kernel
theorem dX4_hold_80 : decode cX4_hold 80 = .ok (.putfield 79, 3) := by decide +kernel
theorem dX4_hold_83 : decode cX4_hold 83 = .ok (.iload_n 3, 1) := by decide +kernel
theorem dX4_hold_84 : decode cX4_hold 84 = .ok (.ireturn, 1) := by decide +kernel
set_option maxRecDepth 20000 in
theorem ggX4_share_X1_find : GoodIn wsX4_share wsX1_find := goodIn_r _ [8, 9, 10, 27, 28] (by decide +kernel) (by decide +kernel)
set_option maxRecDepth 20000 in
theorem gX4_share_X1_find : GoodIn wsX4_share (wsV RX4 51 RX1 yX1_find wsX1_find) := goodIn_app (goodIn_of _ (by decide +kernel)) ggX4_share_X1_find
set_option maxRecDepth 20000 in
theorem ggX4_share_X2_heldSort : GoodIn wsX4_share wsX2_heldSort := goodIn_r _ [15, 16, 17, 23, 24, 25, 26, 29, 30] (by decide +kernel) (by decide +kernel)
set_option maxRecDepth 20000 in
theorem gX4_share_X2_heldSort : GoodIn wsX4_share (wsV RX4 88 RX2 yX2_heldSort wsX2_heldSort) := goodIn_app (goodIn_of _ (by decide +kernel)) ggX4_share_X2_heldSort
theorem dX4_share_0 : decode cX4_share 0 = .ok (.aload_n 0, 1) := by decide +kernel
theorem dX4_share_1 : decode cX4_share 1 = .ok (.getfield 10, 3) := by decide +kernel
theorem dX4_share_4 : decode cX4_share 4 = .ok (.iload_n 1, 1) := by decide +kernel
theorem dX4_share_5 : decode cX4_share 5 = .ok (.invokevirtual 51, 3) := by decide +kernel
theorem dX4_share_8 : decode cX4_share 8 = .ok (.astore_n 3, 1) := by decide +kernel
theorem dX4_share_9 : decode cX4_share 9 = .ok (.aload_n 0, 1) := by decide +kernel
theorem dX4_share_10 : decode cX4_share 10 = .ok (.getfield 10, 3) := by decide +kernel
theorem dX4_share_13 : decode cX4_share 13 = .ok (.iload_n 2, 1) := by decide +kernel
theorem dX4_share_14 : decode cX4_share 14 = .ok (.invokevirtual 51, 3) := by decide +kernel
theorem dX4_share_17 : decode cX4_share 17 = .ok (.astore 4, 2) := by decide +kernel
theorem dX4_share_19 : decode cX4_share 19 = .ok (.aload_n 3, 1) := by decide +kernel
theorem dX4_share_20 : decode cX4_share 20 = .ok (.ifnull 8, 3) := by decide +kernel
theorem dX4_share_23 : decode cX4_share 23 = .ok (.aload 4, 2) := by decide +kernel
theorem dX4_share_25 : decode cX4_share 25 = .ok (.ifnonnull 6, 3) := by decide +kernel
theorem dX4_share_28 : decode cX4_share 28 = .ok (.ldc 33, 2) := by decide +kernel
theorem dX4_share_30 : decode cX4_share 30 = .ok (.ireturn, 1) := by decide +kernel
theorem dX4_share_31 : decode cX4_share 31 = .ok (.aload_n 3, 1) := by decide +kernel
theorem dX4_share_32 : decode cX4_share 32 = .ok (.aload 4, 2) := by decide +kernel
theorem dX4_share_34 : decode cX4_share 34 = .ok (.getfield 79, 3) := by decide +kernel
theorem dX4_share_37 : decode cX4_share 37 = .ok (.putfield 79, 3) := by decide +kernel
theorem dX4_share_40 : decode cX4_share 40 = .ok (.aload_n 3, 1) := by decide +kernel
theorem dX4_share_41 : decode cX4_share 41 = .ok (.invokevirtual 88, 3) := by decide +kernel
theorem dX4_share_44 : decode cX4_share 44 = .ok (.ireturn, 1) := by decide +kernel
set_option maxRecDepth 20000 in
theorem ggX4_holds_X1_find : GoodIn wsX4_holds wsX1_find := goodIn_r _ [7, 8, 9, 22, 23] (by decide +kernel) (by decide +kernel)
set_option maxRecDepth 20000 in
theorem gX4_holds_X1_find : GoodIn wsX4_holds (wsV RX4 51 RX1 yX1_find wsX1_find) := goodIn_app (goodIn_of _ (by decide +kernel)) ggX4_holds_X1_find
set_option maxRecDepth 20000 in
theorem ggX4_holds_X2_heldSort : GoodIn wsX4_holds wsX2_heldSort := goodIn_r _ [14, 15, 16, 24, 25, 26, 27, 28, 29] (by decide +kernel) (by decide +kernel)
set_option maxRecDepth 20000 in
theorem gX4_holds_X2_heldSort : GoodIn wsX4_holds (wsV RX4 88 RX2 yX2_heldSort wsX2_heldSort) := goodIn_app (goodIn_of _ (by decide +kernel)) ggX4_holds_X2_heldSort
theorem dX4_holds_0 : decode cX4_holds 0 = .ok (.aload_n 0, 1) := by decide +kernel
theorem dX4_holds_1 : decode cX4_holds 1 = .ok (.getfield 10, 3) := by decide +kernel
theorem dX4_holds_4 : decode cX4_holds 4 = .ok (.iload_n 1, 1) := by decide +kernel
theorem dX4_holds_5 : decode cX4_holds 5 = .ok (.invokevirtual 51, 3) := by decide +kernel
theorem dX4_holds_8 : decode cX4_holds 8 = .ok (.astore_n 2, 1) := by decide +kernel
theorem dX4_holds_9 : decode cX4_holds 9 = .ok (.aload_n 2, 1) := by decide +kernel
theorem dX4_holds_10 : decode cX4_holds 10 = .ok (.ifnonnull 8, 3) := by decide +kernel
theorem dX4_holds_13 : decode cX4_holds 13 = .ok (.ldc 33, 2) := by decide +kernel
theorem dX4_holds_15 : decode cX4_holds 15 = .ok (.goto 7, 3) := by decide +kernel
theorem dX4_holds_18 : decode cX4_holds 18 = .ok (.aload_n 2, 1) := by decide +kernel
theorem dX4_holds_19 : decode cX4_holds 19 = .ok (.invokevirtual 88, 3) := by decide +kernel
theorem dX4_holds_22 : decode cX4_holds 22 = .ok (.ireturn, 1) := by decide +kernel
set_option maxRecDepth 20000 in
theorem ggX4_size_X1_find : GoodIn wsX4_size wsX1_find := goodIn_r _ [9, 10, 11, 37, 38] (by decide +kernel) (by decide +kernel)
set_option maxRecDepth 20000 in
theorem gX4_size_X1_find : GoodIn wsX4_size (wsV RX4 51 RX1 yX1_find wsX1_find) := goodIn_app (goodIn_of _ (by decide +kernel)) ggX4_size_X1_find
set_option maxRecDepth 20000 in
theorem ggX4_size_X4_refuse : GoodIn wsX4_size wsX4_refuse := goodIn_r _ [16, 17, 18, 19, 15, 20, 21, 22, 23, 24, 25, 26, 27, 28, 29, 30, 39, 40, 41, 42, 43, 44] (by decide +kernel) (by decide +kernel)
set_option maxRecDepth 20000 in
theorem gX4_size_X4_refuse : GoodIn wsX4_size (wsV RX4 72 RX4 yX4_refuse wsX4_refuse) := goodIn_app (goodIn_of _ (by decide +kernel)) ggX4_size_X4_refuse
set_option maxRecDepth 20000 in
theorem ggX4_size_X4_tell : GoodIn wsX4_size wsX4_tell := goodIn_r _ [20, 21, 22, 23, 24, 25, 26, 27, 28, 29, 30, 39, 40, 41, 42, 43, 44] (by decide +kernel) (by decide +kernel)
set_option maxRecDepth 20000 in
theorem gX4_size_X4_tell : GoodIn wsX4_size (wsV RX4 76 RX4 yX4_tell wsX4_tell) := goodIn_app (goodIn_of _ (by decide +kernel)) ggX4_size_X4_tell
theorem dX4_size_0 : decode cX4_size 0 = .ok (.aload_n 0, 1) := by decide +kernel
theorem dX4_size_1 : decode cX4_size 1 = .ok (.getfield 10, 3) := by decide +kernel
theorem dX4_size_4 : decode cX4_size 4 = .ok (.iload_n 1, 1) := by decide +kernel
theorem dX4_size_5 : decode cX4_size 5 = .ok (.invokevirtual 51, 3) := by decide +kernel
theorem dX4_size_8 : decode cX4_size 8 = .ok (.astore_n 2, 1) := by decide +kernel
theorem dX4_size_9 : decode cX4_size 9 = .ok (.aload_n 2, 1) := by decide +kernel
theorem dX4_size_10 : decode cX4_size 10 = .ok (.ifnonnull 6, 3) := by decide +kernel
theorem dX4_size_13 : decode cX4_size 13 = .ok (.ldc 33, 2) := by decide +kernel
theorem dX4_size_15 : decode cX4_size 15 = .ok (.ireturn, 1) := by decide +kernel
theorem dX4_size_16 : decode cX4_size 16 = .ok (.aload_n 2, 1) := by decide +kernel
theorem dX4_size_17 : decode cX4_size 17 = .ok (.getfield 79, 3) := by decide +kernel
theorem dX4_size_20 : decode cX4_size 20 = .ok (.astore_n 3, 1) := by decide +kernel
theorem dX4_size_21 : decode cX4_size 21 = .ok (.aload_n 3, 1) := by decide +kernel
theorem dX4_size_22 : decode cX4_size 22 = .ok (.ifnonnull 9, 3) := by decide +kernel
theorem dX4_size_25 : decode cX4_size 25 = .ok (.aload_n 0, 1) := by decide +kernel
theorem dX4_size_26 : decode cX4_size 26 = .ok (.iconst 1, 1) := by decide +kernel
theorem dX4_size_27 : decode cX4_size 27 = .ok (.invokevirtual 72, 3) := by decide +kernel
theorem dX4_size_30 : decode cX4_size 30 = .ok (.ireturn, 1) := by decide +kernel
theorem dX4_size_31 : decode cX4_size 31 = .ok (.aload_n 0, 1) := by decide +kernel
theorem dX4_size_32 : decode cX4_size 32 = .ok (.iconst 0, 1) := by decide +kernel
theorem dX4_size_33 : decode cX4_size 33 = .ok (.invokevirtual 76, 3) := by decide +kernel
theorem dX4_size_36 : decode cX4_size 36 = .ok (.pop, 1) := by decide +kernel
theorem dX4_size_37 : decode cX4_size 37 = .ok (.aload_n 3, 1) := by decide +kernel
theorem dX4_size_38 : decode cX4_size 38 = .ok (.getfield 92, 3) := by decide +kernel
theorem dX4_size_41 : decode cX4_size 41 = .ok (.arraylength, 1) := by decide +kernel
theorem dX4_size_42 : decode cX4_size 42 = .ok (.ireturn, 1) := by decide +kernel
set_option maxRecDepth 20000 in
theorem ggX4_at_X1_find : GoodIn wsX4_at wsX1_find := goodIn_r _ [9, 10, 11, 47, 48] (by decide +kernel) (by decide +kernel)
set_option maxRecDepth 20000 in
theorem gX4_at_X1_find : GoodIn wsX4_at (wsV RX4 51 RX1 yX1_find wsX1_find) := goodIn_app (goodIn_of _ (by decide +kernel)) ggX4_at_X1_find
set_option maxRecDepth 20000 in
theorem ggX4_at_X4_againstItem : GoodIn wsX4_at wsX4_againstItem := goodIn_r _ [15, 16, 17, 18, 19, 20, 21, 22, 45, 46] (by decide +kernel) (by decide +kernel)
set_option maxRecDepth 20000 in
theorem gX4_at_X4_againstItem : GoodIn wsX4_at (va_wsS RX4 98 yX4_againstItem wsX4_againstItem) := goodIn_app (goodIn_of _ (by decide +kernel)) ggX4_at_X4_againstItem
set_option maxRecDepth 20000 in
theorem ggX4_at_X4_refuse : GoodIn wsX4_at wsX4_refuse := goodIn_r _ [26, 27, 28, 29, 14, 30, 31, 32, 33, 34, 35, 36, 37, 38, 39, 40, 49, 50, 51, 52, 53, 54] (by decide +kernel) (by decide +kernel)
set_option maxRecDepth 20000 in
theorem gX4_at_X4_refuse : GoodIn wsX4_at (wsV RX4 72 RX4 yX4_refuse wsX4_refuse) := goodIn_app (goodIn_of _ (by decide +kernel)) ggX4_at_X4_refuse
set_option maxRecDepth 20000 in
theorem ggX4_at_X4_tell : GoodIn wsX4_at wsX4_tell := goodIn_r _ [30, 31, 32, 33, 34, 35, 36, 37, 38, 39, 40, 49, 50, 51, 52, 53, 54] (by decide +kernel) (by decide +kernel)
set_option maxRecDepth 20000 in
theorem gX4_at_X4_tell : GoodIn wsX4_at (wsV RX4 76 RX4 yX4_tell wsX4_tell) := goodIn_app (goodIn_of _ (by decide +kernel)) ggX4_at_X4_tell
theorem dX4_at_0 : decode cX4_at 0 = .ok (.aload_n 0, 1) := by decide +kernel
theorem dX4_at_1 : decode cX4_at 1 = .ok (.getfield 10, 3) := by decide +kernel
theorem dX4_at_4 : decode cX4_at 4 = .ok (.iload_n 1, 1) := by decide +kernel
theorem dX4_at_5 : decode cX4_at 5 = .ok (.invokevirtual 51, 3) := by decide +kernel
theorem dX4_at_8 : decode cX4_at 8 = .ok (.astore_n 3, 1) := by decide +kernel
theorem dX4_at_9 : decode cX4_at 9 = .ok (.aload_n 3, 1) := by decide +kernel
theorem dX4_at_10 : decode cX4_at 10 = .ok (.ifnonnull 7, 3) := by decide +kernel
theorem dX4_at_13 : decode cX4_at 13 = .ok (.ldc2_w 96, 3) := by decide +kernel
theorem dX4_at_16 : decode cX4_at 16 = .ok (.lreturn, 1) := by decide +kernel
theorem dX4_at_17 : decode cX4_at 17 = .ok (.aload_n 3, 1) := by decide +kernel
theorem dX4_at_18 : decode cX4_at 18 = .ok (.getfield 79, 3) := by decide +kernel
theorem dX4_at_21 : decode cX4_at 21 = .ok (.astore 4, 2) := by decide +kernel
theorem dX4_at_23 : decode cX4_at 23 = .ok (.aload 4, 2) := by decide +kernel
theorem dX4_at_25 : decode cX4_at 25 = .ok (.iconst 0, 1) := by decide +kernel
theorem dX4_at_26 : decode cX4_at 26 = .ok (.iconst 3, 1) := by decide +kernel
theorem dX4_at_27 : decode cX4_at 27 = .ok (.iload_n 2, 1) := by decide +kernel
theorem dX4_at_28 : decode cX4_at 28 = .ok (.invokestatic 98, 3) := by decide +kernel
theorem dX4_at_31 : decode cX4_at 31 = .ok (.istore 5, 2) := by decide +kernel
theorem dX4_at_33 : decode cX4_at 33 = .ok (.iload 5, 2) := by decide +kernel
theorem dX4_at_35 : decode cX4_at 35 = .ok (.ifCond .eq 11, 3) := by decide +kernel
theorem dX4_at_38 : decode cX4_at 38 = .ok (.aload_n 0, 1) := by decide +kernel
theorem dX4_at_39 : decode cX4_at 39 = .ok (.iload 5, 2) := by decide +kernel
theorem dX4_at_41 : decode cX4_at 41 = .ok (.invokevirtual 72, 3) := by decide +kernel
theorem dX4_at_44 : decode cX4_at 44 = .ok (.i2l, 1) := by decide +kernel
theorem dX4_at_45 : decode cX4_at 45 = .ok (.lreturn, 1) := by decide +kernel
theorem dX4_at_46 : decode cX4_at 46 = .ok (.aload_n 0, 1) := by decide +kernel
theorem dX4_at_47 : decode cX4_at 47 = .ok (.iconst 0, 1) := by decide +kernel
theorem dX4_at_48 : decode cX4_at 48 = .ok (.invokevirtual 76, 3) := by decide +kernel
theorem dX4_at_51 : decode cX4_at 51 = .ok (.pop, 1) := by decide +kernel
theorem dX4_at_52 : decode cX4_at 52 = .ok (.aload 4, 2) := by decide +kernel
theorem dX4_at_54 : decode cX4_at 54 = .ok (.getfield 92, 3) := by decide +kernel
theorem dX4_at_57 : decode cX4_at 57 = .ok (.iload_n 2, 1) := by decide +kernel
theorem dX4_at_58 : decode cX4_at 58 = .ok (.laload, 1) := by decide +kernel
theorem dX4_at_59 : decode cX4_at 59 = .ok (.lreturn, 1) := by decide +kernel
set_option maxRecDepth 20000 in
theorem ggX4_lay_X1_find : GoodIn wsX4_lay wsX1_find := goodIn_r _ [9, 10, 11, 50, 51] (by decide +kernel) (by decide +kernel)
set_option maxRecDepth 20000 in
theorem gX4_lay_X1_find : GoodIn wsX4_lay (wsV RX4 51 RX1 yX1_find wsX1_find) := goodIn_app (goodIn_of _ (by decide +kernel)) ggX4_lay_X1_find
set_option maxRecDepth 20000 in
theorem ggX4_lay_X4_againstItem : GoodIn wsX4_lay wsX4_againstItem := goodIn_r _ [15, 4, 16, 17, 18, 19, 20, 21, 48, 49] (by decide +kernel) (by decide +kernel)
set_option maxRecDepth 20000 in
theorem gX4_lay_X4_againstItem : GoodIn wsX4_lay (va_wsS RX4 98 yX4_againstItem wsX4_againstItem) := goodIn_app (goodIn_of _ (by decide +kernel)) ggX4_lay_X4_againstItem
set_option maxRecDepth 20000 in
theorem ggX4_lay_X4_refuse : GoodIn wsX4_lay wsX4_refuse := goodIn_r _ [25, 26, 27, 28, 14, 29, 30, 31, 32, 33, 34, 39, 40, 41, 42, 43, 52, 53, 54, 55, 56, 57] (by decide +kernel) (by decide +kernel)
set_option maxRecDepth 20000 in
theorem gX4_lay_X4_refuse : GoodIn wsX4_lay (wsV RX4 72 RX4 yX4_refuse wsX4_refuse) := goodIn_app (goodIn_of _ (by decide +kernel)) ggX4_lay_X4_refuse
set_option maxRecDepth 20000 in
theorem ggX4_lay_X4_tell : GoodIn wsX4_lay wsX4_tell := goodIn_r _ [29, 30, 31, 32, 33, 34, 39, 40, 41, 42, 43, 52, 53, 54, 55, 56, 57] (by decide +kernel) (by decide +kernel)
set_option maxRecDepth 20000 in
theorem gX4_lay_X4_tell : GoodIn wsX4_lay (wsV RX4 76 RX4 yX4_tell wsX4_tell) := goodIn_app (goodIn_of _ (by decide +kernel)) ggX4_lay_X4_tell
set_option maxRecDepth 20000 in
theorem ggX4_lay_X0_put : GoodIn wsX4_lay wsX0_put := goodIn_r _ [38, 21, 48, 49] (by decide +kernel) (by decide +kernel)
set_option maxRecDepth 20000 in
theorem gX4_lay_X0_put : GoodIn wsX4_lay (wsV RX4 105 RX0 yX0_put wsX0_put) := goodIn_app (goodIn_of _ (by decide +kernel)) ggX4_lay_X0_put
theorem dX4_lay_0 : decode cX4_lay 0 = .ok (.aload_n 0, 1) := by decide +kernel
theorem dX4_lay_1 : decode cX4_lay 1 = .ok (.getfield 10, 3) := by decide +kernel
theorem dX4_lay_4 : decode cX4_lay 4 = .ok (.iload_n 1, 1) := by decide +kernel
theorem dX4_lay_5 : decode cX4_lay 5 = .ok (.invokevirtual 51, 3) := by decide +kernel
theorem dX4_lay_8 : decode cX4_lay 8 = .ok (.astore 5, 2) := by decide +kernel
theorem dX4_lay_10 : decode cX4_lay 10 = .ok (.aload 5, 2) := by decide +kernel
theorem dX4_lay_12 : decode cX4_lay 12 = .ok (.ifnonnull 7, 3) := by decide +kernel
theorem dX4_lay_15 : decode cX4_lay 15 = .ok (.ldc2_w 96, 3) := by decide +kernel
theorem dX4_lay_18 : decode cX4_lay 18 = .ok (.lreturn, 1) := by decide +kernel
theorem dX4_lay_19 : decode cX4_lay 19 = .ok (.aload 5, 2) := by decide +kernel
theorem dX4_lay_21 : decode cX4_lay 21 = .ok (.getfield 79, 3) := by decide +kernel
theorem dX4_lay_24 : decode cX4_lay 24 = .ok (.astore 6, 2) := by decide +kernel
theorem dX4_lay_26 : decode cX4_lay 26 = .ok (.aload 6, 2) := by decide +kernel
theorem dX4_lay_28 : decode cX4_lay 28 = .ok (.iconst 0, 1) := by decide +kernel
theorem dX4_lay_29 : decode cX4_lay 29 = .ok (.iconst 1, 1) := by decide +kernel
theorem dX4_lay_30 : decode cX4_lay 30 = .ok (.iload_n 2, 1) := by decide +kernel
theorem dX4_lay_31 : decode cX4_lay 31 = .ok (.invokestatic 98, 3) := by decide +kernel
theorem dX4_lay_34 : decode cX4_lay 34 = .ok (.istore 7, 2) := by decide +kernel
theorem dX4_lay_36 : decode cX4_lay 36 = .ok (.iload 7, 2) := by decide +kernel
theorem dX4_lay_38 : decode cX4_lay 38 = .ok (.ifCond .eq 11, 3) := by decide +kernel
theorem dX4_lay_41 : decode cX4_lay 41 = .ok (.aload_n 0, 1) := by decide +kernel
theorem dX4_lay_42 : decode cX4_lay 42 = .ok (.iload 7, 2) := by decide +kernel
theorem dX4_lay_44 : decode cX4_lay 44 = .ok (.invokevirtual 72, 3) := by decide +kernel
theorem dX4_lay_47 : decode cX4_lay 47 = .ok (.i2l, 1) := by decide +kernel
theorem dX4_lay_48 : decode cX4_lay 48 = .ok (.lreturn, 1) := by decide +kernel
theorem dX4_lay_49 : decode cX4_lay 49 = .ok (.aload_n 0, 1) := by decide +kernel
theorem dX4_lay_50 : decode cX4_lay 50 = .ok (.iconst 0, 1) := by decide +kernel
theorem dX4_lay_51 : decode cX4_lay 51 = .ok (.invokevirtual 76, 3) := by decide +kernel
theorem dX4_lay_54 : decode cX4_lay 54 = .ok (.pop, 1) := by decide +kernel
theorem dX4_lay_55 : decode cX4_lay 55 = .ok (.aload 6, 2) := by decide +kernel
theorem dX4_lay_57 : decode cX4_lay 57 = .ok (.iload_n 2, 1) := by decide +kernel
theorem dX4_lay_58 : decode cX4_lay 58 = .ok (.aload 6, 2) := by decide +kernel
theorem dX4_lay_60 : decode cX4_lay 60 = .ok (.getfield 102, 3) := by decide +kernel
theorem dX4_lay_63 : decode cX4_lay 63 = .ok (.ifCond .ne 9, 3) := by decide +kernel
theorem dX4_lay_66 : decode cX4_lay 66 = .ok (.lload_n 3, 1) := by decide +kernel
theorem dX4_lay_67 : decode cX4_lay 67 = .ok (.l2i, 1) := by decide +kernel
theorem dX4_lay_68 : decode cX4_lay 68 = .ok (.i2l, 1) := by decide +kernel
theorem dX4_lay_69 : decode cX4_lay 69 = .ok (.goto 4, 3) := by decide +kernel
theorem dX4_lay_72 : decode cX4_lay 72 = .ok (.lload_n 3, 1) := by decide +kernel
theorem dX4_lay_73 : decode cX4_lay 73 = .ok (.invokevirtual 105, 3) := by decide +kernel
theorem dX4_lay_76 : decode cX4_lay 76 = .ok (.lreturn, 1) := by decide +kernel
set_option maxRecDepth 20000 in
theorem ggX4_set_X1_find : GoodIn wsX4_set wsX1_find := goodIn_r _ [9, 10, 11, 65, 66] (by decide +kernel) (by decide +kernel)
set_option maxRecDepth 20000 in
theorem gX4_set_X1_find : GoodIn wsX4_set (wsV RX4 51 RX1 yX1_find wsX1_find) := goodIn_app (goodIn_of _ (by decide +kernel)) ggX4_set_X1_find
set_option maxRecDepth 20000 in
theorem ggX4_set_X1_hasOrNone : GoodIn wsX4_set wsX1_hasOrNone := goodIn_r _ [15, 16, 6, 7, 8, 9, 10, 11, 65, 66] (by decide +kernel) (by decide +kernel)
set_option maxRecDepth 20000 in
theorem gX4_set_X1_hasOrNone : GoodIn wsX4_set (wsV RX4 66 RX1 yX1_hasOrNone wsX1_hasOrNone) := goodIn_app (goodIn_of _ (by decide +kernel)) ggX4_set_X1_hasOrNone
set_option maxRecDepth 20000 in
theorem ggX4_set_X4_againstItem : GoodIn wsX4_set wsX4_againstItem := goodIn_r _ [20, 4, 21, 22, 23, 24, 25, 26, 63, 64] (by decide +kernel) (by decide +kernel)
set_option maxRecDepth 20000 in
theorem gX4_set_X4_againstItem : GoodIn wsX4_set (va_wsS RX4 98 yX4_againstItem wsX4_againstItem) := goodIn_app (goodIn_of _ (by decide +kernel)) ggX4_set_X4_againstItem
set_option maxRecDepth 20000 in
theorem ggX4_set_X4_refuse : GoodIn wsX4_set wsX4_refuse := goodIn_r _ [30, 31, 32, 33, 19, 34, 35, 36, 37, 38, 39, 54, 55, 56, 57, 58, 67, 68, 69, 70, 71, 72] (by decide +kernel) (by decide +kernel)
set_option maxRecDepth 20000 in
theorem gX4_set_X4_refuse : GoodIn wsX4_set (wsV RX4 72 RX4 yX4_refuse wsX4_refuse) := goodIn_app (goodIn_of _ (by decide +kernel)) ggX4_set_X4_refuse
set_option maxRecDepth 20000 in
theorem ggX4_set_X1_isLeafOrNone : GoodIn wsX4_set wsX1_isLeafOrNone := goodIn_r _ [43, 16, 6, 7, 8, 9, 10, 11, 44, 45, 46, 47, 48, 49, 65, 66, 59, 60, 61, 62] (by decide +kernel) (by decide +kernel)
set_option maxRecDepth 20000 in
theorem gX4_set_X1_isLeafOrNone : GoodIn wsX4_set (wsV RX4 109 RX1 yX1_isLeafOrNone wsX1_isLeafOrNone) := goodIn_app (goodIn_of _ (by decide +kernel)) ggX4_set_X1_isLeafOrNone
set_option maxRecDepth 20000 in
theorem ggX4_set_X4_tell : GoodIn wsX4_set wsX4_tell := goodIn_r _ [34, 35, 36, 37, 38, 39, 54, 55, 56, 57, 58, 67, 68, 69, 70, 71, 72] (by decide +kernel) (by decide +kernel)
set_option maxRecDepth 20000 in
theorem gX4_set_X4_tell : GoodIn wsX4_set (wsV RX4 76 RX4 yX4_tell wsX4_tell) := goodIn_app (goodIn_of _ (by decide +kernel)) ggX4_set_X4_tell
set_option maxRecDepth 20000 in
theorem ggX4_set_X0_put : GoodIn wsX4_set wsX0_put := goodIn_r _ [53, 26, 63, 64] (by decide +kernel) (by decide +kernel)
set_option maxRecDepth 20000 in
theorem gX4_set_X0_put : GoodIn wsX4_set (wsV RX4 105 RX0 yX0_put wsX0_put) := goodIn_app (goodIn_of _ (by decide +kernel)) ggX4_set_X0_put
theorem dX4_set_0 : decode cX4_set 0 = .ok (.aload_n 0, 1) := by decide +kernel
theorem dX4_set_1 : decode cX4_set 1 = .ok (.getfield 10, 3) := by decide +kernel
theorem dX4_set_4 : decode cX4_set 4 = .ok (.iload_n 1, 1) := by decide +kernel
theorem dX4_set_5 : decode cX4_set 5 = .ok (.invokevirtual 51, 3) := by decide +kernel
theorem dX4_set_8 : decode cX4_set 8 = .ok (.astore 4, 2) := by decide +kernel
theorem dX4_set_10 : decode cX4_set 10 = .ok (.aload 4, 2) := by decide +kernel
theorem dX4_set_12 : decode cX4_set 12 = .ok (.ifnull 14, 3) := by decide +kernel
theorem dX4_set_15 : decode cX4_set 15 = .ok (.aload_n 0, 1) := by decide +kernel
theorem dX4_set_16 : decode cX4_set 16 = .ok (.getfield 10, 3) := by decide +kernel
theorem dX4_set_19 : decode cX4_set 19 = .ok (.iload_n 3, 1) := by decide +kernel
theorem dX4_set_20 : decode cX4_set 20 = .ok (.invokevirtual 66, 3) := by decide +kernel
theorem dX4_set_23 : decode cX4_set 23 = .ok (.ifCond .ne 6, 3) := by decide +kernel
theorem dX4_set_26 : decode cX4_set 26 = .ok (.ldc 33, 2) := by decide +kernel
theorem dX4_set_28 : decode cX4_set 28 = .ok (.ireturn, 1) := by decide +kernel
theorem dX4_set_29 : decode cX4_set 29 = .ok (.aload 4, 2) := by decide +kernel
theorem dX4_set_31 : decode cX4_set 31 = .ok (.getfield 79, 3) := by decide +kernel
theorem dX4_set_34 : decode cX4_set 34 = .ok (.astore 5, 2) := by decide +kernel
theorem dX4_set_36 : decode cX4_set 36 = .ok (.aload 5, 2) := by decide +kernel
theorem dX4_set_38 : decode cX4_set 38 = .ok (.iconst 2, 1) := by decide +kernel
theorem dX4_set_39 : decode cX4_set 39 = .ok (.iconst 3, 1) := by decide +kernel
theorem dX4_set_40 : decode cX4_set 40 = .ok (.iload_n 2, 1) := by decide +kernel
theorem dX4_set_41 : decode cX4_set 41 = .ok (.invokestatic 98, 3) := by decide +kernel
theorem dX4_set_44 : decode cX4_set 44 = .ok (.istore 6, 2) := by decide +kernel
theorem dX4_set_46 : decode cX4_set 46 = .ok (.iload 6, 2) := by decide +kernel
theorem dX4_set_48 : decode cX4_set 48 = .ok (.ifCond .eq 10, 3) := by decide +kernel
theorem dX4_set_51 : decode cX4_set 51 = .ok (.aload_n 0, 1) := by decide +kernel
theorem dX4_set_52 : decode cX4_set 52 = .ok (.iload 6, 2) := by decide +kernel
theorem dX4_set_54 : decode cX4_set 54 = .ok (.invokevirtual 72, 3) := by decide +kernel
theorem dX4_set_57 : decode cX4_set 57 = .ok (.ireturn, 1) := by decide +kernel
theorem dX4_set_58 : decode cX4_set 58 = .ok (.aload 5, 2) := by decide +kernel
theorem dX4_set_60 : decode cX4_set 60 = .ok (.getfield 102, 3) := by decide +kernel
theorem dX4_set_63 : decode cX4_set 63 = .ok (.iconst 3, 1) := by decide +kernel
theorem dX4_set_64 : decode cX4_set 64 = .ok (.if_icmp .ne 20, 3) := by decide +kernel
theorem dX4_set_67 : decode cX4_set 67 = .ok (.aload_n 0, 1) := by decide +kernel
theorem dX4_set_68 : decode cX4_set 68 = .ok (.getfield 10, 3) := by decide +kernel
theorem dX4_set_71 : decode cX4_set 71 = .ok (.iload_n 3, 1) := by decide +kernel
theorem dX4_set_72 : decode cX4_set 72 = .ok (.invokevirtual 109, 3) := by decide +kernel
theorem dX4_set_75 : decode cX4_set 75 = .ok (.ifCond .ne 9, 3) := by decide +kernel
theorem dX4_set_78 : decode cX4_set 78 = .ok (.aload_n 0, 1) := by decide +kernel
theorem dX4_set_79 : decode cX4_set 79 = .ok (.iconst 5, 1) := by decide +kernel
theorem dX4_set_80 : decode cX4_set 80 = .ok (.invokevirtual 72, 3) := by decide +kernel
theorem dX4_set_83 : decode cX4_set 83 = .ok (.ireturn, 1) := by decide +kernel
theorem dX4_set_84 : decode cX4_set 84 = .ok (.aload_n 0, 1) := by decide +kernel
theorem dX4_set_85 : decode cX4_set 85 = .ok (.iconst 0, 1) := by decide +kernel
theorem dX4_set_86 : decode cX4_set 86 = .ok (.invokevirtual 76, 3) := by decide +kernel
theorem dX4_set_89 : decode cX4_set 89 = .ok (.pop, 1) := by decide +kernel
theorem dX4_set_90 : decode cX4_set 90 = .ok (.aload 5, 2) := by decide +kernel
theorem dX4_set_92 : decode cX4_set 92 = .ok (.iload_n 2, 1) := by decide +kernel
theorem dX4_set_93 : decode cX4_set 93 = .ok (.iload_n 3, 1) := by decide +kernel
theorem dX4_set_94 : decode cX4_set 94 = .ok (.i2l, 1) := by decide +kernel
theorem dX4_set_95 : decode cX4_set 95 = .ok (.invokevirtual 105, 3) := by decide +kernel
theorem dX4_set_98 : decode cX4_set 98 = .ok (.l2i, 1) := by decide +kernel
theorem dX4_set_99 : decode cX4_set 99 = .ok (.ireturn, 1) := by decide +kernel
set_option maxRecDepth 20000 in
theorem ggX4_move_X1_find : GoodIn wsX4_move wsX1_find := goodIn_r _ [14, 15, 16, 71, 72] (by decide +kernel) (by decide +kernel)
set_option maxRecDepth 20000 in
theorem gX4_move_X1_find : GoodIn wsX4_move (wsV RX4 51 RX1 yX1_find wsX1_find) := goodIn_app (goodIn_of _ (by decide +kernel)) ggX4_move_X1_find
set_option maxRecDepth 20000 in
theorem ggX4_move_X4_againstMove : GoodIn wsX4_move wsX4_againstMove := goodIn_r _ [20, 4, 21, 22, 23, 24, 25, 26, 27, 28, 29, 30, 31, 69, 70] (by decide +kernel) (by decide +kernel)
set_option maxRecDepth 20000 in
theorem gX4_move_X4_againstMove : GoodIn wsX4_move (va_wsS RX4 112 yX4_againstMove wsX4_againstMove) := goodIn_app (goodIn_of _ (by decide +kernel)) ggX4_move_X4_againstMove
set_option maxRecDepth 20000 in
theorem ggX4_move_X4_refuse : GoodIn wsX4_move wsX4_refuse := goodIn_r _ [35, 36, 37, 38, 19, 39, 40, 41, 42, 43, 44, 60, 61, 62, 63, 64, 73, 74, 75, 76, 77, 78] (by decide +kernel) (by decide +kernel)
set_option maxRecDepth 20000 in
theorem gX4_move_X4_refuse : GoodIn wsX4_move (wsV RX4 72 RX4 yX4_refuse wsX4_refuse) := goodIn_app (goodIn_of _ (by decide +kernel)) ggX4_move_X4_refuse
set_option maxRecDepth 20000 in
theorem ggX4_move_X4_leavesAhead : GoodIn wsX4_move wsX4_leavesAhead := goodIn_r _ [48, 1, 5, 49, 50, 51, 13, 52, 53, 11, 12, 14, 15, 16, 54, 55, 56, 57, 58, 59, 60, 61, 62, 63, 64, 69, 70, 71, 72, 65, 66, 67, 68] (by decide +kernel) (by decide +kernel)
set_option maxRecDepth 20000 in
theorem gX4_move_X4_leavesAhead : GoodIn wsX4_move (wsV RX4 116 RX4 yX4_leavesAhead wsX4_leavesAhead) := goodIn_app (goodIn_of _ (by decide +kernel)) ggX4_move_X4_leavesAhead
set_option maxRecDepth 20000 in
theorem ggX4_move_X4_tell : GoodIn wsX4_move wsX4_tell := goodIn_r _ [39, 40, 41, 42, 43, 44, 60, 61, 62, 63, 64, 73, 74, 75, 76, 77, 78] (by decide +kernel) (by decide +kernel)
set_option maxRecDepth 20000 in
theorem gX4_move_X4_tell : GoodIn wsX4_move (wsV RX4 76 RX4 yX4_tell wsX4_tell) := goodIn_app (goodIn_of _ (by decide +kernel)) ggX4_move_X4_tell
theorem dX4_move_0 : decode cX4_move 0 = .ok (.aload_n 0, 1) := by decide +kernel
theorem dX4_move_1 : decode cX4_move 1 = .ok (.getfield 10, 3) := by decide +kernel
theorem dX4_move_4 : decode cX4_move 4 = .ok (.iload_n 1, 1) := by decide +kernel
theorem dX4_move_5 : decode cX4_move 5 = .ok (.invokevirtual 51, 3) := by decide +kernel
theorem dX4_move_8 : decode cX4_move 8 = .ok (.astore 6, 2) := by decide +kernel
theorem dX4_move_10 : decode cX4_move 10 = .ok (.aload_n 0, 1) := by decide +kernel
theorem dX4_move_11 : decode cX4_move 11 = .ok (.getfield 10, 3) := by decide +kernel
theorem dX4_move_14 : decode cX4_move 14 = .ok (.iload_n 3, 1) := by decide +kernel
theorem dX4_move_15 : decode cX4_move 15 = .ok (.invokevirtual 51, 3) := by decide +kernel
theorem dX4_move_18 : decode cX4_move 18 = .ok (.astore 7, 2) := by decide +kernel
theorem dX4_move_20 : decode cX4_move 20 = .ok (.aload 6, 2) := by decide +kernel
theorem dX4_move_22 : decode cX4_move 22 = .ok (.ifnull 8, 3) := by decide +kernel
theorem dX4_move_25 : decode cX4_move 25 = .ok (.aload 7, 2) := by decide +kernel
theorem dX4_move_27 : decode cX4_move 27 = .ok (.ifnonnull 6, 3) := by decide +kernel
theorem dX4_move_30 : decode cX4_move 30 = .ok (.ldc 33, 2) := by decide +kernel
theorem dX4_move_32 : decode cX4_move 32 = .ok (.ireturn, 1) := by decide +kernel
theorem dX4_move_33 : decode cX4_move 33 = .ok (.aload 6, 2) := by decide +kernel
theorem dX4_move_35 : decode cX4_move 35 = .ok (.getfield 79, 3) := by decide +kernel
theorem dX4_move_38 : decode cX4_move 38 = .ok (.astore 8, 2) := by decide +kernel
theorem dX4_move_40 : decode cX4_move 40 = .ok (.aload 7, 2) := by decide +kernel
theorem dX4_move_42 : decode cX4_move 42 = .ok (.getfield 79, 3) := by decide +kernel
theorem dX4_move_45 : decode cX4_move 45 = .ok (.astore 9, 2) := by decide +kernel
theorem dX4_move_47 : decode cX4_move 47 = .ok (.aload 8, 2) := by decide +kernel
theorem dX4_move_49 : decode cX4_move 49 = .ok (.iload_n 2, 1) := by decide +kernel
theorem dX4_move_50 : decode cX4_move 50 = .ok (.aload 9, 2) := by decide +kernel
theorem dX4_move_52 : decode cX4_move 52 = .ok (.iload 4, 2) := by decide +kernel
theorem dX4_move_54 : decode cX4_move 54 = .ok (.iload 5, 2) := by decide +kernel
theorem dX4_move_56 : decode cX4_move 56 = .ok (.invokestatic 112, 3) := by decide +kernel
theorem dX4_move_59 : decode cX4_move 59 = .ok (.istore 10, 2) := by decide +kernel
theorem dX4_move_61 : decode cX4_move 61 = .ok (.iload 10, 2) := by decide +kernel
theorem dX4_move_63 : decode cX4_move 63 = .ok (.ifCond .eq 10, 3) := by decide +kernel
theorem dX4_move_66 : decode cX4_move 66 = .ok (.aload_n 0, 1) := by decide +kernel
theorem dX4_move_67 : decode cX4_move 67 = .ok (.iload 10, 2) := by decide +kernel
theorem dX4_move_69 : decode cX4_move 69 = .ok (.invokevirtual 72, 3) := by decide +kernel
theorem dX4_move_72 : decode cX4_move 72 = .ok (.ireturn, 1) := by decide +kernel
theorem dX4_move_73 : decode cX4_move 73 = .ok (.aload 8, 2) := by decide +kernel
theorem dX4_move_75 : decode cX4_move 75 = .ok (.getfield 102, 3) := by decide +kernel
theorem dX4_move_78 : decode cX4_move 78 = .ok (.iconst 2, 1) := by decide +kernel
theorem dX4_move_79 : decode cX4_move 79 = .ok (.if_icmp .ne 24, 3) := by decide +kernel
theorem dX4_move_82 : decode cX4_move 82 = .ok (.aload 9, 2) := by decide +kernel
theorem dX4_move_84 : decode cX4_move 84 = .ok (.getfield 102, 3) := by decide +kernel
theorem dX4_move_87 : decode cX4_move 87 = .ok (.iconst 3, 1) := by decide +kernel
theorem dX4_move_88 : decode cX4_move 88 = .ok (.if_icmp .ne 15, 3) := by decide +kernel
theorem dX4_move_91 : decode cX4_move 91 = .ok (.aload_n 0, 1) := by decide +kernel
theorem dX4_move_92 : decode cX4_move 92 = .ok (.aload 8, 2) := by decide +kernel
theorem dX4_move_94 : decode cX4_move 94 = .ok (.iload_n 2, 1) := by decide +kernel
theorem dX4_move_95 : decode cX4_move 95 = .ok (.iload 5, 2) := by decide +kernel
theorem dX4_move_97 : decode cX4_move 97 = .ok (.invokevirtual 116, 3) := by decide +kernel
theorem dX4_move_100 : decode cX4_move 100 = .ok (.goto 5, 3) := by decide +kernel
theorem dX4_move_103 : decode cX4_move 103 = .ok (.iload 5, 2) := by decide +kernel
theorem dX4_move_105 : decode cX4_move 105 = .ok (.istore 11, 2) := by decide +kernel
theorem dX4_move_107 : decode cX4_move 107 = .ok (.aload 8, 2) := by decide +kernel
theorem dX4_move_109 : decode cX4_move 109 = .ok (.getfield 92, 3) := by decide +kernel
theorem dX4_move_112 : decode cX4_move 112 = .ok (.iload_n 2, 1) := by decide +kernel
theorem dX4_move_113 : decode cX4_move 113 = .ok (.aload 9, 2) := by decide +kernel
theorem dX4_move_115 : decode cX4_move 115 = .ok (.getfield 92, 3) := by decide +kernel
theorem dX4_move_118 : decode cX4_move 118 = .ok (.iload 4, 2) := by decide +kernel
theorem dX4_move_120 : decode cX4_move 120 = .ok (.iload 11, 2) := by decide +kernel
theorem dX4_move_122 : decode cX4_move 122 = .ok (.invokestatic 120, 3) := by decide +kernel
theorem dX4_move_125 : decode cX4_move 125 = .ok (.iload 11, 2) := by decide +kernel
theorem dX4_move_127 : decode cX4_move 127 = .ok (.iload 5, 2) := by decide +kernel
theorem dX4_move_129 : decode cX4_move 129 = .ok (.if_icmp .ge 9, 3) := by decide +kernel
theorem dX4_move_132 : decode cX4_move 132 = .ok (.aload_n 0, 1) := by decide +kernel
theorem dX4_move_133 : decode cX4_move 133 = .ok (.iconst 5, 1) := by decide +kernel
theorem dX4_move_134 : decode cX4_move 134 = .ok (.invokevirtual 72, 3) := by decide +kernel
theorem dX4_move_137 : decode cX4_move 137 = .ok (.ireturn, 1) := by decide +kernel
theorem dX4_move_138 : decode cX4_move 138 = .ok (.aload_n 0, 1) := by decide +kernel
theorem dX4_move_139 : decode cX4_move 139 = .ok (.iconst 0, 1) := by decide +kernel
theorem dX4_move_140 : decode cX4_move 140 = .ok (.invokevirtual 76, 3) := by decide +kernel
theorem dX4_move_143 : decode cX4_move 143 = .ok (.pop, 1) := by decide +kernel
theorem dX4_move_144 : decode cX4_move 144 = .ok (.iload 5, 2) := by decide +kernel
theorem dX4_move_146 : decode cX4_move 146 = .ok (.ireturn, 1) := by decide +kernel
set_option maxRecDepth 20000 in
theorem ggX4_run_X1_find : GoodIn wsX4_run wsX1_find := goodIn_r _ [9, 10, 11, 95, 96] (by decide +kernel) (by decide +kernel)
set_option maxRecDepth 20000 in
theorem gX4_run_X1_find : GoodIn wsX4_run (wsV RX4 51 RX1 yX1_find wsX1_find) := goodIn_app (goodIn_of _ (by decide +kernel)) ggX4_run_X1_find
set_option maxRecDepth 20000 in
theorem ggX4_run_X4_isLimit : GoodIn wsX4_run wsX4_isLimit := goodIn_r _ [15] (by decide +kernel) (by decide +kernel)
set_option maxRecDepth 20000 in
theorem gX4_run_X4_isLimit : GoodIn wsX4_run (va_wsS RX4 126 yX4_isLimit wsX4_isLimit) := goodIn_app (goodIn_of _ (by decide +kernel)) ggX4_run_X4_isLimit
set_option maxRecDepth 20000 in
theorem ggX4_run_X3_first : GoodIn wsX4_run wsX3_first := goodIn_r _ [20, 21, 22, 23, 24, 25, 19, 26, 27, 28, 29, 30, 31, 32, 33, 34, 35, 36, 37, 38, 39, 40, 41, 42, 43, 14, 44, 45, 46, 47, 48, 49, 50, 51, 52, 53, 54, 55, 56, 57, 6, 7, 8, 9, 10, 11, 58, 59, 60, 61, 62, 63, 64, 65, 66, 67, 68, 69, 70, 71, 72, 73, 74, 75, 89, 90, 91, 92, 93, 94, 97, 98, 95, 96, 99, 100, 101, 102] (by decide +kernel) (by decide +kernel)
set_option maxRecDepth 20000 in
theorem gX4_run_X3_first : GoodIn wsX4_run (wsV RX4 129 RX3 yX3_first wsX3_first) := goodIn_app (goodIn_of _ (by decide +kernel)) ggX4_run_X3_first
set_option maxRecDepth 20000 in
theorem ggX4_run_X4_tell : GoodIn wsX4_run wsX4_tell := goodIn_r _ [79, 80, 81, 3, 82, 83, 84, 85, 86, 87, 88, 89, 90, 91, 92, 93, 94] (by decide +kernel) (by decide +kernel)
set_option maxRecDepth 20000 in
theorem gX4_run_X4_tell : GoodIn wsX4_run (wsV RX4 76 RX4 yX4_tell wsX4_tell) := goodIn_app (goodIn_of _ (by decide +kernel)) ggX4_run_X4_tell
theorem dX4_run_0 : decode cX4_run 0 = .ok (.aload_n 0, 1) := by decide +kernel
theorem dX4_run_1 : decode cX4_run 1 = .ok (.getfield 10, 3) := by decide +kernel
theorem dX4_run_4 : decode cX4_run 4 = .ok (.iload_n 1, 1) := by decide +kernel
theorem dX4_run_5 : decode cX4_run 5 = .ok (.invokevirtual 51, 3) := by decide +kernel
theorem dX4_run_8 : decode cX4_run 8 = .ok (.astore_n 3, 1) := by decide +kernel
theorem dX4_run_9 : decode cX4_run 9 = .ok (.aload_n 3, 1) := by decide +kernel
theorem dX4_run_10 : decode cX4_run 10 = .ok (.ifnull 10, 3) := by decide +kernel
theorem dX4_run_13 : decode cX4_run 13 = .ok (.iload_n 2, 1) := by decide +kernel
theorem dX4_run_14 : decode cX4_run 14 = .ok (.invokestatic 126, 3) := by decide +kernel
theorem dX4_run_17 : decode cX4_run 17 = .ok (.ifCond .ne 6, 3) := by decide +kernel
theorem dX4_run_20 : decode cX4_run 20 = .ok (.ldc 33, 2) := by decide +kernel
theorem dX4_run_22 : decode cX4_run 22 = .ok (.ireturn, 1) := by decide +kernel
theorem dX4_run_23 : decode cX4_run 23 = .ok (.aload_n 0, 1) := by decide +kernel
theorem dX4_run_24 : decode cX4_run 24 = .ok (.getfield 21, 3) := by decide +kernel
theorem dX4_run_27 : decode cX4_run 27 = .ok (.aload_n 3, 1) := by decide +kernel
theorem dX4_run_28 : decode cX4_run 28 = .ok (.iload_n 2, 1) := by decide +kernel
theorem dX4_run_29 : decode cX4_run 29 = .ok (.invokevirtual 129, 3) := by decide +kernel
theorem dX4_run_32 : decode cX4_run 32 = .ok (.istore 4, 2) := by decide +kernel
theorem dX4_run_34 : decode cX4_run 34 = .ok (.aload_n 0, 1) := by decide +kernel
theorem dX4_run_35 : decode cX4_run 35 = .ok (.aload_n 0, 1) := by decide +kernel
theorem dX4_run_36 : decode cX4_run 36 = .ok (.getfield 21, 3) := by decide +kernel
theorem dX4_run_39 : decode cX4_run 39 = .ok (.getfield 133, 3) := by decide +kernel
theorem dX4_run_42 : decode cX4_run 42 = .ok (.invokevirtual 76, 3) := by decide +kernel
theorem dX4_run_45 : decode cX4_run 45 = .ok (.ifCond .ne 8, 3) := by decide +kernel
theorem dX4_run_48 : decode cX4_run 48 = .ok (.iload 4, 2) := by decide +kernel
theorem dX4_run_50 : decode cX4_run 50 = .ok (.goto 4, 3) := by decide +kernel
theorem dX4_run_53 : decode cX4_run 53 = .ok (.iconst 0, 1) := by decide +kernel
theorem dX4_run_54 : decode cX4_run 54 = .ok (.ireturn, 1) := by decide +kernel
set_option maxRecDepth 20000 in
theorem ggX4_either_X1_find : GoodIn wsX4_either wsX1_find := goodIn_r _ [9, 10, 11, 96, 97] (by decide +kernel) (by decide +kernel)
set_option maxRecDepth 20000 in
theorem gX4_either_X1_find : GoodIn wsX4_either (wsV RX4 51 RX1 yX1_find wsX1_find) := goodIn_app (goodIn_of _ (by decide +kernel)) ggX4_either_X1_find
set_option maxRecDepth 20000 in
theorem ggX4_either_X4_isLimit : GoodIn wsX4_either wsX4_isLimit := goodIn_r _ [15] (by decide +kernel) (by decide +kernel)
set_option maxRecDepth 20000 in
theorem gX4_either_X4_isLimit : GoodIn wsX4_either (va_wsS RX4 126 yX4_isLimit wsX4_isLimit) := goodIn_app (goodIn_of _ (by decide +kernel)) ggX4_either_X4_isLimit
set_option maxRecDepth 20000 in
theorem ggX4_either_X3_first : GoodIn wsX4_either wsX3_first := goodIn_r _ [20, 21, 22, 23, 24, 25, 19, 26, 27, 28, 29, 30, 31, 32, 33, 34, 35, 36, 37, 38, 39, 40, 41, 42, 43, 14, 44, 45, 46, 47, 48, 49, 50, 51, 52, 53, 54, 55, 56, 57, 6, 7, 8, 9, 10, 11, 58, 59, 60, 61, 62, 63, 64, 65, 66, 67, 68, 69, 70, 71, 72, 73, 74, 75, 90, 91, 92, 93, 94, 95, 98, 99, 96, 97, 100, 101, 102, 103] (by decide +kernel) (by decide +kernel)
set_option maxRecDepth 20000 in
theorem gX4_either_X3_first : GoodIn wsX4_either (wsV RX4 129 RX3 yX3_first wsX3_first) := goodIn_app (goodIn_of _ (by decide +kernel)) ggX4_either_X3_first
set_option maxRecDepth 20000 in
theorem ggX4_either_X3_next : GoodIn wsX4_either wsX3_next := goodIn_r _ [26, 27, 28, 29, 30, 31, 19, 32, 22, 21, 33, 34, 35, 36, 37, 38, 39, 40, 41, 42, 43, 14, 44, 45, 46, 47, 48, 49, 50, 51, 52, 53, 54, 55, 56, 57, 6, 7, 8, 9, 10, 11, 58, 59, 60, 61, 62, 63, 64, 65, 66, 67, 68, 69, 70, 71, 72, 73, 74, 75, 90, 91, 92, 93, 94, 95, 98, 99, 96, 97, 100, 101, 102, 103] (by decide +kernel) (by decide +kernel)
set_option maxRecDepth 20000 in
theorem gX4_either_X3_next : GoodIn wsX4_either (wsV RX4 134 RX3 yX3_next wsX3_next) := goodIn_app (goodIn_of _ (by decide +kernel)) ggX4_either_X3_next
set_option maxRecDepth 20000 in
theorem ggX4_either_X4_tell : GoodIn wsX4_either wsX4_tell := goodIn_r _ [80, 81, 82, 3, 83, 84, 85, 86, 87, 88, 89, 90, 91, 92, 93, 94, 95] (by decide +kernel) (by decide +kernel)
set_option maxRecDepth 20000 in
theorem gX4_either_X4_tell : GoodIn wsX4_either (wsV RX4 76 RX4 yX4_tell wsX4_tell) := goodIn_app (goodIn_of _ (by decide +kernel)) ggX4_either_X4_tell
theorem dX4_either_0 : decode cX4_either 0 = .ok (.aload_n 0, 1) := by decide +kernel
theorem dX4_either_1 : decode cX4_either 1 = .ok (.getfield 10, 3) := by decide +kernel
theorem dX4_either_4 : decode cX4_either 4 = .ok (.iload_n 1, 1) := by decide +kernel
theorem dX4_either_5 : decode cX4_either 5 = .ok (.invokevirtual 51, 3) := by decide +kernel
theorem dX4_either_8 : decode cX4_either 8 = .ok (.astore 4, 2) := by decide +kernel
theorem dX4_either_10 : decode cX4_either 10 = .ok (.aload_n 0, 1) := by decide +kernel
theorem dX4_either_11 : decode cX4_either 11 = .ok (.getfield 10, 3) := by decide +kernel
theorem dX4_either_14 : decode cX4_either 14 = .ok (.iload_n 2, 1) := by decide +kernel
theorem dX4_either_15 : decode cX4_either 15 = .ok (.invokevirtual 51, 3) := by decide +kernel
theorem dX4_either_18 : decode cX4_either 18 = .ok (.astore 5, 2) := by decide +kernel
theorem dX4_either_20 : decode cX4_either 20 = .ok (.aload 4, 2) := by decide +kernel
theorem dX4_either_22 : decode cX4_either 22 = .ok (.ifnull 15, 3) := by decide +kernel
theorem dX4_either_25 : decode cX4_either 25 = .ok (.aload 5, 2) := by decide +kernel
theorem dX4_either_27 : decode cX4_either 27 = .ok (.ifnull 10, 3) := by decide +kernel
theorem dX4_either_30 : decode cX4_either 30 = .ok (.iload_n 3, 1) := by decide +kernel
theorem dX4_either_31 : decode cX4_either 31 = .ok (.invokestatic 126, 3) := by decide +kernel
theorem dX4_either_34 : decode cX4_either 34 = .ok (.ifCond .ne 6, 3) := by decide +kernel
theorem dX4_either_37 : decode cX4_either 37 = .ok (.ldc 33, 2) := by decide +kernel
theorem dX4_either_39 : decode cX4_either 39 = .ok (.ireturn, 1) := by decide +kernel
theorem dX4_either_40 : decode cX4_either 40 = .ok (.aload_n 0, 1) := by decide +kernel
theorem dX4_either_41 : decode cX4_either 41 = .ok (.getfield 21, 3) := by decide +kernel
theorem dX4_either_44 : decode cX4_either 44 = .ok (.aload 4, 2) := by decide +kernel
theorem dX4_either_46 : decode cX4_either 46 = .ok (.iload_n 3, 1) := by decide +kernel
theorem dX4_either_47 : decode cX4_either 47 = .ok (.invokevirtual 129, 3) := by decide +kernel
theorem dX4_either_50 : decode cX4_either 50 = .ok (.istore 6, 2) := by decide +kernel
theorem dX4_either_52 : decode cX4_either 52 = .ok (.aload_n 0, 1) := by decide +kernel
theorem dX4_either_53 : decode cX4_either 53 = .ok (.getfield 21, 3) := by decide +kernel
theorem dX4_either_56 : decode cX4_either 56 = .ok (.getfield 133, 3) := by decide +kernel
theorem dX4_either_59 : decode cX4_either 59 = .ok (.iconst 1, 1) := by decide +kernel
theorem dX4_either_60 : decode cX4_either 60 = .ok (.if_icmp .lt 26, 3) := by decide +kernel
theorem dX4_either_63 : decode cX4_either 63 = .ok (.aload_n 0, 1) := by decide +kernel
theorem dX4_either_64 : decode cX4_either 64 = .ok (.getfield 21, 3) := by decide +kernel
theorem dX4_either_67 : decode cX4_either 67 = .ok (.getfield 133, 3) := by decide +kernel
theorem dX4_either_70 : decode cX4_either 70 = .ok (.bipush 7, 2) := by decide +kernel
theorem dX4_either_72 : decode cX4_either 72 = .ok (.if_icmp .gt 14, 3) := by decide +kernel
theorem dX4_either_75 : decode cX4_either 75 = .ok (.aload_n 0, 1) := by decide +kernel
theorem dX4_either_76 : decode cX4_either 76 = .ok (.getfield 21, 3) := by decide +kernel
theorem dX4_either_79 : decode cX4_either 79 = .ok (.aload 5, 2) := by decide +kernel
theorem dX4_either_81 : decode cX4_either 81 = .ok (.invokevirtual 134, 3) := by decide +kernel
theorem dX4_either_84 : decode cX4_either 84 = .ok (.istore 6, 2) := by decide +kernel
theorem dX4_either_86 : decode cX4_either 86 = .ok (.aload_n 0, 1) := by decide +kernel
theorem dX4_either_87 : decode cX4_either 87 = .ok (.aload_n 0, 1) := by decide +kernel
theorem dX4_either_88 : decode cX4_either 88 = .ok (.getfield 21, 3) := by decide +kernel
theorem dX4_either_91 : decode cX4_either 91 = .ok (.getfield 133, 3) := by decide +kernel
theorem dX4_either_94 : decode cX4_either 94 = .ok (.invokevirtual 76, 3) := by decide +kernel
theorem dX4_either_97 : decode cX4_either 97 = .ok (.ifCond .ne 8, 3) := by decide +kernel
theorem dX4_either_100 : decode cX4_either 100 = .ok (.iload 6, 2) := by decide +kernel
theorem dX4_either_102 : decode cX4_either 102 = .ok (.goto 4, 3) := by decide +kernel
theorem dX4_either_105 : decode cX4_either 105 = .ok (.iconst 0, 1) := by decide +kernel
theorem dX4_either_106 : decode cX4_either 106 = .ok (.ireturn, 1) := by decide +kernel
set_option maxRecDepth 20000 in
theorem ggX4_gather_X1_find : GoodIn wsX4_gather wsX1_find := goodIn_r _ [11, 12, 13, 105, 106] (by decide +kernel) (by decide +kernel)
set_option maxRecDepth 20000 in
theorem gX4_gather_X1_find : GoodIn wsX4_gather (wsV RX4 51 RX1 yX1_find wsX1_find) := goodIn_app (goodIn_of _ (by decide +kernel)) ggX4_gather_X1_find
set_option maxRecDepth 20000 in
theorem ggX4_gather_X4_isLimit : GoodIn wsX4_gather wsX4_isLimit := goodIn_r _ [17] (by decide +kernel) (by decide +kernel)
set_option maxRecDepth 20000 in
theorem gX4_gather_X4_isLimit : GoodIn wsX4_gather (va_wsS RX4 126 yX4_isLimit wsX4_isLimit) := goodIn_app (goodIn_of _ (by decide +kernel)) ggX4_gather_X4_isLimit
set_option maxRecDepth 20000 in
theorem ggX4_gather_X3_first : GoodIn wsX4_gather wsX3_first := goodIn_r _ [22, 23, 24, 25, 26, 27, 21, 28, 29, 30, 31, 32, 33, 34, 35, 36, 37, 38, 39, 40, 41, 42, 43, 44, 45, 16, 46, 47, 48, 49, 50, 51, 52, 53, 54, 55, 56, 57, 58, 59, 8, 9, 10, 11, 12, 13, 60, 61, 62, 63, 64, 65, 66, 67, 68, 69, 70, 71, 72, 73, 74, 75, 76, 77, 99, 100, 101, 102, 103, 104, 107, 108, 105, 106, 95, 96, 97, 98] (by decide +kernel) (by decide +kernel)
set_option maxRecDepth 20000 in
theorem gX4_gather_X3_first : GoodIn wsX4_gather (wsV RX4 129 RX3 yX3_first wsX3_first) := goodIn_app (goodIn_of _ (by decide +kernel)) ggX4_gather_X3_first
set_option maxRecDepth 20000 in
theorem ggX4_gather_X4_refuse : GoodIn wsX4_gather wsX4_refuse := goodIn_r _ [81, 82, 83, 84, 16, 85, 86, 87, 3, 88, 89, 90, 91, 92, 93, 94, 99, 100, 101, 102, 103, 104] (by decide +kernel) (by decide +kernel)
set_option maxRecDepth 20000 in
theorem gX4_gather_X4_refuse : GoodIn wsX4_gather (wsV RX4 72 RX4 yX4_refuse wsX4_refuse) := goodIn_app (goodIn_of _ (by decide +kernel)) ggX4_gather_X4_refuse
set_option maxRecDepth 20000 in
theorem ggX4_gather_X4_tell : GoodIn wsX4_gather wsX4_tell := goodIn_r _ [85, 86, 87, 3, 88, 89, 90, 91, 92, 93, 94, 99, 100, 101, 102, 103, 104] (by decide +kernel) (by decide +kernel)
set_option maxRecDepth 20000 in
theorem gX4_gather_X4_tell : GoodIn wsX4_gather (wsV RX4 76 RX4 yX4_tell wsX4_tell) := goodIn_app (goodIn_of _ (by decide +kernel)) ggX4_gather_X4_tell
theorem dX4_gather_0 : decode cX4_gather 0 = .ok (.aload_n 0, 1) := by decide +kernel
theorem dX4_gather_1 : decode cX4_gather 1 = .ok (.getfield 10, 3) := by decide +kernel
theorem dX4_gather_4 : decode cX4_gather 4 = .ok (.iload_n 1, 1) := by decide +kernel
theorem dX4_gather_5 : decode cX4_gather 5 = .ok (.invokevirtual 51, 3) := by decide +kernel
theorem dX4_gather_8 : decode cX4_gather 8 = .ok (.astore_n 3, 1) := by decide +kernel
theorem dX4_gather_9 : decode cX4_gather 9 = .ok (.aload_n 3, 1) := by decide +kernel
theorem dX4_gather_10 : decode cX4_gather 10 = .ok (.ifnull 10, 3) := by decide +kernel
theorem dX4_gather_13 : decode cX4_gather 13 = .ok (.iload_n 2, 1) := by decide +kernel
theorem dX4_gather_14 : decode cX4_gather 14 = .ok (.invokestatic 126, 3) := by decide +kernel
theorem dX4_gather_17 : decode cX4_gather 17 = .ok (.ifCond .ne 6, 3) := by decide +kernel
theorem dX4_gather_20 : decode cX4_gather 20 = .ok (.ldc 33, 2) := by decide +kernel
theorem dX4_gather_22 : decode cX4_gather 22 = .ok (.ireturn, 1) := by decide +kernel
theorem dX4_gather_23 : decode cX4_gather 23 = .ok (.aload_n 0, 1) := by decide +kernel
end
section
theorem dX4_gather_24 : decode cX4_gather 24 = .ok (.getfield 21, 3) := by decide +kernel
theorem dX4_gather_27 : decode cX4_gather 27 = .ok (.aload_n 0, 1) := by decide +kernel
theorem dX4_gather_28 : decode cX4_gather 28 = .ok (.getfield 10, 3) := by decide +kernel
theorem dX4_gather_31 : decode cX4_gather 31 = .ok (.aload_n 3, 1) := by decide +kernel
theorem dX4_gather_32 : decode cX4_gather 32 = .ok (.getfield 69, 3) := by decide +kernel
theorem dX4_gather_35 : decode cX4_gather 35 = .ok (.invokevirtual 51, 3) := by decide +kernel
theorem dX4_gather_38 : decode cX4_gather 38 = .ok (.iload_n 2, 1) := by decide +kernel
theorem dX4_gather_39 : decode cX4_gather 39 = .ok (.invokevirtual 129, 3) := by decide +kernel
theorem dX4_gather_42 : decode cX4_gather 42 = .ok (.istore 4, 2) := by decide +kernel
theorem dX4_gather_44 : decode cX4_gather 44 = .ok (.aload_n 0, 1) := by decide +kernel
theorem dX4_gather_45 : decode cX4_gather 45 = .ok (.getfield 21, 3) := by decide +kernel
theorem dX4_gather_48 : decode cX4_gather 48 = .ok (.getfield 133, 3) := by decide +kernel
theorem dX4_gather_51 : decode cX4_gather 51 = .ok (.ifCond .eq 15, 3) := by decide +kernel
theorem dX4_gather_54 : decode cX4_gather 54 = .ok (.aload_n 0, 1) := by decide +kernel
theorem dX4_gather_55 : decode cX4_gather 55 = .ok (.aload_n 0, 1) := by decide +kernel
theorem dX4_gather_56 : decode cX4_gather 56 = .ok (.getfield 21, 3) := by decide +kernel
theorem dX4_gather_59 : decode cX4_gather 59 = .ok (.getfield 133, 3) := by decide +kernel
theorem dX4_gather_62 : decode cX4_gather 62 = .ok (.invokevirtual 72, 3) := by decide +kernel
theorem dX4_gather_65 : decode cX4_gather 65 = .ok (.ireturn, 1) := by decide +kernel
theorem dX4_gather_66 : decode cX4_gather 66 = .ok (.aload_n 0, 1) := by decide +kernel
theorem dX4_gather_67 : decode cX4_gather 67 = .ok (.iconst 0, 1) := by decide +kernel
theorem dX4_gather_68 : decode cX4_gather 68 = .ok (.invokevirtual 76, 3) := by decide +kernel
theorem dX4_gather_71 : decode cX4_gather 71 = .ok (.pop, 1) := by decide +kernel
theorem dX4_gather_72 : decode cX4_gather 72 = .ok (.aload_n 3, 1) := by decide +kernel
theorem dX4_gather_73 : decode cX4_gather 73 = .ok (.dup, 1) := by decide +kernel
theorem dX4_gather_74 : decode cX4_gather 74 = .ok (.getfield 63, 3) := by decide +kernel
theorem dX4_gather_77 : decode cX4_gather 77 = .ok (.iload 4, 2) := by decide +kernel
theorem dX4_gather_79 : decode cX4_gather 79 = .ok (.iadd, 1) := by decide +kernel
theorem dX4_gather_80 : decode cX4_gather 80 = .ok (.putfield 63, 3) := by decide +kernel
theorem dX4_gather_83 : decode cX4_gather 83 = .ok (.aload_n 3, 1) := by decide +kernel
theorem dX4_gather_84 : decode cX4_gather 84 = .ok (.getfield 63, 3) := by decide +kernel
theorem dX4_gather_87 : decode cX4_gather 87 = .ok (.ireturn, 1) := by decide +kernel
set_option maxRecDepth 20000 in
theorem ggX4_keep_X1_find : GoodIn wsX4_keep wsX1_find := goodIn_r _ [10, 11, 12, 109, 110] (by decide +kernel) (by decide +kernel)
set_option maxRecDepth 20000 in
theorem gX4_keep_X1_find : GoodIn wsX4_keep (wsV RX4 51 RX1 yX1_find wsX1_find) := goodIn_app (goodIn_of _ (by decide +kernel)) ggX4_keep_X1_find
set_option maxRecDepth 20000 in
theorem ggX4_keep_X4_isLimit : GoodIn wsX4_keep wsX4_isLimit := goodIn_r _ [16] (by decide +kernel) (by decide +kernel)
set_option maxRecDepth 20000 in
theorem gX4_keep_X4_isLimit : GoodIn wsX4_keep (va_wsS RX4 126 yX4_isLimit wsX4_isLimit) := goodIn_app (goodIn_of _ (by decide +kernel)) ggX4_keep_X4_isLimit
set_option maxRecDepth 20000 in
theorem ggX4_keep_X3_first : GoodIn wsX4_keep wsX3_first := goodIn_r _ [21, 22, 23, 24, 25, 26, 20, 27, 28, 29, 30, 31, 32, 33, 34, 35, 36, 37, 38, 39, 40, 41, 42, 43, 44, 15, 45, 46, 47, 48, 49, 50, 51, 52, 53, 54, 55, 56, 57, 58, 7, 8, 9, 10, 11, 12, 59, 60, 61, 62, 63, 64, 65, 66, 67, 68, 69, 70, 71, 72, 73, 74, 75, 76, 99, 100, 101, 102, 103, 104, 111, 112, 109, 110, 105, 106, 107, 108] (by decide +kernel) (by decide +kernel)
set_option maxRecDepth 20000 in
theorem gX4_keep_X3_first : GoodIn wsX4_keep (wsV RX4 129 RX3 yX3_first wsX3_first) := goodIn_app (goodIn_of _ (by decide +kernel)) ggX4_keep_X3_first
set_option maxRecDepth 20000 in
theorem ggX4_keep_X4_refuse : GoodIn wsX4_keep wsX4_refuse := goodIn_r _ [80, 81, 82, 83, 15, 84, 85, 86, 3, 87, 88, 94, 95, 96, 97, 98, 99, 100, 101, 102, 103, 104] (by decide +kernel) (by decide +kernel)
set_option maxRecDepth 20000 in
theorem gX4_keep_X4_refuse : GoodIn wsX4_keep (wsV RX4 72 RX4 yX4_refuse wsX4_refuse) := goodIn_app (goodIn_of _ (by decide +kernel)) ggX4_keep_X4_refuse
set_option maxRecDepth 20000 in
theorem ggX4_keep_X4_againstItem : GoodIn wsX4_keep wsX4_againstItem := goodIn_r _ [45, 46, 47, 48, 49, 50, 51, 52, 111, 112] (by decide +kernel) (by decide +kernel)
set_option maxRecDepth 20000 in
theorem gX4_keep_X4_againstItem : GoodIn wsX4_keep (va_wsS RX4 98 yX4_againstItem wsX4_againstItem) := goodIn_app (goodIn_of _ (by decide +kernel)) ggX4_keep_X4_againstItem
set_option maxRecDepth 20000 in
theorem ggX4_keep_X4_tell : GoodIn wsX4_keep wsX4_tell := goodIn_r _ [84, 85, 86, 3, 87, 88, 94, 95, 96, 97, 98, 99, 100, 101, 102, 103, 104] (by decide +kernel) (by decide +kernel)
set_option maxRecDepth 20000 in
theorem gX4_keep_X4_tell : GoodIn wsX4_keep (wsV RX4 76 RX4 yX4_tell wsX4_tell) := goodIn_app (goodIn_of _ (by decide +kernel)) ggX4_keep_X4_tell
set_option maxRecDepth 20000 in
theorem ggX4_keep_X0_put : GoodIn wsX4_keep wsX0_put := goodIn_r _ [93, 52, 111, 112] (by decide +kernel) (by decide +kernel)
set_option maxRecDepth 20000 in
theorem gX4_keep_X0_put : GoodIn wsX4_keep (wsV RX4 105 RX0 yX0_put wsX0_put) := goodIn_app (goodIn_of _ (by decide +kernel)) ggX4_keep_X0_put
theorem dX4_keep_0 : decode cX4_keep 0 = .ok (.aload_n 0, 1) := by decide +kernel
theorem dX4_keep_1 : decode cX4_keep 1 = .ok (.getfield 10, 3) := by decide +kernel
theorem dX4_keep_4 : decode cX4_keep 4 = .ok (.iload_n 1, 1) := by decide +kernel
theorem dX4_keep_5 : decode cX4_keep 5 = .ok (.invokevirtual 51, 3) := by decide +kernel
theorem dX4_keep_8 : decode cX4_keep 8 = .ok (.astore 5, 2) := by decide +kernel
theorem dX4_keep_10 : decode cX4_keep 10 = .ok (.aload_n 0, 1) := by decide +kernel
theorem dX4_keep_11 : decode cX4_keep 11 = .ok (.getfield 10, 3) := by decide +kernel
theorem dX4_keep_14 : decode cX4_keep 14 = .ok (.iload_n 2, 1) := by decide +kernel
theorem dX4_keep_15 : decode cX4_keep 15 = .ok (.invokevirtual 51, 3) := by decide +kernel
theorem dX4_keep_18 : decode cX4_keep 18 = .ok (.astore 6, 2) := by decide +kernel
theorem dX4_keep_20 : decode cX4_keep 20 = .ok (.aload 5, 2) := by decide +kernel
theorem dX4_keep_22 : decode cX4_keep 22 = .ok (.ifnull 16, 3) := by decide +kernel
theorem dX4_keep_25 : decode cX4_keep 25 = .ok (.aload 6, 2) := by decide +kernel
theorem dX4_keep_27 : decode cX4_keep 27 = .ok (.ifnull 11, 3) := by decide +kernel
theorem dX4_keep_30 : decode cX4_keep 30 = .ok (.iload 4, 2) := by decide +kernel
theorem dX4_keep_32 : decode cX4_keep 32 = .ok (.invokestatic 126, 3) := by decide +kernel
theorem dX4_keep_35 : decode cX4_keep 35 = .ok (.ifCond .ne 6, 3) := by decide +kernel
theorem dX4_keep_38 : decode cX4_keep 38 = .ok (.ldc 33, 2) := by decide +kernel
theorem dX4_keep_40 : decode cX4_keep 40 = .ok (.ireturn, 1) := by decide +kernel
theorem dX4_keep_41 : decode cX4_keep 41 = .ok (.aload_n 0, 1) := by decide +kernel
theorem dX4_keep_42 : decode cX4_keep 42 = .ok (.getfield 21, 3) := by decide +kernel
theorem dX4_keep_45 : decode cX4_keep 45 = .ok (.aload 5, 2) := by decide +kernel
theorem dX4_keep_47 : decode cX4_keep 47 = .ok (.iload 4, 2) := by decide +kernel
theorem dX4_keep_49 : decode cX4_keep 49 = .ok (.invokevirtual 129, 3) := by decide +kernel
theorem dX4_keep_52 : decode cX4_keep 52 = .ok (.istore 7, 2) := by decide +kernel
theorem dX4_keep_54 : decode cX4_keep 54 = .ok (.aload_n 0, 1) := by decide +kernel
theorem dX4_keep_55 : decode cX4_keep 55 = .ok (.getfield 21, 3) := by decide +kernel
theorem dX4_keep_58 : decode cX4_keep 58 = .ok (.getfield 133, 3) := by decide +kernel
theorem dX4_keep_61 : decode cX4_keep 61 = .ok (.ifCond .eq 15, 3) := by decide +kernel
theorem dX4_keep_64 : decode cX4_keep 64 = .ok (.aload_n 0, 1) := by decide +kernel
theorem dX4_keep_65 : decode cX4_keep 65 = .ok (.aload_n 0, 1) := by decide +kernel
theorem dX4_keep_66 : decode cX4_keep 66 = .ok (.getfield 21, 3) := by decide +kernel
theorem dX4_keep_69 : decode cX4_keep 69 = .ok (.getfield 133, 3) := by decide +kernel
theorem dX4_keep_72 : decode cX4_keep 72 = .ok (.invokevirtual 72, 3) := by decide +kernel
theorem dX4_keep_75 : decode cX4_keep 75 = .ok (.ireturn, 1) := by decide +kernel
theorem dX4_keep_76 : decode cX4_keep 76 = .ok (.aload 6, 2) := by decide +kernel
theorem dX4_keep_78 : decode cX4_keep 78 = .ok (.getfield 79, 3) := by decide +kernel
theorem dX4_keep_81 : decode cX4_keep 81 = .ok (.astore 8, 2) := by decide +kernel
theorem dX4_keep_83 : decode cX4_keep 83 = .ok (.aload 8, 2) := by decide +kernel
theorem dX4_keep_85 : decode cX4_keep 85 = .ok (.iconst 0, 1) := by decide +kernel
theorem dX4_keep_86 : decode cX4_keep 86 = .ok (.iconst 0, 1) := by decide +kernel
theorem dX4_keep_87 : decode cX4_keep 87 = .ok (.iload_n 3, 1) := by decide +kernel
theorem dX4_keep_88 : decode cX4_keep 88 = .ok (.invokestatic 98, 3) := by decide +kernel
theorem dX4_keep_91 : decode cX4_keep 91 = .ok (.istore 9, 2) := by decide +kernel
theorem dX4_keep_93 : decode cX4_keep 93 = .ok (.iload 9, 2) := by decide +kernel
theorem dX4_keep_95 : decode cX4_keep 95 = .ok (.ifCond .eq 10, 3) := by decide +kernel
theorem dX4_keep_98 : decode cX4_keep 98 = .ok (.aload_n 0, 1) := by decide +kernel
theorem dX4_keep_99 : decode cX4_keep 99 = .ok (.iload 9, 2) := by decide +kernel
theorem dX4_keep_101 : decode cX4_keep 101 = .ok (.invokevirtual 72, 3) := by decide +kernel
theorem dX4_keep_104 : decode cX4_keep 104 = .ok (.ireturn, 1) := by decide +kernel
theorem dX4_keep_105 : decode cX4_keep 105 = .ok (.aload_n 0, 1) := by decide +kernel
theorem dX4_keep_106 : decode cX4_keep 106 = .ok (.iconst 0, 1) := by decide +kernel
theorem dX4_keep_107 : decode cX4_keep 107 = .ok (.invokevirtual 76, 3) := by decide +kernel
theorem dX4_keep_110 : decode cX4_keep 110 = .ok (.pop, 1) := by decide +kernel
theorem dX4_keep_111 : decode cX4_keep 111 = .ok (.aload 8, 2) := by decide +kernel
theorem dX4_keep_113 : decode cX4_keep 113 = .ok (.iload_n 3, 1) := by decide +kernel
theorem dX4_keep_114 : decode cX4_keep 114 = .ok (.iload 7, 2) := by decide +kernel
theorem dX4_keep_116 : decode cX4_keep 116 = .ok (.i2l, 1) := by decide +kernel
theorem dX4_keep_117 : decode cX4_keep 117 = .ok (.invokevirtual 105, 3) := by decide +kernel
theorem dX4_keep_120 : decode cX4_keep 120 = .ok (.pop2, 1) := by decide +kernel
theorem dX4_keep_121 : decode cX4_keep 121 = .ok (.iload 7, 2) := by decide +kernel
theorem dX4_keep_123 : decode cX4_keep 123 = .ok (.ireturn, 1) := by decide +kernel
theorem dX4_things_0 : decode cX4_things 0 = .ok (.aload_n 0, 1) := by decide +kernel
theorem dX4_things_1 : decode cX4_things 1 = .ok (.getfield 10, 3) := by decide +kernel
theorem dX4_things_4 : decode cX4_things 4 = .ok (.getfield 138, 3) := by decide +kernel
theorem dX4_things_7 : decode cX4_things 7 = .ok (.ireturn, 1) := by decide +kernel
theorem dX4_tell_0 : decode cX4_tell 0 = .ok (.aload_n 0, 1) := by decide +kernel
theorem dX4_tell_1 : decode cX4_tell 1 = .ok (.iload_n 1, 1) := by decide +kernel
theorem dX4_tell_2 : decode cX4_tell 2 = .ok (.putfield 38, 3) := by decide +kernel
theorem dX4_tell_5 : decode cX4_tell 5 = .ok (.aload_n 0, 1) := by decide +kernel
theorem dX4_tell_6 : decode cX4_tell 6 = .ok (.getfield 25, 3) := by decide +kernel
theorem dX4_tell_9 : decode cX4_tell 9 = .ok (.iload_n 1, 1) := by decide +kernel
theorem dX4_tell_10 : decode cX4_tell 10 = .ok (.dup2, 1) := by decide +kernel
theorem dX4_tell_11 : decode cX4_tell 11 = .ok (.iaload, 1) := by decide +kernel
theorem dX4_tell_12 : decode cX4_tell 12 = .ok (.iconst 1, 1) := by decide +kernel
theorem dX4_tell_13 : decode cX4_tell 13 = .ok (.iadd, 1) := by decide +kernel
theorem dX4_tell_14 : decode cX4_tell 14 = .ok (.iastore, 1) := by decide +kernel
theorem dX4_tell_15 : decode cX4_tell 15 = .ok (.iload_n 1, 1) := by decide +kernel
theorem dX4_tell_16 : decode cX4_tell 16 = .ok (.bipush 7, 2) := by decide +kernel
theorem dX4_tell_18 : decode cX4_tell 18 = .ok (.if_icmp .ne 14, 3) := by decide +kernel
theorem dX4_tell_21 : decode cX4_tell 21 = .ok (.aload_n 0, 1) := by decide +kernel
theorem dX4_tell_22 : decode cX4_tell 22 = .ok (.aload_n 0, 1) := by decide +kernel
theorem dX4_tell_23 : decode cX4_tell 23 = .ok (.getfield 21, 3) := by decide +kernel
theorem dX4_tell_26 : decode cX4_tell 26 = .ok (.getfield 141, 3) := by decide +kernel
theorem dX4_tell_29 : decode cX4_tell 29 = .ok (.putfield 42, 3) := by decide +kernel
theorem dX4_tell_32 : decode cX4_tell 32 = .ok (.iload_n 1, 1) := by decide +kernel
theorem dX4_tell_33 : decode cX4_tell 33 = .ok (.ireturn, 1) := by decide +kernel
set_option maxRecDepth 20000 in
theorem ggX4_refuse_X4_tell : GoodIn wsX4_refuse wsX4_tell := goodIn_r _ [5, 6, 7, 8, 9, 10, 11, 12, 13, 14, 15, 16, 17, 18, 19, 20, 21] (by decide +kernel) (by decide +kernel)
set_option maxRecDepth 20000 in
theorem gX4_refuse_X4_tell : GoodIn wsX4_refuse (wsV RX4 76 RX4 yX4_tell wsX4_tell) := goodIn_app (goodIn_of _ (by decide +kernel)) ggX4_refuse_X4_tell
theorem dX4_refuse_0 : decode cX4_refuse 0 = .ok (.aload_n 0, 1) := by decide +kernel
theorem dX4_refuse_1 : decode cX4_refuse 1 = .ok (.iload_n 1, 1) := by decide +kernel
theorem dX4_refuse_2 : decode cX4_refuse 2 = .ok (.invokevirtual 76, 3) := by decide +kernel
theorem dX4_refuse_5 : decode cX4_refuse 5 = .ok (.pop, 1) := by decide +kernel
theorem dX4_refuse_6 : decode cX4_refuse 6 = .ok (.iconst 0, 1) := by decide +kernel
theorem dX4_refuse_7 : decode cX4_refuse 7 = .ok (.ireturn, 1) := by decide +kernel
theorem dX4_isClass_0 : decode cX4_isClass 0 = .ok (.iload_n 0, 1) := by decide +kernel
theorem dX4_isClass_1 : decode cX4_isClass 1 = .ok (.ifCond .lt 13, 3) := by decide +kernel
theorem dX4_isClass_4 : decode cX4_isClass 4 = .ok (.iload_n 0, 1) := by decide +kernel
theorem dX4_isClass_5 : decode cX4_isClass 5 = .ok (.bipush 7, 2) := by decide +kernel
theorem dX4_isClass_7 : decode cX4_isClass 7 = .ok (.if_icmp .gt 7, 3) := by decide +kernel
theorem dX4_isClass_10 : decode cX4_isClass 10 = .ok (.iconst 1, 1) := by decide +kernel
theorem dX4_isClass_11 : decode cX4_isClass 11 = .ok (.goto 4, 3) := by decide +kernel
theorem dX4_isClass_14 : decode cX4_isClass 14 = .ok (.iconst 0, 1) := by decide +kernel
theorem dX4_isClass_15 : decode cX4_isClass 15 = .ok (.ireturn, 1) := by decide +kernel
theorem dX4_isLimit_0 : decode cX4_isLimit 0 = .ok (.iload_n 0, 1) := by decide +kernel
theorem dX4_isLimit_1 : decode cX4_isLimit 1 = .ok (.iconst 1, 1) := by decide +kernel
theorem dX4_isLimit_2 : decode cX4_isLimit 2 = .ok (.if_icmp .lt 13, 3) := by decide +kernel
theorem dX4_isLimit_5 : decode cX4_isLimit 5 = .ok (.iload_n 0, 1) := by decide +kernel
theorem dX4_isLimit_6 : decode cX4_isLimit 6 = .ok (.bipush 100, 2) := by decide +kernel
theorem dX4_isLimit_8 : decode cX4_isLimit 8 = .ok (.if_icmp .gt 7, 3) := by decide +kernel
theorem dX4_isLimit_11 : decode cX4_isLimit 11 = .ok (.iconst 1, 1) := by decide +kernel
theorem dX4_isLimit_12 : decode cX4_isLimit 12 = .ok (.goto 4, 3) := by decide +kernel
theorem dX4_isLimit_15 : decode cX4_isLimit 15 = .ok (.iconst 0, 1) := by decide +kernel
theorem dX4_isLimit_16 : decode cX4_isLimit 16 = .ok (.ireturn, 1) := by decide +kernel
set_option maxRecDepth 20000 in
theorem ggX4_againstItem_X0_hasItems : GoodIn wsX4_againstItem wsX0_hasItems := goodIn_r _ [6, 7, 8, 9] (by decide +kernel) (by decide +kernel)
set_option maxRecDepth 20000 in
theorem gX4_againstItem_X0_hasItems : GoodIn wsX4_againstItem (wsV RX4 144 RX0 yX0_hasItems wsX0_hasItems) := goodIn_app (goodIn_of _ (by decide +kernel)) ggX4_againstItem_X0_hasItems
theorem dX4_againstItem_0 : decode cX4_againstItem 0 = .ok (.aload_n 0, 1) := by decide +kernel
theorem dX4_againstItem_1 : decode cX4_againstItem 1 = .ok (.ifnonnull 5, 3) := by decide +kernel
theorem dX4_againstItem_4 : decode cX4_againstItem 4 = .ok (.iconst 1, 1) := by decide +kernel
theorem dX4_againstItem_5 : decode cX4_againstItem 5 = .ok (.ireturn, 1) := by decide +kernel
theorem dX4_againstItem_6 : decode cX4_againstItem 6 = .ok (.aload_n 0, 1) := by decide +kernel
theorem dX4_againstItem_7 : decode cX4_againstItem 7 = .ok (.getfield 102, 3) := by decide +kernel
theorem dX4_againstItem_10 : decode cX4_againstItem 10 = .ok (.iload_n 1, 1) := by decide +kernel
theorem dX4_againstItem_11 : decode cX4_againstItem 11 = .ok (.if_icmp .lt 11, 3) := by decide +kernel
theorem dX4_againstItem_14 : decode cX4_againstItem 14 = .ok (.aload_n 0, 1) := by decide +kernel
theorem dX4_againstItem_15 : decode cX4_againstItem 15 = .ok (.getfield 102, 3) := by decide +kernel
theorem dX4_againstItem_18 : decode cX4_againstItem 18 = .ok (.iload_n 2, 1) := by decide +kernel
theorem dX4_againstItem_19 : decode cX4_againstItem 19 = .ok (.if_icmp .le 5, 3) := by decide +kernel
theorem dX4_againstItem_22 : decode cX4_againstItem 22 = .ok (.iconst 2, 1) := by decide +kernel
theorem dX4_againstItem_23 : decode cX4_againstItem 23 = .ok (.ireturn, 1) := by decide +kernel
theorem dX4_againstItem_24 : decode cX4_againstItem 24 = .ok (.aload_n 0, 1) := by decide +kernel
theorem dX4_againstItem_25 : decode cX4_againstItem 25 = .ok (.iload_n 3, 1) := by decide +kernel
theorem dX4_againstItem_26 : decode cX4_againstItem 26 = .ok (.iconst 1, 1) := by decide +kernel
theorem dX4_againstItem_27 : decode cX4_againstItem 27 = .ok (.invokevirtual 144, 3) := by decide +kernel
theorem dX4_againstItem_30 : decode cX4_againstItem 30 = .ok (.ifCond .eq 7, 3) := by decide +kernel
theorem dX4_againstItem_33 : decode cX4_againstItem 33 = .ok (.iconst 0, 1) := by decide +kernel
theorem dX4_againstItem_34 : decode cX4_againstItem 34 = .ok (.goto 4, 3) := by decide +kernel
theorem dX4_againstItem_37 : decode cX4_againstItem 37 = .ok (.iconst 3, 1) := by decide +kernel
theorem dX4_againstItem_38 : decode cX4_againstItem 38 = .ok (.ireturn, 1) := by decide +kernel
set_option maxRecDepth 20000 in
theorem ggX4_againstMove_X0_isOfThings : GoodIn wsX4_againstMove wsX0_isOfThings := goodIn_r _ [6, 7, 13, 14] (by decide +kernel) (by decide +kernel)
set_option maxRecDepth 20000 in
theorem gX4_againstMove_X0_isOfThings : GoodIn wsX4_againstMove (wsV RX4 148 RX0 yX0_isOfThings wsX0_isOfThings) := goodIn_app (goodIn_of _ (by decide +kernel)) ggX4_againstMove_X0_isOfThings
set_option maxRecDepth 20000 in
theorem ggX4_againstMove_X0_hasItems : GoodIn wsX4_againstMove wsX0_hasItems := goodIn_r _ [11, 12, 13, 14] (by decide +kernel) (by decide +kernel)
set_option maxRecDepth 20000 in
theorem gX4_againstMove_X0_hasItems : GoodIn wsX4_againstMove (wsV RX4 144 RX0 yX0_hasItems wsX0_hasItems) := goodIn_app (goodIn_of _ (by decide +kernel)) ggX4_againstMove_X0_hasItems
theorem dX4_againstMove_0 : decode cX4_againstMove 0 = .ok (.aload_n 0, 1) := by decide +kernel
theorem dX4_againstMove_1 : decode cX4_againstMove 1 = .ok (.ifnull 7, 3) := by decide +kernel
theorem dX4_againstMove_4 : decode cX4_againstMove 4 = .ok (.aload_n 2, 1) := by decide +kernel
theorem dX4_againstMove_5 : decode cX4_againstMove 5 = .ok (.ifnonnull 5, 3) := by decide +kernel
theorem dX4_againstMove_8 : decode cX4_againstMove 8 = .ok (.iconst 1, 1) := by decide +kernel
theorem dX4_againstMove_9 : decode cX4_againstMove 9 = .ok (.ireturn, 1) := by decide +kernel
theorem dX4_againstMove_10 : decode cX4_againstMove 10 = .ok (.aload_n 0, 1) := by decide +kernel
theorem dX4_againstMove_11 : decode cX4_againstMove 11 = .ok (.getfield 102, 3) := by decide +kernel
theorem dX4_againstMove_14 : decode cX4_againstMove 14 = .ok (.aload_n 2, 1) := by decide +kernel
theorem dX4_againstMove_15 : decode cX4_againstMove 15 = .ok (.getfield 102, 3) := by decide +kernel
theorem dX4_againstMove_18 : decode cX4_againstMove 18 = .ok (.if_icmp .eq 19, 3) := by decide +kernel
theorem dX4_againstMove_21 : decode cX4_againstMove 21 = .ok (.aload_n 0, 1) := by decide +kernel
theorem dX4_againstMove_22 : decode cX4_againstMove 22 = .ok (.invokevirtual 148, 3) := by decide +kernel
theorem dX4_againstMove_25 : decode cX4_againstMove 25 = .ok (.ifCond .eq 10, 3) := by decide +kernel
theorem dX4_againstMove_28 : decode cX4_againstMove 28 = .ok (.aload_n 2, 1) := by decide +kernel
theorem dX4_againstMove_29 : decode cX4_againstMove 29 = .ok (.invokevirtual 148, 3) := by decide +kernel
theorem dX4_againstMove_32 : decode cX4_againstMove 32 = .ok (.ifCond .ne 5, 3) := by decide +kernel
theorem dX4_againstMove_35 : decode cX4_againstMove 35 = .ok (.iconst 5, 1) := by decide +kernel
theorem dX4_againstMove_36 : decode cX4_againstMove 36 = .ok (.ireturn, 1) := by decide +kernel
theorem dX4_againstMove_37 : decode cX4_againstMove 37 = .ok (.aload_n 0, 1) := by decide +kernel
theorem dX4_againstMove_38 : decode cX4_againstMove 38 = .ok (.iload_n 1, 1) := by decide +kernel
theorem dX4_againstMove_39 : decode cX4_againstMove 39 = .ok (.iload 4, 2) := by decide +kernel
theorem dX4_againstMove_41 : decode cX4_againstMove 41 = .ok (.invokevirtual 144, 3) := by decide +kernel
theorem dX4_againstMove_44 : decode cX4_againstMove 44 = .ok (.ifCond .eq 17, 3) := by decide +kernel
theorem dX4_againstMove_47 : decode cX4_againstMove 47 = .ok (.aload_n 2, 1) := by decide +kernel
theorem dX4_againstMove_48 : decode cX4_againstMove 48 = .ok (.iload_n 3, 1) := by decide +kernel
theorem dX4_againstMove_49 : decode cX4_againstMove 49 = .ok (.iload 4, 2) := by decide +kernel
theorem dX4_againstMove_51 : decode cX4_againstMove 51 = .ok (.invokevirtual 144, 3) := by decide +kernel
theorem dX4_againstMove_54 : decode cX4_againstMove 54 = .ok (.ifCond .eq 7, 3) := by decide +kernel
theorem dX4_againstMove_57 : decode cX4_againstMove 57 = .ok (.iconst 0, 1) := by decide +kernel
theorem dX4_againstMove_58 : decode cX4_againstMove 58 = .ok (.goto 4, 3) := by decide +kernel
theorem dX4_againstMove_61 : decode cX4_againstMove 61 = .ok (.iconst 3, 1) := by decide +kernel
theorem dX4_againstMove_62 : decode cX4_againstMove 62 = .ok (.ireturn, 1) := by decide +kernel
set_option maxRecDepth 20000 in
theorem ggX4_leavesAhead_X1_isLeafOrNone : GoodIn wsX4_leavesAhead wsX1_isLeafOrNone := goodIn_r _ [7, 8, 9, 10, 6, 11, 12, 13, 14, 15, 16, 17, 18, 19, 27, 28, 29, 30, 31, 32] (by decide +kernel) (by decide +kernel)
set_option maxRecDepth 20000 in
theorem gX4_leavesAhead_X1_isLeafOrNone : GoodIn wsX4_leavesAhead (wsV RX4 109 RX1 yX1_isLeafOrNone wsX1_isLeafOrNone) := goodIn_app (goodIn_of _ (by decide +kernel)) ggX4_leavesAhead_X1_isLeafOrNone
theorem dX4_leavesAhead_0 : decode cX4_leavesAhead 0 = .ok (.iconst 0, 1) := by decide +kernel
theorem dX4_leavesAhead_1 : decode cX4_leavesAhead 1 = .ok (.istore 4, 2) := by decide +kernel
theorem dX4_leavesAhead_3 : decode cX4_leavesAhead 3 = .ok (.iload 4, 2) := by decide +kernel
theorem dX4_leavesAhead_5 : decode cX4_leavesAhead 5 = .ok (.iload_n 3, 1) := by decide +kernel
theorem dX4_leavesAhead_6 : decode cX4_leavesAhead 6 = .ok (.if_icmp .ge 29, 3) := by decide +kernel
theorem dX4_leavesAhead_9 : decode cX4_leavesAhead 9 = .ok (.aload_n 0, 1) := by decide +kernel
theorem dX4_leavesAhead_10 : decode cX4_leavesAhead 10 = .ok (.getfield 10, 3) := by decide +kernel
theorem dX4_leavesAhead_13 : decode cX4_leavesAhead 13 = .ok (.aload_n 1, 1) := by decide +kernel
theorem dX4_leavesAhead_14 : decode cX4_leavesAhead 14 = .ok (.getfield 92, 3) := by decide +kernel
theorem dX4_leavesAhead_17 : decode cX4_leavesAhead 17 = .ok (.iload_n 2, 1) := by decide +kernel
theorem dX4_leavesAhead_18 : decode cX4_leavesAhead 18 = .ok (.iload 4, 2) := by decide +kernel
theorem dX4_leavesAhead_20 : decode cX4_leavesAhead 20 = .ok (.iadd, 1) := by decide +kernel
theorem dX4_leavesAhead_21 : decode cX4_leavesAhead 21 = .ok (.laload, 1) := by decide +kernel
theorem dX4_leavesAhead_22 : decode cX4_leavesAhead 22 = .ok (.l2i, 1) := by decide +kernel
theorem dX4_leavesAhead_23 : decode cX4_leavesAhead 23 = .ok (.invokevirtual 109, 3) := by decide +kernel
theorem dX4_leavesAhead_26 : decode cX4_leavesAhead 26 = .ok (.ifCond .eq 9, 3) := by decide +kernel
theorem dX4_leavesAhead_29 : decode cX4_leavesAhead 29 = .ok (.iinc 4 1, 3) := by decide +kernel
theorem dX4_leavesAhead_32 : decode cX4_leavesAhead 32 = .ok (.goto (-29), 3) := by decide +kernel
theorem dX4_leavesAhead_35 : decode cX4_leavesAhead 35 = .ok (.iload 4, 2) := by decide +kernel
theorem dX4_leavesAhead_37 : decode cX4_leavesAhead 37 = .ok (.ireturn, 1) := by decide +kernel
theorem dX5_init_0 : decode cX5_init 0 = .ok (.aload_n 0, 1) := by decide +kernel
theorem dX5_init_1 : decode cX5_init 1 = .ok (.invokespecial 1, 3) := by decide +kernel
theorem dX5_init_4 : decode cX5_init 4 = .ok (.aload_n 0, 1) := by decide +kernel
theorem dX5_init_5 : decode cX5_init 5 = .ok (.bipush 40, 2) := by decide +kernel
theorem dX5_init_7 : decode cX5_init 7 = .ok (.newarray .int, 2) := by decide +kernel
theorem dX5_init_9 : decode cX5_init 9 = .ok (.putfield 7, 3) := by decide +kernel
theorem dX5_init_12 : decode cX5_init 12 = .ok (.aload_n 0, 1) := by decide +kernel
theorem dX5_init_13 : decode cX5_init 13 = .ok (.bipush 40, 2) := by decide +kernel
theorem dX5_init_15 : decode cX5_init 15 = .ok (.newarray .int, 2) := by decide +kernel
theorem dX5_init_17 : decode cX5_init 17 = .ok (.putfield 13, 3) := by decide +kernel
theorem dX5_init_20 : decode cX5_init 20 = .ok (.aload_n 0, 1) := by decide +kernel
theorem dX5_init_21 : decode cX5_init 21 = .ok (.bipush 40, 2) := by decide +kernel
theorem dX5_init_23 : decode cX5_init 23 = .ok (.newarray .int, 2) := by decide +kernel
theorem dX5_init_25 : decode cX5_init 25 = .ok (.putfield 16, 3) := by decide +kernel
theorem dX5_init_28 : decode cX5_init 28 = .ok (.aload_n 0, 1) := by decide +kernel
theorem dX5_init_29 : decode cX5_init 29 = .ok (.bipush 40, 2) := by decide +kernel
theorem dX5_init_31 : decode cX5_init 31 = .ok (.newarray .int, 2) := by decide +kernel
theorem dX5_init_33 : decode cX5_init 33 = .ok (.putfield 19, 3) := by decide +kernel
theorem dX5_init_36 : decode cX5_init 36 = .ok (.aload_n 0, 1) := by decide +kernel
theorem dX5_init_37 : decode cX5_init 37 = .ok (.sipush 520, 3) := by decide +kernel
theorem dX5_init_40 : decode cX5_init 40 = .ok (.newarray .int, 2) := by decide +kernel
theorem dX5_init_42 : decode cX5_init 42 = .ok (.putfield 22, 3) := by decide +kernel
theorem dX5_init_45 : decode cX5_init 45 = .ok (.aload_n 0, 1) := by decide +kernel
theorem dX5_init_46 : decode cX5_init 46 = .ok (.sipush 520, 3) := by decide +kernel
theorem dX5_init_49 : decode cX5_init 49 = .ok (.newarray .int, 2) := by decide +kernel
theorem dX5_init_51 : decode cX5_init 51 = .ok (.putfield 25, 3) := by decide +kernel
theorem dX5_init_54 : decode cX5_init 54 = .ok (.aload_n 0, 1) := by decide +kernel
theorem dX5_init_55 : decode cX5_init 55 = .ok (.sipush 6240, 3) := by decide +kernel
theorem dX5_init_58 : decode cX5_init 58 = .ok (.newarray .long, 2) := by decide +kernel
theorem dX5_init_60 : decode cX5_init 60 = .ok (.putfield 28, 3) := by decide +kernel
theorem dX5_init_63 : decode cX5_init 63 = .ok (.aload_n 0, 1) := by decide +kernel
theorem dX5_init_64 : decode cX5_init 64 = .ok (.bipush 10, 2) := by decide +kernel
theorem dX5_init_66 : decode cX5_init 66 = .ok (.newarray .int, 2) := by decide +kernel
theorem dX5_init_68 : decode cX5_init 68 = .ok (.putfield 32, 3) := by decide +kernel
theorem dX5_init_71 : decode cX5_init 71 = .ok (.return_, 1) := by decide +kernel
theorem dX5_in_0 : decode cX5_in 0 = .ok (.lload_n 0, 1) := by decide +kernel
theorem dX5_in_1 : decode cX5_in 1 = .ok (.lload_n 2, 1) := by decide +kernel
theorem dX5_in_2 : decode cX5_in 2 = .ok (.lcmp, 1) := by decide +kernel
theorem dX5_in_3 : decode cX5_in 3 = .ok (.ifCond .lt 14, 3) := by decide +kernel
theorem dX5_in_6 : decode cX5_in 6 = .ok (.lload_n 0, 1) := by decide +kernel
theorem dX5_in_7 : decode cX5_in 7 = .ok (.lload 4, 2) := by decide +kernel
theorem dX5_in_9 : decode cX5_in 9 = .ok (.lcmp, 1) := by decide +kernel
theorem dX5_in_10 : decode cX5_in 10 = .ok (.ifCond .gt 7, 3) := by decide +kernel
theorem dX5_in_13 : decode cX5_in 13 = .ok (.iconst 1, 1) := by decide +kernel
theorem dX5_in_14 : decode cX5_in 14 = .ok (.goto 4, 3) := by decide +kernel
theorem dX5_in_17 : decode cX5_in 17 = .ok (.iconst 0, 1) := by decide +kernel
theorem dX5_in_18 : decode cX5_in 18 = .ok (.ireturn, 1) := by decide +kernel
set_option maxRecDepth 20000 in
theorem ggX5_isThing_X5_in : GoodIn wsX5_isThing wsX5_in := goodIn_r _ [5] (by decide +kernel) (by decide +kernel)
set_option maxRecDepth 20000 in
theorem gX5_isThing_X5_in : GoodIn wsX5_isThing (va_wsS RX5 39 yX5_in wsX5_in) := goodIn_app (goodIn_of _ (by decide +kernel)) ggX5_isThing_X5_in
theorem dX5_isThing_0 : decode cX5_isThing 0 = .ok (.iload_n 1, 1) := by decide +kernel
theorem dX5_isThing_1 : decode cX5_isThing 1 = .ok (.i2l, 1) := by decide +kernel
theorem dX5_isThing_2 : decode cX5_isThing 2 = .ok (.lconst 0, 1) := by decide +kernel
theorem dX5_isThing_3 : decode cX5_isThing 3 = .ok (.aload_n 0, 1) := by decide +kernel
theorem dX5_isThing_4 : decode cX5_isThing 4 = .ok (.getfield 35, 3) := by decide +kernel
theorem dX5_isThing_7 : decode cX5_isThing 7 = .ok (.iconst 1, 1) := by decide +kernel
theorem dX5_isThing_8 : decode cX5_isThing 8 = .ok (.isub, 1) := by decide +kernel
theorem dX5_isThing_9 : decode cX5_isThing 9 = .ok (.i2l, 1) := by decide +kernel
theorem dX5_isThing_10 : decode cX5_isThing 10 = .ok (.invokestatic 39, 3) := by decide +kernel
theorem dX5_isThing_13 : decode cX5_isThing 13 = .ok (.ireturn, 1) := by decide +kernel
theorem dX5_isLeaf_0 : decode cX5_isLeaf 0 = .ok (.aload_n 0, 1) := by decide +kernel
theorem dX5_isLeaf_1 : decode cX5_isLeaf 1 = .ok (.getfield 7, 3) := by decide +kernel
theorem dX5_isLeaf_4 : decode cX5_isLeaf 4 = .ok (.iload_n 1, 1) := by decide +kernel
theorem dX5_isLeaf_5 : decode cX5_isLeaf 5 = .ok (.iaload, 1) := by decide +kernel
theorem dX5_isLeaf_6 : decode cX5_isLeaf 6 = .ok (.iconst 2, 1) := by decide +kernel
theorem dX5_isLeaf_7 : decode cX5_isLeaf 7 = .ok (.if_icmp .gt 7, 3) := by decide +kernel
theorem dX5_isLeaf_10 : decode cX5_isLeaf 10 = .ok (.iconst 1, 1) := by decide +kernel
theorem dX5_isLeaf_11 : decode cX5_isLeaf 11 = .ok (.goto 4, 3) := by decide +kernel
theorem dX5_isLeaf_14 : decode cX5_isLeaf 14 = .ok (.iconst 0, 1) := by decide +kernel
theorem dX5_isLeaf_15 : decode cX5_isLeaf 15 = .ok (.ireturn, 1) := by decide +kernel
theorem dX5_tell_0 : decode cX5_tell 0 = .ok (.aload_n 0, 1) := by decide +kernel
theorem dX5_tell_1 : decode cX5_tell 1 = .ok (.iload_n 1, 1) := by decide +kernel
theorem dX5_tell_2 : decode cX5_tell 2 = .ok (.putfield 43, 3) := by decide +kernel
theorem dX5_tell_5 : decode cX5_tell 5 = .ok (.aload_n 0, 1) := by decide +kernel
theorem dX5_tell_6 : decode cX5_tell 6 = .ok (.getfield 32, 3) := by decide +kernel
theorem dX5_tell_9 : decode cX5_tell 9 = .ok (.iload_n 1, 1) := by decide +kernel
theorem dX5_tell_10 : decode cX5_tell 10 = .ok (.dup2, 1) := by decide +kernel
theorem dX5_tell_11 : decode cX5_tell 11 = .ok (.iaload, 1) := by decide +kernel
theorem dX5_tell_12 : decode cX5_tell 12 = .ok (.iconst 1, 1) := by decide +kernel
theorem dX5_tell_13 : decode cX5_tell 13 = .ok (.iadd, 1) := by decide +kernel
theorem dX5_tell_14 : decode cX5_tell 14 = .ok (.iastore, 1) := by decide +kernel
theorem dX5_tell_15 : decode cX5_tell 15 = .ok (.iload_n 1, 1) := by decide +kernel
theorem dX5_tell_16 : decode cX5_tell 16 = .ok (.ireturn, 1) := by decide +kernel
set_option maxRecDepth 20000 in
theorem ggX5_thing_X5_in : GoodIn wsX5_thing wsX5_in := goodIn_r _ [11] (by decide +kernel) (by decide +kernel)
set_option maxRecDepth 20000 in
theorem gX5_thing_X5_in : GoodIn wsX5_thing (va_wsS RX5 39 yX5_in wsX5_in) := goodIn_app (goodIn_of _ (by decide +kernel)) ggX5_thing_X5_in
theorem dX5_thing_0 : decode cX5_thing 0 = .ok (.iload_n 1, 1) := by decide +kernel
theorem dX5_thing_1 : decode cX5_thing 1 = .ok (.i2l, 1) := by decide +kernel
theorem dX5_thing_2 : decode cX5_thing 2 = .ok (.lconst 0, 1) := by decide +kernel
theorem dX5_thing_3 : decode cX5_thing 3 = .ok (.ldc2_w 46, 3) := by decide +kernel
theorem dX5_thing_6 : decode cX5_thing 6 = .ok (.invokestatic 39, 3) := by decide +kernel
theorem dX5_thing_9 : decode cX5_thing 9 = .ok (.ifCond .ne 6, 3) := by decide +kernel
theorem dX5_thing_12 : decode cX5_thing 12 = .ok (.ldc 48, 2) := by decide +kernel
theorem dX5_thing_14 : decode cX5_thing 14 = .ok (.ireturn, 1) := by decide +kernel
theorem dX5_thing_15 : decode cX5_thing 15 = .ok (.aload_n 0, 1) := by decide +kernel
theorem dX5_thing_16 : decode cX5_thing 16 = .ok (.getfield 35, 3) := by decide +kernel
theorem dX5_thing_19 : decode cX5_thing 19 = .ok (.bipush 40, 2) := by decide +kernel
theorem dX5_thing_21 : decode cX5_thing 21 = .ok (.if_icmp .ne 6, 3) := by decide +kernel
theorem dX5_thing_24 : decode cX5_thing 24 = .ok (.bipush (-2), 2) := by decide +kernel
theorem dX5_thing_26 : decode cX5_thing 26 = .ok (.ireturn, 1) := by decide +kernel
theorem dX5_thing_27 : decode cX5_thing 27 = .ok (.aload_n 0, 1) := by decide +kernel
theorem dX5_thing_28 : decode cX5_thing 28 = .ok (.getfield 7, 3) := by decide +kernel
theorem dX5_thing_31 : decode cX5_thing 31 = .ok (.aload_n 0, 1) := by decide +kernel
theorem dX5_thing_32 : decode cX5_thing 32 = .ok (.getfield 35, 3) := by decide +kernel
theorem dX5_thing_35 : decode cX5_thing 35 = .ok (.iload_n 1, 1) := by decide +kernel
theorem dX5_thing_36 : decode cX5_thing 36 = .ok (.iastore, 1) := by decide +kernel
theorem dX5_thing_37 : decode cX5_thing 37 = .ok (.aload_n 0, 1) := by decide +kernel
theorem dX5_thing_38 : decode cX5_thing 38 = .ok (.getfield 13, 3) := by decide +kernel
theorem dX5_thing_41 : decode cX5_thing 41 = .ok (.aload_n 0, 1) := by decide +kernel
theorem dX5_thing_42 : decode cX5_thing 42 = .ok (.getfield 35, 3) := by decide +kernel
theorem dX5_thing_45 : decode cX5_thing 45 = .ok (.iload_n 2, 1) := by decide +kernel
theorem dX5_thing_46 : decode cX5_thing 46 = .ok (.iastore, 1) := by decide +kernel
theorem dX5_thing_47 : decode cX5_thing 47 = .ok (.aload_n 0, 1) := by decide +kernel
theorem dX5_thing_48 : decode cX5_thing 48 = .ok (.getfield 16, 3) := by decide +kernel
theorem dX5_thing_51 : decode cX5_thing 51 = .ok (.aload_n 0, 1) := by decide +kernel
theorem dX5_thing_52 : decode cX5_thing 52 = .ok (.getfield 35, 3) := by decide +kernel
theorem dX5_thing_55 : decode cX5_thing 55 = .ok (.iconst (-1), 1) := by decide +kernel
theorem dX5_thing_56 : decode cX5_thing 56 = .ok (.iastore, 1) := by decide +kernel
theorem dX5_thing_57 : decode cX5_thing 57 = .ok (.aload_n 0, 1) := by decide +kernel
theorem dX5_thing_58 : decode cX5_thing 58 = .ok (.getfield 19, 3) := by decide +kernel
theorem dX5_thing_61 : decode cX5_thing 61 = .ok (.aload_n 0, 1) := by decide +kernel
theorem dX5_thing_62 : decode cX5_thing 62 = .ok (.getfield 35, 3) := by decide +kernel
theorem dX5_thing_65 : decode cX5_thing 65 = .ok (.iconst (-1), 1) := by decide +kernel
theorem dX5_thing_66 : decode cX5_thing 66 = .ok (.iastore, 1) := by decide +kernel
theorem dX5_thing_67 : decode cX5_thing 67 = .ok (.aload_n 0, 1) := by decide +kernel
theorem dX5_thing_68 : decode cX5_thing 68 = .ok (.dup, 1) := by decide +kernel
theorem dX5_thing_69 : decode cX5_thing 69 = .ok (.getfield 35, 3) := by decide +kernel
theorem dX5_thing_72 : decode cX5_thing 72 = .ok (.iconst 1, 1) := by decide +kernel
theorem dX5_thing_73 : decode cX5_thing 73 = .ok (.iadd, 1) := by decide +kernel
theorem dX5_thing_74 : decode cX5_thing 74 = .ok (.putfield 35, 3) := by decide +kernel
theorem dX5_thing_77 : decode cX5_thing 77 = .ok (.aload_n 0, 1) := by decide +kernel
theorem dX5_thing_78 : decode cX5_thing 78 = .ok (.getfield 35, 3) := by decide +kernel
theorem dX5_thing_81 : decode cX5_thing 81 = .ok (.iconst 1, 1) := by decide +kernel
theorem dX5_thing_82 : decode cX5_thing 82 = .ok (.isub, 1) := by decide +kernel
theorem dX5_thing_83 : decode cX5_thing 83 = .ok (.ireturn, 1) := by decide +kernel
theorem dX5_outcome_0 : decode cX5_outcome 0 = .ok (.aload_n 0, 1) := by decide +kernel
theorem dX5_outcome_1 : decode cX5_outcome 1 = .ok (.getfield 43, 3) := by decide +kernel
theorem dX5_outcome_4 : decode cX5_outcome 4 = .ok (.ireturn, 1) := by decide +kernel
theorem dX5_own_0 : decode cX5_own 0 = .ok (.aload_n 0, 1) := by decide +kernel
theorem dX5_own_1 : decode cX5_own 1 = .ok (.getfield 49, 3) := by decide +kernel
theorem dX5_own_4 : decode cX5_own 4 = .ok (.ireturn, 1) := by decide +kernel
theorem dX5_begun_0 : decode cX5_begun 0 = .ok (.aload_n 0, 1) := by decide +kernel
theorem dX5_begun_1 : decode cX5_begun 1 = .ok (.getfield 52, 3) := by decide +kernel
theorem dX5_begun_4 : decode cX5_begun 4 = .ok (.ireturn, 1) := by decide +kernel
theorem dX5_deep_0 : decode cX5_deep 0 = .ok (.aload_n 0, 1) := by decide +kernel
theorem dX5_deep_1 : decode cX5_deep 1 = .ok (.getfield 55, 3) := by decide +kernel
theorem dX5_deep_4 : decode cX5_deep 4 = .ok (.ireturn, 1) := by decide +kernel
set_option maxRecDepth 20000 in
theorem ggX5_told_X5_in : GoodIn wsX5_told wsX5_in := goodIn_r _ [7] (by decide +kernel) (by decide +kernel)
set_option maxRecDepth 20000 in
theorem gX5_told_X5_in : GoodIn wsX5_told (va_wsS RX5 39 yX5_in wsX5_in) := goodIn_app (goodIn_of _ (by decide +kernel)) ggX5_told_X5_in
theorem dX5_told_0 : decode cX5_told 0 = .ok (.iload_n 1, 1) := by decide +kernel
theorem dX5_told_1 : decode cX5_told 1 = .ok (.i2l, 1) := by decide +kernel
theorem dX5_told_2 : decode cX5_told 2 = .ok (.lconst 0, 1) := by decide +kernel
theorem dX5_told_3 : decode cX5_told 3 = .ok (.ldc2_w 58, 3) := by decide +kernel
theorem dX5_told_6 : decode cX5_told 6 = .ok (.invokestatic 39, 3) := by decide +kernel
theorem dX5_told_9 : decode cX5_told 9 = .ok (.ifCond .eq 12, 3) := by decide +kernel
theorem dX5_told_12 : decode cX5_told 12 = .ok (.aload_n 0, 1) := by decide +kernel
theorem dX5_told_13 : decode cX5_told 13 = .ok (.getfield 32, 3) := by decide +kernel
theorem dX5_told_16 : decode cX5_told 16 = .ok (.iload_n 1, 1) := by decide +kernel
theorem dX5_told_17 : decode cX5_told 17 = .ok (.iaload, 1) := by decide +kernel
theorem dX5_told_18 : decode cX5_told 18 = .ok (.goto 5, 3) := by decide +kernel
theorem dX5_told_21 : decode cX5_told 21 = .ok (.ldc 48, 2) := by decide +kernel
theorem dX5_told_23 : decode cX5_told 23 = .ok (.ireturn, 1) := by decide +kernel
set_option maxRecDepth 20000 in
theorem ggX5_cls_X5_isThing : GoodIn wsX5_cls wsX5_isThing := goodIn_r _ [7, 8, 9, 10, 6, 11, 12, 13, 14, 15, 16, 17, 18, 19, 20, 21, 22, 23, 24, 25, 26, 27, 28] (by decide +kernel) (by decide +kernel)
set_option maxRecDepth 20000 in
theorem gX5_cls_X5_isThing : GoodIn wsX5_cls (wsV RX5 60 RX5 yX5_isThing wsX5_isThing) := goodIn_app (goodIn_of _ (by decide +kernel)) ggX5_cls_X5_isThing
theorem dX5_cls_0 : decode cX5_cls 0 = .ok (.aload_n 0, 1) := by decide +kernel
theorem dX5_cls_1 : decode cX5_cls 1 = .ok (.iload_n 1, 1) := by decide +kernel
theorem dX5_cls_2 : decode cX5_cls 2 = .ok (.invokevirtual 60, 3) := by decide +kernel
theorem dX5_cls_5 : decode cX5_cls 5 = .ok (.ifCond .eq 12, 3) := by decide +kernel
theorem dX5_cls_8 : decode cX5_cls 8 = .ok (.aload_n 0, 1) := by decide +kernel
theorem dX5_cls_9 : decode cX5_cls 9 = .ok (.getfield 7, 3) := by decide +kernel
theorem dX5_cls_12 : decode cX5_cls 12 = .ok (.iload_n 1, 1) := by decide +kernel
theorem dX5_cls_13 : decode cX5_cls 13 = .ok (.iaload, 1) := by decide +kernel
theorem dX5_cls_14 : decode cX5_cls 14 = .ok (.goto 5, 3) := by decide +kernel
theorem dX5_cls_17 : decode cX5_cls 17 = .ok (.ldc 48, 2) := by decide +kernel
theorem dX5_cls_19 : decode cX5_cls 19 = .ok (.ireturn, 1) := by decide +kernel
set_option maxRecDepth 20000 in
theorem ggX5_is_X5_isThing : GoodIn wsX5_is wsX5_isThing := goodIn_r _ [8, 9, 10, 11, 7, 12, 13, 14, 15, 16, 17, 18, 19, 20, 21, 22, 23, 24, 25, 26, 27, 28, 29] (by decide +kernel) (by decide +kernel)
set_option maxRecDepth 20000 in
theorem gX5_is_X5_isThing : GoodIn wsX5_is (wsV RX5 60 RX5 yX5_isThing wsX5_isThing) := goodIn_app (goodIn_of _ (by decide +kernel)) ggX5_is_X5_isThing
set_option maxRecDepth 20000 in
theorem ggX5_is_X5_in : GoodIn wsX5_is wsX5_in := goodIn_r _ [12] (by decide +kernel) (by decide +kernel)
set_option maxRecDepth 20000 in
theorem gX5_is_X5_in : GoodIn wsX5_is (va_wsS RX5 39 yX5_in wsX5_in) := goodIn_app (goodIn_of _ (by decide +kernel)) ggX5_is_X5_in
theorem dX5_is_0 : decode cX5_is 0 = .ok (.aload_n 0, 1) := by decide +kernel
theorem dX5_is_1 : decode cX5_is 1 = .ok (.iload_n 1, 1) := by decide +kernel
theorem dX5_is_2 : decode cX5_is 2 = .ok (.invokevirtual 60, 3) := by decide +kernel
theorem dX5_is_5 : decode cX5_is 5 = .ok (.ifCond .eq 15, 3) := by decide +kernel
theorem dX5_is_8 : decode cX5_is 8 = .ok (.iload_n 2, 1) := by decide +kernel
theorem dX5_is_9 : decode cX5_is 9 = .ok (.i2l, 1) := by decide +kernel
theorem dX5_is_10 : decode cX5_is 10 = .ok (.lconst 0, 1) := by decide +kernel
theorem dX5_is_11 : decode cX5_is 11 = .ok (.ldc2_w 46, 3) := by decide +kernel
theorem dX5_is_14 : decode cX5_is 14 = .ok (.invokestatic 39, 3) := by decide +kernel
theorem dX5_is_17 : decode cX5_is 17 = .ok (.ifCond .ne 6, 3) := by decide +kernel
theorem dX5_is_20 : decode cX5_is 20 = .ok (.ldc 48, 2) := by decide +kernel
theorem dX5_is_22 : decode cX5_is 22 = .ok (.ireturn, 1) := by decide +kernel
theorem dX5_is_23 : decode cX5_is 23 = .ok (.aload_n 0, 1) := by decide +kernel
theorem dX5_is_24 : decode cX5_is 24 = .ok (.getfield 7, 3) := by decide +kernel
theorem dX5_is_27 : decode cX5_is 27 = .ok (.iload_n 1, 1) := by decide +kernel
theorem dX5_is_28 : decode cX5_is 28 = .ok (.iaload, 1) := by decide +kernel
theorem dX5_is_29 : decode cX5_is 29 = .ok (.iload_n 2, 1) := by decide +kernel
theorem dX5_is_30 : decode cX5_is 30 = .ok (.if_icmp .eq 23, 3) := by decide +kernel
theorem dX5_is_33 : decode cX5_is 33 = .ok (.iload_n 2, 1) := by decide +kernel
theorem dX5_is_34 : decode cX5_is 34 = .ok (.aload_n 0, 1) := by decide +kernel
theorem dX5_is_35 : decode cX5_is 35 = .ok (.getfield 7, 3) := by decide +kernel
theorem dX5_is_38 : decode cX5_is 38 = .ok (.iload_n 1, 1) := by decide +kernel
theorem dX5_is_39 : decode cX5_is 39 = .ok (.iaload, 1) := by decide +kernel
theorem dX5_is_40 : decode cX5_is 40 = .ok (.if_icmp .ge 17, 3) := by decide +kernel
theorem dX5_is_43 : decode cX5_is 43 = .ok (.aload_n 0, 1) := by decide +kernel
theorem dX5_is_44 : decode cX5_is 44 = .ok (.getfield 7, 3) := by decide +kernel
theorem dX5_is_47 : decode cX5_is 47 = .ok (.iload_n 1, 1) := by decide +kernel
theorem dX5_is_48 : decode cX5_is 48 = .ok (.iaload, 1) := by decide +kernel
theorem dX5_is_49 : decode cX5_is 49 = .ok (.iconst 2, 1) := by decide +kernel
theorem dX5_is_50 : decode cX5_is 50 = .ok (.if_icmp .gt 7, 3) := by decide +kernel
theorem dX5_is_53 : decode cX5_is 53 = .ok (.iconst 1, 1) := by decide +kernel
theorem dX5_is_54 : decode cX5_is 54 = .ok (.goto 4, 3) := by decide +kernel
theorem dX5_is_57 : decode cX5_is 57 = .ok (.iconst 0, 1) := by decide +kernel
theorem dX5_is_58 : decode cX5_is 58 = .ok (.ireturn, 1) := by decide +kernel
set_option maxRecDepth 20000 in
theorem ggX5_v_X5_isThing : GoodIn wsX5_v wsX5_isThing := goodIn_r _ [7, 8, 9, 10, 6, 11, 12, 13, 14, 15, 16, 17, 18, 19, 20, 21, 22, 23, 24, 25, 26, 27, 28] (by decide +kernel) (by decide +kernel)
set_option maxRecDepth 20000 in
theorem gX5_v_X5_isThing : GoodIn wsX5_v (wsV RX5 60 RX5 yX5_isThing wsX5_isThing) := goodIn_app (goodIn_of _ (by decide +kernel)) ggX5_v_X5_isThing
theorem dX5_v_0 : decode cX5_v 0 = .ok (.aload_n 0, 1) := by decide +kernel
theorem dX5_v_1 : decode cX5_v 1 = .ok (.iload_n 1, 1) := by decide +kernel
theorem dX5_v_2 : decode cX5_v 2 = .ok (.invokevirtual 60, 3) := by decide +kernel
theorem dX5_v_5 : decode cX5_v 5 = .ok (.ifCond .eq 12, 3) := by decide +kernel
theorem dX5_v_8 : decode cX5_v 8 = .ok (.aload_n 0, 1) := by decide +kernel
theorem dX5_v_9 : decode cX5_v 9 = .ok (.getfield 13, 3) := by decide +kernel
theorem dX5_v_12 : decode cX5_v 12 = .ok (.iload_n 1, 1) := by decide +kernel
theorem dX5_v_13 : decode cX5_v 13 = .ok (.iaload, 1) := by decide +kernel
theorem dX5_v_14 : decode cX5_v 14 = .ok (.goto 5, 3) := by decide +kernel
theorem dX5_v_17 : decode cX5_v 17 = .ok (.ldc 48, 2) := by decide +kernel
theorem dX5_v_19 : decode cX5_v 19 = .ok (.ireturn, 1) := by decide +kernel
set_option maxRecDepth 20000 in
theorem ggX5_become_X5_isThing : GoodIn wsX5_become wsX5_isThing := goodIn_r _ [7, 8, 9, 10, 6, 11, 12, 13, 14, 15, 16, 17, 18, 19, 20, 21, 22, 23, 24, 25, 26, 27, 28] (by decide +kernel) (by decide +kernel)
set_option maxRecDepth 20000 in
theorem gX5_become_X5_isThing : GoodIn wsX5_become (wsV RX5 60 RX5 yX5_isThing wsX5_isThing) := goodIn_app (goodIn_of _ (by decide +kernel)) ggX5_become_X5_isThing
theorem dX5_become_0 : decode cX5_become 0 = .ok (.aload_n 0, 1) := by decide +kernel
theorem dX5_become_1 : decode cX5_become 1 = .ok (.iload_n 1, 1) := by decide +kernel
theorem dX5_become_2 : decode cX5_become 2 = .ok (.invokevirtual 60, 3) := by decide +kernel
theorem dX5_become_5 : decode cX5_become 5 = .ok (.ifCond .ne 6, 3) := by decide +kernel
theorem dX5_become_8 : decode cX5_become 8 = .ok (.ldc 48, 2) := by decide +kernel
theorem dX5_become_10 : decode cX5_become 10 = .ok (.ireturn, 1) := by decide +kernel
theorem dX5_become_11 : decode cX5_become 11 = .ok (.aload_n 0, 1) := by decide +kernel
theorem dX5_become_12 : decode cX5_become 12 = .ok (.getfield 13, 3) := by decide +kernel
theorem dX5_become_15 : decode cX5_become 15 = .ok (.iload_n 1, 1) := by decide +kernel
theorem dX5_become_16 : decode cX5_become 16 = .ok (.iaload, 1) := by decide +kernel
theorem dX5_become_17 : decode cX5_become 17 = .ok (.istore_n 3, 1) := by decide +kernel
theorem dX5_become_18 : decode cX5_become 18 = .ok (.aload_n 0, 1) := by decide +kernel
theorem dX5_become_19 : decode cX5_become 19 = .ok (.getfield 13, 3) := by decide +kernel
theorem dX5_become_22 : decode cX5_become 22 = .ok (.iload_n 1, 1) := by decide +kernel
theorem dX5_become_23 : decode cX5_become 23 = .ok (.iload_n 2, 1) := by decide +kernel
theorem dX5_become_24 : decode cX5_become 24 = .ok (.iastore, 1) := by decide +kernel
theorem dX5_become_25 : decode cX5_become 25 = .ok (.iload_n 3, 1) := by decide +kernel
theorem dX5_become_26 : decode cX5_become 26 = .ok (.ireturn, 1) := by decide +kernel
set_option maxRecDepth 20000 in
theorem ggX5_link_X5_isThing : GoodIn wsX5_link wsX5_isThing := goodIn_r _ [7, 8, 9, 10, 6, 11, 12, 13, 14, 15, 16, 17, 18, 19, 20, 21, 22, 23, 24, 25, 26, 27, 28] (by decide +kernel) (by decide +kernel)
set_option maxRecDepth 20000 in
theorem gX5_link_X5_isThing : GoodIn wsX5_link (wsV RX5 60 RX5 yX5_isThing wsX5_isThing) := goodIn_app (goodIn_of _ (by decide +kernel)) ggX5_link_X5_isThing
theorem dX5_link_0 : decode cX5_link 0 = .ok (.aload_n 0, 1) := by decide +kernel
theorem dX5_link_1 : decode cX5_link 1 = .ok (.iload_n 1, 1) := by decide +kernel
theorem dX5_link_2 : decode cX5_link 2 = .ok (.invokevirtual 60, 3) := by decide +kernel
theorem dX5_link_5 : decode cX5_link 5 = .ok (.ifCond .eq 16, 3) := by decide +kernel
theorem dX5_link_8 : decode cX5_link 8 = .ok (.iload_n 2, 1) := by decide +kernel
theorem dX5_link_9 : decode cX5_link 9 = .ok (.iconst (-1), 1) := by decide +kernel
theorem dX5_link_10 : decode cX5_link 10 = .ok (.if_icmp .eq 14, 3) := by decide +kernel
theorem dX5_link_13 : decode cX5_link 13 = .ok (.aload_n 0, 1) := by decide +kernel
theorem dX5_link_14 : decode cX5_link 14 = .ok (.iload_n 2, 1) := by decide +kernel
theorem dX5_link_15 : decode cX5_link 15 = .ok (.invokevirtual 60, 3) := by decide +kernel
theorem dX5_link_18 : decode cX5_link 18 = .ok (.ifCond .ne 6, 3) := by decide +kernel
theorem dX5_link_21 : decode cX5_link 21 = .ok (.ldc 48, 2) := by decide +kernel
theorem dX5_link_23 : decode cX5_link 23 = .ok (.ireturn, 1) := by decide +kernel
theorem dX5_link_24 : decode cX5_link 24 = .ok (.aload_n 0, 1) := by decide +kernel
theorem dX5_link_25 : decode cX5_link 25 = .ok (.getfield 16, 3) := by decide +kernel
theorem dX5_link_28 : decode cX5_link 28 = .ok (.iload_n 1, 1) := by decide +kernel
theorem dX5_link_29 : decode cX5_link 29 = .ok (.iaload, 1) := by decide +kernel
theorem dX5_link_30 : decode cX5_link 30 = .ok (.istore_n 3, 1) := by decide +kernel
theorem dX5_link_31 : decode cX5_link 31 = .ok (.aload_n 0, 1) := by decide +kernel
theorem dX5_link_32 : decode cX5_link 32 = .ok (.getfield 16, 3) := by decide +kernel
theorem dX5_link_35 : decode cX5_link 35 = .ok (.iload_n 1, 1) := by decide +kernel
theorem dX5_link_36 : decode cX5_link 36 = .ok (.iload_n 2, 1) := by decide +kernel
theorem dX5_link_37 : decode cX5_link 37 = .ok (.iastore, 1) := by decide +kernel
theorem dX5_link_38 : decode cX5_link 38 = .ok (.iload_n 3, 1) := by decide +kernel
theorem dX5_link_39 : decode cX5_link 39 = .ok (.ireturn, 1) := by decide +kernel
set_option maxRecDepth 20000 in
theorem ggX5_linked_X5_isThing : GoodIn wsX5_linked wsX5_isThing := goodIn_r _ [7, 8, 9, 10, 6, 11, 12, 13, 14, 15, 16, 17, 18, 19, 20, 21, 22, 23, 24, 25, 26, 27, 28] (by decide +kernel) (by decide +kernel)
set_option maxRecDepth 20000 in
theorem gX5_linked_X5_isThing : GoodIn wsX5_linked (wsV RX5 60 RX5 yX5_isThing wsX5_isThing) := goodIn_app (goodIn_of _ (by decide +kernel)) ggX5_linked_X5_isThing
theorem dX5_linked_0 : decode cX5_linked 0 = .ok (.aload_n 0, 1) := by decide +kernel
theorem dX5_linked_1 : decode cX5_linked 1 = .ok (.iload_n 1, 1) := by decide +kernel
theorem dX5_linked_2 : decode cX5_linked 2 = .ok (.invokevirtual 60, 3) := by decide +kernel
theorem dX5_linked_5 : decode cX5_linked 5 = .ok (.ifCond .eq 12, 3) := by decide +kernel
theorem dX5_linked_8 : decode cX5_linked 8 = .ok (.aload_n 0, 1) := by decide +kernel
theorem dX5_linked_9 : decode cX5_linked 9 = .ok (.getfield 16, 3) := by decide +kernel
theorem dX5_linked_12 : decode cX5_linked 12 = .ok (.iload_n 1, 1) := by decide +kernel
theorem dX5_linked_13 : decode cX5_linked 13 = .ok (.iaload, 1) := by decide +kernel
theorem dX5_linked_14 : decode cX5_linked 14 = .ok (.goto 5, 3) := by decide +kernel
theorem dX5_linked_17 : decode cX5_linked 17 = .ok (.ldc 48, 2) := by decide +kernel
theorem dX5_linked_19 : decode cX5_linked 19 = .ok (.ireturn, 1) := by decide +kernel
set_option maxRecDepth 20000 in
theorem ggX5_follow_X5_isThing : GoodIn wsX5_follow wsX5_isThing := goodIn_r _ [7, 8, 9, 10, 6, 11, 18, 19, 20, 21, 22, 23, 24, 25, 26, 27, 28, 29, 30, 31, 32, 33, 34] (by decide +kernel) (by decide +kernel)
set_option maxRecDepth 20000 in
theorem gX5_follow_X5_isThing : GoodIn wsX5_follow (wsV RX5 60 RX5 yX5_isThing wsX5_isThing) := goodIn_app (goodIn_of _ (by decide +kernel)) ggX5_follow_X5_isThing
set_option maxRecDepth 20000 in
theorem ggX5_follow_X5_tell : GoodIn wsX5_follow wsX5_tell := goodIn_r _ [15, 16, 17, 18, 19, 20, 21, 22, 23, 24, 25, 26, 27, 28, 29, 30, 31, 32, 33, 34] (by decide +kernel) (by decide +kernel)
set_option maxRecDepth 20000 in
theorem gX5_follow_X5_tell : GoodIn wsX5_follow (wsV RX5 64 RX5 yX5_tell wsX5_tell) := goodIn_app (goodIn_of _ (by decide +kernel)) ggX5_follow_X5_tell
theorem dX5_follow_0 : decode cX5_follow 0 = .ok (.aload_n 0, 1) := by decide +kernel
theorem dX5_follow_1 : decode cX5_follow 1 = .ok (.iload_n 1, 1) := by decide +kernel
theorem dX5_follow_2 : decode cX5_follow 2 = .ok (.invokevirtual 60, 3) := by decide +kernel
theorem dX5_follow_5 : decode cX5_follow 5 = .ok (.ifCond .ne 6, 3) := by decide +kernel
theorem dX5_follow_8 : decode cX5_follow 8 = .ok (.ldc 48, 2) := by decide +kernel
theorem dX5_follow_10 : decode cX5_follow 10 = .ok (.ireturn, 1) := by decide +kernel
theorem dX5_follow_11 : decode cX5_follow 11 = .ok (.aload_n 0, 1) := by decide +kernel
theorem dX5_follow_12 : decode cX5_follow 12 = .ok (.aload_n 0, 1) := by decide +kernel
theorem dX5_follow_13 : decode cX5_follow 13 = .ok (.getfield 16, 3) := by decide +kernel
theorem dX5_follow_16 : decode cX5_follow 16 = .ok (.iload_n 1, 1) := by decide +kernel
theorem dX5_follow_17 : decode cX5_follow 17 = .ok (.iaload, 1) := by decide +kernel
theorem dX5_follow_18 : decode cX5_follow 18 = .ok (.iconst (-1), 1) := by decide +kernel
theorem dX5_follow_19 : decode cX5_follow 19 = .ok (.if_icmp .ne 7, 3) := by decide +kernel
theorem dX5_follow_22 : decode cX5_follow 22 = .ok (.iconst 1, 1) := by decide +kernel
theorem dX5_follow_23 : decode cX5_follow 23 = .ok (.goto 4, 3) := by decide +kernel
theorem dX5_follow_26 : decode cX5_follow 26 = .ok (.iconst 0, 1) := by decide +kernel
theorem dX5_follow_27 : decode cX5_follow 27 = .ok (.invokevirtual 64, 3) := by decide +kernel
theorem dX5_follow_30 : decode cX5_follow 30 = .ok (.ifCond .eq 5, 3) := by decide +kernel
theorem dX5_follow_33 : decode cX5_follow 33 = .ok (.iconst 0, 1) := by decide +kernel
theorem dX5_follow_34 : decode cX5_follow 34 = .ok (.ireturn, 1) := by decide +kernel
theorem dX5_follow_35 : decode cX5_follow 35 = .ok (.aload_n 0, 1) := by decide +kernel
theorem dX5_follow_36 : decode cX5_follow 36 = .ok (.getfield 16, 3) := by decide +kernel
theorem dX5_follow_39 : decode cX5_follow 39 = .ok (.iload_n 1, 1) := by decide +kernel
theorem dX5_follow_40 : decode cX5_follow 40 = .ok (.aload_n 0, 1) := by decide +kernel
theorem dX5_follow_41 : decode cX5_follow 41 = .ok (.getfield 16, 3) := by decide +kernel
theorem dX5_follow_44 : decode cX5_follow 44 = .ok (.aload_n 0, 1) := by decide +kernel
theorem dX5_follow_45 : decode cX5_follow 45 = .ok (.getfield 16, 3) := by decide +kernel
theorem dX5_follow_48 : decode cX5_follow 48 = .ok (.iload_n 1, 1) := by decide +kernel
theorem dX5_follow_49 : decode cX5_follow 49 = .ok (.iaload, 1) := by decide +kernel
theorem dX5_follow_50 : decode cX5_follow 50 = .ok (.iaload, 1) := by decide +kernel
theorem dX5_follow_51 : decode cX5_follow 51 = .ok (.iastore, 1) := by decide +kernel
theorem dX5_follow_52 : decode cX5_follow 52 = .ok (.aload_n 0, 1) := by decide +kernel
theorem dX5_follow_53 : decode cX5_follow 53 = .ok (.getfield 16, 3) := by decide +kernel
theorem dX5_follow_56 : decode cX5_follow 56 = .ok (.iload_n 1, 1) := by decide +kernel
theorem dX5_follow_57 : decode cX5_follow 57 = .ok (.iaload, 1) := by decide +kernel
theorem dX5_follow_58 : decode cX5_follow 58 = .ok (.ireturn, 1) := by decide +kernel
set_option maxRecDepth 20000 in
theorem ggX5_trade_X5_isThing : GoodIn wsX5_trade wsX5_isThing := goodIn_r _ [8, 9, 10, 11, 7, 12, 19, 20, 21, 22, 23, 24, 25, 26, 27, 28, 29, 30, 31, 32, 33, 34, 35] (by decide +kernel) (by decide +kernel)
set_option maxRecDepth 20000 in
theorem gX5_trade_X5_isThing : GoodIn wsX5_trade (wsV RX5 60 RX5 yX5_isThing wsX5_isThing) := goodIn_app (goodIn_of _ (by decide +kernel)) ggX5_trade_X5_isThing
set_option maxRecDepth 20000 in
theorem ggX5_trade_X5_tell : GoodIn wsX5_trade wsX5_tell := goodIn_r _ [16, 17, 18, 19, 20, 21, 22, 23, 24, 25, 26, 27, 28, 29, 30, 31, 32, 33, 34, 35] (by decide +kernel) (by decide +kernel)
set_option maxRecDepth 20000 in
theorem gX5_trade_X5_tell : GoodIn wsX5_trade (wsV RX5 64 RX5 yX5_tell wsX5_tell) := goodIn_app (goodIn_of _ (by decide +kernel)) ggX5_trade_X5_tell
theorem dX5_trade_0 : decode cX5_trade 0 = .ok (.aload_n 0, 1) := by decide +kernel
theorem dX5_trade_1 : decode cX5_trade 1 = .ok (.iload_n 1, 1) := by decide +kernel
theorem dX5_trade_2 : decode cX5_trade 2 = .ok (.invokevirtual 60, 3) := by decide +kernel
theorem dX5_trade_5 : decode cX5_trade 5 = .ok (.ifCond .ne 6, 3) := by decide +kernel
theorem dX5_trade_8 : decode cX5_trade 8 = .ok (.ldc 48, 2) := by decide +kernel
theorem dX5_trade_10 : decode cX5_trade 10 = .ok (.ireturn, 1) := by decide +kernel
end
section
theorem dX5_trade_11 : decode cX5_trade 11 = .ok (.aload_n 0, 1) := by decide +kernel
theorem dX5_trade_12 : decode cX5_trade 12 = .ok (.aload_n 0, 1) := by decide +kernel
theorem dX5_trade_13 : decode cX5_trade 13 = .ok (.getfield 16, 3) := by decide +kernel
theorem dX5_trade_16 : decode cX5_trade 16 = .ok (.iload_n 1, 1) := by decide +kernel
theorem dX5_trade_17 : decode cX5_trade 17 = .ok (.iaload, 1) := by decide +kernel
theorem dX5_trade_18 : decode cX5_trade 18 = .ok (.iconst (-1), 1) := by decide +kernel
theorem dX5_trade_19 : decode cX5_trade 19 = .ok (.if_icmp .ne 7, 3) := by decide +kernel
theorem dX5_trade_22 : decode cX5_trade 22 = .ok (.iconst 1, 1) := by decide +kernel
theorem dX5_trade_23 : decode cX5_trade 23 = .ok (.goto 4, 3) := by decide +kernel
theorem dX5_trade_26 : decode cX5_trade 26 = .ok (.iconst 0, 1) := by decide +kernel
theorem dX5_trade_27 : decode cX5_trade 27 = .ok (.invokevirtual 64, 3) := by decide +kernel
theorem dX5_trade_30 : decode cX5_trade 30 = .ok (.ifCond .eq 5, 3) := by decide +kernel
theorem dX5_trade_33 : decode cX5_trade 33 = .ok (.iconst 0, 1) := by decide +kernel
theorem dX5_trade_34 : decode cX5_trade 34 = .ok (.ireturn, 1) := by decide +kernel
theorem dX5_trade_35 : decode cX5_trade 35 = .ok (.aload_n 0, 1) := by decide +kernel
theorem dX5_trade_36 : decode cX5_trade 36 = .ok (.getfield 16, 3) := by decide +kernel
theorem dX5_trade_39 : decode cX5_trade 39 = .ok (.iload_n 1, 1) := by decide +kernel
theorem dX5_trade_40 : decode cX5_trade 40 = .ok (.iaload, 1) := by decide +kernel
theorem dX5_trade_41 : decode cX5_trade 41 = .ok (.istore_n 2, 1) := by decide +kernel
theorem dX5_trade_42 : decode cX5_trade 42 = .ok (.aload_n 0, 1) := by decide +kernel
theorem dX5_trade_43 : decode cX5_trade 43 = .ok (.getfield 13, 3) := by decide +kernel
theorem dX5_trade_46 : decode cX5_trade 46 = .ok (.iload_n 1, 1) := by decide +kernel
theorem dX5_trade_47 : decode cX5_trade 47 = .ok (.iaload, 1) := by decide +kernel
theorem dX5_trade_48 : decode cX5_trade 48 = .ok (.istore_n 3, 1) := by decide +kernel
theorem dX5_trade_49 : decode cX5_trade 49 = .ok (.aload_n 0, 1) := by decide +kernel
theorem dX5_trade_50 : decode cX5_trade 50 = .ok (.getfield 13, 3) := by decide +kernel
theorem dX5_trade_53 : decode cX5_trade 53 = .ok (.iload_n 1, 1) := by decide +kernel
theorem dX5_trade_54 : decode cX5_trade 54 = .ok (.aload_n 0, 1) := by decide +kernel
theorem dX5_trade_55 : decode cX5_trade 55 = .ok (.getfield 13, 3) := by decide +kernel
theorem dX5_trade_58 : decode cX5_trade 58 = .ok (.iload_n 2, 1) := by decide +kernel
theorem dX5_trade_59 : decode cX5_trade 59 = .ok (.iaload, 1) := by decide +kernel
theorem dX5_trade_60 : decode cX5_trade 60 = .ok (.iastore, 1) := by decide +kernel
theorem dX5_trade_61 : decode cX5_trade 61 = .ok (.aload_n 0, 1) := by decide +kernel
theorem dX5_trade_62 : decode cX5_trade 62 = .ok (.getfield 13, 3) := by decide +kernel
theorem dX5_trade_65 : decode cX5_trade 65 = .ok (.iload_n 2, 1) := by decide +kernel
theorem dX5_trade_66 : decode cX5_trade 66 = .ok (.iload_n 3, 1) := by decide +kernel
theorem dX5_trade_67 : decode cX5_trade 67 = .ok (.iastore, 1) := by decide +kernel
theorem dX5_trade_68 : decode cX5_trade 68 = .ok (.aload_n 0, 1) := by decide +kernel
theorem dX5_trade_69 : decode cX5_trade 69 = .ok (.getfield 13, 3) := by decide +kernel
theorem dX5_trade_72 : decode cX5_trade 72 = .ok (.iload_n 1, 1) := by decide +kernel
theorem dX5_trade_73 : decode cX5_trade 73 = .ok (.iaload, 1) := by decide +kernel
theorem dX5_trade_74 : decode cX5_trade 74 = .ok (.ireturn, 1) := by decide +kernel
set_option maxRecDepth 20000 in
theorem ggX5_hold_X5_isThing : GoodIn wsX5_hold wsX5_isThing := goodIn_r _ [13, 14, 15, 16, 12, 17, 24, 25, 26, 27, 28, 29, 30, 31, 32, 33, 34, 35, 36, 37, 38, 39, 40] (by decide +kernel) (by decide +kernel)
set_option maxRecDepth 20000 in
theorem gX5_hold_X5_isThing : GoodIn wsX5_hold (wsV RX5 60 RX5 yX5_isThing wsX5_isThing) := goodIn_app (goodIn_of _ (by decide +kernel)) ggX5_hold_X5_isThing
set_option maxRecDepth 20000 in
theorem ggX5_hold_X5_in : GoodIn wsX5_hold wsX5_in := goodIn_r _ [17] (by decide +kernel) (by decide +kernel)
set_option maxRecDepth 20000 in
theorem gX5_hold_X5_in : GoodIn wsX5_hold (va_wsS RX5 39 yX5_in wsX5_in) := goodIn_app (goodIn_of _ (by decide +kernel)) ggX5_hold_X5_in
set_option maxRecDepth 20000 in
theorem ggX5_hold_X5_tell : GoodIn wsX5_hold wsX5_tell := goodIn_r _ [21, 22, 23, 24, 25, 26, 27, 28, 29, 30, 31, 32, 33, 34, 35, 36, 37, 38, 39, 40] (by decide +kernel) (by decide +kernel)
set_option maxRecDepth 20000 in
theorem gX5_hold_X5_tell : GoodIn wsX5_hold (wsV RX5 64 RX5 yX5_tell wsX5_tell) := goodIn_app (goodIn_of _ (by decide +kernel)) ggX5_hold_X5_tell
theorem dX5_hold_0 : decode cX5_hold 0 = .ok (.aload_n 0, 1) := by decide +kernel
theorem dX5_hold_1 : decode cX5_hold 1 = .ok (.iload_n 1, 1) := by decide +kernel
theorem dX5_hold_2 : decode cX5_hold 2 = .ok (.invokevirtual 60, 3) := by decide +kernel
theorem dX5_hold_5 : decode cX5_hold 5 = .ok (.ifCond .eq 26, 3) := by decide +kernel
theorem dX5_hold_8 : decode cX5_hold 8 = .ok (.iload_n 2, 1) := by decide +kernel
theorem dX5_hold_9 : decode cX5_hold 9 = .ok (.iconst (-1), 1) := by decide +kernel
theorem dX5_hold_10 : decode cX5_hold 10 = .ok (.if_icmp .eq 15, 3) := by decide +kernel
theorem dX5_hold_13 : decode cX5_hold 13 = .ok (.iload_n 2, 1) := by decide +kernel
theorem dX5_hold_14 : decode cX5_hold 14 = .ok (.i2l, 1) := by decide +kernel
theorem dX5_hold_15 : decode cX5_hold 15 = .ok (.lconst 0, 1) := by decide +kernel
theorem dX5_hold_16 : decode cX5_hold 16 = .ok (.ldc2_w 68, 3) := by decide +kernel
theorem dX5_hold_19 : decode cX5_hold 19 = .ok (.invokestatic 39, 3) := by decide +kernel
theorem dX5_hold_22 : decode cX5_hold 22 = .ok (.ifCond .eq 9, 3) := by decide +kernel
theorem dX5_hold_25 : decode cX5_hold 25 = .ok (.iload_n 3, 1) := by decide +kernel
theorem dX5_hold_26 : decode cX5_hold 26 = .ok (.bipush 12, 2) := by decide +kernel
theorem dX5_hold_28 : decode cX5_hold 28 = .ok (.if_icmp .le 6, 3) := by decide +kernel
theorem dX5_hold_31 : decode cX5_hold 31 = .ok (.ldc 48, 2) := by decide +kernel
theorem dX5_hold_33 : decode cX5_hold 33 = .ok (.ireturn, 1) := by decide +kernel
theorem dX5_hold_34 : decode cX5_hold 34 = .ok (.aload_n 0, 1) := by decide +kernel
theorem dX5_hold_35 : decode cX5_hold 35 = .ok (.iload_n 2, 1) := by decide +kernel
theorem dX5_hold_36 : decode cX5_hold 36 = .ok (.iconst (-1), 1) := by decide +kernel
theorem dX5_hold_37 : decode cX5_hold 37 = .ok (.if_icmp .eq 11, 3) := by decide +kernel
theorem dX5_hold_40 : decode cX5_hold 40 = .ok (.iload_n 3, 1) := by decide +kernel
theorem dX5_hold_41 : decode cX5_hold 41 = .ok (.ifCond .ge 7, 3) := by decide +kernel
theorem dX5_hold_44 : decode cX5_hold 44 = .ok (.iconst 4, 1) := by decide +kernel
theorem dX5_hold_45 : decode cX5_hold 45 = .ok (.goto 4, 3) := by decide +kernel
theorem dX5_hold_48 : decode cX5_hold 48 = .ok (.iconst 0, 1) := by decide +kernel
theorem dX5_hold_49 : decode cX5_hold 49 = .ok (.invokevirtual 64, 3) := by decide +kernel
theorem dX5_hold_52 : decode cX5_hold 52 = .ok (.ifCond .eq 5, 3) := by decide +kernel
theorem dX5_hold_55 : decode cX5_hold 55 = .ok (.iconst 0, 1) := by decide +kernel
theorem dX5_hold_56 : decode cX5_hold 56 = .ok (.ireturn, 1) := by decide +kernel
theorem dX5_hold_57 : decode cX5_hold 57 = .ok (.iload_n 2, 1) := by decide +kernel
theorem dX5_hold_58 : decode cX5_hold 58 = .ok (.iconst (-1), 1) := by decide +kernel
theorem dX5_hold_59 : decode cX5_hold 59 = .ok (.if_icmp .ne 12, 3) := by decide +kernel
theorem dX5_hold_62 : decode cX5_hold 62 = .ok (.aload_n 0, 1) := by decide +kernel
theorem dX5_hold_63 : decode cX5_hold 63 = .ok (.getfield 19, 3) := by decide +kernel
theorem dX5_hold_66 : decode cX5_hold 66 = .ok (.iload_n 1, 1) := by decide +kernel
theorem dX5_hold_67 : decode cX5_hold 67 = .ok (.iconst (-1), 1) := by decide +kernel
theorem dX5_hold_68 : decode cX5_hold 68 = .ok (.iastore, 1) := by decide +kernel
theorem dX5_hold_69 : decode cX5_hold 69 = .ok (.iconst 0, 1) := by decide +kernel
theorem dX5_hold_70 : decode cX5_hold 70 = .ok (.ireturn, 1) := by decide +kernel
theorem dX5_hold_71 : decode cX5_hold 71 = .ok (.aload_n 0, 1) := by decide +kernel
theorem dX5_hold_72 : decode cX5_hold 72 = .ok (.getfield 22, 3) := by decide +kernel
theorem dX5_hold_75 : decode cX5_hold 75 = .ok (.aload_n 0, 1) := by decide +kernel
theorem dX5_hold_76 : decode cX5_hold 76 = .ok (.getfield 70, 3) := by decide +kernel
theorem dX5_hold_79 : decode cX5_hold 79 = .ok (.iload_n 2, 1) := by decide +kernel
theorem dX5_hold_80 : decode cX5_hold 80 = .ok (.iastore, 1) := by decide +kernel
theorem dX5_hold_81 : decode cX5_hold 81 = .ok (.aload_n 0, 1) := by decide +kernel
theorem dX5_hold_82 : decode cX5_hold 82 = .ok (.getfield 25, 3) := by decide +kernel
theorem dX5_hold_85 : decode cX5_hold 85 = .ok (.aload_n 0, 1) := by decide +kernel
theorem dX5_hold_86 : decode cX5_hold 86 = .ok (.getfield 70, 3) := by decide +kernel
theorem dX5_hold_89 : decode cX5_hold 89 = .ok (.iload_n 3, 1) := by decide +kernel
theorem dX5_hold_90 : decode cX5_hold 90 = .ok (.iastore, 1) := by decide +kernel
theorem dX5_hold_91 : decode cX5_hold 91 = .ok (.iconst 0, 1) := by decide +kernel
theorem dX5_hold_92 : decode cX5_hold 92 = .ok (.istore 4, 2) := by decide +kernel
theorem dX5_hold_94 : decode cX5_hold 94 = .ok (.iload 4, 2) := by decide +kernel
theorem dX5_hold_96 : decode cX5_hold 96 = .ok (.bipush 12, 2) := by decide +kernel
theorem dX5_hold_98 : decode cX5_hold 98 = .ok (.if_icmp .ge 36, 3) := by decide +kernel
theorem dX5_hold_101 : decode cX5_hold 101 = .ok (.aload_n 0, 1) := by decide +kernel
theorem dX5_hold_102 : decode cX5_hold 102 = .ok (.getfield 28, 3) := by decide +kernel
theorem dX5_hold_105 : decode cX5_hold 105 = .ok (.bipush 12, 2) := by decide +kernel
theorem dX5_hold_107 : decode cX5_hold 107 = .ok (.aload_n 0, 1) := by decide +kernel
theorem dX5_hold_108 : decode cX5_hold 108 = .ok (.getfield 70, 3) := by decide +kernel
theorem dX5_hold_111 : decode cX5_hold 111 = .ok (.imul, 1) := by decide +kernel
theorem dX5_hold_112 : decode cX5_hold 112 = .ok (.iload 4, 2) := by decide +kernel
theorem dX5_hold_114 : decode cX5_hold 114 = .ok (.iadd, 1) := by decide +kernel
theorem dX5_hold_115 : decode cX5_hold 115 = .ok (.iload_n 2, 1) := by decide +kernel
theorem dX5_hold_116 : decode cX5_hold 116 = .ok (.iconst 2, 1) := by decide +kernel
theorem dX5_hold_117 : decode cX5_hold 117 = .ok (.if_icmp .ge 7, 3) := by decide +kernel
theorem dX5_hold_120 : decode cX5_hold 120 = .ok (.lconst 0, 1) := by decide +kernel
theorem dX5_hold_121 : decode cX5_hold 121 = .ok (.goto 6, 3) := by decide +kernel
theorem dX5_hold_124 : decode cX5_hold 124 = .ok (.ldc2_w 73, 3) := by decide +kernel
theorem dX5_hold_127 : decode cX5_hold 127 = .ok (.lastore, 1) := by decide +kernel
theorem dX5_hold_128 : decode cX5_hold 128 = .ok (.iinc 4 1, 3) := by decide +kernel
theorem dX5_hold_131 : decode cX5_hold 131 = .ok (.goto (-37), 3) := by decide +kernel
theorem dX5_hold_134 : decode cX5_hold 134 = .ok (.aload_n 0, 1) := by decide +kernel
theorem dX5_hold_135 : decode cX5_hold 135 = .ok (.getfield 19, 3) := by decide +kernel
theorem dX5_hold_138 : decode cX5_hold 138 = .ok (.iload_n 1, 1) := by decide +kernel
theorem dX5_hold_139 : decode cX5_hold 139 = .ok (.aload_n 0, 1) := by decide +kernel
theorem dX5_hold_140 : decode cX5_hold 140 = .ok (.getfield 70, 3) := by decide +kernel
theorem dX5_hold_143 : decode cX5_hold 143 = .ok (.iastore, 1) := by decide +kernel
theorem dX5_hold_144 : decode cX5_hold 144 = .ok (.aload_n 0, 1) := by decide +kernel
theorem dX5_hold_145 : decode cX5_hold 145 = .ok (.dup, 1) := by decide +kernel
theorem dX5_hold_146 : decode cX5_hold 146 = .ok (.getfield 70, 3) := by decide +kernel
theorem dX5_hold_149 : decode cX5_hold 149 = .ok (.iconst 1, 1) := by decide +kernel
theorem dX5_hold_150 : decode cX5_hold 150 = .ok (.iadd, 1) := by decide +kernel
theorem dX5_hold_151 : decode cX5_hold 151 = .ok (.putfield 70, 3) := by decide +kernel
theorem dX5_hold_154 : decode cX5_hold 154 = .ok (.iload_n 3, 1) := by decide +kernel
theorem dX5_hold_155 : decode cX5_hold 155 = .ok (.ireturn, 1) := by decide +kernel
set_option maxRecDepth 20000 in
theorem ggX5_share_X5_isThing : GoodIn wsX5_share wsX5_isThing := goodIn_r _ [7, 8, 9, 10, 6, 11, 17, 18, 19, 20, 21, 22, 23, 24, 25, 26, 27, 28, 29, 30, 31, 32, 33] (by decide +kernel) (by decide +kernel)
set_option maxRecDepth 20000 in
theorem gX5_share_X5_isThing : GoodIn wsX5_share (wsV RX5 60 RX5 yX5_isThing wsX5_isThing) := goodIn_app (goodIn_of _ (by decide +kernel)) ggX5_share_X5_isThing
set_option maxRecDepth 20000 in
theorem ggX5_share_X5_holds : GoodIn wsX5_share wsX5_holds := goodIn_r _ [15, 1, 2, 16, 3, 4, 5, 6, 7, 8, 9, 10, 11, 17, 18, 19, 20, 21, 22, 23, 24, 25, 26, 27, 28, 29, 30, 31, 32, 33] (by decide +kernel) (by decide +kernel)
set_option maxRecDepth 20000 in
theorem gX5_share_X5_holds : GoodIn wsX5_share (wsV RX5 75 RX5 yX5_holds wsX5_holds) := goodIn_app (goodIn_of _ (by decide +kernel)) ggX5_share_X5_holds
theorem dX5_share_0 : decode cX5_share 0 = .ok (.aload_n 0, 1) := by decide +kernel
theorem dX5_share_1 : decode cX5_share 1 = .ok (.iload_n 1, 1) := by decide +kernel
theorem dX5_share_2 : decode cX5_share 2 = .ok (.invokevirtual 60, 3) := by decide +kernel
theorem dX5_share_5 : decode cX5_share 5 = .ok (.ifCond .eq 11, 3) := by decide +kernel
theorem dX5_share_8 : decode cX5_share 8 = .ok (.aload_n 0, 1) := by decide +kernel
theorem dX5_share_9 : decode cX5_share 9 = .ok (.iload_n 2, 1) := by decide +kernel
theorem dX5_share_10 : decode cX5_share 10 = .ok (.invokevirtual 60, 3) := by decide +kernel
theorem dX5_share_13 : decode cX5_share 13 = .ok (.ifCond .ne 6, 3) := by decide +kernel
theorem dX5_share_16 : decode cX5_share 16 = .ok (.ldc 48, 2) := by decide +kernel
theorem dX5_share_18 : decode cX5_share 18 = .ok (.ireturn, 1) := by decide +kernel
theorem dX5_share_19 : decode cX5_share 19 = .ok (.aload_n 0, 1) := by decide +kernel
theorem dX5_share_20 : decode cX5_share 20 = .ok (.getfield 19, 3) := by decide +kernel
theorem dX5_share_23 : decode cX5_share 23 = .ok (.iload_n 1, 1) := by decide +kernel
theorem dX5_share_24 : decode cX5_share 24 = .ok (.aload_n 0, 1) := by decide +kernel
theorem dX5_share_25 : decode cX5_share 25 = .ok (.getfield 19, 3) := by decide +kernel
theorem dX5_share_28 : decode cX5_share 28 = .ok (.iload_n 2, 1) := by decide +kernel
theorem dX5_share_29 : decode cX5_share 29 = .ok (.iaload, 1) := by decide +kernel
theorem dX5_share_30 : decode cX5_share 30 = .ok (.iastore, 1) := by decide +kernel
theorem dX5_share_31 : decode cX5_share 31 = .ok (.aload_n 0, 1) := by decide +kernel
theorem dX5_share_32 : decode cX5_share 32 = .ok (.iload_n 1, 1) := by decide +kernel
theorem dX5_share_33 : decode cX5_share 33 = .ok (.invokevirtual 75, 3) := by decide +kernel
theorem dX5_share_36 : decode cX5_share 36 = .ok (.ireturn, 1) := by decide +kernel
set_option maxRecDepth 20000 in
theorem ggX5_holds_X5_isThing : GoodIn wsX5_holds wsX5_isThing := goodIn_r _ [8, 9, 10, 11, 7, 12, 13, 14, 15, 16, 17, 18, 19, 20, 21, 22, 23, 24, 25, 26, 27, 28, 29] (by decide +kernel) (by decide +kernel)
set_option maxRecDepth 20000 in
theorem gX5_holds_X5_isThing : GoodIn wsX5_holds (wsV RX5 60 RX5 yX5_isThing wsX5_isThing) := goodIn_app (goodIn_of _ (by decide +kernel)) ggX5_holds_X5_isThing
theorem dX5_holds_0 : decode cX5_holds 0 = .ok (.aload_n 0, 1) := by decide +kernel
theorem dX5_holds_1 : decode cX5_holds 1 = .ok (.iload_n 1, 1) := by decide +kernel
theorem dX5_holds_2 : decode cX5_holds 2 = .ok (.invokevirtual 60, 3) := by decide +kernel
theorem dX5_holds_5 : decode cX5_holds 5 = .ok (.ifCond .ne 8, 3) := by decide +kernel
theorem dX5_holds_8 : decode cX5_holds 8 = .ok (.ldc 48, 2) := by decide +kernel
theorem dX5_holds_10 : decode cX5_holds 10 = .ok (.goto 28, 3) := by decide +kernel
theorem dX5_holds_13 : decode cX5_holds 13 = .ok (.aload_n 0, 1) := by decide +kernel
theorem dX5_holds_14 : decode cX5_holds 14 = .ok (.getfield 19, 3) := by decide +kernel
theorem dX5_holds_17 : decode cX5_holds 17 = .ok (.iload_n 1, 1) := by decide +kernel
theorem dX5_holds_18 : decode cX5_holds 18 = .ok (.iaload, 1) := by decide +kernel
theorem dX5_holds_19 : decode cX5_holds 19 = .ok (.iconst (-1), 1) := by decide +kernel
theorem dX5_holds_20 : decode cX5_holds 20 = .ok (.if_icmp .ne 7, 3) := by decide +kernel
theorem dX5_holds_23 : decode cX5_holds 23 = .ok (.iconst (-1), 1) := by decide +kernel
theorem dX5_holds_24 : decode cX5_holds 24 = .ok (.goto 14, 3) := by decide +kernel
theorem dX5_holds_27 : decode cX5_holds 27 = .ok (.aload_n 0, 1) := by decide +kernel
theorem dX5_holds_28 : decode cX5_holds 28 = .ok (.getfield 22, 3) := by decide +kernel
theorem dX5_holds_31 : decode cX5_holds 31 = .ok (.aload_n 0, 1) := by decide +kernel
theorem dX5_holds_32 : decode cX5_holds 32 = .ok (.getfield 19, 3) := by decide +kernel
theorem dX5_holds_35 : decode cX5_holds 35 = .ok (.iload_n 1, 1) := by decide +kernel
theorem dX5_holds_36 : decode cX5_holds 36 = .ok (.iaload, 1) := by decide +kernel
theorem dX5_holds_37 : decode cX5_holds 37 = .ok (.iaload, 1) := by decide +kernel
theorem dX5_holds_38 : decode cX5_holds 38 = .ok (.ireturn, 1) := by decide +kernel
set_option maxRecDepth 20000 in
theorem ggX5_size_X5_isThing : GoodIn wsX5_size wsX5_isThing := goodIn_r _ [8, 9, 10, 11, 7, 12, 19, 20, 21, 22, 23, 24, 25, 26, 27, 28, 29, 30, 31, 32, 33, 34, 35] (by decide +kernel) (by decide +kernel)
set_option maxRecDepth 20000 in
theorem gX5_size_X5_isThing : GoodIn wsX5_size (wsV RX5 60 RX5 yX5_isThing wsX5_isThing) := goodIn_app (goodIn_of _ (by decide +kernel)) ggX5_size_X5_isThing
set_option maxRecDepth 20000 in
theorem ggX5_size_X5_tell : GoodIn wsX5_size wsX5_tell := goodIn_r _ [16, 17, 18, 19, 20, 21, 22, 23, 24, 25, 26, 27, 28, 29, 30, 31, 32, 33, 34, 35] (by decide +kernel) (by decide +kernel)
set_option maxRecDepth 20000 in
theorem gX5_size_X5_tell : GoodIn wsX5_size (wsV RX5 64 RX5 yX5_tell wsX5_tell) := goodIn_app (goodIn_of _ (by decide +kernel)) ggX5_size_X5_tell
theorem dX5_size_0 : decode cX5_size 0 = .ok (.aload_n 0, 1) := by decide +kernel
theorem dX5_size_1 : decode cX5_size 1 = .ok (.iload_n 1, 1) := by decide +kernel
theorem dX5_size_2 : decode cX5_size 2 = .ok (.invokevirtual 60, 3) := by decide +kernel
theorem dX5_size_5 : decode cX5_size 5 = .ok (.ifCond .ne 6, 3) := by decide +kernel
theorem dX5_size_8 : decode cX5_size 8 = .ok (.ldc 48, 2) := by decide +kernel
theorem dX5_size_10 : decode cX5_size 10 = .ok (.ireturn, 1) := by decide +kernel
theorem dX5_size_11 : decode cX5_size 11 = .ok (.aload_n 0, 1) := by decide +kernel
theorem dX5_size_12 : decode cX5_size 12 = .ok (.aload_n 0, 1) := by decide +kernel
theorem dX5_size_13 : decode cX5_size 13 = .ok (.getfield 19, 3) := by decide +kernel
theorem dX5_size_16 : decode cX5_size 16 = .ok (.iload_n 1, 1) := by decide +kernel
theorem dX5_size_17 : decode cX5_size 17 = .ok (.iaload, 1) := by decide +kernel
theorem dX5_size_18 : decode cX5_size 18 = .ok (.iconst (-1), 1) := by decide +kernel
theorem dX5_size_19 : decode cX5_size 19 = .ok (.if_icmp .ne 7, 3) := by decide +kernel
theorem dX5_size_22 : decode cX5_size 22 = .ok (.iconst 1, 1) := by decide +kernel
theorem dX5_size_23 : decode cX5_size 23 = .ok (.goto 4, 3) := by decide +kernel
theorem dX5_size_26 : decode cX5_size 26 = .ok (.iconst 0, 1) := by decide +kernel
theorem dX5_size_27 : decode cX5_size 27 = .ok (.invokevirtual 64, 3) := by decide +kernel
theorem dX5_size_30 : decode cX5_size 30 = .ok (.ifCond .ne 17, 3) := by decide +kernel
theorem dX5_size_33 : decode cX5_size 33 = .ok (.aload_n 0, 1) := by decide +kernel
theorem dX5_size_34 : decode cX5_size 34 = .ok (.getfield 25, 3) := by decide +kernel
theorem dX5_size_37 : decode cX5_size 37 = .ok (.aload_n 0, 1) := by decide +kernel
theorem dX5_size_38 : decode cX5_size 38 = .ok (.getfield 19, 3) := by decide +kernel
theorem dX5_size_41 : decode cX5_size 41 = .ok (.iload_n 1, 1) := by decide +kernel
theorem dX5_size_42 : decode cX5_size 42 = .ok (.iaload, 1) := by decide +kernel
theorem dX5_size_43 : decode cX5_size 43 = .ok (.iaload, 1) := by decide +kernel
theorem dX5_size_44 : decode cX5_size 44 = .ok (.goto 4, 3) := by decide +kernel
theorem dX5_size_47 : decode cX5_size 47 = .ok (.iconst 0, 1) := by decide +kernel
theorem dX5_size_48 : decode cX5_size 48 = .ok (.ireturn, 1) := by decide +kernel
set_option maxRecDepth 20000 in
theorem ggX5_isItem_X5_in : GoodIn wsX5_isItem wsX5_in := goodIn_r _ [6] (by decide +kernel) (by decide +kernel)
set_option maxRecDepth 20000 in
theorem gX5_isItem_X5_in : GoodIn wsX5_isItem (va_wsS RX5 39 yX5_in wsX5_in) := goodIn_app (goodIn_of _ (by decide +kernel)) ggX5_isItem_X5_in
theorem dX5_isItem_0 : decode cX5_isItem 0 = .ok (.iload_n 2, 1) := by decide +kernel
theorem dX5_isItem_1 : decode cX5_isItem 1 = .ok (.i2l, 1) := by decide +kernel
theorem dX5_isItem_2 : decode cX5_isItem 2 = .ok (.lconst 0, 1) := by decide +kernel
theorem dX5_isItem_3 : decode cX5_isItem 3 = .ok (.aload_n 0, 1) := by decide +kernel
theorem dX5_isItem_4 : decode cX5_isItem 4 = .ok (.getfield 25, 3) := by decide +kernel
theorem dX5_isItem_7 : decode cX5_isItem 7 = .ok (.aload_n 0, 1) := by decide +kernel
theorem dX5_isItem_8 : decode cX5_isItem 8 = .ok (.getfield 19, 3) := by decide +kernel
theorem dX5_isItem_11 : decode cX5_isItem 11 = .ok (.iload_n 1, 1) := by decide +kernel
theorem dX5_isItem_12 : decode cX5_isItem 12 = .ok (.iaload, 1) := by decide +kernel
theorem dX5_isItem_13 : decode cX5_isItem 13 = .ok (.iaload, 1) := by decide +kernel
theorem dX5_isItem_14 : decode cX5_isItem 14 = .ok (.iconst 1, 1) := by decide +kernel
theorem dX5_isItem_15 : decode cX5_isItem 15 = .ok (.isub, 1) := by decide +kernel
theorem dX5_isItem_16 : decode cX5_isItem 16 = .ok (.i2l, 1) := by decide +kernel
theorem dX5_isItem_17 : decode cX5_isItem 17 = .ok (.invokestatic 39, 3) := by decide +kernel
theorem dX5_isItem_20 : decode cX5_isItem 20 = .ok (.ireturn, 1) := by decide +kernel
set_option maxRecDepth 20000 in
theorem ggX5_at_X5_isThing : GoodIn wsX5_at wsX5_isThing := goodIn_r _ [8, 9, 10, 11, 7, 12, 24, 25, 26, 27, 28, 29, 30, 31, 32, 33, 34, 35, 36, 37, 38, 39, 40] (by decide +kernel) (by decide +kernel)
set_option maxRecDepth 20000 in
theorem gX5_at_X5_isThing : GoodIn wsX5_at (wsV RX5 60 RX5 yX5_isThing wsX5_isThing) := goodIn_app (goodIn_of _ (by decide +kernel)) ggX5_at_X5_isThing
set_option maxRecDepth 20000 in
theorem ggX5_at_X5_isItem : GoodIn wsX5_at wsX5_isItem := goodIn_r _ [16, 17, 2, 10, 11, 7, 12, 24, 25, 26, 27, 28, 29, 30, 31, 32, 33, 34, 35, 36, 37, 38, 39, 40] (by decide +kernel) (by decide +kernel)
set_option maxRecDepth 20000 in
theorem gX5_at_X5_isItem : GoodIn wsX5_at (wsV RX5 80 RX5 yX5_isItem wsX5_isItem) := goodIn_app (goodIn_of _ (by decide +kernel)) ggX5_at_X5_isItem
set_option maxRecDepth 20000 in
theorem ggX5_at_X5_tell : GoodIn wsX5_at wsX5_tell := goodIn_r _ [21, 22, 23, 24, 25, 26, 27, 28, 29, 30, 31, 32, 33, 34, 35, 36, 37, 38, 39, 40] (by decide +kernel) (by decide +kernel)
set_option maxRecDepth 20000 in
theorem gX5_at_X5_tell : GoodIn wsX5_at (wsV RX5 64 RX5 yX5_tell wsX5_tell) := goodIn_app (goodIn_of _ (by decide +kernel)) ggX5_at_X5_tell
theorem dX5_at_0 : decode cX5_at 0 = .ok (.aload_n 0, 1) := by decide +kernel
theorem dX5_at_1 : decode cX5_at 1 = .ok (.iload_n 1, 1) := by decide +kernel
theorem dX5_at_2 : decode cX5_at 2 = .ok (.invokevirtual 60, 3) := by decide +kernel
theorem dX5_at_5 : decode cX5_at 5 = .ok (.ifCond .ne 7, 3) := by decide +kernel
theorem dX5_at_8 : decode cX5_at 8 = .ok (.ldc2_w 78, 3) := by decide +kernel
theorem dX5_at_11 : decode cX5_at 11 = .ok (.lreturn, 1) := by decide +kernel
theorem dX5_at_12 : decode cX5_at 12 = .ok (.aload_n 0, 1) := by decide +kernel
theorem dX5_at_13 : decode cX5_at 13 = .ok (.getfield 19, 3) := by decide +kernel
theorem dX5_at_16 : decode cX5_at 16 = .ok (.iload_n 1, 1) := by decide +kernel
theorem dX5_at_17 : decode cX5_at 17 = .ok (.iaload, 1) := by decide +kernel
theorem dX5_at_18 : decode cX5_at 18 = .ok (.iconst (-1), 1) := by decide +kernel
theorem dX5_at_19 : decode cX5_at 19 = .ok (.if_icmp .ne 7, 3) := by decide +kernel
theorem dX5_at_22 : decode cX5_at 22 = .ok (.iconst 1, 1) := by decide +kernel
theorem dX5_at_23 : decode cX5_at 23 = .ok (.goto 17, 3) := by decide +kernel
theorem dX5_at_26 : decode cX5_at 26 = .ok (.aload_n 0, 1) := by decide +kernel
theorem dX5_at_27 : decode cX5_at 27 = .ok (.iload_n 1, 1) := by decide +kernel
theorem dX5_at_28 : decode cX5_at 28 = .ok (.iload_n 2, 1) := by decide +kernel
theorem dX5_at_29 : decode cX5_at 29 = .ok (.invokevirtual 80, 3) := by decide +kernel
theorem dX5_at_32 : decode cX5_at 32 = .ok (.ifCond .eq 7, 3) := by decide +kernel
theorem dX5_at_35 : decode cX5_at 35 = .ok (.iconst 0, 1) := by decide +kernel
theorem dX5_at_36 : decode cX5_at 36 = .ok (.goto 4, 3) := by decide +kernel
theorem dX5_at_39 : decode cX5_at 39 = .ok (.iconst 3, 1) := by decide +kernel
theorem dX5_at_40 : decode cX5_at 40 = .ok (.istore_n 3, 1) := by decide +kernel
theorem dX5_at_41 : decode cX5_at 41 = .ok (.aload_n 0, 1) := by decide +kernel
theorem dX5_at_42 : decode cX5_at 42 = .ok (.iload_n 3, 1) := by decide +kernel
theorem dX5_at_43 : decode cX5_at 43 = .ok (.invokevirtual 64, 3) := by decide +kernel
theorem dX5_at_46 : decode cX5_at 46 = .ok (.ifCond .ne 22, 3) := by decide +kernel
theorem dX5_at_49 : decode cX5_at 49 = .ok (.aload_n 0, 1) := by decide +kernel
theorem dX5_at_50 : decode cX5_at 50 = .ok (.getfield 28, 3) := by decide +kernel
theorem dX5_at_53 : decode cX5_at 53 = .ok (.bipush 12, 2) := by decide +kernel
theorem dX5_at_55 : decode cX5_at 55 = .ok (.aload_n 0, 1) := by decide +kernel
theorem dX5_at_56 : decode cX5_at 56 = .ok (.getfield 19, 3) := by decide +kernel
theorem dX5_at_59 : decode cX5_at 59 = .ok (.iload_n 1, 1) := by decide +kernel
theorem dX5_at_60 : decode cX5_at 60 = .ok (.iaload, 1) := by decide +kernel
theorem dX5_at_61 : decode cX5_at 61 = .ok (.imul, 1) := by decide +kernel
theorem dX5_at_62 : decode cX5_at 62 = .ok (.iload_n 2, 1) := by decide +kernel
theorem dX5_at_63 : decode cX5_at 63 = .ok (.iadd, 1) := by decide +kernel
theorem dX5_at_64 : decode cX5_at 64 = .ok (.laload, 1) := by decide +kernel
theorem dX5_at_65 : decode cX5_at 65 = .ok (.goto 4, 3) := by decide +kernel
theorem dX5_at_68 : decode cX5_at 68 = .ok (.lconst 0, 1) := by decide +kernel
theorem dX5_at_69 : decode cX5_at 69 = .ok (.lreturn, 1) := by decide +kernel
set_option maxRecDepth 20000 in
theorem ggX5_lay_X5_isThing : GoodIn wsX5_lay wsX5_isThing := goodIn_r _ [9, 10, 11, 12, 8, 13, 25, 26, 27, 28, 29, 30, 31, 32, 33, 34, 35, 36, 37, 38, 39, 40, 41] (by decide +kernel) (by decide +kernel)
set_option maxRecDepth 20000 in
theorem gX5_lay_X5_isThing : GoodIn wsX5_lay (wsV RX5 60 RX5 yX5_isThing wsX5_isThing) := goodIn_app (goodIn_of _ (by decide +kernel)) ggX5_lay_X5_isThing
set_option maxRecDepth 20000 in
theorem ggX5_lay_X5_isItem : GoodIn wsX5_lay wsX5_isItem := goodIn_r _ [17, 18, 2, 11, 12, 8, 13, 25, 26, 27, 28, 29, 30, 31, 32, 33, 34, 35, 36, 37, 38, 39, 40, 41] (by decide +kernel) (by decide +kernel)
set_option maxRecDepth 20000 in
theorem gX5_lay_X5_isItem : GoodIn wsX5_lay (wsV RX5 80 RX5 yX5_isItem wsX5_isItem) := goodIn_app (goodIn_of _ (by decide +kernel)) ggX5_lay_X5_isItem
set_option maxRecDepth 20000 in
theorem ggX5_lay_X5_tell : GoodIn wsX5_lay wsX5_tell := goodIn_r _ [22, 23, 24, 25, 26, 27, 28, 29, 30, 31, 32, 33, 34, 35, 36, 37, 38, 39, 40, 41] (by decide +kernel) (by decide +kernel)
set_option maxRecDepth 20000 in
theorem gX5_lay_X5_tell : GoodIn wsX5_lay (wsV RX5 64 RX5 yX5_tell wsX5_tell) := goodIn_app (goodIn_of _ (by decide +kernel)) ggX5_lay_X5_tell
theorem dX5_lay_0 : decode cX5_lay 0 = .ok (.aload_n 0, 1) := by decide +kernel
theorem dX5_lay_1 : decode cX5_lay 1 = .ok (.iload_n 1, 1) := by decide +kernel
theorem dX5_lay_2 : decode cX5_lay 2 = .ok (.invokevirtual 60, 3) := by decide +kernel
theorem dX5_lay_5 : decode cX5_lay 5 = .ok (.ifCond .ne 7, 3) := by decide +kernel
theorem dX5_lay_8 : decode cX5_lay 8 = .ok (.ldc2_w 78, 3) := by decide +kernel
theorem dX5_lay_11 : decode cX5_lay 11 = .ok (.lreturn, 1) := by decide +kernel
theorem dX5_lay_12 : decode cX5_lay 12 = .ok (.aload_n 0, 1) := by decide +kernel
theorem dX5_lay_13 : decode cX5_lay 13 = .ok (.getfield 19, 3) := by decide +kernel
theorem dX5_lay_16 : decode cX5_lay 16 = .ok (.iload_n 1, 1) := by decide +kernel
theorem dX5_lay_17 : decode cX5_lay 17 = .ok (.iaload, 1) := by decide +kernel
theorem dX5_lay_18 : decode cX5_lay 18 = .ok (.iconst (-1), 1) := by decide +kernel
theorem dX5_lay_19 : decode cX5_lay 19 = .ok (.if_icmp .ne 7, 3) := by decide +kernel
theorem dX5_lay_22 : decode cX5_lay 22 = .ok (.iconst 1, 1) := by decide +kernel
theorem dX5_lay_23 : decode cX5_lay 23 = .ok (.goto 36, 3) := by decide +kernel
theorem dX5_lay_26 : decode cX5_lay 26 = .ok (.aload_n 0, 1) := by decide +kernel
theorem dX5_lay_27 : decode cX5_lay 27 = .ok (.getfield 22, 3) := by decide +kernel
theorem dX5_lay_30 : decode cX5_lay 30 = .ok (.aload_n 0, 1) := by decide +kernel
theorem dX5_lay_31 : decode cX5_lay 31 = .ok (.getfield 19, 3) := by decide +kernel
theorem dX5_lay_34 : decode cX5_lay 34 = .ok (.iload_n 1, 1) := by decide +kernel
theorem dX5_lay_35 : decode cX5_lay 35 = .ok (.iaload, 1) := by decide +kernel
theorem dX5_lay_36 : decode cX5_lay 36 = .ok (.iaload, 1) := by decide +kernel
theorem dX5_lay_37 : decode cX5_lay 37 = .ok (.iconst 1, 1) := by decide +kernel
theorem dX5_lay_38 : decode cX5_lay 38 = .ok (.if_icmp .le 7, 3) := by decide +kernel
theorem dX5_lay_41 : decode cX5_lay 41 = .ok (.iconst 2, 1) := by decide +kernel
theorem dX5_lay_42 : decode cX5_lay 42 = .ok (.goto 17, 3) := by decide +kernel
theorem dX5_lay_45 : decode cX5_lay 45 = .ok (.aload_n 0, 1) := by decide +kernel
theorem dX5_lay_46 : decode cX5_lay 46 = .ok (.iload_n 1, 1) := by decide +kernel
theorem dX5_lay_47 : decode cX5_lay 47 = .ok (.iload_n 2, 1) := by decide +kernel
theorem dX5_lay_48 : decode cX5_lay 48 = .ok (.invokevirtual 80, 3) := by decide +kernel
theorem dX5_lay_51 : decode cX5_lay 51 = .ok (.ifCond .eq 7, 3) := by decide +kernel
theorem dX5_lay_54 : decode cX5_lay 54 = .ok (.iconst 0, 1) := by decide +kernel
theorem dX5_lay_55 : decode cX5_lay 55 = .ok (.goto 4, 3) := by decide +kernel
theorem dX5_lay_58 : decode cX5_lay 58 = .ok (.iconst 3, 1) := by decide +kernel
theorem dX5_lay_59 : decode cX5_lay 59 = .ok (.istore 5, 2) := by decide +kernel
theorem dX5_lay_61 : decode cX5_lay 61 = .ok (.aload_n 0, 1) := by decide +kernel
theorem dX5_lay_62 : decode cX5_lay 62 = .ok (.iload 5, 2) := by decide +kernel
theorem dX5_lay_64 : decode cX5_lay 64 = .ok (.invokevirtual 64, 3) := by decide +kernel
theorem dX5_lay_67 : decode cX5_lay 67 = .ok (.ifCond .eq 5, 3) := by decide +kernel
theorem dX5_lay_70 : decode cX5_lay 70 = .ok (.lconst 0, 1) := by decide +kernel
theorem dX5_lay_71 : decode cX5_lay 71 = .ok (.lreturn, 1) := by decide +kernel
theorem dX5_lay_72 : decode cX5_lay 72 = .ok (.bipush 12, 2) := by decide +kernel
theorem dX5_lay_74 : decode cX5_lay 74 = .ok (.aload_n 0, 1) := by decide +kernel
theorem dX5_lay_75 : decode cX5_lay 75 = .ok (.getfield 19, 3) := by decide +kernel
theorem dX5_lay_78 : decode cX5_lay 78 = .ok (.iload_n 1, 1) := by decide +kernel
theorem dX5_lay_79 : decode cX5_lay 79 = .ok (.iaload, 1) := by decide +kernel
theorem dX5_lay_80 : decode cX5_lay 80 = .ok (.imul, 1) := by decide +kernel
theorem dX5_lay_81 : decode cX5_lay 81 = .ok (.iload_n 2, 1) := by decide +kernel
theorem dX5_lay_82 : decode cX5_lay 82 = .ok (.iadd, 1) := by decide +kernel
theorem dX5_lay_83 : decode cX5_lay 83 = .ok (.istore 6, 2) := by decide +kernel
theorem dX5_lay_85 : decode cX5_lay 85 = .ok (.aload_n 0, 1) := by decide +kernel
theorem dX5_lay_86 : decode cX5_lay 86 = .ok (.getfield 28, 3) := by decide +kernel
theorem dX5_lay_89 : decode cX5_lay 89 = .ok (.iload 6, 2) := by decide +kernel
theorem dX5_lay_91 : decode cX5_lay 91 = .ok (.laload, 1) := by decide +kernel
theorem dX5_lay_92 : decode cX5_lay 92 = .ok (.lstore 7, 2) := by decide +kernel
theorem dX5_lay_94 : decode cX5_lay 94 = .ok (.aload_n 0, 1) := by decide +kernel
theorem dX5_lay_95 : decode cX5_lay 95 = .ok (.getfield 28, 3) := by decide +kernel
theorem dX5_lay_98 : decode cX5_lay 98 = .ok (.iload 6, 2) := by decide +kernel
theorem dX5_lay_100 : decode cX5_lay 100 = .ok (.aload_n 0, 1) := by decide +kernel
theorem dX5_lay_101 : decode cX5_lay 101 = .ok (.getfield 22, 3) := by decide +kernel
theorem dX5_lay_104 : decode cX5_lay 104 = .ok (.aload_n 0, 1) := by decide +kernel
theorem dX5_lay_105 : decode cX5_lay 105 = .ok (.getfield 19, 3) := by decide +kernel
theorem dX5_lay_108 : decode cX5_lay 108 = .ok (.iload_n 1, 1) := by decide +kernel
theorem dX5_lay_109 : decode cX5_lay 109 = .ok (.iaload, 1) := by decide +kernel
theorem dX5_lay_110 : decode cX5_lay 110 = .ok (.iaload, 1) := by decide +kernel
theorem dX5_lay_111 : decode cX5_lay 111 = .ok (.ifCond .ne 9, 3) := by decide +kernel
theorem dX5_lay_114 : decode cX5_lay 114 = .ok (.lload_n 3, 1) := by decide +kernel
theorem dX5_lay_115 : decode cX5_lay 115 = .ok (.l2i, 1) := by decide +kernel
theorem dX5_lay_116 : decode cX5_lay 116 = .ok (.i2l, 1) := by decide +kernel
theorem dX5_lay_117 : decode cX5_lay 117 = .ok (.goto 4, 3) := by decide +kernel
theorem dX5_lay_120 : decode cX5_lay 120 = .ok (.lload_n 3, 1) := by decide +kernel
theorem dX5_lay_121 : decode cX5_lay 121 = .ok (.lastore, 1) := by decide +kernel
theorem dX5_lay_122 : decode cX5_lay 122 = .ok (.lload 7, 2) := by decide +kernel
theorem dX5_lay_124 : decode cX5_lay 124 = .ok (.lreturn, 1) := by decide +kernel
set_option maxRecDepth 20000 in
theorem ggX5_set_X5_isThing : GoodIn wsX5_set wsX5_isThing := goodIn_r _ [9, 10, 11, 12, 8, 13, 30, 31, 32, 33, 34, 35, 36, 37, 38, 39, 40, 41, 42, 43, 44, 45, 46] (by decide +kernel) (by decide +kernel)
set_option maxRecDepth 20000 in
theorem gX5_set_X5_isThing : GoodIn wsX5_set (wsV RX5 60 RX5 yX5_isThing wsX5_isThing) := goodIn_app (goodIn_of _ (by decide +kernel)) ggX5_set_X5_isThing
set_option maxRecDepth 20000 in
theorem ggX5_set_X5_isItem : GoodIn wsX5_set wsX5_isItem := goodIn_r _ [17, 18, 2, 11, 12, 8, 13, 30, 31, 32, 33, 34, 35, 36, 37, 38, 39, 40, 41, 42, 43, 44, 45, 46] (by decide +kernel) (by decide +kernel)
set_option maxRecDepth 20000 in
theorem gX5_set_X5_isItem : GoodIn wsX5_set (wsV RX5 80 RX5 yX5_isItem wsX5_isItem) := goodIn_app (goodIn_of _ (by decide +kernel)) ggX5_set_X5_isItem
set_option maxRecDepth 20000 in
theorem ggX5_set_X5_isLeaf : GoodIn wsX5_set wsX5_isLeaf := goodIn_r _ [22, 23, 30, 31, 32, 33, 34, 35, 36, 37, 38, 39, 40, 41, 42, 43, 44, 45, 46] (by decide +kernel) (by decide +kernel)
set_option maxRecDepth 20000 in
theorem gX5_set_X5_isLeaf : GoodIn wsX5_set (wsV RX5 84 RX5 yX5_isLeaf wsX5_isLeaf) := goodIn_app (goodIn_of _ (by decide +kernel)) ggX5_set_X5_isLeaf
set_option maxRecDepth 20000 in
theorem ggX5_set_X5_tell : GoodIn wsX5_set wsX5_tell := goodIn_r _ [27, 28, 29, 30, 31, 32, 33, 34, 35, 36, 37, 38, 39, 40, 41, 42, 43, 44, 45, 46] (by decide +kernel) (by decide +kernel)
set_option maxRecDepth 20000 in
theorem gX5_set_X5_tell : GoodIn wsX5_set (wsV RX5 64 RX5 yX5_tell wsX5_tell) := goodIn_app (goodIn_of _ (by decide +kernel)) ggX5_set_X5_tell
theorem dX5_set_0 : decode cX5_set 0 = .ok (.aload_n 0, 1) := by decide +kernel
theorem dX5_set_1 : decode cX5_set 1 = .ok (.iload_n 1, 1) := by decide +kernel
theorem dX5_set_2 : decode cX5_set 2 = .ok (.invokevirtual 60, 3) := by decide +kernel
theorem dX5_set_5 : decode cX5_set 5 = .ok (.ifCond .eq 16, 3) := by decide +kernel
theorem dX5_set_8 : decode cX5_set 8 = .ok (.iload_n 3, 1) := by decide +kernel
theorem dX5_set_9 : decode cX5_set 9 = .ok (.iconst (-1), 1) := by decide +kernel
theorem dX5_set_10 : decode cX5_set 10 = .ok (.if_icmp .eq 14, 3) := by decide +kernel
theorem dX5_set_13 : decode cX5_set 13 = .ok (.aload_n 0, 1) := by decide +kernel
theorem dX5_set_14 : decode cX5_set 14 = .ok (.iload_n 3, 1) := by decide +kernel
theorem dX5_set_15 : decode cX5_set 15 = .ok (.invokevirtual 60, 3) := by decide +kernel
theorem dX5_set_18 : decode cX5_set 18 = .ok (.ifCond .ne 6, 3) := by decide +kernel
theorem dX5_set_21 : decode cX5_set 21 = .ok (.ldc 48, 2) := by decide +kernel
theorem dX5_set_23 : decode cX5_set 23 = .ok (.ireturn, 1) := by decide +kernel
theorem dX5_set_24 : decode cX5_set 24 = .ok (.aload_n 0, 1) := by decide +kernel
theorem dX5_set_25 : decode cX5_set 25 = .ok (.getfield 19, 3) := by decide +kernel
theorem dX5_set_28 : decode cX5_set 28 = .ok (.iload_n 1, 1) := by decide +kernel
theorem dX5_set_29 : decode cX5_set 29 = .ok (.iaload, 1) := by decide +kernel
theorem dX5_set_30 : decode cX5_set 30 = .ok (.iconst (-1), 1) := by decide +kernel
theorem dX5_set_31 : decode cX5_set 31 = .ok (.if_icmp .ne 7, 3) := by decide +kernel
theorem dX5_set_34 : decode cX5_set 34 = .ok (.iconst 1, 1) := by decide +kernel
theorem dX5_set_35 : decode cX5_set 35 = .ok (.goto 68, 3) := by decide +kernel
theorem dX5_set_38 : decode cX5_set 38 = .ok (.aload_n 0, 1) := by decide +kernel
theorem dX5_set_39 : decode cX5_set 39 = .ok (.getfield 22, 3) := by decide +kernel
theorem dX5_set_42 : decode cX5_set 42 = .ok (.aload_n 0, 1) := by decide +kernel
theorem dX5_set_43 : decode cX5_set 43 = .ok (.getfield 19, 3) := by decide +kernel
theorem dX5_set_46 : decode cX5_set 46 = .ok (.iload_n 1, 1) := by decide +kernel
theorem dX5_set_47 : decode cX5_set 47 = .ok (.iaload, 1) := by decide +kernel
theorem dX5_set_48 : decode cX5_set 48 = .ok (.iaload, 1) := by decide +kernel
theorem dX5_set_49 : decode cX5_set 49 = .ok (.iconst 2, 1) := by decide +kernel
theorem dX5_set_50 : decode cX5_set 50 = .ok (.if_icmp .ge 7, 3) := by decide +kernel
theorem dX5_set_53 : decode cX5_set 53 = .ok (.iconst 2, 1) := by decide +kernel
theorem dX5_set_54 : decode cX5_set 54 = .ok (.goto 49, 3) := by decide +kernel
theorem dX5_set_57 : decode cX5_set 57 = .ok (.aload_n 0, 1) := by decide +kernel
theorem dX5_set_58 : decode cX5_set 58 = .ok (.iload_n 1, 1) := by decide +kernel
theorem dX5_set_59 : decode cX5_set 59 = .ok (.iload_n 2, 1) := by decide +kernel
theorem dX5_set_60 : decode cX5_set 60 = .ok (.invokevirtual 80, 3) := by decide +kernel
theorem dX5_set_63 : decode cX5_set 63 = .ok (.ifCond .ne 7, 3) := by decide +kernel
theorem dX5_set_66 : decode cX5_set 66 = .ok (.iconst 3, 1) := by decide +kernel
theorem dX5_set_67 : decode cX5_set 67 = .ok (.goto 36, 3) := by decide +kernel
theorem dX5_set_70 : decode cX5_set 70 = .ok (.aload_n 0, 1) := by decide +kernel
theorem dX5_set_71 : decode cX5_set 71 = .ok (.getfield 22, 3) := by decide +kernel
theorem dX5_set_74 : decode cX5_set 74 = .ok (.aload_n 0, 1) := by decide +kernel
theorem dX5_set_75 : decode cX5_set 75 = .ok (.getfield 19, 3) := by decide +kernel
theorem dX5_set_78 : decode cX5_set 78 = .ok (.iload_n 1, 1) := by decide +kernel
theorem dX5_set_79 : decode cX5_set 79 = .ok (.iaload, 1) := by decide +kernel
theorem dX5_set_80 : decode cX5_set 80 = .ok (.iaload, 1) := by decide +kernel
theorem dX5_set_81 : decode cX5_set 81 = .ok (.iconst 3, 1) := by decide +kernel
theorem dX5_set_82 : decode cX5_set 82 = .ok (.if_icmp .ne 20, 3) := by decide +kernel
theorem dX5_set_85 : decode cX5_set 85 = .ok (.iload_n 3, 1) := by decide +kernel
theorem dX5_set_86 : decode cX5_set 86 = .ok (.iconst (-1), 1) := by decide +kernel
theorem dX5_set_87 : decode cX5_set 87 = .ok (.if_icmp .eq 15, 3) := by decide +kernel
theorem dX5_set_90 : decode cX5_set 90 = .ok (.aload_n 0, 1) := by decide +kernel
theorem dX5_set_91 : decode cX5_set 91 = .ok (.iload_n 3, 1) := by decide +kernel
theorem dX5_set_92 : decode cX5_set 92 = .ok (.invokevirtual 84, 3) := by decide +kernel
theorem dX5_set_95 : decode cX5_set 95 = .ok (.ifCond .ne 7, 3) := by decide +kernel
theorem dX5_set_98 : decode cX5_set 98 = .ok (.iconst 5, 1) := by decide +kernel
theorem dX5_set_99 : decode cX5_set 99 = .ok (.goto 4, 3) := by decide +kernel
theorem dX5_set_102 : decode cX5_set 102 = .ok (.iconst 0, 1) := by decide +kernel
theorem dX5_set_103 : decode cX5_set 103 = .ok (.istore 4, 2) := by decide +kernel
theorem dX5_set_105 : decode cX5_set 105 = .ok (.aload_n 0, 1) := by decide +kernel
theorem dX5_set_106 : decode cX5_set 106 = .ok (.iload 4, 2) := by decide +kernel
theorem dX5_set_108 : decode cX5_set 108 = .ok (.invokevirtual 64, 3) := by decide +kernel
theorem dX5_set_111 : decode cX5_set 111 = .ok (.ifCond .eq 5, 3) := by decide +kernel
theorem dX5_set_114 : decode cX5_set 114 = .ok (.iconst 0, 1) := by decide +kernel
theorem dX5_set_115 : decode cX5_set 115 = .ok (.ireturn, 1) := by decide +kernel
theorem dX5_set_116 : decode cX5_set 116 = .ok (.bipush 12, 2) := by decide +kernel
theorem dX5_set_118 : decode cX5_set 118 = .ok (.aload_n 0, 1) := by decide +kernel
theorem dX5_set_119 : decode cX5_set 119 = .ok (.getfield 19, 3) := by decide +kernel
theorem dX5_set_122 : decode cX5_set 122 = .ok (.iload_n 1, 1) := by decide +kernel
theorem dX5_set_123 : decode cX5_set 123 = .ok (.iaload, 1) := by decide +kernel
theorem dX5_set_124 : decode cX5_set 124 = .ok (.imul, 1) := by decide +kernel
theorem dX5_set_125 : decode cX5_set 125 = .ok (.iload_n 2, 1) := by decide +kernel
theorem dX5_set_126 : decode cX5_set 126 = .ok (.iadd, 1) := by decide +kernel
theorem dX5_set_127 : decode cX5_set 127 = .ok (.istore 5, 2) := by decide +kernel
theorem dX5_set_129 : decode cX5_set 129 = .ok (.aload_n 0, 1) := by decide +kernel
theorem dX5_set_130 : decode cX5_set 130 = .ok (.getfield 28, 3) := by decide +kernel
theorem dX5_set_133 : decode cX5_set 133 = .ok (.iload 5, 2) := by decide +kernel
theorem dX5_set_135 : decode cX5_set 135 = .ok (.laload, 1) := by decide +kernel
theorem dX5_set_136 : decode cX5_set 136 = .ok (.l2i, 1) := by decide +kernel
theorem dX5_set_137 : decode cX5_set 137 = .ok (.istore 6, 2) := by decide +kernel
theorem dX5_set_139 : decode cX5_set 139 = .ok (.aload_n 0, 1) := by decide +kernel
theorem dX5_set_140 : decode cX5_set 140 = .ok (.getfield 28, 3) := by decide +kernel
theorem dX5_set_143 : decode cX5_set 143 = .ok (.iload 5, 2) := by decide +kernel
theorem dX5_set_145 : decode cX5_set 145 = .ok (.iload_n 3, 1) := by decide +kernel
theorem dX5_set_146 : decode cX5_set 146 = .ok (.i2l, 1) := by decide +kernel
theorem dX5_set_147 : decode cX5_set 147 = .ok (.lastore, 1) := by decide +kernel
theorem dX5_set_148 : decode cX5_set 148 = .ok (.iload 6, 2) := by decide +kernel
theorem dX5_set_150 : decode cX5_set 150 = .ok (.ireturn, 1) := by decide +kernel
set_option maxRecDepth 20000 in
theorem ggX5_going_X5_isLeaf : GoodIn wsX5_going wsX5_isLeaf := goodIn_r _ [8, 9, 10, 11, 12, 13, 14, 15, 16, 17, 18, 19, 20, 21, 22, 23, 24, 25, 26] (by decide +kernel) (by decide +kernel)
set_option maxRecDepth 20000 in
theorem gX5_going_X5_isLeaf : GoodIn wsX5_going (wsV RX5 84 RX5 yX5_isLeaf wsX5_isLeaf) := goodIn_app (goodIn_of _ (by decide +kernel)) ggX5_going_X5_isLeaf
theorem dX5_going_0 : decode cX5_going 0 = .ok (.iconst 0, 1) := by decide +kernel
theorem dX5_going_1 : decode cX5_going 1 = .ok (.istore 5, 2) := by decide +kernel
theorem dX5_going_3 : decode cX5_going 3 = .ok (.iload 5, 2) := by decide +kernel
theorem dX5_going_5 : decode cX5_going 5 = .ok (.iload 4, 2) := by decide +kernel
theorem dX5_going_7 : decode cX5_going 7 = .ok (.if_icmp .ge 62, 3) := by decide +kernel
theorem dX5_going_10 : decode cX5_going 10 = .ok (.aload_n 0, 1) := by decide +kernel
theorem dX5_going_11 : decode cX5_going 11 = .ok (.getfield 22, 3) := by decide +kernel
theorem dX5_going_14 : decode cX5_going 14 = .ok (.iload_n 3, 1) := by decide +kernel
theorem dX5_going_15 : decode cX5_going 15 = .ok (.iaload, 1) := by decide +kernel
theorem dX5_going_16 : decode cX5_going 16 = .ok (.iconst 3, 1) := by decide +kernel
theorem dX5_going_17 : decode cX5_going 17 = .ok (.if_icmp .ne 46, 3) := by decide +kernel
theorem dX5_going_20 : decode cX5_going 20 = .ok (.aload_n 0, 1) := by decide +kernel
theorem dX5_going_21 : decode cX5_going 21 = .ok (.getfield 28, 3) := by decide +kernel
theorem dX5_going_24 : decode cX5_going 24 = .ok (.bipush 12, 2) := by decide +kernel
theorem dX5_going_26 : decode cX5_going 26 = .ok (.iload_n 1, 1) := by decide +kernel
theorem dX5_going_27 : decode cX5_going 27 = .ok (.imul, 1) := by decide +kernel
theorem dX5_going_28 : decode cX5_going 28 = .ok (.iload_n 2, 1) := by decide +kernel
theorem dX5_going_29 : decode cX5_going 29 = .ok (.iadd, 1) := by decide +kernel
theorem dX5_going_30 : decode cX5_going 30 = .ok (.iload 5, 2) := by decide +kernel
theorem dX5_going_32 : decode cX5_going 32 = .ok (.iadd, 1) := by decide +kernel
theorem dX5_going_33 : decode cX5_going 33 = .ok (.laload, 1) := by decide +kernel
theorem dX5_going_34 : decode cX5_going 34 = .ok (.ldc2_w 73, 3) := by decide +kernel
theorem dX5_going_37 : decode cX5_going 37 = .ok (.lcmp, 1) := by decide +kernel
theorem dX5_going_38 : decode cX5_going 38 = .ok (.ifCond .eq 25, 3) := by decide +kernel
theorem dX5_going_41 : decode cX5_going 41 = .ok (.aload_n 0, 1) := by decide +kernel
theorem dX5_going_42 : decode cX5_going 42 = .ok (.aload_n 0, 1) := by decide +kernel
theorem dX5_going_43 : decode cX5_going 43 = .ok (.getfield 28, 3) := by decide +kernel
theorem dX5_going_46 : decode cX5_going 46 = .ok (.bipush 12, 2) := by decide +kernel
theorem dX5_going_48 : decode cX5_going 48 = .ok (.iload_n 1, 1) := by decide +kernel
theorem dX5_going_49 : decode cX5_going 49 = .ok (.imul, 1) := by decide +kernel
theorem dX5_going_50 : decode cX5_going 50 = .ok (.iload_n 2, 1) := by decide +kernel
theorem dX5_going_51 : decode cX5_going 51 = .ok (.iadd, 1) := by decide +kernel
theorem dX5_going_52 : decode cX5_going 52 = .ok (.iload 5, 2) := by decide +kernel
theorem dX5_going_54 : decode cX5_going 54 = .ok (.iadd, 1) := by decide +kernel
theorem dX5_going_55 : decode cX5_going 55 = .ok (.laload, 1) := by decide +kernel
theorem dX5_going_56 : decode cX5_going 56 = .ok (.l2i, 1) := by decide +kernel
theorem dX5_going_57 : decode cX5_going 57 = .ok (.invokevirtual 84, 3) := by decide +kernel
theorem dX5_going_60 : decode cX5_going 60 = .ok (.ifCond .eq 9, 3) := by decide +kernel
theorem dX5_going_63 : decode cX5_going 63 = .ok (.iinc 5 1, 3) := by decide +kernel
theorem dX5_going_66 : decode cX5_going 66 = .ok (.goto (-63), 3) := by decide +kernel
theorem dX5_going_69 : decode cX5_going 69 = .ok (.iload 5, 2) := by decide +kernel
theorem dX5_going_71 : decode cX5_going 71 = .ok (.ireturn, 1) := by decide +kernel
set_option maxRecDepth 20000 in
theorem ggX5_move_X5_isThing : GoodIn wsX5_move wsX5_isThing := goodIn_r _ [10, 11, 12, 13, 9, 14, 31, 32, 33, 34, 35, 36, 37, 38, 39, 40, 41, 42, 43, 44, 45, 46, 47] (by decide +kernel) (by decide +kernel)
set_option maxRecDepth 20000 in
theorem gX5_move_X5_isThing : GoodIn wsX5_move (wsV RX5 60 RX5 yX5_isThing wsX5_isThing) := goodIn_app (goodIn_of _ (by decide +kernel)) ggX5_move_X5_isThing
set_option maxRecDepth 20000 in
theorem ggX5_move_X5_tell : GoodIn wsX5_move wsX5_tell := goodIn_r _ [18, 19, 20, 31, 32, 33, 34, 35, 36, 37, 38, 39, 40, 41, 42, 43, 44, 45, 46, 47] (by decide +kernel) (by decide +kernel)
set_option maxRecDepth 20000 in
theorem gX5_move_X5_tell : GoodIn wsX5_move (wsV RX5 64 RX5 yX5_tell wsX5_tell) := goodIn_app (goodIn_of _ (by decide +kernel)) ggX5_move_X5_tell
set_option maxRecDepth 20000 in
theorem ggX5_move_X5_going : GoodIn wsX5_move wsX5_going := goodIn_r _ [24, 3, 5, 25, 26, 27, 28, 9, 29, 30, 31, 32, 33, 34, 35, 36, 37, 38, 39, 40, 41, 42, 43, 44, 45, 46, 47] (by decide +kernel) (by decide +kernel)
set_option maxRecDepth 20000 in
theorem gX5_move_X5_going : GoodIn wsX5_move (wsV RX5 87 RX5 yX5_going wsX5_going) := goodIn_app (goodIn_of _ (by decide +kernel)) ggX5_move_X5_going
theorem dX5_move_0 : decode cX5_move 0 = .ok (.aload_n 0, 1) := by decide +kernel
theorem dX5_move_1 : decode cX5_move 1 = .ok (.iload_n 1, 1) := by decide +kernel
theorem dX5_move_2 : decode cX5_move 2 = .ok (.invokevirtual 60, 3) := by decide +kernel
theorem dX5_move_5 : decode cX5_move 5 = .ok (.ifCond .eq 11, 3) := by decide +kernel
theorem dX5_move_8 : decode cX5_move 8 = .ok (.aload_n 0, 1) := by decide +kernel
theorem dX5_move_9 : decode cX5_move 9 = .ok (.iload_n 3, 1) := by decide +kernel
theorem dX5_move_10 : decode cX5_move 10 = .ok (.invokevirtual 60, 3) := by decide +kernel
theorem dX5_move_13 : decode cX5_move 13 = .ok (.ifCond .ne 6, 3) := by decide +kernel
theorem dX5_move_16 : decode cX5_move 16 = .ok (.ldc 48, 2) := by decide +kernel
theorem dX5_move_18 : decode cX5_move 18 = .ok (.ireturn, 1) := by decide +kernel
theorem dX5_move_19 : decode cX5_move 19 = .ok (.aload_n 0, 1) := by decide +kernel
theorem dX5_move_20 : decode cX5_move 20 = .ok (.getfield 19, 3) := by decide +kernel
theorem dX5_move_23 : decode cX5_move 23 = .ok (.iload_n 1, 1) := by decide +kernel
theorem dX5_move_24 : decode cX5_move 24 = .ok (.iaload, 1) := by decide +kernel
theorem dX5_move_25 : decode cX5_move 25 = .ok (.istore 6, 2) := by decide +kernel
theorem dX5_move_27 : decode cX5_move 27 = .ok (.aload_n 0, 1) := by decide +kernel
theorem dX5_move_28 : decode cX5_move 28 = .ok (.getfield 19, 3) := by decide +kernel
theorem dX5_move_31 : decode cX5_move 31 = .ok (.iload_n 3, 1) := by decide +kernel
theorem dX5_move_32 : decode cX5_move 32 = .ok (.iaload, 1) := by decide +kernel
theorem dX5_move_33 : decode cX5_move 33 = .ok (.istore 7, 2) := by decide +kernel
theorem dX5_move_35 : decode cX5_move 35 = .ok (.iload 6, 2) := by decide +kernel
theorem dX5_move_37 : decode cX5_move 37 = .ok (.iconst (-1), 1) := by decide +kernel
theorem dX5_move_38 : decode cX5_move 38 = .ok (.if_icmp .eq 9, 3) := by decide +kernel
theorem dX5_move_41 : decode cX5_move 41 = .ok (.iload 7, 2) := by decide +kernel
theorem dX5_move_43 : decode cX5_move 43 = .ok (.iconst (-1), 1) := by decide +kernel
theorem dX5_move_44 : decode cX5_move 44 = .ok (.if_icmp .ne 11, 3) := by decide +kernel
theorem dX5_move_47 : decode cX5_move 47 = .ok (.iconst 0, 1) := by decide +kernel
theorem dX5_move_48 : decode cX5_move 48 = .ok (.aload_n 0, 1) := by decide +kernel
theorem dX5_move_49 : decode cX5_move 49 = .ok (.iconst 1, 1) := by decide +kernel
theorem dX5_move_50 : decode cX5_move 50 = .ok (.invokevirtual 64, 3) := by decide +kernel
theorem dX5_move_53 : decode cX5_move 53 = .ok (.imul, 1) := by decide +kernel
theorem dX5_move_54 : decode cX5_move 54 = .ok (.ireturn, 1) := by decide +kernel
theorem dX5_move_55 : decode cX5_move 55 = .ok (.aload_n 0, 1) := by decide +kernel
theorem dX5_move_56 : decode cX5_move 56 = .ok (.getfield 22, 3) := by decide +kernel
theorem dX5_move_59 : decode cX5_move 59 = .ok (.iload 6, 2) := by decide +kernel
theorem dX5_move_61 : decode cX5_move 61 = .ok (.iaload, 1) := by decide +kernel
theorem dX5_move_62 : decode cX5_move 62 = .ok (.aload_n 0, 1) := by decide +kernel
theorem dX5_move_63 : decode cX5_move 63 = .ok (.getfield 22, 3) := by decide +kernel
theorem dX5_move_66 : decode cX5_move 66 = .ok (.iload 7, 2) := by decide +kernel
theorem dX5_move_68 : decode cX5_move 68 = .ok (.iaload, 1) := by decide +kernel
theorem dX5_move_69 : decode cX5_move 69 = .ok (.if_icmp .eq 25, 3) := by decide +kernel
theorem dX5_move_72 : decode cX5_move 72 = .ok (.aload_n 0, 1) := by decide +kernel
theorem dX5_move_73 : decode cX5_move 73 = .ok (.getfield 22, 3) := by decide +kernel
theorem dX5_move_76 : decode cX5_move 76 = .ok (.iload 6, 2) := by decide +kernel
theorem dX5_move_78 : decode cX5_move 78 = .ok (.iaload, 1) := by decide +kernel
theorem dX5_move_79 : decode cX5_move 79 = .ok (.iconst 1, 1) := by decide +kernel
theorem dX5_move_80 : decode cX5_move 80 = .ok (.if_icmp .le 18, 3) := by decide +kernel
theorem dX5_move_83 : decode cX5_move 83 = .ok (.aload_n 0, 1) := by decide +kernel
theorem dX5_move_84 : decode cX5_move 84 = .ok (.getfield 22, 3) := by decide +kernel
theorem dX5_move_87 : decode cX5_move 87 = .ok (.iload 7, 2) := by decide +kernel
theorem dX5_move_89 : decode cX5_move 89 = .ok (.iaload, 1) := by decide +kernel
theorem dX5_move_90 : decode cX5_move 90 = .ok (.iconst 1, 1) := by decide +kernel
theorem dX5_move_91 : decode cX5_move 91 = .ok (.if_icmp .le 7, 3) := by decide +kernel
theorem dX5_move_94 : decode cX5_move 94 = .ok (.iconst 1, 1) := by decide +kernel
theorem dX5_move_95 : decode cX5_move 95 = .ok (.goto 4, 3) := by decide +kernel
theorem dX5_move_98 : decode cX5_move 98 = .ok (.iconst 0, 1) := by decide +kernel
theorem dX5_move_99 : decode cX5_move 99 = .ok (.istore 8, 2) := by decide +kernel
theorem dX5_move_101 : decode cX5_move 101 = .ok (.iload_n 2, 1) := by decide +kernel
theorem dX5_move_102 : decode cX5_move 102 = .ok (.ifCond .lt 54, 3) := by decide +kernel
theorem dX5_move_105 : decode cX5_move 105 = .ok (.iload 4, 2) := by decide +kernel
theorem dX5_move_107 : decode cX5_move 107 = .ok (.ifCond .lt 49, 3) := by decide +kernel
theorem dX5_move_110 : decode cX5_move 110 = .ok (.iload 5, 2) := by decide +kernel
theorem dX5_move_112 : decode cX5_move 112 = .ok (.ifCond .lt 44, 3) := by decide +kernel
theorem dX5_move_115 : decode cX5_move 115 = .ok (.iload_n 2, 1) := by decide +kernel
theorem dX5_move_116 : decode cX5_move 116 = .ok (.i2l, 1) := by decide +kernel
theorem dX5_move_117 : decode cX5_move 117 = .ok (.iload 5, 2) := by decide +kernel
theorem dX5_move_119 : decode cX5_move 119 = .ok (.i2l, 1) := by decide +kernel
theorem dX5_move_120 : decode cX5_move 120 = .ok (.ladd, 1) := by decide +kernel
theorem dX5_move_121 : decode cX5_move 121 = .ok (.aload_n 0, 1) := by decide +kernel
theorem dX5_move_122 : decode cX5_move 122 = .ok (.getfield 25, 3) := by decide +kernel
theorem dX5_move_125 : decode cX5_move 125 = .ok (.iload 6, 2) := by decide +kernel
theorem dX5_move_127 : decode cX5_move 127 = .ok (.iaload, 1) := by decide +kernel
theorem dX5_move_128 : decode cX5_move 128 = .ok (.i2l, 1) := by decide +kernel
theorem dX5_move_129 : decode cX5_move 129 = .ok (.lcmp, 1) := by decide +kernel
theorem dX5_move_130 : decode cX5_move 130 = .ok (.ifCond .gt 26, 3) := by decide +kernel
theorem dX5_move_133 : decode cX5_move 133 = .ok (.iload 4, 2) := by decide +kernel
end
section
theorem dX5_move_135 : decode cX5_move 135 = .ok (.i2l, 1) := by decide +kernel
theorem dX5_move_136 : decode cX5_move 136 = .ok (.iload 5, 2) := by decide +kernel
theorem dX5_move_138 : decode cX5_move 138 = .ok (.i2l, 1) := by decide +kernel
theorem dX5_move_139 : decode cX5_move 139 = .ok (.ladd, 1) := by decide +kernel
theorem dX5_move_140 : decode cX5_move 140 = .ok (.aload_n 0, 1) := by decide +kernel
theorem dX5_move_141 : decode cX5_move 141 = .ok (.getfield 25, 3) := by decide +kernel
theorem dX5_move_144 : decode cX5_move 144 = .ok (.iload 7, 2) := by decide +kernel
theorem dX5_move_146 : decode cX5_move 146 = .ok (.iaload, 1) := by decide +kernel
theorem dX5_move_147 : decode cX5_move 147 = .ok (.i2l, 1) := by decide +kernel
theorem dX5_move_148 : decode cX5_move 148 = .ok (.lcmp, 1) := by decide +kernel
theorem dX5_move_149 : decode cX5_move 149 = .ok (.ifCond .gt 7, 3) := by decide +kernel
theorem dX5_move_152 : decode cX5_move 152 = .ok (.iconst 1, 1) := by decide +kernel
theorem dX5_move_153 : decode cX5_move 153 = .ok (.goto 4, 3) := by decide +kernel
theorem dX5_move_156 : decode cX5_move 156 = .ok (.iconst 0, 1) := by decide +kernel
theorem dX5_move_157 : decode cX5_move 157 = .ok (.istore 9, 2) := by decide +kernel
theorem dX5_move_159 : decode cX5_move 159 = .ok (.iload 8, 2) := by decide +kernel
theorem dX5_move_161 : decode cX5_move 161 = .ok (.ifCond .eq 8, 3) := by decide +kernel
theorem dX5_move_164 : decode cX5_move 164 = .ok (.iload 9, 2) := by decide +kernel
theorem dX5_move_166 : decode cX5_move 166 = .ok (.ifCond .ne 20, 3) := by decide +kernel
theorem dX5_move_169 : decode cX5_move 169 = .ok (.iconst 0, 1) := by decide +kernel
theorem dX5_move_170 : decode cX5_move 170 = .ok (.aload_n 0, 1) := by decide +kernel
theorem dX5_move_171 : decode cX5_move 171 = .ok (.iload 8, 2) := by decide +kernel
theorem dX5_move_173 : decode cX5_move 173 = .ok (.ifCond .eq 7, 3) := by decide +kernel
theorem dX5_move_176 : decode cX5_move 176 = .ok (.iconst 3, 1) := by decide +kernel
theorem dX5_move_177 : decode cX5_move 177 = .ok (.goto 4, 3) := by decide +kernel
theorem dX5_move_180 : decode cX5_move 180 = .ok (.iconst 5, 1) := by decide +kernel
theorem dX5_move_181 : decode cX5_move 181 = .ok (.invokevirtual 64, 3) := by decide +kernel
theorem dX5_move_184 : decode cX5_move 184 = .ok (.imul, 1) := by decide +kernel
theorem dX5_move_185 : decode cX5_move 185 = .ok (.ireturn, 1) := by decide +kernel
theorem dX5_move_186 : decode cX5_move 186 = .ok (.aload_n 0, 1) := by decide +kernel
theorem dX5_move_187 : decode cX5_move 187 = .ok (.iload 6, 2) := by decide +kernel
theorem dX5_move_189 : decode cX5_move 189 = .ok (.iload_n 2, 1) := by decide +kernel
theorem dX5_move_190 : decode cX5_move 190 = .ok (.iload 7, 2) := by decide +kernel
theorem dX5_move_192 : decode cX5_move 192 = .ok (.iload 5, 2) := by decide +kernel
theorem dX5_move_194 : decode cX5_move 194 = .ok (.invokevirtual 87, 3) := by decide +kernel
theorem dX5_move_197 : decode cX5_move 197 = .ok (.istore 10, 2) := by decide +kernel
theorem dX5_move_199 : decode cX5_move 199 = .ok (.iconst 0, 1) := by decide +kernel
theorem dX5_move_200 : decode cX5_move 200 = .ok (.istore 11, 2) := by decide +kernel
theorem dX5_move_202 : decode cX5_move 202 = .ok (.iload 11, 2) := by decide +kernel
theorem dX5_move_204 : decode cX5_move 204 = .ok (.iload 10, 2) := by decide +kernel
theorem dX5_move_206 : decode cX5_move 206 = .ok (.if_icmp .ge 67, 3) := by decide +kernel
theorem dX5_move_209 : decode cX5_move 209 = .ok (.iload 6, 2) := by decide +kernel
theorem dX5_move_211 : decode cX5_move 211 = .ok (.iload 7, 2) := by decide +kernel
theorem dX5_move_213 : decode cX5_move 213 = .ok (.if_icmp .ne 19, 3) := by decide +kernel
theorem dX5_move_216 : decode cX5_move 216 = .ok (.iload_n 2, 1) := by decide +kernel
theorem dX5_move_217 : decode cX5_move 217 = .ok (.iload 4, 2) := by decide +kernel
theorem dX5_move_219 : decode cX5_move 219 = .ok (.if_icmp .ge 13, 3) := by decide +kernel
theorem dX5_move_222 : decode cX5_move 222 = .ok (.iload 10, 2) := by decide +kernel
theorem dX5_move_224 : decode cX5_move 224 = .ok (.iconst 1, 1) := by decide +kernel
theorem dX5_move_225 : decode cX5_move 225 = .ok (.isub, 1) := by decide +kernel
theorem dX5_move_226 : decode cX5_move 226 = .ok (.iload 11, 2) := by decide +kernel
theorem dX5_move_228 : decode cX5_move 228 = .ok (.isub, 1) := by decide +kernel
theorem dX5_move_229 : decode cX5_move 229 = .ok (.goto 5, 3) := by decide +kernel
theorem dX5_move_232 : decode cX5_move 232 = .ok (.iload 11, 2) := by decide +kernel
theorem dX5_move_234 : decode cX5_move 234 = .ok (.istore 12, 2) := by decide +kernel
theorem dX5_move_236 : decode cX5_move 236 = .ok (.aload_n 0, 1) := by decide +kernel
theorem dX5_move_237 : decode cX5_move 237 = .ok (.getfield 28, 3) := by decide +kernel
theorem dX5_move_240 : decode cX5_move 240 = .ok (.bipush 12, 2) := by decide +kernel
theorem dX5_move_242 : decode cX5_move 242 = .ok (.iload 7, 2) := by decide +kernel
theorem dX5_move_244 : decode cX5_move 244 = .ok (.imul, 1) := by decide +kernel
theorem dX5_move_245 : decode cX5_move 245 = .ok (.iload 4, 2) := by decide +kernel
theorem dX5_move_247 : decode cX5_move 247 = .ok (.iadd, 1) := by decide +kernel
theorem dX5_move_248 : decode cX5_move 248 = .ok (.iload 12, 2) := by decide +kernel
theorem dX5_move_250 : decode cX5_move 250 = .ok (.iadd, 1) := by decide +kernel
theorem dX5_move_251 : decode cX5_move 251 = .ok (.aload_n 0, 1) := by decide +kernel
theorem dX5_move_252 : decode cX5_move 252 = .ok (.getfield 28, 3) := by decide +kernel
theorem dX5_move_255 : decode cX5_move 255 = .ok (.bipush 12, 2) := by decide +kernel
theorem dX5_move_257 : decode cX5_move 257 = .ok (.iload 6, 2) := by decide +kernel
theorem dX5_move_259 : decode cX5_move 259 = .ok (.imul, 1) := by decide +kernel
theorem dX5_move_260 : decode cX5_move 260 = .ok (.iload_n 2, 1) := by decide +kernel
theorem dX5_move_261 : decode cX5_move 261 = .ok (.iadd, 1) := by decide +kernel
theorem dX5_move_262 : decode cX5_move 262 = .ok (.iload 12, 2) := by decide +kernel
theorem dX5_move_264 : decode cX5_move 264 = .ok (.iadd, 1) := by decide +kernel
theorem dX5_move_265 : decode cX5_move 265 = .ok (.laload, 1) := by decide +kernel
theorem dX5_move_266 : decode cX5_move 266 = .ok (.lastore, 1) := by decide +kernel
theorem dX5_move_267 : decode cX5_move 267 = .ok (.iinc 11 1, 3) := by decide +kernel
theorem dX5_move_270 : decode cX5_move 270 = .ok (.goto (-68), 3) := by decide +kernel
theorem dX5_move_273 : decode cX5_move 273 = .ok (.aload_n 0, 1) := by decide +kernel
theorem dX5_move_274 : decode cX5_move 274 = .ok (.iload 10, 2) := by decide +kernel
theorem dX5_move_276 : decode cX5_move 276 = .ok (.iload 5, 2) := by decide +kernel
theorem dX5_move_278 : decode cX5_move 278 = .ok (.if_icmp .ne 7, 3) := by decide +kernel
theorem dX5_move_281 : decode cX5_move 281 = .ok (.iconst 0, 1) := by decide +kernel
theorem dX5_move_282 : decode cX5_move 282 = .ok (.goto 4, 3) := by decide +kernel
theorem dX5_move_285 : decode cX5_move 285 = .ok (.iconst 5, 1) := by decide +kernel
theorem dX5_move_286 : decode cX5_move 286 = .ok (.invokevirtual 64, 3) := by decide +kernel
theorem dX5_move_289 : decode cX5_move 289 = .ok (.ifCond .ne 8, 3) := by decide +kernel
theorem dX5_move_292 : decode cX5_move 292 = .ok (.iload 5, 2) := by decide +kernel
theorem dX5_move_294 : decode cX5_move 294 = .ok (.goto 4, 3) := by decide +kernel
theorem dX5_move_297 : decode cX5_move 297 = .ok (.iconst 0, 1) := by decide +kernel
theorem dX5_move_298 : decode cX5_move 298 = .ok (.ireturn, 1) := by decide +kernel
set_option maxRecDepth 20000 in
theorem ggX5_plain_X5_summed : GoodIn wsX5_plain wsX5_summed := goodIn_r _ [12, 4, 13, 6, 14, 15, 16, 17, 18, 19, 20, 21, 22, 23, 24, 25, 26, 27, 28, 29, 30] (by decide +kernel) (by decide +kernel)
set_option maxRecDepth 20000 in
theorem gX5_plain_X5_summed : GoodIn wsX5_plain (wsV RX5 97 RX5 yX5_summed wsX5_summed) := goodIn_app (goodIn_of _ (by decide +kernel)) ggX5_plain_X5_summed
theorem dX5_plain_0 : decode cX5_plain 0 = .ok (.aload_n 0, 1) := by decide +kernel
theorem dX5_plain_1 : decode cX5_plain 1 = .ok (.getfield 13, 3) := by decide +kernel
theorem dX5_plain_4 : decode cX5_plain 4 = .ok (.iload_n 1, 1) := by decide +kernel
theorem dX5_plain_5 : decode cX5_plain 5 = .ok (.iaload, 1) := by decide +kernel
theorem dX5_plain_6 : decode cX5_plain 6 = .ok (.istore_n 2, 1) := by decide +kernel
theorem dX5_plain_7 : decode cX5_plain 7 = .ok (.aload_n 0, 1) := by decide +kernel
theorem dX5_plain_8 : decode cX5_plain 8 = .ok (.getfield 19, 3) := by decide +kernel
theorem dX5_plain_11 : decode cX5_plain 11 = .ok (.iload_n 1, 1) := by decide +kernel
theorem dX5_plain_12 : decode cX5_plain 12 = .ok (.iaload, 1) := by decide +kernel
theorem dX5_plain_13 : decode cX5_plain 13 = .ok (.istore_n 3, 1) := by decide +kernel
theorem dX5_plain_14 : decode cX5_plain 14 = .ok (.aload_n 0, 1) := by decide +kernel
theorem dX5_plain_15 : decode cX5_plain 15 = .ok (.getfield 7, 3) := by decide +kernel
theorem dX5_plain_18 : decode cX5_plain 18 = .ok (.iload_n 1, 1) := by decide +kernel
theorem dX5_plain_19 : decode cX5_plain 19 = .ok (.iaload, 1) := by decide +kernel
theorem dX5_plain_20 : decode cX5_plain 20 = .ok (.tableswitch 129 0 6 #[44, 51, 60, 69, 129, 97, 113], 44) := by decide +kernel
theorem dX5_plain_64 : decode cX5_plain 64 = .ok (.aload_n 0, 1) := by decide +kernel
theorem dX5_plain_65 : decode cX5_plain 65 = .ok (.iload_n 2, 1) := by decide +kernel
theorem dX5_plain_66 : decode cX5_plain 66 = .ok (.putfield 91, 3) := by decide +kernel
theorem dX5_plain_69 : decode cX5_plain 69 = .ok (.iconst 0, 1) := by decide +kernel
theorem dX5_plain_70 : decode cX5_plain 70 = .ok (.ireturn, 1) := by decide +kernel
theorem dX5_plain_71 : decode cX5_plain 71 = .ok (.aload_n 0, 1) := by decide +kernel
theorem dX5_plain_72 : decode cX5_plain 72 = .ok (.iconst 2, 1) := by decide +kernel
theorem dX5_plain_73 : decode cX5_plain 73 = .ok (.iload_n 2, 1) := by decide +kernel
theorem dX5_plain_74 : decode cX5_plain 74 = .ok (.imul, 1) := by decide +kernel
theorem dX5_plain_75 : decode cX5_plain 75 = .ok (.putfield 91, 3) := by decide +kernel
theorem dX5_plain_78 : decode cX5_plain 78 = .ok (.iconst 0, 1) := by decide +kernel
theorem dX5_plain_79 : decode cX5_plain 79 = .ok (.ireturn, 1) := by decide +kernel
theorem dX5_plain_80 : decode cX5_plain 80 = .ok (.aload_n 0, 1) := by decide +kernel
theorem dX5_plain_81 : decode cX5_plain 81 = .ok (.iconst 3, 1) := by decide +kernel
theorem dX5_plain_82 : decode cX5_plain 82 = .ok (.iload_n 2, 1) := by decide +kernel
theorem dX5_plain_83 : decode cX5_plain 83 = .ok (.imul, 1) := by decide +kernel
theorem dX5_plain_84 : decode cX5_plain 84 = .ok (.putfield 91, 3) := by decide +kernel
theorem dX5_plain_87 : decode cX5_plain 87 = .ok (.iconst 0, 1) := by decide +kernel
theorem dX5_plain_88 : decode cX5_plain 88 = .ok (.ireturn, 1) := by decide +kernel
theorem dX5_plain_89 : decode cX5_plain 89 = .ok (.aload_n 0, 1) := by decide +kernel
theorem dX5_plain_90 : decode cX5_plain 90 = .ok (.iload_n 2, 1) := by decide +kernel
theorem dX5_plain_91 : decode cX5_plain 91 = .ok (.ifCond .ne 7, 3) := by decide +kernel
theorem dX5_plain_94 : decode cX5_plain 94 = .ok (.iconst 0, 1) := by decide +kernel
theorem dX5_plain_95 : decode cX5_plain 95 = .ok (.goto 8, 3) := by decide +kernel
theorem dX5_plain_98 : decode cX5_plain 98 = .ok (.sipush 1000, 3) := by decide +kernel
theorem dX5_plain_101 : decode cX5_plain 101 = .ok (.iload_n 2, 1) := by decide +kernel
theorem dX5_plain_102 : decode cX5_plain 102 = .ok (.idiv, 1) := by decide +kernel
theorem dX5_plain_103 : decode cX5_plain 103 = .ok (.putfield 91, 3) := by decide +kernel
theorem dX5_plain_106 : decode cX5_plain 106 = .ok (.iload_n 2, 1) := by decide +kernel
theorem dX5_plain_107 : decode cX5_plain 107 = .ok (.ifCond .ne 8, 3) := by decide +kernel
theorem dX5_plain_110 : decode cX5_plain 110 = .ok (.bipush 6, 2) := by decide +kernel
theorem dX5_plain_112 : decode cX5_plain 112 = .ok (.goto 4, 3) := by decide +kernel
theorem dX5_plain_115 : decode cX5_plain 115 = .ok (.iconst 0, 1) := by decide +kernel
theorem dX5_plain_116 : decode cX5_plain 116 = .ok (.ireturn, 1) := by decide +kernel
theorem dX5_plain_117 : decode cX5_plain 117 = .ok (.aload_n 0, 1) := by decide +kernel
theorem dX5_plain_118 : decode cX5_plain 118 = .ok (.iload_n 2, 1) := by decide +kernel
theorem dX5_plain_119 : decode cX5_plain 119 = .ok (.putfield 94, 3) := by decide +kernel
theorem dX5_plain_122 : decode cX5_plain 122 = .ok (.iload_n 2, 1) := by decide +kernel
theorem dX5_plain_123 : decode cX5_plain 123 = .ok (.ifCond .ne 7, 3) := by decide +kernel
theorem dX5_plain_126 : decode cX5_plain 126 = .ok (.iconst 1, 1) := by decide +kernel
theorem dX5_plain_127 : decode cX5_plain 127 = .ok (.goto 5, 3) := by decide +kernel
theorem dX5_plain_130 : decode cX5_plain 130 = .ok (.bipush 7, 2) := by decide +kernel
theorem dX5_plain_132 : decode cX5_plain 132 = .ok (.ireturn, 1) := by decide +kernel
theorem dX5_plain_133 : decode cX5_plain 133 = .ok (.aload_n 0, 1) := by decide +kernel
theorem dX5_plain_134 : decode cX5_plain 134 = .ok (.aload_n 0, 1) := by decide +kernel
theorem dX5_plain_135 : decode cX5_plain 135 = .ok (.getfield 28, 3) := by decide +kernel
theorem dX5_plain_138 : decode cX5_plain 138 = .ok (.bipush 12, 2) := by decide +kernel
theorem dX5_plain_140 : decode cX5_plain 140 = .ok (.iload_n 3, 1) := by decide +kernel
theorem dX5_plain_141 : decode cX5_plain 141 = .ok (.imul, 1) := by decide +kernel
theorem dX5_plain_142 : decode cX5_plain 142 = .ok (.laload, 1) := by decide +kernel
theorem dX5_plain_143 : decode cX5_plain 143 = .ok (.l2i, 1) := by decide +kernel
theorem dX5_plain_144 : decode cX5_plain 144 = .ok (.putfield 91, 3) := by decide +kernel
theorem dX5_plain_147 : decode cX5_plain 147 = .ok (.iconst 0, 1) := by decide +kernel
theorem dX5_plain_148 : decode cX5_plain 148 = .ok (.ireturn, 1) := by decide +kernel
theorem dX5_plain_149 : decode cX5_plain 149 = .ok (.iload_n 3, 1) := by decide +kernel
theorem dX5_plain_150 : decode cX5_plain 150 = .ok (.iconst (-1), 1) := by decide +kernel
theorem dX5_plain_151 : decode cX5_plain 151 = .ok (.if_icmp .ne 7, 3) := by decide +kernel
theorem dX5_plain_154 : decode cX5_plain 154 = .ok (.iconst 1, 1) := by decide +kernel
theorem dX5_plain_155 : decode cX5_plain 155 = .ok (.goto 21, 3) := by decide +kernel
theorem dX5_plain_158 : decode cX5_plain 158 = .ok (.aload_n 0, 1) := by decide +kernel
theorem dX5_plain_159 : decode cX5_plain 159 = .ok (.getfield 22, 3) := by decide +kernel
theorem dX5_plain_162 : decode cX5_plain 162 = .ok (.iload_n 3, 1) := by decide +kernel
theorem dX5_plain_163 : decode cX5_plain 163 = .ok (.iaload, 1) := by decide +kernel
theorem dX5_plain_164 : decode cX5_plain 164 = .ok (.ifCond .eq 7, 3) := by decide +kernel
theorem dX5_plain_167 : decode cX5_plain 167 = .ok (.iconst 2, 1) := by decide +kernel
theorem dX5_plain_168 : decode cX5_plain 168 = .ok (.goto 8, 3) := by decide +kernel
theorem dX5_plain_171 : decode cX5_plain 171 = .ok (.aload_n 0, 1) := by decide +kernel
theorem dX5_plain_172 : decode cX5_plain 172 = .ok (.iload_n 3, 1) := by decide +kernel
theorem dX5_plain_173 : decode cX5_plain 173 = .ok (.invokevirtual 97, 3) := by decide +kernel
theorem dX5_plain_176 : decode cX5_plain 176 = .ok (.ireturn, 1) := by decide +kernel
theorem dX5_summed_0 : decode cX5_summed 0 = .ok (.aload_n 0, 1) := by decide +kernel
theorem dX5_summed_1 : decode cX5_summed 1 = .ok (.iconst 0, 1) := by decide +kernel
theorem dX5_summed_2 : decode cX5_summed 2 = .ok (.putfield 91, 3) := by decide +kernel
theorem dX5_summed_5 : decode cX5_summed 5 = .ok (.iconst 0, 1) := by decide +kernel
theorem dX5_summed_6 : decode cX5_summed 6 = .ok (.istore_n 2, 1) := by decide +kernel
theorem dX5_summed_7 : decode cX5_summed 7 = .ok (.iload_n 2, 1) := by decide +kernel
theorem dX5_summed_8 : decode cX5_summed 8 = .ok (.aload_n 0, 1) := by decide +kernel
theorem dX5_summed_9 : decode cX5_summed 9 = .ok (.getfield 25, 3) := by decide +kernel
theorem dX5_summed_12 : decode cX5_summed 12 = .ok (.iload_n 1, 1) := by decide +kernel
theorem dX5_summed_13 : decode cX5_summed 13 = .ok (.iaload, 1) := by decide +kernel
theorem dX5_summed_14 : decode cX5_summed 14 = .ok (.if_icmp .ge 30, 3) := by decide +kernel
theorem dX5_summed_17 : decode cX5_summed 17 = .ok (.aload_n 0, 1) := by decide +kernel
theorem dX5_summed_18 : decode cX5_summed 18 = .ok (.dup, 1) := by decide +kernel
theorem dX5_summed_19 : decode cX5_summed 19 = .ok (.getfield 91, 3) := by decide +kernel
theorem dX5_summed_22 : decode cX5_summed 22 = .ok (.aload_n 0, 1) := by decide +kernel
theorem dX5_summed_23 : decode cX5_summed 23 = .ok (.getfield 28, 3) := by decide +kernel
theorem dX5_summed_26 : decode cX5_summed 26 = .ok (.bipush 12, 2) := by decide +kernel
theorem dX5_summed_28 : decode cX5_summed 28 = .ok (.iload_n 1, 1) := by decide +kernel
theorem dX5_summed_29 : decode cX5_summed 29 = .ok (.imul, 1) := by decide +kernel
theorem dX5_summed_30 : decode cX5_summed 30 = .ok (.iload_n 2, 1) := by decide +kernel
theorem dX5_summed_31 : decode cX5_summed 31 = .ok (.iadd, 1) := by decide +kernel
theorem dX5_summed_32 : decode cX5_summed 32 = .ok (.laload, 1) := by decide +kernel
theorem dX5_summed_33 : decode cX5_summed 33 = .ok (.l2i, 1) := by decide +kernel
theorem dX5_summed_34 : decode cX5_summed 34 = .ok (.iadd, 1) := by decide +kernel
theorem dX5_summed_35 : decode cX5_summed 35 = .ok (.putfield 91, 3) := by decide +kernel
theorem dX5_summed_38 : decode cX5_summed 38 = .ok (.iinc 2 1, 3) := by decide +kernel
theorem dX5_summed_41 : decode cX5_summed 41 = .ok (.goto (-34), 3) := by decide +kernel
theorem dX5_summed_44 : decode cX5_summed 44 = .ok (.iconst 0, 1) := by decide +kernel
theorem dX5_summed_45 : decode cX5_summed 45 = .ok (.ireturn, 1) := by decide +kernel
theorem dX5_takes_0 : decode cX5_takes 0 = .ok (.aload_n 0, 1) := by decide +kernel
theorem dX5_takes_1 : decode cX5_takes 1 = .ok (.iconst (-1), 1) := by decide +kernel
theorem dX5_takes_2 : decode cX5_takes 2 = .ok (.putfield 100, 3) := by decide +kernel
theorem dX5_takes_5 : decode cX5_takes 5 = .ok (.aload_n 0, 1) := by decide +kernel
theorem dX5_takes_6 : decode cX5_takes 6 = .ok (.getfield 7, 3) := by decide +kernel
theorem dX5_takes_9 : decode cX5_takes 9 = .ok (.iload_n 1, 1) := by decide +kernel
theorem dX5_takes_10 : decode cX5_takes 10 = .ok (.iaload, 1) := by decide +kernel
theorem dX5_takes_11 : decode cX5_takes 11 = .ok (.iconst 4, 1) := by decide +kernel
theorem dX5_takes_12 : decode cX5_takes 12 = .ok (.if_icmp .ne 27, 3) := by decide +kernel
theorem dX5_takes_15 : decode cX5_takes 15 = .ok (.aload_n 0, 1) := by decide +kernel
theorem dX5_takes_16 : decode cX5_takes 16 = .ok (.aload_n 0, 1) := by decide +kernel
theorem dX5_takes_17 : decode cX5_takes 17 = .ok (.getfield 16, 3) := by decide +kernel
theorem dX5_takes_20 : decode cX5_takes 20 = .ok (.iload_n 1, 1) := by decide +kernel
theorem dX5_takes_21 : decode cX5_takes 21 = .ok (.iaload, 1) := by decide +kernel
theorem dX5_takes_22 : decode cX5_takes 22 = .ok (.putfield 100, 3) := by decide +kernel
theorem dX5_takes_25 : decode cX5_takes 25 = .ok (.aload_n 0, 1) := by decide +kernel
theorem dX5_takes_26 : decode cX5_takes 26 = .ok (.getfield 100, 3) := by decide +kernel
theorem dX5_takes_29 : decode cX5_takes 29 = .ok (.iconst (-1), 1) := by decide +kernel
theorem dX5_takes_30 : decode cX5_takes 30 = .ok (.if_icmp .ne 7, 3) := by decide +kernel
theorem dX5_takes_33 : decode cX5_takes 33 = .ok (.iconst 1, 1) := by decide +kernel
theorem dX5_takes_34 : decode cX5_takes 34 = .ok (.goto 4, 3) := by decide +kernel
theorem dX5_takes_37 : decode cX5_takes 37 = .ok (.iconst 0, 1) := by decide +kernel
theorem dX5_takes_38 : decode cX5_takes 38 = .ok (.ireturn, 1) := by decide +kernel
theorem dX5_takes_39 : decode cX5_takes 39 = .ok (.aload_n 0, 1) := by decide +kernel
theorem dX5_takes_40 : decode cX5_takes 40 = .ok (.getfield 19, 3) := by decide +kernel
theorem dX5_takes_43 : decode cX5_takes 43 = .ok (.iload_n 1, 1) := by decide +kernel
theorem dX5_takes_44 : decode cX5_takes 44 = .ok (.iaload, 1) := by decide +kernel
theorem dX5_takes_45 : decode cX5_takes 45 = .ok (.istore_n 2, 1) := by decide +kernel
theorem dX5_takes_46 : decode cX5_takes 46 = .ok (.aload_n 0, 1) := by decide +kernel
theorem dX5_takes_47 : decode cX5_takes 47 = .ok (.getfield 7, 3) := by decide +kernel
theorem dX5_takes_50 : decode cX5_takes 50 = .ok (.iload_n 1, 1) := by decide +kernel
theorem dX5_takes_51 : decode cX5_takes 51 = .ok (.iaload, 1) := by decide +kernel
theorem dX5_takes_52 : decode cX5_takes 52 = .ok (.bipush 6, 2) := by decide +kernel
theorem dX5_takes_54 : decode cX5_takes 54 = .ok (.if_icmp .eq 5, 3) := by decide +kernel
theorem dX5_takes_57 : decode cX5_takes 57 = .ok (.iconst 0, 1) := by decide +kernel
theorem dX5_takes_58 : decode cX5_takes 58 = .ok (.ireturn, 1) := by decide +kernel
theorem dX5_takes_59 : decode cX5_takes 59 = .ok (.iload_n 2, 1) := by decide +kernel
theorem dX5_takes_60 : decode cX5_takes 60 = .ok (.iconst (-1), 1) := by decide +kernel
theorem dX5_takes_61 : decode cX5_takes 61 = .ok (.if_icmp .eq 12, 3) := by decide +kernel
theorem dX5_takes_64 : decode cX5_takes 64 = .ok (.aload_n 0, 1) := by decide +kernel
theorem dX5_takes_65 : decode cX5_takes 65 = .ok (.getfield 25, 3) := by decide +kernel
theorem dX5_takes_68 : decode cX5_takes 68 = .ok (.iload_n 2, 1) := by decide +kernel
theorem dX5_takes_69 : decode cX5_takes 69 = .ok (.iaload, 1) := by decide +kernel
theorem dX5_takes_70 : decode cX5_takes 70 = .ok (.ifCond .ne 14, 3) := by decide +kernel
theorem dX5_takes_73 : decode cX5_takes 73 = .ok (.iload_n 2, 1) := by decide +kernel
theorem dX5_takes_74 : decode cX5_takes 74 = .ok (.iconst (-1), 1) := by decide +kernel
theorem dX5_takes_75 : decode cX5_takes 75 = .ok (.if_icmp .ne 7, 3) := by decide +kernel
theorem dX5_takes_78 : decode cX5_takes 78 = .ok (.iconst 1, 1) := by decide +kernel
theorem dX5_takes_79 : decode cX5_takes 79 = .ok (.goto 4, 3) := by decide +kernel
theorem dX5_takes_82 : decode cX5_takes 82 = .ok (.iconst 3, 1) := by decide +kernel
theorem dX5_takes_83 : decode cX5_takes 83 = .ok (.ireturn, 1) := by decide +kernel
theorem dX5_takes_84 : decode cX5_takes 84 = .ok (.aload_n 0, 1) := by decide +kernel
theorem dX5_takes_85 : decode cX5_takes 85 = .ok (.getfield 22, 3) := by decide +kernel
theorem dX5_takes_88 : decode cX5_takes 88 = .ok (.iload_n 2, 1) := by decide +kernel
theorem dX5_takes_89 : decode cX5_takes 89 = .ok (.iaload, 1) := by decide +kernel
theorem dX5_takes_90 : decode cX5_takes 90 = .ok (.iconst 2, 1) := by decide +kernel
theorem dX5_takes_91 : decode cX5_takes 91 = .ok (.if_icmp .ge 5, 3) := by decide +kernel
theorem dX5_takes_94 : decode cX5_takes 94 = .ok (.iconst 0, 1) := by decide +kernel
theorem dX5_takes_95 : decode cX5_takes 95 = .ok (.ireturn, 1) := by decide +kernel
theorem dX5_takes_96 : decode cX5_takes 96 = .ok (.aload_n 0, 1) := by decide +kernel
theorem dX5_takes_97 : decode cX5_takes 97 = .ok (.aload_n 0, 1) := by decide +kernel
theorem dX5_takes_98 : decode cX5_takes 98 = .ok (.getfield 28, 3) := by decide +kernel
theorem dX5_takes_101 : decode cX5_takes 101 = .ok (.bipush 12, 2) := by decide +kernel
theorem dX5_takes_103 : decode cX5_takes 103 = .ok (.iload_n 2, 1) := by decide +kernel
theorem dX5_takes_104 : decode cX5_takes 104 = .ok (.imul, 1) := by decide +kernel
theorem dX5_takes_105 : decode cX5_takes 105 = .ok (.laload, 1) := by decide +kernel
theorem dX5_takes_106 : decode cX5_takes 106 = .ok (.l2i, 1) := by decide +kernel
theorem dX5_takes_107 : decode cX5_takes 107 = .ok (.putfield 100, 3) := by decide +kernel
theorem dX5_takes_110 : decode cX5_takes 110 = .ok (.aload_n 0, 1) := by decide +kernel
theorem dX5_takes_111 : decode cX5_takes 111 = .ok (.getfield 100, 3) := by decide +kernel
theorem dX5_takes_114 : decode cX5_takes 114 = .ok (.iconst (-1), 1) := by decide +kernel
theorem dX5_takes_115 : decode cX5_takes 115 = .ok (.if_icmp .ne 7, 3) := by decide +kernel
theorem dX5_takes_118 : decode cX5_takes 118 = .ok (.iconst 1, 1) := by decide +kernel
theorem dX5_takes_119 : decode cX5_takes 119 = .ok (.goto 4, 3) := by decide +kernel
theorem dX5_takes_122 : decode cX5_takes 122 = .ok (.iconst 0, 1) := by decide +kernel
theorem dX5_takes_123 : decode cX5_takes 123 = .ok (.ireturn, 1) := by decide +kernel
set_option maxRecDepth 20000 in
theorem ggX5_number_X5_takes : GoodIn wsX5_number wsX5_takes := goodIn_r _ [10, 3, 5, 11, 12, 13, 14, 15, 26, 27, 28, 29, 30, 31, 32, 33, 34, 35, 36, 37, 38, 39, 40, 41, 42] (by decide +kernel) (by decide +kernel)
set_option maxRecDepth 20000 in
theorem gX5_number_X5_takes : GoodIn wsX5_number (wsV RX5 103 RX5 yX5_takes wsX5_takes) := goodIn_app (goodIn_of _ (by decide +kernel)) ggX5_number_X5_takes
set_option maxRecDepth 20000 in
theorem ggX5_number_X5_plain : GoodIn wsX5_number wsX5_plain := goodIn_r _ [19, 20, 12, 5, 4, 21, 15, 14, 22, 23, 24, 9, 25, 13, 26, 27, 28, 29, 30, 31, 32, 33, 34, 35, 36, 37, 38, 39, 40, 41, 42] (by decide +kernel) (by decide +kernel)
set_option maxRecDepth 20000 in
theorem gX5_number_X5_plain : GoodIn wsX5_number (wsV RX5 106 RX5 yX5_plain wsX5_plain) := goodIn_app (goodIn_of _ (by decide +kernel)) ggX5_number_X5_plain
theorem dX5_number_0 : decode cX5_number 0 = .ok (.iconst 0, 1) := by decide +kernel
theorem dX5_number_1 : decode cX5_number 1 = .ok (.istore_n 3, 1) := by decide +kernel
theorem dX5_number_2 : decode cX5_number 2 = .ok (.iconst 0, 1) := by decide +kernel
theorem dX5_number_3 : decode cX5_number 3 = .ok (.istore 4, 2) := by decide +kernel
theorem dX5_number_5 : decode cX5_number 5 = .ok (.iload_n 1, 1) := by decide +kernel
theorem dX5_number_6 : decode cX5_number 6 = .ok (.istore 5, 2) := by decide +kernel
theorem dX5_number_8 : decode cX5_number 8 = .ok (.aload_n 0, 1) := by decide +kernel
theorem dX5_number_9 : decode cX5_number 9 = .ok (.iload_n 3, 1) := by decide +kernel
theorem dX5_number_10 : decode cX5_number 10 = .ok (.putfield 55, 3) := by decide +kernel
theorem dX5_number_13 : decode cX5_number 13 = .ok (.aload_n 0, 1) := by decide +kernel
theorem dX5_number_14 : decode cX5_number 14 = .ok (.getfield 52, 3) := by decide +kernel
theorem dX5_number_17 : decode cX5_number 17 = .ok (.iload_n 2, 1) := by decide +kernel
theorem dX5_number_18 : decode cX5_number 18 = .ok (.if_icmp .eq 9, 3) := by decide +kernel
theorem dX5_number_21 : decode cX5_number 21 = .ok (.iload_n 3, 1) := by decide +kernel
theorem dX5_number_22 : decode cX5_number 22 = .ok (.bipush 30, 2) := by decide +kernel
theorem dX5_number_24 : decode cX5_number 24 = .ok (.if_icmp .ne 19, 3) := by decide +kernel
theorem dX5_number_27 : decode cX5_number 27 = .ok (.aload_n 0, 1) := by decide +kernel
theorem dX5_number_28 : decode cX5_number 28 = .ok (.getfield 52, 3) := by decide +kernel
theorem dX5_number_31 : decode cX5_number 31 = .ok (.iload_n 2, 1) := by decide +kernel
theorem dX5_number_32 : decode cX5_number 32 = .ok (.if_icmp .ne 8, 3) := by decide +kernel
theorem dX5_number_35 : decode cX5_number 35 = .ok (.bipush 9, 2) := by decide +kernel
theorem dX5_number_37 : decode cX5_number 37 = .ok (.goto 5, 3) := by decide +kernel
theorem dX5_number_40 : decode cX5_number 40 = .ok (.bipush 8, 2) := by decide +kernel
theorem dX5_number_42 : decode cX5_number 42 = .ok (.ireturn, 1) := by decide +kernel
theorem dX5_number_43 : decode cX5_number 43 = .ok (.aload_n 0, 1) := by decide +kernel
theorem dX5_number_44 : decode cX5_number 44 = .ok (.dup, 1) := by decide +kernel
theorem dX5_number_45 : decode cX5_number 45 = .ok (.getfield 52, 3) := by decide +kernel
theorem dX5_number_48 : decode cX5_number 48 = .ok (.iconst 1, 1) := by decide +kernel
theorem dX5_number_49 : decode cX5_number 49 = .ok (.iadd, 1) := by decide +kernel
theorem dX5_number_50 : decode cX5_number 50 = .ok (.putfield 52, 3) := by decide +kernel
theorem dX5_number_53 : decode cX5_number 53 = .ok (.iinc 3 1, 3) := by decide +kernel
theorem dX5_number_56 : decode cX5_number 56 = .ok (.aload_n 0, 1) := by decide +kernel
theorem dX5_number_57 : decode cX5_number 57 = .ok (.iload_n 3, 1) := by decide +kernel
theorem dX5_number_58 : decode cX5_number 58 = .ok (.putfield 55, 3) := by decide +kernel
theorem dX5_number_61 : decode cX5_number 61 = .ok (.aload_n 0, 1) := by decide +kernel
theorem dX5_number_62 : decode cX5_number 62 = .ok (.iload 5, 2) := by decide +kernel
theorem dX5_number_64 : decode cX5_number 64 = .ok (.invokevirtual 103, 3) := by decide +kernel
theorem dX5_number_67 : decode cX5_number 67 = .ok (.istore 6, 2) := by decide +kernel
theorem dX5_number_69 : decode cX5_number 69 = .ok (.iload 6, 2) := by decide +kernel
theorem dX5_number_71 : decode cX5_number 71 = .ok (.ifCond .ne 47, 3) := by decide +kernel
theorem dX5_number_74 : decode cX5_number 74 = .ok (.aload_n 0, 1) := by decide +kernel
theorem dX5_number_75 : decode cX5_number 75 = .ok (.getfield 100, 3) := by decide +kernel
theorem dX5_number_78 : decode cX5_number 78 = .ok (.iconst (-1), 1) := by decide +kernel
theorem dX5_number_79 : decode cX5_number 79 = .ok (.if_icmp .ne 39, 3) := by decide +kernel
theorem dX5_number_82 : decode cX5_number 82 = .ok (.aload_n 0, 1) := by decide +kernel
theorem dX5_number_83 : decode cX5_number 83 = .ok (.iload 5, 2) := by decide +kernel
theorem dX5_number_85 : decode cX5_number 85 = .ok (.invokevirtual 106, 3) := by decide +kernel
theorem dX5_number_88 : decode cX5_number 88 = .ok (.istore 6, 2) := by decide +kernel
theorem dX5_number_90 : decode cX5_number 90 = .ok (.aload_n 0, 1) := by decide +kernel
theorem dX5_number_91 : decode cX5_number 91 = .ok (.dup, 1) := by decide +kernel
theorem dX5_number_92 : decode cX5_number 92 = .ok (.getfield 91, 3) := by decide +kernel
theorem dX5_number_95 : decode cX5_number 95 = .ok (.iload 4, 2) := by decide +kernel
theorem dX5_number_97 : decode cX5_number 97 = .ok (.iadd, 1) := by decide +kernel
theorem dX5_number_98 : decode cX5_number 98 = .ok (.putfield 91, 3) := by decide +kernel
theorem dX5_number_101 : decode cX5_number 101 = .ok (.aload_n 0, 1) := by decide +kernel
theorem dX5_number_102 : decode cX5_number 102 = .ok (.iload 6, 2) := by decide +kernel
theorem dX5_number_104 : decode cX5_number 104 = .ok (.ifCond .ne 7, 3) := by decide +kernel
theorem dX5_number_107 : decode cX5_number 107 = .ok (.iconst 0, 1) := by decide +kernel
theorem dX5_number_108 : decode cX5_number 108 = .ok (.goto 4, 3) := by decide +kernel
theorem dX5_number_111 : decode cX5_number 111 = .ok (.iload_n 3, 1) := by decide +kernel
theorem dX5_number_112 : decode cX5_number 112 = .ok (.putfield 55, 3) := by decide +kernel
theorem dX5_number_115 : decode cX5_number 115 = .ok (.iload 6, 2) := by decide +kernel
theorem dX5_number_117 : decode cX5_number 117 = .ok (.ireturn, 1) := by decide +kernel
theorem dX5_number_118 : decode cX5_number 118 = .ok (.iload 6, 2) := by decide +kernel
theorem dX5_number_120 : decode cX5_number 120 = .ok (.ifCond .eq 6, 3) := by decide +kernel
theorem dX5_number_123 : decode cX5_number 123 = .ok (.iload 6, 2) := by decide +kernel
theorem dX5_number_125 : decode cX5_number 125 = .ok (.ireturn, 1) := by decide +kernel
theorem dX5_number_126 : decode cX5_number 126 = .ok (.iload 4, 2) := by decide +kernel
theorem dX5_number_128 : decode cX5_number 128 = .ok (.aload_n 0, 1) := by decide +kernel
theorem dX5_number_129 : decode cX5_number 129 = .ok (.getfield 7, 3) := by decide +kernel
theorem dX5_number_132 : decode cX5_number 132 = .ok (.iload 5, 2) := by decide +kernel
theorem dX5_number_134 : decode cX5_number 134 = .ok (.iaload, 1) := by decide +kernel
theorem dX5_number_135 : decode cX5_number 135 = .ok (.iconst 4, 1) := by decide +kernel
theorem dX5_number_136 : decode cX5_number 136 = .ok (.if_icmp .ne 7, 3) := by decide +kernel
theorem dX5_number_139 : decode cX5_number 139 = .ok (.iconst 1, 1) := by decide +kernel
theorem dX5_number_140 : decode cX5_number 140 = .ok (.goto 4, 3) := by decide +kernel
theorem dX5_number_143 : decode cX5_number 143 = .ok (.iconst 0, 1) := by decide +kernel
theorem dX5_number_144 : decode cX5_number 144 = .ok (.iadd, 1) := by decide +kernel
theorem dX5_number_145 : decode cX5_number 145 = .ok (.istore 4, 2) := by decide +kernel
theorem dX5_number_147 : decode cX5_number 147 = .ok (.aload_n 0, 1) := by decide +kernel
theorem dX5_number_148 : decode cX5_number 148 = .ok (.getfield 100, 3) := by decide +kernel
theorem dX5_number_151 : decode cX5_number 151 = .ok (.istore 5, 2) := by decide +kernel
theorem dX5_number_153 : decode cX5_number 153 = .ok (.goto (-145), 3) := by decide +kernel
set_option maxRecDepth 20000 in
theorem ggX5_ended_X5_tell : GoodIn wsX5_ended wsX5_tell := goodIn_r _ [7, 8, 9, 10, 11, 12, 13, 14, 15, 16, 17, 18, 19, 20, 21, 22, 23, 24, 25, 26] (by decide +kernel) (by decide +kernel)
set_option maxRecDepth 20000 in
theorem gX5_ended_X5_tell : GoodIn wsX5_ended (wsV RX5 64 RX5 yX5_tell wsX5_tell) := goodIn_app (goodIn_of _ (by decide +kernel)) ggX5_ended_X5_tell
theorem dX5_ended_0 : decode cX5_ended 0 = .ok (.aload_n 0, 1) := by decide +kernel
theorem dX5_ended_1 : decode cX5_ended 1 = .ok (.iload_n 1, 1) := by decide +kernel
theorem dX5_ended_2 : decode cX5_ended 2 = .ok (.bipush 7, 2) := by decide +kernel
theorem dX5_ended_4 : decode cX5_ended 4 = .ok (.if_icmp .ne 10, 3) := by decide +kernel
theorem dX5_ended_7 : decode cX5_ended 7 = .ok (.aload_n 0, 1) := by decide +kernel
theorem dX5_ended_8 : decode cX5_ended 8 = .ok (.getfield 94, 3) := by decide +kernel
theorem dX5_ended_11 : decode cX5_ended 11 = .ok (.goto 7, 3) := by decide +kernel
theorem dX5_ended_14 : decode cX5_ended 14 = .ok (.aload_n 0, 1) := by decide +kernel
theorem dX5_ended_15 : decode cX5_ended 15 = .ok (.getfield 49, 3) := by decide +kernel
theorem dX5_ended_18 : decode cX5_ended 18 = .ok (.putfield 49, 3) := by decide +kernel
theorem dX5_ended_21 : decode cX5_ended 21 = .ok (.aload_n 0, 1) := by decide +kernel
theorem dX5_ended_22 : decode cX5_ended 22 = .ok (.iload_n 1, 1) := by decide +kernel
theorem dX5_ended_23 : decode cX5_ended 23 = .ok (.invokevirtual 64, 3) := by decide +kernel
theorem dX5_ended_26 : decode cX5_ended 26 = .ok (.ifCond .ne 7, 3) := by decide +kernel
theorem dX5_ended_29 : decode cX5_ended 29 = .ok (.iload_n 2, 1) := by decide +kernel
theorem dX5_ended_30 : decode cX5_ended 30 = .ok (.goto 4, 3) := by decide +kernel
theorem dX5_ended_33 : decode cX5_ended 33 = .ok (.iconst 0, 1) := by decide +kernel
theorem dX5_ended_34 : decode cX5_ended 34 = .ok (.ireturn, 1) := by decide +kernel
set_option maxRecDepth 20000 in
theorem ggX5_run_X5_isThing : GoodIn wsX5_run wsX5_isThing := goodIn_r _ [9, 10, 11, 12, 8, 13, 51, 52, 53, 54, 55, 56, 57, 58, 59, 60, 61, 62, 63, 64, 65, 66, 67] (by decide +kernel) (by decide +kernel)
set_option maxRecDepth 20000 in
theorem gX5_run_X5_isThing : GoodIn wsX5_run (wsV RX5 60 RX5 yX5_isThing wsX5_isThing) := goodIn_app (goodIn_of _ (by decide +kernel)) ggX5_run_X5_isThing
set_option maxRecDepth 20000 in
theorem ggX5_run_X5_in : GoodIn wsX5_run wsX5_in := goodIn_r _ [13] (by decide +kernel) (by decide +kernel)
set_option maxRecDepth 20000 in
theorem gX5_run_X5_in : GoodIn wsX5_run (va_wsS RX5 39 yX5_in wsX5_in) := goodIn_app (goodIn_of _ (by decide +kernel)) ggX5_run_X5_in
set_option maxRecDepth 20000 in
theorem ggX5_run_X5_number : GoodIn wsX5_run wsX5_number := goodIn_r _ [17, 18, 3, 19, 4, 20, 21, 22, 23, 8, 24, 25, 26, 27, 28, 29, 30, 31, 32, 33, 34, 35, 36, 37, 38, 39, 51, 52, 53, 54, 55, 56, 57, 58, 59, 60, 61, 62, 63, 64, 65, 66, 67] (by decide +kernel) (by decide +kernel)
set_option maxRecDepth 20000 in
theorem gX5_run_X5_number : GoodIn wsX5_run (wsV RX5 111 RX5 yX5_number wsX5_number) := goodIn_app (goodIn_of _ (by decide +kernel)) ggX5_run_X5_number
set_option maxRecDepth 20000 in
theorem ggX5_run_X5_ended : GoodIn wsX5_run wsX5_ended := goodIn_r _ [43, 35, 44, 45, 46, 47, 8, 48, 49, 50, 51, 52, 53, 54, 55, 56, 57, 58, 59, 60, 61, 62, 63, 64, 65, 66, 67] (by decide +kernel) (by decide +kernel)
set_option maxRecDepth 20000 in
theorem gX5_run_X5_ended : GoodIn wsX5_run (wsV RX5 115 RX5 yX5_ended wsX5_ended) := goodIn_app (goodIn_of _ (by decide +kernel)) ggX5_run_X5_ended
theorem dX5_run_0 : decode cX5_run 0 = .ok (.aload_n 0, 1) := by decide +kernel
theorem dX5_run_1 : decode cX5_run 1 = .ok (.iload_n 1, 1) := by decide +kernel
theorem dX5_run_2 : decode cX5_run 2 = .ok (.invokevirtual 60, 3) := by decide +kernel
theorem dX5_run_5 : decode cX5_run 5 = .ok (.ifCond .eq 15, 3) := by decide +kernel
theorem dX5_run_8 : decode cX5_run 8 = .ok (.iload_n 2, 1) := by decide +kernel
theorem dX5_run_9 : decode cX5_run 9 = .ok (.i2l, 1) := by decide +kernel
theorem dX5_run_10 : decode cX5_run 10 = .ok (.lconst 1, 1) := by decide +kernel
theorem dX5_run_11 : decode cX5_run 11 = .ok (.ldc2_w 109, 3) := by decide +kernel
theorem dX5_run_14 : decode cX5_run 14 = .ok (.invokestatic 39, 3) := by decide +kernel
theorem dX5_run_17 : decode cX5_run 17 = .ok (.ifCond .ne 6, 3) := by decide +kernel
theorem dX5_run_20 : decode cX5_run 20 = .ok (.ldc 48, 2) := by decide +kernel
theorem dX5_run_22 : decode cX5_run 22 = .ok (.ireturn, 1) := by decide +kernel
theorem dX5_run_23 : decode cX5_run 23 = .ok (.aload_n 0, 1) := by decide +kernel
theorem dX5_run_24 : decode cX5_run 24 = .ok (.iconst 0, 1) := by decide +kernel
theorem dX5_run_25 : decode cX5_run 25 = .ok (.putfield 52, 3) := by decide +kernel
theorem dX5_run_28 : decode cX5_run 28 = .ok (.aload_n 0, 1) := by decide +kernel
theorem dX5_run_29 : decode cX5_run 29 = .ok (.iload_n 1, 1) := by decide +kernel
theorem dX5_run_30 : decode cX5_run 30 = .ok (.iload_n 2, 1) := by decide +kernel
theorem dX5_run_31 : decode cX5_run 31 = .ok (.invokevirtual 111, 3) := by decide +kernel
theorem dX5_run_34 : decode cX5_run 34 = .ok (.istore_n 3, 1) := by decide +kernel
theorem dX5_run_35 : decode cX5_run 35 = .ok (.aload_n 0, 1) := by decide +kernel
theorem dX5_run_36 : decode cX5_run 36 = .ok (.iload_n 3, 1) := by decide +kernel
theorem dX5_run_37 : decode cX5_run 37 = .ok (.aload_n 0, 1) := by decide +kernel
theorem dX5_run_38 : decode cX5_run 38 = .ok (.getfield 91, 3) := by decide +kernel
theorem dX5_run_41 : decode cX5_run 41 = .ok (.invokevirtual 115, 3) := by decide +kernel
theorem dX5_run_44 : decode cX5_run 44 = .ok (.ireturn, 1) := by decide +kernel
set_option maxRecDepth 20000 in
theorem ggX5_either_X5_isThing : GoodIn wsX5_either wsX5_isThing := goodIn_r _ [9, 10, 11, 12, 8, 13, 51, 52, 53, 54, 55, 56, 57, 58, 59, 60, 61, 62, 63, 64, 65, 66, 67] (by decide +kernel) (by decide +kernel)
set_option maxRecDepth 20000 in
theorem gX5_either_X5_isThing : GoodIn wsX5_either (wsV RX5 60 RX5 yX5_isThing wsX5_isThing) := goodIn_app (goodIn_of _ (by decide +kernel)) ggX5_either_X5_isThing
set_option maxRecDepth 20000 in
theorem ggX5_either_X5_in : GoodIn wsX5_either wsX5_in := goodIn_r _ [13] (by decide +kernel) (by decide +kernel)
set_option maxRecDepth 20000 in
theorem gX5_either_X5_in : GoodIn wsX5_either (va_wsS RX5 39 yX5_in wsX5_in) := goodIn_app (goodIn_of _ (by decide +kernel)) ggX5_either_X5_in
set_option maxRecDepth 20000 in
theorem ggX5_either_X5_number : GoodIn wsX5_either wsX5_number := goodIn_r _ [17, 18, 3, 19, 4, 20, 21, 22, 23, 8, 24, 25, 26, 27, 28, 29, 30, 31, 32, 33, 34, 35, 36, 37, 38, 39, 51, 52, 53, 54, 55, 56, 57, 58, 59, 60, 61, 62, 63, 64, 65, 66, 67] (by decide +kernel) (by decide +kernel)
set_option maxRecDepth 20000 in
theorem gX5_either_X5_number : GoodIn wsX5_either (wsV RX5 111 RX5 yX5_number wsX5_number) := goodIn_app (goodIn_of _ (by decide +kernel)) ggX5_either_X5_number
set_option maxRecDepth 20000 in
theorem ggX5_either_X5_ended : GoodIn wsX5_either wsX5_ended := goodIn_r _ [43, 35, 44, 45, 46, 47, 8, 48, 49, 50, 51, 52, 53, 54, 55, 56, 57, 58, 59, 60, 61, 62, 63, 64, 65, 66, 67] (by decide +kernel) (by decide +kernel)
set_option maxRecDepth 20000 in
theorem gX5_either_X5_ended : GoodIn wsX5_either (wsV RX5 115 RX5 yX5_ended wsX5_ended) := goodIn_app (goodIn_of _ (by decide +kernel)) ggX5_either_X5_ended
theorem dX5_either_0 : decode cX5_either 0 = .ok (.aload_n 0, 1) := by decide +kernel
theorem dX5_either_1 : decode cX5_either 1 = .ok (.iload_n 1, 1) := by decide +kernel
theorem dX5_either_2 : decode cX5_either 2 = .ok (.invokevirtual 60, 3) := by decide +kernel
theorem dX5_either_5 : decode cX5_either 5 = .ok (.ifCond .eq 23, 3) := by decide +kernel
theorem dX5_either_8 : decode cX5_either 8 = .ok (.aload_n 0, 1) := by decide +kernel
theorem dX5_either_9 : decode cX5_either 9 = .ok (.iload_n 2, 1) := by decide +kernel
theorem dX5_either_10 : decode cX5_either 10 = .ok (.invokevirtual 60, 3) := by decide +kernel
theorem dX5_either_13 : decode cX5_either 13 = .ok (.ifCond .eq 15, 3) := by decide +kernel
theorem dX5_either_16 : decode cX5_either 16 = .ok (.iload_n 3, 1) := by decide +kernel
theorem dX5_either_17 : decode cX5_either 17 = .ok (.i2l, 1) := by decide +kernel
theorem dX5_either_18 : decode cX5_either 18 = .ok (.lconst 1, 1) := by decide +kernel
theorem dX5_either_19 : decode cX5_either 19 = .ok (.ldc2_w 109, 3) := by decide +kernel
theorem dX5_either_22 : decode cX5_either 22 = .ok (.invokestatic 39, 3) := by decide +kernel
theorem dX5_either_25 : decode cX5_either 25 = .ok (.ifCond .ne 6, 3) := by decide +kernel
theorem dX5_either_28 : decode cX5_either 28 = .ok (.ldc 48, 2) := by decide +kernel
theorem dX5_either_30 : decode cX5_either 30 = .ok (.ireturn, 1) := by decide +kernel
theorem dX5_either_31 : decode cX5_either 31 = .ok (.aload_n 0, 1) := by decide +kernel
theorem dX5_either_32 : decode cX5_either 32 = .ok (.iconst 0, 1) := by decide +kernel
theorem dX5_either_33 : decode cX5_either 33 = .ok (.putfield 52, 3) := by decide +kernel
theorem dX5_either_36 : decode cX5_either 36 = .ok (.aload_n 0, 1) := by decide +kernel
theorem dX5_either_37 : decode cX5_either 37 = .ok (.iload_n 1, 1) := by decide +kernel
theorem dX5_either_38 : decode cX5_either 38 = .ok (.iload_n 3, 1) := by decide +kernel
theorem dX5_either_39 : decode cX5_either 39 = .ok (.invokevirtual 111, 3) := by decide +kernel
theorem dX5_either_42 : decode cX5_either 42 = .ok (.istore 4, 2) := by decide +kernel
theorem dX5_either_44 : decode cX5_either 44 = .ok (.iload 4, 2) := by decide +kernel
theorem dX5_either_46 : decode cX5_either 46 = .ok (.iconst 1, 1) := by decide +kernel
theorem dX5_either_47 : decode cX5_either 47 = .ok (.if_icmp .lt 18, 3) := by decide +kernel
theorem dX5_either_50 : decode cX5_either 50 = .ok (.iload 4, 2) := by decide +kernel
theorem dX5_either_52 : decode cX5_either 52 = .ok (.bipush 7, 2) := by decide +kernel
theorem dX5_either_54 : decode cX5_either 54 = .ok (.if_icmp .gt 11, 3) := by decide +kernel
theorem dX5_either_57 : decode cX5_either 57 = .ok (.aload_n 0, 1) := by decide +kernel
theorem dX5_either_58 : decode cX5_either 58 = .ok (.iload_n 2, 1) := by decide +kernel
theorem dX5_either_59 : decode cX5_either 59 = .ok (.iload_n 3, 1) := by decide +kernel
theorem dX5_either_60 : decode cX5_either 60 = .ok (.invokevirtual 111, 3) := by decide +kernel
theorem dX5_either_63 : decode cX5_either 63 = .ok (.istore 4, 2) := by decide +kernel
theorem dX5_either_65 : decode cX5_either 65 = .ok (.aload_n 0, 1) := by decide +kernel
theorem dX5_either_66 : decode cX5_either 66 = .ok (.iload 4, 2) := by decide +kernel
theorem dX5_either_68 : decode cX5_either 68 = .ok (.aload_n 0, 1) := by decide +kernel
theorem dX5_either_69 : decode cX5_either 69 = .ok (.getfield 91, 3) := by decide +kernel
theorem dX5_either_72 : decode cX5_either 72 = .ok (.invokevirtual 115, 3) := by decide +kernel
theorem dX5_either_75 : decode cX5_either 75 = .ok (.ireturn, 1) := by decide +kernel
set_option maxRecDepth 20000 in
theorem ggX5_gather_X5_isThing : GoodIn wsX5_gather wsX5_isThing := goodIn_r _ [12, 13, 14, 15, 11, 16, 51, 52, 53, 54, 55, 56, 57, 58, 59, 60, 61, 62, 63, 64, 65, 66, 67] (by decide +kernel) (by decide +kernel)
set_option maxRecDepth 20000 in
theorem gX5_gather_X5_isThing : GoodIn wsX5_gather (wsV RX5 60 RX5 yX5_isThing wsX5_isThing) := goodIn_app (goodIn_of _ (by decide +kernel)) ggX5_gather_X5_isThing
set_option maxRecDepth 20000 in
theorem ggX5_gather_X5_in : GoodIn wsX5_gather wsX5_in := goodIn_r _ [16] (by decide +kernel) (by decide +kernel)
set_option maxRecDepth 20000 in
theorem gX5_gather_X5_in : GoodIn wsX5_gather (va_wsS RX5 39 yX5_in wsX5_in) := goodIn_app (goodIn_of _ (by decide +kernel)) ggX5_gather_X5_in
set_option maxRecDepth 20000 in
theorem ggX5_gather_X5_number : GoodIn wsX5_gather wsX5_number := goodIn_r _ [20, 4, 3, 21, 7, 22, 23, 24, 25, 11, 26, 5, 27, 28, 29, 30, 31, 32, 33, 34, 6, 35, 36, 37, 38, 39, 51, 52, 53, 54, 55, 56, 57, 58, 59, 60, 61, 62, 63, 64, 65, 66, 67] (by decide +kernel) (by decide +kernel)
set_option maxRecDepth 20000 in
theorem gX5_gather_X5_number : GoodIn wsX5_gather (wsV RX5 111 RX5 yX5_number wsX5_number) := goodIn_app (goodIn_of _ (by decide +kernel)) ggX5_gather_X5_number
set_option maxRecDepth 20000 in
theorem ggX5_gather_X5_ended : GoodIn wsX5_gather wsX5_ended := goodIn_r _ [43, 35, 44, 45, 46, 47, 11, 48, 49, 50, 51, 52, 53, 54, 55, 56, 57, 58, 59, 60, 61, 62, 63, 64, 65, 66, 67] (by decide +kernel) (by decide +kernel)
set_option maxRecDepth 20000 in
theorem gX5_gather_X5_ended : GoodIn wsX5_gather (wsV RX5 115 RX5 yX5_ended wsX5_ended) := goodIn_app (goodIn_of _ (by decide +kernel)) ggX5_gather_X5_ended
theorem dX5_gather_0 : decode cX5_gather 0 = .ok (.aload_n 0, 1) := by decide +kernel
theorem dX5_gather_1 : decode cX5_gather 1 = .ok (.iload_n 1, 1) := by decide +kernel
theorem dX5_gather_2 : decode cX5_gather 2 = .ok (.invokevirtual 60, 3) := by decide +kernel
theorem dX5_gather_5 : decode cX5_gather 5 = .ok (.ifCond .eq 15, 3) := by decide +kernel
theorem dX5_gather_8 : decode cX5_gather 8 = .ok (.iload_n 2, 1) := by decide +kernel
theorem dX5_gather_9 : decode cX5_gather 9 = .ok (.i2l, 1) := by decide +kernel
theorem dX5_gather_10 : decode cX5_gather 10 = .ok (.lconst 1, 1) := by decide +kernel
theorem dX5_gather_11 : decode cX5_gather 11 = .ok (.ldc2_w 109, 3) := by decide +kernel
theorem dX5_gather_14 : decode cX5_gather 14 = .ok (.invokestatic 39, 3) := by decide +kernel
theorem dX5_gather_17 : decode cX5_gather 17 = .ok (.ifCond .ne 6, 3) := by decide +kernel
theorem dX5_gather_20 : decode cX5_gather 20 = .ok (.ldc 48, 2) := by decide +kernel
theorem dX5_gather_22 : decode cX5_gather 22 = .ok (.ireturn, 1) := by decide +kernel
theorem dX5_gather_23 : decode cX5_gather 23 = .ok (.aload_n 0, 1) := by decide +kernel
theorem dX5_gather_24 : decode cX5_gather 24 = .ok (.iconst 0, 1) := by decide +kernel
theorem dX5_gather_25 : decode cX5_gather 25 = .ok (.putfield 52, 3) := by decide +kernel
theorem dX5_gather_28 : decode cX5_gather 28 = .ok (.aload_n 0, 1) := by decide +kernel
theorem dX5_gather_29 : decode cX5_gather 29 = .ok (.iconst 0, 1) := by decide +kernel
theorem dX5_gather_30 : decode cX5_gather 30 = .ok (.putfield 55, 3) := by decide +kernel
theorem dX5_gather_33 : decode cX5_gather 33 = .ok (.aload_n 0, 1) := by decide +kernel
theorem dX5_gather_34 : decode cX5_gather 34 = .ok (.getfield 16, 3) := by decide +kernel
theorem dX5_gather_37 : decode cX5_gather 37 = .ok (.iload_n 1, 1) := by decide +kernel
theorem dX5_gather_38 : decode cX5_gather 38 = .ok (.iaload, 1) := by decide +kernel
theorem dX5_gather_39 : decode cX5_gather 39 = .ok (.iconst (-1), 1) := by decide +kernel
theorem dX5_gather_40 : decode cX5_gather 40 = .ok (.if_icmp .ne 7, 3) := by decide +kernel
theorem dX5_gather_43 : decode cX5_gather 43 = .ok (.iconst 1, 1) := by decide +kernel
theorem dX5_gather_44 : decode cX5_gather 44 = .ok (.goto 14, 3) := by decide +kernel
theorem dX5_gather_47 : decode cX5_gather 47 = .ok (.aload_n 0, 1) := by decide +kernel
theorem dX5_gather_48 : decode cX5_gather 48 = .ok (.aload_n 0, 1) := by decide +kernel
theorem dX5_gather_49 : decode cX5_gather 49 = .ok (.getfield 16, 3) := by decide +kernel
theorem dX5_gather_52 : decode cX5_gather 52 = .ok (.iload_n 1, 1) := by decide +kernel
theorem dX5_gather_53 : decode cX5_gather 53 = .ok (.iaload, 1) := by decide +kernel
theorem dX5_gather_54 : decode cX5_gather 54 = .ok (.iload_n 2, 1) := by decide +kernel
theorem dX5_gather_55 : decode cX5_gather 55 = .ok (.invokevirtual 111, 3) := by decide +kernel
theorem dX5_gather_58 : decode cX5_gather 58 = .ok (.istore_n 3, 1) := by decide +kernel
theorem dX5_gather_59 : decode cX5_gather 59 = .ok (.aload_n 0, 1) := by decide +kernel
theorem dX5_gather_60 : decode cX5_gather 60 = .ok (.getfield 13, 3) := by decide +kernel
theorem dX5_gather_63 : decode cX5_gather 63 = .ok (.iload_n 1, 1) := by decide +kernel
theorem dX5_gather_64 : decode cX5_gather 64 = .ok (.dup2, 1) := by decide +kernel
theorem dX5_gather_65 : decode cX5_gather 65 = .ok (.iaload, 1) := by decide +kernel
theorem dX5_gather_66 : decode cX5_gather 66 = .ok (.iload_n 3, 1) := by decide +kernel
theorem dX5_gather_67 : decode cX5_gather 67 = .ok (.ifCond .ne 10, 3) := by decide +kernel
theorem dX5_gather_70 : decode cX5_gather 70 = .ok (.aload_n 0, 1) := by decide +kernel
theorem dX5_gather_71 : decode cX5_gather 71 = .ok (.getfield 91, 3) := by decide +kernel
theorem dX5_gather_74 : decode cX5_gather 74 = .ok (.goto 4, 3) := by decide +kernel
theorem dX5_gather_77 : decode cX5_gather 77 = .ok (.iconst 0, 1) := by decide +kernel
theorem dX5_gather_78 : decode cX5_gather 78 = .ok (.iadd, 1) := by decide +kernel
theorem dX5_gather_79 : decode cX5_gather 79 = .ok (.iastore, 1) := by decide +kernel
theorem dX5_gather_80 : decode cX5_gather 80 = .ok (.aload_n 0, 1) := by decide +kernel
theorem dX5_gather_81 : decode cX5_gather 81 = .ok (.iload_n 3, 1) := by decide +kernel
theorem dX5_gather_82 : decode cX5_gather 82 = .ok (.aload_n 0, 1) := by decide +kernel
theorem dX5_gather_83 : decode cX5_gather 83 = .ok (.getfield 13, 3) := by decide +kernel
theorem dX5_gather_86 : decode cX5_gather 86 = .ok (.iload_n 1, 1) := by decide +kernel
theorem dX5_gather_87 : decode cX5_gather 87 = .ok (.iaload, 1) := by decide +kernel
theorem dX5_gather_88 : decode cX5_gather 88 = .ok (.invokevirtual 115, 3) := by decide +kernel
theorem dX5_gather_91 : decode cX5_gather 91 = .ok (.ireturn, 1) := by decide +kernel
set_option maxRecDepth 20000 in
theorem ggX5_keep_X5_isThing : GoodIn wsX5_keep wsX5_isThing := goodIn_r _ [12, 13, 14, 15, 11, 16, 55, 56, 57, 58, 59, 60, 61, 62, 63, 64, 65, 66, 67, 68, 69, 70, 71] (by decide +kernel) (by decide +kernel)
set_option maxRecDepth 20000 in
theorem gX5_keep_X5_isThing : GoodIn wsX5_keep (wsV RX5 60 RX5 yX5_isThing wsX5_isThing) := goodIn_app (goodIn_of _ (by decide +kernel)) ggX5_keep_X5_isThing
set_option maxRecDepth 20000 in
theorem ggX5_keep_X5_in : GoodIn wsX5_keep wsX5_in := goodIn_r _ [16] (by decide +kernel) (by decide +kernel)
set_option maxRecDepth 20000 in
theorem gX5_keep_X5_in : GoodIn wsX5_keep (va_wsS RX5 39 yX5_in wsX5_in) := goodIn_app (goodIn_of _ (by decide +kernel)) ggX5_keep_X5_in
set_option maxRecDepth 20000 in
theorem ggX5_keep_X5_number : GoodIn wsX5_keep wsX5_number := goodIn_r _ [20, 21, 3, 22, 7, 23, 24, 25, 26, 11, 27, 28, 4, 29, 5, 6, 30, 31, 32, 33, 34, 35, 36, 37, 38, 39, 55, 56, 57, 58, 59, 60, 61, 62, 63, 64, 65, 66, 67, 68, 69, 70, 71] (by decide +kernel) (by decide +kernel)
set_option maxRecDepth 20000 in
theorem gX5_keep_X5_number : GoodIn wsX5_keep (wsV RX5 111 RX5 yX5_number wsX5_number) := goodIn_app (goodIn_of _ (by decide +kernel)) ggX5_keep_X5_number
set_option maxRecDepth 20000 in
theorem ggX5_keep_X5_isItem : GoodIn wsX5_keep wsX5_isItem := goodIn_r _ [43, 29, 4, 14, 15, 11, 16, 55, 56, 57, 58, 59, 60, 61, 62, 63, 64, 65, 66, 67, 68, 69, 70, 71] (by decide +kernel) (by decide +kernel)
set_option maxRecDepth 20000 in
theorem gX5_keep_X5_isItem : GoodIn wsX5_keep (wsV RX5 80 RX5 yX5_isItem wsX5_isItem) := goodIn_app (goodIn_of _ (by decide +kernel)) ggX5_keep_X5_isItem
set_option maxRecDepth 20000 in
theorem ggX5_keep_X5_ended : GoodIn wsX5_keep wsX5_ended := goodIn_r _ [47, 35, 48, 49, 50, 51, 11, 52, 53, 54, 55, 56, 57, 58, 59, 60, 61, 62, 63, 64, 65, 66, 67, 68, 69, 70, 71] (by decide +kernel) (by decide +kernel)
set_option maxRecDepth 20000 in
theorem gX5_keep_X5_ended : GoodIn wsX5_keep (wsV RX5 115 RX5 yX5_ended wsX5_ended) := goodIn_app (goodIn_of _ (by decide +kernel)) ggX5_keep_X5_ended
theorem dX5_keep_0 : decode cX5_keep 0 = .ok (.aload_n 0, 1) := by decide +kernel
theorem dX5_keep_1 : decode cX5_keep 1 = .ok (.iload_n 1, 1) := by decide +kernel
theorem dX5_keep_2 : decode cX5_keep 2 = .ok (.invokevirtual 60, 3) := by decide +kernel
theorem dX5_keep_5 : decode cX5_keep 5 = .ok (.ifCond .eq 24, 3) := by decide +kernel
theorem dX5_keep_8 : decode cX5_keep 8 = .ok (.aload_n 0, 1) := by decide +kernel
theorem dX5_keep_9 : decode cX5_keep 9 = .ok (.iload_n 2, 1) := by decide +kernel
theorem dX5_keep_10 : decode cX5_keep 10 = .ok (.invokevirtual 60, 3) := by decide +kernel
theorem dX5_keep_13 : decode cX5_keep 13 = .ok (.ifCond .eq 16, 3) := by decide +kernel
theorem dX5_keep_16 : decode cX5_keep 16 = .ok (.iload 4, 2) := by decide +kernel
theorem dX5_keep_18 : decode cX5_keep 18 = .ok (.i2l, 1) := by decide +kernel
theorem dX5_keep_19 : decode cX5_keep 19 = .ok (.lconst 1, 1) := by decide +kernel
theorem dX5_keep_20 : decode cX5_keep 20 = .ok (.ldc2_w 109, 3) := by decide +kernel
theorem dX5_keep_23 : decode cX5_keep 23 = .ok (.invokestatic 39, 3) := by decide +kernel
theorem dX5_keep_26 : decode cX5_keep 26 = .ok (.ifCond .ne 6, 3) := by decide +kernel
theorem dX5_keep_29 : decode cX5_keep 29 = .ok (.ldc 48, 2) := by decide +kernel
theorem dX5_keep_31 : decode cX5_keep 31 = .ok (.ireturn, 1) := by decide +kernel
theorem dX5_keep_32 : decode cX5_keep 32 = .ok (.aload_n 0, 1) := by decide +kernel
theorem dX5_keep_33 : decode cX5_keep 33 = .ok (.iconst 0, 1) := by decide +kernel
theorem dX5_keep_34 : decode cX5_keep 34 = .ok (.putfield 52, 3) := by decide +kernel
theorem dX5_keep_37 : decode cX5_keep 37 = .ok (.aload_n 0, 1) := by decide +kernel
theorem dX5_keep_38 : decode cX5_keep 38 = .ok (.iload_n 1, 1) := by decide +kernel
theorem dX5_keep_39 : decode cX5_keep 39 = .ok (.iload 4, 2) := by decide +kernel
theorem dX5_keep_41 : decode cX5_keep 41 = .ok (.invokevirtual 111, 3) := by decide +kernel
theorem dX5_keep_44 : decode cX5_keep 44 = .ok (.istore 5, 2) := by decide +kernel
theorem dX5_keep_46 : decode cX5_keep 46 = .ok (.aload_n 0, 1) := by decide +kernel
theorem dX5_keep_47 : decode cX5_keep 47 = .ok (.getfield 19, 3) := by decide +kernel
theorem dX5_keep_50 : decode cX5_keep 50 = .ok (.iload_n 2, 1) := by decide +kernel
theorem dX5_keep_51 : decode cX5_keep 51 = .ok (.iaload, 1) := by decide +kernel
theorem dX5_keep_52 : decode cX5_keep 52 = .ok (.istore 6, 2) := by decide +kernel
theorem dX5_keep_54 : decode cX5_keep 54 = .ok (.iload 5, 2) := by decide +kernel
theorem dX5_keep_56 : decode cX5_keep 56 = .ok (.ifCond .ne 43, 3) := by decide +kernel
theorem dX5_keep_59 : decode cX5_keep 59 = .ok (.iload 6, 2) := by decide +kernel
theorem dX5_keep_61 : decode cX5_keep 61 = .ok (.iconst (-1), 1) := by decide +kernel
theorem dX5_keep_62 : decode cX5_keep 62 = .ok (.if_icmp .ne 7, 3) := by decide +kernel
theorem dX5_keep_65 : decode cX5_keep 65 = .ok (.iconst 1, 1) := by decide +kernel
theorem dX5_keep_66 : decode cX5_keep 66 = .ok (.goto 31, 3) := by decide +kernel
theorem dX5_keep_69 : decode cX5_keep 69 = .ok (.aload_n 0, 1) := by decide +kernel
theorem dX5_keep_70 : decode cX5_keep 70 = .ok (.getfield 22, 3) := by decide +kernel
theorem dX5_keep_73 : decode cX5_keep 73 = .ok (.iload 6, 2) := by decide +kernel
theorem dX5_keep_75 : decode cX5_keep 75 = .ok (.iaload, 1) := by decide +kernel
theorem dX5_keep_76 : decode cX5_keep 76 = .ok (.ifCond .eq 7, 3) := by decide +kernel
theorem dX5_keep_79 : decode cX5_keep 79 = .ok (.iconst 2, 1) := by decide +kernel
theorem dX5_keep_80 : decode cX5_keep 80 = .ok (.goto 17, 3) := by decide +kernel
end
section
theorem dX5_keep_83 : decode cX5_keep 83 = .ok (.aload_n 0, 1) := by decide +kernel
theorem dX5_keep_84 : decode cX5_keep 84 = .ok (.iload_n 2, 1) := by decide +kernel
theorem dX5_keep_85 : decode cX5_keep 85 = .ok (.iload_n 3, 1) := by decide +kernel
theorem dX5_keep_86 : decode cX5_keep 86 = .ok (.invokevirtual 80, 3) := by decide +kernel
theorem dX5_keep_89 : decode cX5_keep 89 = .ok (.ifCond .eq 7, 3) := by decide +kernel
theorem dX5_keep_92 : decode cX5_keep 92 = .ok (.iconst 0, 1) := by decide +kernel
theorem dX5_keep_93 : decode cX5_keep 93 = .ok (.goto 4, 3) := by decide +kernel
theorem dX5_keep_96 : decode cX5_keep 96 = .ok (.iconst 3, 1) := by decide +kernel
theorem dX5_keep_97 : decode cX5_keep 97 = .ok (.istore 5, 2) := by decide +kernel
theorem dX5_keep_99 : decode cX5_keep 99 = .ok (.iload 5, 2) := by decide +kernel
theorem dX5_keep_101 : decode cX5_keep 101 = .ok (.ifCond .ne 20, 3) := by decide +kernel
theorem dX5_keep_104 : decode cX5_keep 104 = .ok (.aload_n 0, 1) := by decide +kernel
theorem dX5_keep_105 : decode cX5_keep 105 = .ok (.getfield 28, 3) := by decide +kernel
theorem dX5_keep_108 : decode cX5_keep 108 = .ok (.bipush 12, 2) := by decide +kernel
theorem dX5_keep_110 : decode cX5_keep 110 = .ok (.iload 6, 2) := by decide +kernel
theorem dX5_keep_112 : decode cX5_keep 112 = .ok (.imul, 1) := by decide +kernel
theorem dX5_keep_113 : decode cX5_keep 113 = .ok (.iload_n 3, 1) := by decide +kernel
theorem dX5_keep_114 : decode cX5_keep 114 = .ok (.iadd, 1) := by decide +kernel
theorem dX5_keep_115 : decode cX5_keep 115 = .ok (.aload_n 0, 1) := by decide +kernel
theorem dX5_keep_116 : decode cX5_keep 116 = .ok (.getfield 91, 3) := by decide +kernel
theorem dX5_keep_119 : decode cX5_keep 119 = .ok (.i2l, 1) := by decide +kernel
theorem dX5_keep_120 : decode cX5_keep 120 = .ok (.lastore, 1) := by decide +kernel
theorem dX5_keep_121 : decode cX5_keep 121 = .ok (.aload_n 0, 1) := by decide +kernel
theorem dX5_keep_122 : decode cX5_keep 122 = .ok (.iload 5, 2) := by decide +kernel
theorem dX5_keep_124 : decode cX5_keep 124 = .ok (.aload_n 0, 1) := by decide +kernel
theorem dX5_keep_125 : decode cX5_keep 125 = .ok (.getfield 91, 3) := by decide +kernel
theorem dX5_keep_128 : decode cX5_keep 128 = .ok (.invokevirtual 115, 3) := by decide +kernel
theorem dX5_keep_131 : decode cX5_keep 131 = .ok (.ireturn, 1) := by decide +kernel
theorem dX5_things_0 : decode cX5_things 0 = .ok (.aload_n 0, 1) := by decide +kernel
theorem dX5_things_1 : decode cX5_things 1 = .ok (.getfield 35, 3) := by decide +kernel
theorem dX5_things_4 : decode cX5_things 4 = .ok (.ireturn, 1) := by decide +kernel
theorem dJ7_fill_d0a16_0 : decode cJ7_fill_d0a16 0 = .ok (.iconst 0, 1) := by decide +kernel
theorem dJ7_fill_d0a16_1 : decode cJ7_fill_d0a16 1 = .ok (.istore_n 3, 1) := by decide +kernel
theorem dJ7_fill_d0a16_2 : decode cJ7_fill_d0a16 2 = .ok (.aload_n 0, 1) := by decide +kernel
theorem dJ7_fill_d0a16_3 : decode cJ7_fill_d0a16 3 = .ok (.arraylength, 1) := by decide +kernel
theorem dJ7_fill_d0a16_4 : decode cJ7_fill_d0a16 4 = .ok (.istore 4, 2) := by decide +kernel
theorem dJ7_fill_d0a16_6 : decode cJ7_fill_d0a16 6 = .ok (.iload_n 3, 1) := by decide +kernel
theorem dJ7_fill_d0a16_7 : decode cJ7_fill_d0a16 7 = .ok (.iload 4, 2) := by decide +kernel
theorem dJ7_fill_d0a16_9 : decode cJ7_fill_d0a16 9 = .ok (.if_icmp .ge 13, 3) := by decide +kernel
theorem dJ7_fill_d0a16_12 : decode cJ7_fill_d0a16 12 = .ok (.aload_n 0, 1) := by decide +kernel
theorem dJ7_fill_d0a16_13 : decode cJ7_fill_d0a16 13 = .ok (.iload_n 3, 1) := by decide +kernel
theorem dJ7_fill_d0a16_14 : decode cJ7_fill_d0a16 14 = .ok (.lload_n 1, 1) := by decide +kernel
theorem dJ7_fill_d0a16_15 : decode cJ7_fill_d0a16 15 = .ok (.lastore, 1) := by decide +kernel
theorem dJ7_fill_d0a16_16 : decode cJ7_fill_d0a16 16 = .ok (.iinc 3 1, 3) := by decide +kernel
theorem dJ7_fill_d0a16_19 : decode cJ7_fill_d0a16 19 = .ok (.goto (-13), 3) := by decide +kernel
theorem dJ7_fill_d0a16_22 : decode cJ7_fill_d0a16 22 = .ok (.return_, 1) := by decide +kernel
set_option maxRecDepth 20000 in
theorem ggL_law_X4_init : GoodIn wsL_law wsX4_init := goodIn_r _ [9, 10, 11, 12, 13, 14, 15, 16, 17, 18, 19, 20, 21, 22, 23, 24, 25, 26, 27, 28, 29, 30, 31, 32, 33, 498, 499, 476, 477, 478, 479, 480, 500, 501, 502, 503, 504, 505] (by decide +kernel) (by decide +kernel)
set_option maxRecDepth 20000 in
theorem gL_law_X4_init : GoodIn wsL_law (wsX4_init) := ggL_law_X4_init
set_option maxRecDepth 20000 in
theorem ggL_law_X5_init : GoodIn wsL_law wsX5_init := goodIn_r _ [36, 37, 11, 12, 21, 38, 39, 40, 41, 42, 43, 44, 45, 46, 481, 482, 483, 484, 485, 486, 487, 488, 489, 490, 491, 492, 493, 494, 495, 496, 497] (by decide +kernel) (by decide +kernel)
set_option maxRecDepth 20000 in
theorem gL_law_X5_init : GoodIn wsL_law (wsX5_init) := ggL_law_X5_init
set_option maxRecDepth 20000 in
theorem ggL_law_X4_thing : GoodIn wsL_law wsX4_thing := goodIn_r _ [50, 51, 16, 52, 53, 2, 54, 55, 56, 57, 15, 58, 59, 28, 27, 60, 61, 62, 63, 64, 65, 11, 12, 66, 67, 68, 476, 477, 478, 479, 480, 498, 499, 506, 507, 508, 509] (by decide +kernel) (by decide +kernel)
set_option maxRecDepth 20000 in
theorem gL_law_X4_thing : GoodIn wsL_law (wsV RL 13 RX4 yX4_thing wsX4_thing) := goodIn_app (goodIn_of _ (by decide +kernel)) ggL_law_X4_thing
set_option maxRecDepth 20000 in
theorem ggL_law_X5_thing : GoodIn wsL_law wsX5_thing := goodIn_r _ [72, 73, 74, 75, 38, 39, 40, 41, 76, 77, 5, 78, 481, 482, 483, 484, 485, 486, 487, 488, 489, 490, 491, 492, 493, 494, 495, 496, 497] (by decide +kernel) (by decide +kernel)
set_option maxRecDepth 20000 in
theorem gL_law_X5_thing : GoodIn wsL_law (wsV RL 17 RX5 yX5_thing wsX5_thing) := goodIn_app (goodIn_of _ (by decide +kernel)) ggL_law_X5_thing
set_option maxRecDepth 20000 in
theorem ggL_law_X4_outcome : GoodIn wsL_law wsX4_outcome := goodIn_r _ [82, 83, 476, 477, 478, 479, 480] (by decide +kernel) (by decide +kernel)
set_option maxRecDepth 20000 in
theorem gL_law_X4_outcome : GoodIn wsL_law (wsV RL 18 RX4 yX4_outcome wsX4_outcome) := goodIn_app (goodIn_of _ (by decide +kernel)) ggL_law_X4_outcome
set_option maxRecDepth 20000 in
theorem ggL_law_X5_outcome : GoodIn wsL_law wsX5_outcome := goodIn_r _ [87, 88, 481, 482, 483, 484, 485, 486, 487, 488, 489, 490, 491, 492, 493, 494, 495, 496, 497] (by decide +kernel) (by decide +kernel)
set_option maxRecDepth 20000 in
theorem gL_law_X5_outcome : GoodIn wsL_law (wsV RL 22 RX5 yX5_outcome wsX5_outcome) := goodIn_app (goodIn_of _ (by decide +kernel)) ggL_law_X5_outcome
set_option maxRecDepth 20000 in
theorem ggL_law_X4_own : GoodIn wsL_law wsX4_own := goodIn_r _ [92, 93, 476, 477, 478, 479, 480] (by decide +kernel) (by decide +kernel)
set_option maxRecDepth 20000 in
theorem gL_law_X4_own : GoodIn wsL_law (wsV RL 23 RX4 yX4_own wsX4_own) := goodIn_app (goodIn_of _ (by decide +kernel)) ggL_law_X4_own
set_option maxRecDepth 20000 in
theorem ggL_law_X5_own : GoodIn wsL_law wsX5_own := goodIn_r _ [97, 98, 481, 482, 483, 484, 485, 486, 487, 488, 489, 490, 491, 492, 493, 494, 495, 496, 497] (by decide +kernel) (by decide +kernel)
set_option maxRecDepth 20000 in
theorem gL_law_X5_own : GoodIn wsL_law (wsV RL 26 RX5 yX5_own wsX5_own) := goodIn_app (goodIn_of _ (by decide +kernel)) ggL_law_X5_own
set_option maxRecDepth 20000 in
theorem ggL_law_X4_begun : GoodIn wsL_law wsX4_begun := goodIn_r _ [102, 20, 103, 476, 477, 478, 479, 480, 500, 501, 502, 503, 504, 505] (by decide +kernel) (by decide +kernel)
set_option maxRecDepth 20000 in
theorem gL_law_X4_begun : GoodIn wsL_law (wsV RL 27 RX4 yX4_begun wsX4_begun) := goodIn_app (goodIn_of _ (by decide +kernel)) ggL_law_X4_begun
set_option maxRecDepth 20000 in
theorem ggL_law_X5_begun : GoodIn wsL_law wsX5_begun := goodIn_r _ [107, 108, 481, 482, 483, 484, 485, 486, 487, 488, 489, 490, 491, 492, 493, 494, 495, 496, 497] (by decide +kernel) (by decide +kernel)
set_option maxRecDepth 20000 in
theorem gL_law_X5_begun : GoodIn wsL_law (wsV RL 30 RX5 yX5_begun wsX5_begun) := goodIn_app (goodIn_of _ (by decide +kernel)) ggL_law_X5_begun
set_option maxRecDepth 20000 in
theorem ggL_law_X4_deep : GoodIn wsL_law wsX4_deep := goodIn_r _ [112, 20, 113, 476, 477, 478, 479, 480, 500, 501, 502, 503, 504, 505] (by decide +kernel) (by decide +kernel)
set_option maxRecDepth 20000 in
theorem gL_law_X4_deep : GoodIn wsL_law (wsV RL 31 RX4 yX4_deep wsX4_deep) := goodIn_app (goodIn_of _ (by decide +kernel)) ggL_law_X4_deep
set_option maxRecDepth 20000 in
theorem ggL_law_X5_deep : GoodIn wsL_law wsX5_deep := goodIn_r _ [117, 118, 481, 482, 483, 484, 485, 486, 487, 488, 489, 490, 491, 492, 493, 494, 495, 496, 497] (by decide +kernel) (by decide +kernel)
set_option maxRecDepth 20000 in
theorem gL_law_X5_deep : GoodIn wsL_law (wsV RL 34 RX5 yX5_deep wsX5_deep) := goodIn_app (goodIn_of _ (by decide +kernel)) ggL_law_X5_deep
set_option maxRecDepth 20000 in
theorem ggL_law_X4_told : GoodIn wsL_law wsX4_told := goodIn_r _ [122, 51, 22, 476, 477, 478, 479, 480] (by decide +kernel) (by decide +kernel)
set_option maxRecDepth 20000 in
theorem gL_law_X4_told : GoodIn wsL_law (wsV RL 35 RX4 yX4_told wsX4_told) := goodIn_app (goodIn_of _ (by decide +kernel)) ggL_law_X4_told
set_option maxRecDepth 20000 in
theorem ggL_law_X5_told : GoodIn wsL_law wsX5_told := goodIn_r _ [126, 127, 46, 74, 76, 77, 5, 78, 481, 482, 483, 484, 485, 486, 487, 488, 489, 490, 491, 492, 493, 494, 495, 496, 497] (by decide +kernel) (by decide +kernel)
set_option maxRecDepth 20000 in
theorem gL_law_X5_told : GoodIn wsL_law (wsV RL 39 RX5 yX5_told wsX5_told) := goodIn_app (goodIn_of _ (by decide +kernel)) ggL_law_X5_told
set_option maxRecDepth 20000 in
theorem ggL_law_X4_cls : GoodIn wsL_law wsX4_cls := goodIn_r _ [131, 16, 51, 132, 133, 134, 135, 15, 136, 59, 28, 476, 477, 478, 479, 480, 506, 507, 508, 509, 498, 499] (by decide +kernel) (by decide +kernel)
set_option maxRecDepth 20000 in
theorem gL_law_X4_cls : GoodIn wsL_law (wsV RL 40 RX4 yX4_cls wsX4_cls) := goodIn_app (goodIn_of _ (by decide +kernel)) ggL_law_X4_cls
set_option maxRecDepth 20000 in
theorem ggL_law_X5_cls : GoodIn wsL_law wsX5_cls := goodIn_r _ [140, 38, 74, 141, 142, 143, 5, 144, 75, 76, 77, 78, 481, 482, 483, 484, 485, 486, 487, 488, 489, 490, 491, 492, 493, 494, 495, 496, 497] (by decide +kernel) (by decide +kernel)
set_option maxRecDepth 20000 in
theorem gL_law_X5_cls : GoodIn wsL_law (wsV RL 43 RX5 yX5_cls wsX5_cls) := goodIn_app (goodIn_of _ (by decide +kernel)) ggL_law_X5_cls
set_option maxRecDepth 20000 in
theorem ggL_law_X4_is : GoodIn wsL_law wsX4_is := goodIn_r _ [148, 16, 51, 133, 134, 135, 15, 136, 59, 28, 52, 53, 2, 54, 149, 150, 151, 61, 152, 66, 476, 477, 478, 479, 480, 498, 499, 506, 507, 508, 509] (by decide +kernel) (by decide +kernel)
set_option maxRecDepth 20000 in
theorem gL_law_X4_is : GoodIn wsL_law (wsV RL 44 RX4 yX4_is wsX4_is) := goodIn_app (goodIn_of _ (by decide +kernel)) ggL_law_X4_is
set_option maxRecDepth 20000 in
theorem ggL_law_X5_is : GoodIn wsL_law wsX5_is := goodIn_r _ [156, 73, 74, 38, 141, 142, 143, 5, 144, 75, 76, 77, 78, 481, 482, 483, 484, 485, 486, 487, 488, 489, 490, 491, 492, 493, 494, 495, 496, 497] (by decide +kernel) (by decide +kernel)
set_option maxRecDepth 20000 in
theorem gL_law_X5_is : GoodIn wsL_law (wsV RL 47 RX5 yX5_is wsX5_is) := goodIn_app (goodIn_of _ (by decide +kernel)) ggL_law_X5_is
set_option maxRecDepth 20000 in
theorem ggL_law_X4_v : GoodIn wsL_law wsX4_v := goodIn_r _ [160, 16, 51, 161, 133, 134, 135, 15, 136, 59, 28, 476, 477, 478, 479, 480, 506, 507, 508, 509, 498, 499] (by decide +kernel) (by decide +kernel)
set_option maxRecDepth 20000 in
theorem gL_law_X4_v : GoodIn wsL_law (wsV RL 48 RX4 yX4_v wsX4_v) := goodIn_app (goodIn_of _ (by decide +kernel)) ggL_law_X4_v
set_option maxRecDepth 20000 in
theorem ggL_law_X5_v : GoodIn wsL_law wsX5_v := goodIn_r _ [165, 39, 74, 141, 142, 143, 5, 144, 75, 76, 77, 78, 481, 482, 483, 484, 485, 486, 487, 488, 489, 490, 491, 492, 493, 494, 495, 496, 497] (by decide +kernel) (by decide +kernel)
set_option maxRecDepth 20000 in
theorem gL_law_X5_v : GoodIn wsL_law (wsV RL 51 RX5 yX5_v wsX5_v) := goodIn_app (goodIn_of _ (by decide +kernel)) ggL_law_X5_v
set_option maxRecDepth 20000 in
theorem ggL_law_X4_become : GoodIn wsL_law wsX4_become := goodIn_r _ [169, 16, 51, 161, 133, 134, 135, 15, 136, 59, 28, 476, 477, 478, 479, 480, 506, 507, 508, 509, 498, 499] (by decide +kernel) (by decide +kernel)
set_option maxRecDepth 20000 in
theorem gL_law_X4_become : GoodIn wsL_law (wsV RL 52 RX4 yX4_become wsX4_become) := goodIn_app (goodIn_of _ (by decide +kernel)) ggL_law_X4_become
set_option maxRecDepth 20000 in
theorem ggL_law_X5_become : GoodIn wsL_law wsX5_become := goodIn_r _ [173, 74, 39, 141, 142, 143, 5, 144, 75, 76, 77, 78, 481, 482, 483, 484, 485, 486, 487, 488, 489, 490, 491, 492, 493, 494, 495, 496, 497] (by decide +kernel) (by decide +kernel)
set_option maxRecDepth 20000 in
theorem gL_law_X5_become : GoodIn wsL_law (wsV RL 55 RX5 yX5_become wsX5_become) := goodIn_app (goodIn_of _ (by decide +kernel)) ggL_law_X5_become
set_option maxRecDepth 20000 in
theorem ggL_law_X4_link : GoodIn wsL_law wsX4_link := goodIn_r _ [177, 16, 51, 178, 133, 134, 135, 15, 136, 59, 28, 179, 180, 181, 182, 183, 476, 477, 478, 479, 480, 506, 507, 508, 509, 498, 499] (by decide +kernel) (by decide +kernel)
set_option maxRecDepth 20000 in
theorem gL_law_X4_link : GoodIn wsL_law (wsV RL 56 RX4 yX4_link wsX4_link) := goodIn_app (goodIn_of _ (by decide +kernel)) ggL_law_X4_link
set_option maxRecDepth 20000 in
theorem ggL_law_X5_link : GoodIn wsL_law wsX5_link := goodIn_r _ [187, 74, 40, 141, 142, 143, 5, 144, 75, 76, 77, 78, 481, 482, 483, 484, 485, 486, 487, 488, 489, 490, 491, 492, 493, 494, 495, 496, 497] (by decide +kernel) (by decide +kernel)
set_option maxRecDepth 20000 in
theorem gL_law_X5_link : GoodIn wsL_law (wsV RL 59 RX5 yX5_link wsX5_link) := goodIn_app (goodIn_of _ (by decide +kernel)) ggL_law_X5_link
set_option maxRecDepth 20000 in
theorem ggL_law_X4_linked : GoodIn wsL_law wsX4_linked := goodIn_r _ [191, 16, 51, 178, 133, 134, 135, 15, 136, 59, 28, 476, 477, 478, 479, 480, 506, 507, 508, 509, 498, 499] (by decide +kernel) (by decide +kernel)
set_option maxRecDepth 20000 in
theorem gL_law_X4_linked : GoodIn wsL_law (wsV RL 60 RX4 yX4_linked wsX4_linked) := goodIn_app (goodIn_of _ (by decide +kernel)) ggL_law_X4_linked
set_option maxRecDepth 20000 in
theorem ggL_law_X5_linked : GoodIn wsL_law wsX5_linked := goodIn_r _ [195, 40, 74, 141, 142, 143, 5, 144, 75, 76, 77, 78, 481, 482, 483, 484, 485, 486, 487, 488, 489, 490, 491, 492, 493, 494, 495, 496, 497] (by decide +kernel) (by decide +kernel)
set_option maxRecDepth 20000 in
theorem gL_law_X5_linked : GoodIn wsL_law (wsV RL 63 RX5 yX5_linked wsX5_linked) := goodIn_app (goodIn_of _ (by decide +kernel)) ggL_law_X5_linked
set_option maxRecDepth 20000 in
theorem ggL_law_X4_follow : GoodIn wsL_law wsX4_follow := goodIn_r _ [199, 16, 51, 178, 133, 134, 135, 15, 136, 59, 28, 200, 201, 202, 2, 203, 204, 205, 206, 207, 83, 22, 20, 208, 93, 476, 477, 478, 479, 480, 506, 507, 508, 509, 498, 499, 500, 501, 502, 503, 504, 505] (by decide +kernel) (by decide +kernel)
set_option maxRecDepth 20000 in
theorem gL_law_X4_follow : GoodIn wsL_law (wsV RL 64 RX4 yX4_follow wsX4_follow) := goodIn_app (goodIn_of _ (by decide +kernel)) ggL_law_X4_follow
set_option maxRecDepth 20000 in
theorem ggL_law_X5_follow : GoodIn wsL_law wsX5_follow := goodIn_r _ [212, 74, 40, 141, 142, 143, 5, 144, 75, 76, 77, 78, 213, 214, 215, 216, 88, 46, 481, 482, 483, 484, 485, 486, 487, 488, 489, 490, 491, 492, 493, 494, 495, 496, 497] (by decide +kernel) (by decide +kernel)
set_option maxRecDepth 20000 in
theorem gL_law_X5_follow : GoodIn wsL_law (wsV RL 67 RX5 yX5_follow wsX5_follow) := goodIn_app (goodIn_of _ (by decide +kernel)) ggL_law_X5_follow
set_option maxRecDepth 20000 in
theorem ggL_law_X4_trade : GoodIn wsL_law wsX4_trade := goodIn_r _ [220, 16, 51, 178, 161, 133, 134, 135, 15, 136, 59, 28, 200, 201, 202, 2, 203, 204, 205, 206, 207, 83, 22, 20, 208, 93, 476, 477, 478, 479, 480, 506, 507, 508, 509, 498, 499, 500, 501, 502, 503, 504, 505] (by decide +kernel) (by decide +kernel)
set_option maxRecDepth 20000 in
theorem gL_law_X4_trade : GoodIn wsL_law (wsV RL 68 RX4 yX4_trade wsX4_trade) := goodIn_app (goodIn_of _ (by decide +kernel)) ggL_law_X4_trade
set_option maxRecDepth 20000 in
theorem ggL_law_X5_trade : GoodIn wsL_law wsX5_trade := goodIn_r _ [224, 74, 40, 39, 141, 142, 143, 5, 144, 75, 76, 77, 78, 213, 214, 215, 216, 88, 46, 481, 482, 483, 484, 485, 486, 487, 488, 489, 490, 491, 492, 493, 494, 495, 496, 497] (by decide +kernel) (by decide +kernel)
set_option maxRecDepth 20000 in
theorem gL_law_X5_trade : GoodIn wsL_law (wsV RL 71 RX5 yX5_trade wsX5_trade) := goodIn_app (goodIn_of _ (by decide +kernel)) ggL_law_X5_trade
set_option maxRecDepth 20000 in
theorem ggL_law_X4_hold : GoodIn wsL_law wsX4_hold := goodIn_r _ [228, 16, 51, 229, 230, 231, 232, 133, 134, 135, 15, 136, 59, 28, 204, 205, 206, 2, 207, 83, 22, 20, 208, 93, 200, 201, 202, 203, 233, 234, 235, 236, 11, 12, 237, 44, 238, 239, 240, 241, 242, 243, 476, 477, 478, 479, 480, 506, 507, 508, 509, 510, 511, 498, 499, 500, 501, 502, 503, 504, 505] (by decide +kernel) (by decide +kernel)
set_option maxRecDepth 20000 in
theorem gL_law_X4_hold : GoodIn wsL_law (wsV RL 72 RX4 yX4_hold wsX4_hold) := goodIn_app (goodIn_of _ (by decide +kernel)) ggL_law_X4_hold
set_option maxRecDepth 20000 in
theorem ggL_law_X5_hold : GoodIn wsL_law wsX5_hold := goodIn_r _ [247, 248, 74, 41, 42, 249, 43, 45, 250, 141, 142, 143, 5, 144, 75, 76, 77, 78, 213, 214, 215, 216, 88, 46, 481, 482, 483, 484, 485, 486, 487, 488, 489, 490, 491, 492, 493, 494, 495, 496, 497] (by decide +kernel) (by decide +kernel)
set_option maxRecDepth 20000 in
theorem gL_law_X5_hold : GoodIn wsL_law (wsV RL 76 RX5 yX5_hold wsX5_hold) := goodIn_app (goodIn_of _ (by decide +kernel)) ggL_law_X5_hold
set_option maxRecDepth 20000 in
theorem ggL_law_X4_share : GoodIn wsL_law wsX4_share := goodIn_r _ [254, 16, 51, 229, 133, 134, 135, 15, 136, 59, 28, 255, 256, 257, 61, 258, 259, 260, 476, 477, 478, 479, 480, 506, 507, 508, 509, 498, 499, 510, 511] (by decide +kernel) (by decide +kernel)
set_option maxRecDepth 20000 in
theorem gL_law_X4_share : GoodIn wsL_law (wsV RL 77 RX4 yX4_share wsX4_share) := goodIn_app (goodIn_of _ (by decide +kernel)) ggL_law_X4_share
set_option maxRecDepth 20000 in
theorem ggL_law_X5_share : GoodIn wsL_law wsX5_share := goodIn_r _ [264, 74, 41, 141, 142, 143, 5, 144, 75, 76, 77, 78, 265, 266, 267, 268, 42, 481, 482, 483, 484, 485, 486, 487, 488, 489, 490, 491, 492, 493, 494, 495, 496, 497] (by decide +kernel) (by decide +kernel)
set_option maxRecDepth 20000 in
theorem gL_law_X5_share : GoodIn wsL_law (wsV RL 80 RX5 yX5_share wsX5_share) := goodIn_app (goodIn_of _ (by decide +kernel)) ggL_law_X5_share
set_option maxRecDepth 20000 in
theorem ggL_law_X4_holds : GoodIn wsL_law wsX4_holds := goodIn_r _ [272, 16, 51, 133, 134, 135, 15, 136, 59, 28, 255, 256, 257, 61, 258, 259, 260, 476, 477, 478, 479, 480, 498, 499, 506, 507, 508, 509, 510, 511] (by decide +kernel) (by decide +kernel)
set_option maxRecDepth 20000 in
theorem gL_law_X4_holds : GoodIn wsL_law (wsV RL 81 RX4 yX4_holds wsX4_holds) := goodIn_app (goodIn_of _ (by decide +kernel)) ggL_law_X4_holds
set_option maxRecDepth 20000 in
theorem ggL_law_X5_holds : GoodIn wsL_law wsX5_holds := goodIn_r _ [268, 74, 41, 42, 141, 142, 143, 5, 144, 75, 76, 77, 78, 481, 482, 483, 484, 485, 486, 487, 488, 489, 490, 491, 492, 493, 494, 495, 496, 497] (by decide +kernel) (by decide +kernel)
set_option maxRecDepth 20000 in
theorem gL_law_X5_holds : GoodIn wsL_law (wsV RL 84 RX5 yX5_holds wsX5_holds) := goodIn_app (goodIn_of _ (by decide +kernel)) ggL_law_X5_holds
set_option maxRecDepth 20000 in
theorem ggL_law_X4_size : GoodIn wsL_law wsX4_size := goodIn_r _ [277, 16, 51, 229, 278, 133, 134, 135, 15, 136, 59, 28, 200, 201, 202, 2, 203, 204, 205, 206, 207, 83, 22, 20, 208, 93, 476, 477, 478, 479, 480, 506, 507, 508, 509, 510, 511, 498, 499, 500, 501, 502, 503, 504, 505] (by decide +kernel) (by decide +kernel)
set_option maxRecDepth 20000 in
theorem gL_law_X4_size : GoodIn wsL_law (wsV RL 85 RX4 yX4_size wsX4_size) := goodIn_app (goodIn_of _ (by decide +kernel)) ggL_law_X4_size
set_option maxRecDepth 20000 in
theorem ggL_law_X5_size : GoodIn wsL_law wsX5_size := goodIn_r _ [282, 74, 41, 43, 141, 142, 143, 5, 144, 75, 76, 77, 78, 213, 214, 215, 216, 88, 46, 481, 482, 483, 484, 485, 486, 487, 488, 489, 490, 491, 492, 493, 494, 495, 496, 497] (by decide +kernel) (by decide +kernel)
set_option maxRecDepth 20000 in
theorem gL_law_X5_size : GoodIn wsL_law (wsV RL 88 RX5 yX5_size wsX5_size) := goodIn_app (goodIn_of _ (by decide +kernel)) ggL_law_X5_size
set_option maxRecDepth 20000 in
theorem ggL_law_X4_at : GoodIn wsL_law wsX4_at := goodIn_r _ [286, 16, 287, 229, 278, 133, 134, 135, 15, 136, 59, 28, 288, 289, 2, 290, 291, 292, 293, 294, 232, 295, 238, 200, 201, 202, 203, 204, 205, 206, 207, 83, 22, 20, 208, 93, 476, 477, 478, 479, 480, 506, 507, 508, 509, 510, 511, 498, 499, 500, 501, 502, 503, 504, 505] (by decide +kernel) (by decide +kernel)
set_option maxRecDepth 20000 in
theorem gL_law_X4_at : GoodIn wsL_law (wsV RL 89 RX4 yX4_at wsX4_at) := goodIn_app (goodIn_of _ (by decide +kernel)) ggL_law_X4_at
set_option maxRecDepth 20000 in
theorem ggL_law_X5_at : GoodIn wsL_law wsX5_at := goodIn_r _ [299, 300, 41, 45, 141, 142, 143, 5, 144, 75, 76, 77, 78, 301, 302, 303, 304, 43, 213, 214, 215, 216, 88, 46, 481, 482, 483, 484, 485, 486, 487, 488, 489, 490, 491, 492, 493, 494, 495, 496, 497] (by decide +kernel) (by decide +kernel)
set_option maxRecDepth 20000 in
theorem gL_law_X5_at : GoodIn wsL_law (wsV RL 93 RX5 yX5_at wsX5_at) := goodIn_app (goodIn_of _ (by decide +kernel)) ggL_law_X5_at
set_option maxRecDepth 20000 in
theorem ggL_law_X4_lay : GoodIn wsL_law wsX4_lay := goodIn_r _ [308, 16, 287, 229, 291, 133, 134, 135, 15, 136, 59, 28, 288, 289, 2, 290, 292, 293, 294, 232, 295, 238, 200, 201, 202, 203, 204, 205, 206, 207, 83, 22, 20, 208, 93, 309, 310, 311, 312, 476, 477, 478, 479, 480, 506, 507, 508, 509, 510, 511, 498, 499, 500, 501, 502, 503, 504, 505] (by decide +kernel) (by decide +kernel)
set_option maxRecDepth 20000 in
theorem gL_law_X4_lay : GoodIn wsL_law (wsV RL 96 RX4 yX4_lay wsX4_lay) := goodIn_app (goodIn_of _ (by decide +kernel)) ggL_law_X4_lay
set_option maxRecDepth 20000 in
theorem ggL_law_X5_lay : GoodIn wsL_law wsX5_lay := goodIn_r _ [316, 300, 41, 42, 45, 141, 142, 143, 5, 144, 75, 76, 77, 78, 301, 302, 303, 304, 43, 213, 214, 215, 216, 88, 46, 481, 482, 483, 484, 485, 486, 487, 488, 489, 490, 491, 492, 493, 494, 495, 496, 497] (by decide +kernel) (by decide +kernel)
set_option maxRecDepth 20000 in
theorem gL_law_X5_lay : GoodIn wsL_law (wsV RL 100 RX5 yX5_lay wsX5_lay) := goodIn_app (goodIn_of _ (by decide +kernel)) ggL_law_X5_lay
set_option maxRecDepth 20000 in
theorem ggL_law_X4_set : GoodIn wsL_law wsX4_set := goodIn_r _ [320, 16, 51, 229, 291, 133, 134, 135, 15, 136, 59, 28, 179, 180, 181, 182, 183, 288, 289, 2, 290, 292, 293, 294, 232, 295, 238, 200, 201, 202, 203, 204, 205, 206, 207, 83, 22, 20, 208, 93, 321, 322, 323, 324, 325, 150, 151, 61, 152, 66, 309, 310, 311, 312, 476, 477, 478, 479, 480, 506, 507, 508, 509, 510, 511, 498, 499, 500, 501, 502, 503, 504, 505] (by decide +kernel) (by decide +kernel)
set_option maxRecDepth 20000 in
theorem gL_law_X4_set : GoodIn wsL_law (wsV RL 101 RX4 yX4_set wsX4_set) := goodIn_app (goodIn_of _ (by decide +kernel)) ggL_law_X4_set
set_option maxRecDepth 20000 in
theorem ggL_law_X5_set : GoodIn wsL_law wsX5_set := goodIn_r _ [329, 74, 41, 42, 45, 141, 142, 143, 5, 144, 75, 76, 77, 78, 301, 302, 303, 304, 43, 330, 331, 332, 333, 38, 213, 214, 215, 216, 88, 46, 481, 482, 483, 484, 485, 486, 487, 488, 489, 490, 491, 492, 493, 494, 495, 496, 497] (by decide +kernel) (by decide +kernel)
set_option maxRecDepth 20000 in
theorem gL_law_X5_set : GoodIn wsL_law (wsV RL 104 RX5 yX5_set wsX5_set) := goodIn_app (goodIn_of _ (by decide +kernel)) ggL_law_X5_set
set_option maxRecDepth 20000 in
theorem ggL_law_X4_move : GoodIn wsL_law wsX4_move := goodIn_r _ [337, 16, 51, 229, 291, 278, 338, 339, 340, 341, 133, 134, 135, 15, 136, 59, 28, 342, 343, 2, 344, 345, 346, 347, 232, 348, 237, 292, 293, 294, 295, 238, 200, 201, 202, 203, 204, 205, 206, 207, 83, 22, 20, 208, 93, 349, 350, 351, 352, 321, 322, 323, 324, 183, 325, 150, 151, 61, 152, 66, 476, 477, 478, 479, 480, 506, 507, 508, 509, 510, 511, 498, 499, 500, 501, 502, 503, 504, 505] (by decide +kernel) (by decide +kernel)
set_option maxRecDepth 20000 in
theorem gL_law_X4_move : GoodIn wsL_law (wsV RL 105 RX4 yX4_move wsX4_move) := goodIn_app (goodIn_of _ (by decide +kernel)) ggL_law_X4_move
set_option maxRecDepth 20000 in
theorem ggL_law_X5_move : GoodIn wsL_law wsX5_move := goodIn_r _ [356, 74, 41, 42, 43, 45, 141, 142, 143, 5, 144, 75, 76, 77, 78, 213, 214, 215, 216, 88, 46, 357, 358, 359, 360, 250, 330, 331, 332, 333, 38, 481, 482, 483, 484, 485, 486, 487, 488, 489, 490, 491, 492, 493, 494, 495, 496, 497] (by decide +kernel) (by decide +kernel)
set_option maxRecDepth 20000 in
theorem gL_law_X5_move : GoodIn wsL_law (wsV RL 109 RX5 yX5_move wsX5_move) := goodIn_app (goodIn_of _ (by decide +kernel)) ggL_law_X5_move
set_option maxRecDepth 20000 in
theorem ggL_law_X4_run : GoodIn wsL_law wsX4_run := goodIn_r _ [364, 16, 51, 20, 365, 133, 134, 135, 15, 136, 59, 28, 366, 367, 2, 368, 369, 370, 371, 19, 372, 373, 374, 375, 376, 377, 378, 379, 380, 381, 382, 383, 384, 385, 386, 387, 388, 389, 390, 391, 392, 393, 33, 289, 290, 291, 292, 293, 294, 232, 295, 238, 394, 346, 347, 348, 237, 395, 396, 397, 398, 399, 400, 401, 402, 403, 404, 405, 406, 407, 408, 409, 410, 411, 412, 413, 204, 205, 206, 207, 83, 22, 208, 93, 476, 477, 478, 479, 480, 500, 501, 502, 503, 504, 505, 498, 499, 510, 511, 506, 507, 508, 509] (by decide +kernel) (by decide +kernel)
set_option maxRecDepth 20000 in
theorem gL_law_X4_run : GoodIn wsL_law (wsV RL 110 RX4 yX4_run wsX4_run) := goodIn_app (goodIn_of _ (by decide +kernel)) ggL_law_X4_run
set_option maxRecDepth 20000 in
theorem ggL_law_X5_run : GoodIn wsL_law wsX5_run := goodIn_r _ [417, 418, 74, 108, 419, 141, 142, 143, 5, 144, 75, 76, 77, 78, 420, 421, 422, 423, 118, 424, 38, 425, 426, 427, 428, 40, 41, 43, 42, 45, 429, 430, 431, 432, 39, 433, 434, 435, 436, 437, 438, 439, 440, 441, 98, 213, 214, 215, 216, 88, 46, 481, 482, 483, 484, 485, 486, 487, 488, 489, 490, 491, 492, 493, 494, 495, 496, 497] (by decide +kernel) (by decide +kernel)
set_option maxRecDepth 20000 in
theorem gL_law_X5_run : GoodIn wsL_law (wsV RL 113 RX5 yX5_run wsX5_run) := goodIn_app (goodIn_of _ (by decide +kernel)) ggL_law_X5_run
set_option maxRecDepth 20000 in
theorem ggL_law_X4_either : GoodIn wsL_law wsX4_either := goodIn_r _ [445, 16, 51, 20, 365, 133, 134, 135, 15, 136, 59, 28, 366, 367, 2, 368, 369, 370, 371, 19, 372, 373, 374, 375, 376, 377, 378, 379, 380, 381, 382, 383, 384, 385, 386, 387, 388, 389, 390, 391, 392, 393, 33, 289, 290, 291, 292, 293, 294, 232, 295, 238, 394, 346, 347, 348, 237, 395, 396, 397, 398, 399, 400, 401, 402, 403, 404, 405, 406, 407, 408, 409, 410, 411, 412, 413, 446, 204, 205, 206, 207, 83, 22, 208, 93, 476, 477, 478, 479, 480, 500, 501, 502, 503, 504, 505, 498, 499, 510, 511, 506, 507, 508, 509] (by decide +kernel) (by decide +kernel)
set_option maxRecDepth 20000 in
theorem gL_law_X4_either : GoodIn wsL_law (wsV RL 114 RX4 yX4_either wsX4_either) := goodIn_app (goodIn_of _ (by decide +kernel)) ggL_law_X4_either
set_option maxRecDepth 20000 in
theorem ggL_law_X5_either : GoodIn wsL_law wsX5_either := goodIn_r _ [450, 418, 74, 108, 419, 141, 142, 143, 5, 144, 75, 76, 77, 78, 420, 421, 422, 423, 118, 424, 38, 425, 426, 427, 428, 40, 41, 43, 42, 45, 429, 430, 431, 432, 39, 433, 434, 435, 436, 437, 438, 439, 440, 441, 98, 213, 214, 215, 216, 88, 46, 481, 482, 483, 484, 485, 486, 487, 488, 489, 490, 491, 492, 493, 494, 495, 496, 497] (by decide +kernel) (by decide +kernel)
set_option maxRecDepth 20000 in
theorem gL_law_X5_either : GoodIn wsL_law (wsV RL 117 RX5 yX5_either wsX5_either) := goodIn_app (goodIn_of _ (by decide +kernel)) ggL_law_X5_either
set_option maxRecDepth 20000 in
theorem ggL_law_X4_gather : GoodIn wsL_law wsX4_gather := goodIn_r _ [454, 16, 51, 20, 178, 365, 161, 133, 134, 135, 15, 136, 59, 28, 366, 367, 2, 368, 369, 370, 371, 19, 372, 373, 374, 375, 376, 377, 378, 379, 380, 381, 382, 383, 384, 385, 386, 387, 388, 389, 390, 391, 392, 393, 33, 289, 290, 291, 292, 293, 294, 232, 295, 238, 394, 346, 347, 348, 237, 395, 396, 397, 398, 399, 400, 401, 402, 403, 404, 405, 406, 407, 408, 409, 410, 411, 412, 413, 200, 201, 202, 203, 204, 205, 206, 207, 83, 22, 208, 93, 476, 477, 478, 479, 480, 506, 507, 508, 509, 500, 501, 502, 503, 504, 505, 498, 499, 510, 511] (by decide +kernel) (by decide +kernel)
set_option maxRecDepth 20000 in
theorem gL_law_X4_gather : GoodIn wsL_law (wsV RL 118 RX4 yX4_gather wsX4_gather) := goodIn_app (goodIn_of _ (by decide +kernel)) ggL_law_X4_gather
set_option maxRecDepth 20000 in
theorem ggL_law_X5_gather : GoodIn wsL_law wsX5_gather := goodIn_r _ [458, 418, 74, 108, 118, 40, 39, 419, 141, 142, 143, 5, 144, 75, 76, 77, 78, 420, 421, 422, 423, 424, 38, 425, 426, 427, 428, 41, 43, 42, 45, 429, 430, 431, 432, 433, 434, 435, 436, 437, 438, 439, 440, 441, 98, 213, 214, 215, 216, 88, 46, 481, 482, 483, 484, 485, 486, 487, 488, 489, 490, 491, 492, 493, 494, 495, 496, 497] (by decide +kernel) (by decide +kernel)
set_option maxRecDepth 20000 in
theorem gL_law_X5_gather : GoodIn wsL_law (wsV RL 121 RX5 yX5_gather wsX5_gather) := goodIn_app (goodIn_of _ (by decide +kernel)) ggL_law_X5_gather
set_option maxRecDepth 20000 in
theorem ggL_law_X4_keep : GoodIn wsL_law wsX4_keep := goodIn_r _ [462, 16, 51, 20, 365, 229, 133, 134, 135, 15, 136, 59, 28, 366, 367, 2, 368, 369, 370, 371, 19, 372, 373, 374, 375, 376, 377, 378, 379, 380, 381, 382, 383, 384, 385, 386, 387, 388, 389, 390, 391, 392, 393, 33, 289, 290, 291, 292, 293, 294, 232, 295, 238, 394, 346, 347, 348, 237, 395, 396, 397, 398, 399, 400, 401, 402, 403, 404, 405, 406, 407, 408, 409, 410, 411, 412, 413, 200, 201, 202, 203, 204, 205, 206, 207, 83, 22, 208, 93, 288, 309, 310, 311, 312, 476, 477, 478, 479, 480, 500, 501, 502, 503, 504, 505, 506, 507, 508, 509, 498, 499, 510, 511] (by decide +kernel) (by decide +kernel)
set_option maxRecDepth 20000 in
theorem gL_law_X4_keep : GoodIn wsL_law (wsV RL 122 RX4 yX4_keep wsX4_keep) := goodIn_app (goodIn_of _ (by decide +kernel)) ggL_law_X4_keep
set_option maxRecDepth 20000 in
theorem ggL_law_X5_keep : GoodIn wsL_law wsX5_keep := goodIn_r _ [466, 418, 74, 108, 41, 42, 45, 419, 141, 142, 143, 5, 144, 75, 76, 77, 78, 420, 421, 422, 423, 118, 424, 38, 425, 426, 427, 428, 40, 43, 429, 430, 431, 432, 39, 433, 434, 435, 436, 437, 301, 302, 303, 304, 438, 439, 440, 441, 98, 213, 214, 215, 216, 88, 46, 481, 482, 483, 484, 485, 486, 487, 488, 489, 490, 491, 492, 493, 494, 495, 496, 497] (by decide +kernel) (by decide +kernel)
set_option maxRecDepth 20000 in
theorem gL_law_X5_keep : GoodIn wsL_law (wsV RL 126 RX5 yX5_keep wsX5_keep) := goodIn_app (goodIn_of _ (by decide +kernel)) ggL_law_X5_keep
set_option maxRecDepth 20000 in
theorem ggL_law_X4_things : GoodIn wsL_law wsX4_things := goodIn_r _ [470, 16, 471, 476, 477, 478, 479, 480, 498, 499] (by decide +kernel) (by decide +kernel)
set_option maxRecDepth 20000 in
theorem gL_law_X4_things : GoodIn wsL_law (wsV RL 127 RX4 yX4_things wsX4_things) := goodIn_app (goodIn_of _ (by decide +kernel)) ggL_law_X4_things
set_option maxRecDepth 20000 in
theorem ggL_law_X5_things : GoodIn wsL_law wsX5_things := goodIn_r _ [475, 75, 481, 482, 483, 484, 485, 486, 487, 488, 489, 490, 491, 492, 493, 494, 495, 496, 497] (by decide +kernel) (by decide +kernel)
set_option maxRecDepth 20000 in
theorem gL_law_X5_things : GoodIn wsL_law (wsV RL 130 RX5 yX5_things wsX5_things) := goodIn_app (goodIn_of _ (by decide +kernel)) ggL_law_X5_things
theorem dL_law_0 : decode cL_law 0 = .ok (.new 7, 3) := by decide +kernel
theorem dL_law_3 : decode cL_law 3 = .ok (.dup, 1) := by decide +kernel
theorem dL_law_4 : decode cL_law 4 = .ok (.invokespecial 9, 3) := by decide +kernel
theorem dL_law_7 : decode cL_law 7 = .ok (.astore_n 1, 1) := by decide +kernel
theorem dL_law_8 : decode cL_law 8 = .ok (.new 10, 3) := by decide +kernel
theorem dL_law_11 : decode cL_law 11 = .ok (.dup, 1) := by decide +kernel
theorem dL_law_12 : decode cL_law 12 = .ok (.invokespecial 12, 3) := by decide +kernel
theorem dL_law_15 : decode cL_law 15 = .ok (.astore_n 2, 1) := by decide +kernel
theorem dL_law_16 : decode cL_law 16 = .ok (.iconst 0, 1) := by decide +kernel
theorem dL_law_17 : decode cL_law 17 = .ok (.istore_n 3, 1) := by decide +kernel
theorem dL_law_18 : decode cL_law 18 = .ok (.iload_n 3, 1) := by decide +kernel
theorem dL_law_19 : decode cL_law 19 = .ok (.aload_n 0, 1) := by decide +kernel
theorem dL_law_20 : decode cL_law 20 = .ok (.arraylength, 1) := by decide +kernel
theorem dL_law_21 : decode cL_law 21 = .ok (.bipush 6, 2) := by decide +kernel
theorem dL_law_23 : decode cL_law 23 = .ok (.isub, 1) := by decide +kernel
theorem dL_law_24 : decode cL_law 24 = .ok (.if_icmp .gt 971, 3) := by decide +kernel
theorem dL_law_27 : decode cL_law 27 = .ok (.aload_n 0, 1) := by decide +kernel
theorem dL_law_28 : decode cL_law 28 = .ok (.iload_n 3, 1) := by decide +kernel
theorem dL_law_29 : decode cL_law 29 = .ok (.iaload, 1) := by decide +kernel
theorem dL_law_30 : decode cL_law 30 = .ok (.bipush 31, 2) := by decide +kernel
theorem dL_law_32 : decode cL_law 32 = .ok (.iand, 1) := by decide +kernel
theorem dL_law_33 : decode cL_law 33 = .ok (.tableswitch 956 0 26 #[123, 156, 169, 182, 195, 208, 231, 254, 287, 310, 343, 376, 399, 422, 445, 488, 521, 544, 567, 601, 675, 718, 781, 814, 857, 890, 943], 123) := by decide +kernel
theorem dL_law_156 : decode cL_law 156 = .ok (.aload_n 1, 1) := by decide +kernel
theorem dL_law_157 : decode cL_law 157 = .ok (.aload_n 0, 1) := by decide +kernel
theorem dL_law_158 : decode cL_law 158 = .ok (.iload_n 3, 1) := by decide +kernel
theorem dL_law_159 : decode cL_law 159 = .ok (.iconst 1, 1) := by decide +kernel
theorem dL_law_160 : decode cL_law 160 = .ok (.iadd, 1) := by decide +kernel
theorem dL_law_161 : decode cL_law 161 = .ok (.iaload, 1) := by decide +kernel
theorem dL_law_162 : decode cL_law 162 = .ok (.aload_n 0, 1) := by decide +kernel
theorem dL_law_163 : decode cL_law 163 = .ok (.iload_n 3, 1) := by decide +kernel
theorem dL_law_164 : decode cL_law 164 = .ok (.iconst 2, 1) := by decide +kernel
theorem dL_law_165 : decode cL_law 165 = .ok (.iadd, 1) := by decide +kernel
theorem dL_law_166 : decode cL_law 166 = .ok (.iaload, 1) := by decide +kernel
theorem dL_law_167 : decode cL_law 167 = .ok (.invokevirtual 13, 3) := by decide +kernel
theorem dL_law_170 : decode cL_law 170 = .ok (.aload_n 2, 1) := by decide +kernel
theorem dL_law_171 : decode cL_law 171 = .ok (.aload_n 0, 1) := by decide +kernel
theorem dL_law_172 : decode cL_law 172 = .ok (.iload_n 3, 1) := by decide +kernel
theorem dL_law_173 : decode cL_law 173 = .ok (.iconst 1, 1) := by decide +kernel
theorem dL_law_174 : decode cL_law 174 = .ok (.iadd, 1) := by decide +kernel
theorem dL_law_175 : decode cL_law 175 = .ok (.iaload, 1) := by decide +kernel
theorem dL_law_176 : decode cL_law 176 = .ok (.aload_n 0, 1) := by decide +kernel
theorem dL_law_177 : decode cL_law 177 = .ok (.iload_n 3, 1) := by decide +kernel
theorem dL_law_178 : decode cL_law 178 = .ok (.iconst 2, 1) := by decide +kernel
theorem dL_law_179 : decode cL_law 179 = .ok (.iadd, 1) := by decide +kernel
theorem dL_law_180 : decode cL_law 180 = .ok (.iaload, 1) := by decide +kernel
theorem dL_law_181 : decode cL_law 181 = .ok (.invokevirtual 17, 3) := by decide +kernel
theorem dL_law_184 : decode cL_law 184 = .ok (.if_icmp .eq 805, 3) := by decide +kernel
theorem dL_law_187 : decode cL_law 187 = .ok (.iconst 0, 1) := by decide +kernel
theorem dL_law_188 : decode cL_law 188 = .ok (.ireturn, 1) := by decide +kernel
theorem dL_law_189 : decode cL_law 189 = .ok (.aload_n 1, 1) := by decide +kernel
theorem dL_law_190 : decode cL_law 190 = .ok (.invokevirtual 18, 3) := by decide +kernel
theorem dL_law_193 : decode cL_law 193 = .ok (.aload_n 2, 1) := by decide +kernel
theorem dL_law_194 : decode cL_law 194 = .ok (.invokevirtual 22, 3) := by decide +kernel
theorem dL_law_197 : decode cL_law 197 = .ok (.if_icmp .eq 792, 3) := by decide +kernel
theorem dL_law_200 : decode cL_law 200 = .ok (.iconst 0, 1) := by decide +kernel
theorem dL_law_201 : decode cL_law 201 = .ok (.ireturn, 1) := by decide +kernel
theorem dL_law_202 : decode cL_law 202 = .ok (.aload_n 1, 1) := by decide +kernel
theorem dL_law_203 : decode cL_law 203 = .ok (.invokevirtual 23, 3) := by decide +kernel
theorem dL_law_206 : decode cL_law 206 = .ok (.aload_n 2, 1) := by decide +kernel
theorem dL_law_207 : decode cL_law 207 = .ok (.invokevirtual 26, 3) := by decide +kernel
theorem dL_law_210 : decode cL_law 210 = .ok (.if_icmp .eq 779, 3) := by decide +kernel
theorem dL_law_213 : decode cL_law 213 = .ok (.iconst 0, 1) := by decide +kernel
theorem dL_law_214 : decode cL_law 214 = .ok (.ireturn, 1) := by decide +kernel
theorem dL_law_215 : decode cL_law 215 = .ok (.aload_n 1, 1) := by decide +kernel
theorem dL_law_216 : decode cL_law 216 = .ok (.invokevirtual 27, 3) := by decide +kernel
theorem dL_law_219 : decode cL_law 219 = .ok (.aload_n 2, 1) := by decide +kernel
theorem dL_law_220 : decode cL_law 220 = .ok (.invokevirtual 30, 3) := by decide +kernel
theorem dL_law_223 : decode cL_law 223 = .ok (.if_icmp .eq 766, 3) := by decide +kernel
theorem dL_law_226 : decode cL_law 226 = .ok (.iconst 0, 1) := by decide +kernel
theorem dL_law_227 : decode cL_law 227 = .ok (.ireturn, 1) := by decide +kernel
theorem dL_law_228 : decode cL_law 228 = .ok (.aload_n 1, 1) := by decide +kernel
theorem dL_law_229 : decode cL_law 229 = .ok (.invokevirtual 31, 3) := by decide +kernel
theorem dL_law_232 : decode cL_law 232 = .ok (.aload_n 2, 1) := by decide +kernel
theorem dL_law_233 : decode cL_law 233 = .ok (.invokevirtual 34, 3) := by decide +kernel
theorem dL_law_236 : decode cL_law 236 = .ok (.if_icmp .eq 753, 3) := by decide +kernel
theorem dL_law_239 : decode cL_law 239 = .ok (.iconst 0, 1) := by decide +kernel
theorem dL_law_240 : decode cL_law 240 = .ok (.ireturn, 1) := by decide +kernel
theorem dL_law_241 : decode cL_law 241 = .ok (.aload_n 1, 1) := by decide +kernel
theorem dL_law_242 : decode cL_law 242 = .ok (.aload_n 0, 1) := by decide +kernel
theorem dL_law_243 : decode cL_law 243 = .ok (.iload_n 3, 1) := by decide +kernel
theorem dL_law_244 : decode cL_law 244 = .ok (.iconst 1, 1) := by decide +kernel
theorem dL_law_245 : decode cL_law 245 = .ok (.iadd, 1) := by decide +kernel
theorem dL_law_246 : decode cL_law 246 = .ok (.iaload, 1) := by decide +kernel
theorem dL_law_247 : decode cL_law 247 = .ok (.invokevirtual 35, 3) := by decide +kernel
theorem dL_law_250 : decode cL_law 250 = .ok (.aload_n 2, 1) := by decide +kernel
theorem dL_law_251 : decode cL_law 251 = .ok (.aload_n 0, 1) := by decide +kernel
theorem dL_law_252 : decode cL_law 252 = .ok (.iload_n 3, 1) := by decide +kernel
theorem dL_law_253 : decode cL_law 253 = .ok (.iconst 1, 1) := by decide +kernel
theorem dL_law_254 : decode cL_law 254 = .ok (.iadd, 1) := by decide +kernel
theorem dL_law_255 : decode cL_law 255 = .ok (.iaload, 1) := by decide +kernel
theorem dL_law_256 : decode cL_law 256 = .ok (.invokevirtual 39, 3) := by decide +kernel
theorem dL_law_259 : decode cL_law 259 = .ok (.if_icmp .eq 730, 3) := by decide +kernel
theorem dL_law_262 : decode cL_law 262 = .ok (.iconst 0, 1) := by decide +kernel
theorem dL_law_263 : decode cL_law 263 = .ok (.ireturn, 1) := by decide +kernel
theorem dL_law_264 : decode cL_law 264 = .ok (.aload_n 1, 1) := by decide +kernel
theorem dL_law_265 : decode cL_law 265 = .ok (.aload_n 0, 1) := by decide +kernel
theorem dL_law_266 : decode cL_law 266 = .ok (.iload_n 3, 1) := by decide +kernel
theorem dL_law_267 : decode cL_law 267 = .ok (.iconst 1, 1) := by decide +kernel
theorem dL_law_268 : decode cL_law 268 = .ok (.iadd, 1) := by decide +kernel
theorem dL_law_269 : decode cL_law 269 = .ok (.iaload, 1) := by decide +kernel
theorem dL_law_270 : decode cL_law 270 = .ok (.invokevirtual 40, 3) := by decide +kernel
theorem dL_law_273 : decode cL_law 273 = .ok (.aload_n 2, 1) := by decide +kernel
theorem dL_law_274 : decode cL_law 274 = .ok (.aload_n 0, 1) := by decide +kernel
theorem dL_law_275 : decode cL_law 275 = .ok (.iload_n 3, 1) := by decide +kernel
theorem dL_law_276 : decode cL_law 276 = .ok (.iconst 1, 1) := by decide +kernel
theorem dL_law_277 : decode cL_law 277 = .ok (.iadd, 1) := by decide +kernel
theorem dL_law_278 : decode cL_law 278 = .ok (.iaload, 1) := by decide +kernel
theorem dL_law_279 : decode cL_law 279 = .ok (.invokevirtual 43, 3) := by decide +kernel
theorem dL_law_282 : decode cL_law 282 = .ok (.if_icmp .eq 707, 3) := by decide +kernel
theorem dL_law_285 : decode cL_law 285 = .ok (.iconst 0, 1) := by decide +kernel
theorem dL_law_286 : decode cL_law 286 = .ok (.ireturn, 1) := by decide +kernel
theorem dL_law_287 : decode cL_law 287 = .ok (.aload_n 1, 1) := by decide +kernel
theorem dL_law_288 : decode cL_law 288 = .ok (.aload_n 0, 1) := by decide +kernel
theorem dL_law_289 : decode cL_law 289 = .ok (.iload_n 3, 1) := by decide +kernel
theorem dL_law_290 : decode cL_law 290 = .ok (.iconst 1, 1) := by decide +kernel
theorem dL_law_291 : decode cL_law 291 = .ok (.iadd, 1) := by decide +kernel
theorem dL_law_292 : decode cL_law 292 = .ok (.iaload, 1) := by decide +kernel
theorem dL_law_293 : decode cL_law 293 = .ok (.aload_n 0, 1) := by decide +kernel
theorem dL_law_294 : decode cL_law 294 = .ok (.iload_n 3, 1) := by decide +kernel
theorem dL_law_295 : decode cL_law 295 = .ok (.iconst 2, 1) := by decide +kernel
theorem dL_law_296 : decode cL_law 296 = .ok (.iadd, 1) := by decide +kernel
theorem dL_law_297 : decode cL_law 297 = .ok (.iaload, 1) := by decide +kernel
theorem dL_law_298 : decode cL_law 298 = .ok (.invokevirtual 44, 3) := by decide +kernel
theorem dL_law_301 : decode cL_law 301 = .ok (.aload_n 2, 1) := by decide +kernel
theorem dL_law_302 : decode cL_law 302 = .ok (.aload_n 0, 1) := by decide +kernel
theorem dL_law_303 : decode cL_law 303 = .ok (.iload_n 3, 1) := by decide +kernel
theorem dL_law_304 : decode cL_law 304 = .ok (.iconst 1, 1) := by decide +kernel
theorem dL_law_305 : decode cL_law 305 = .ok (.iadd, 1) := by decide +kernel
theorem dL_law_306 : decode cL_law 306 = .ok (.iaload, 1) := by decide +kernel
theorem dL_law_307 : decode cL_law 307 = .ok (.aload_n 0, 1) := by decide +kernel
theorem dL_law_308 : decode cL_law 308 = .ok (.iload_n 3, 1) := by decide +kernel
theorem dL_law_309 : decode cL_law 309 = .ok (.iconst 2, 1) := by decide +kernel
theorem dL_law_310 : decode cL_law 310 = .ok (.iadd, 1) := by decide +kernel
theorem dL_law_311 : decode cL_law 311 = .ok (.iaload, 1) := by decide +kernel
theorem dL_law_312 : decode cL_law 312 = .ok (.invokevirtual 47, 3) := by decide +kernel
theorem dL_law_315 : decode cL_law 315 = .ok (.if_icmp .eq 674, 3) := by decide +kernel
theorem dL_law_318 : decode cL_law 318 = .ok (.iconst 0, 1) := by decide +kernel
theorem dL_law_319 : decode cL_law 319 = .ok (.ireturn, 1) := by decide +kernel
theorem dL_law_320 : decode cL_law 320 = .ok (.aload_n 1, 1) := by decide +kernel
theorem dL_law_321 : decode cL_law 321 = .ok (.aload_n 0, 1) := by decide +kernel
theorem dL_law_322 : decode cL_law 322 = .ok (.iload_n 3, 1) := by decide +kernel
theorem dL_law_323 : decode cL_law 323 = .ok (.iconst 1, 1) := by decide +kernel
theorem dL_law_324 : decode cL_law 324 = .ok (.iadd, 1) := by decide +kernel
theorem dL_law_325 : decode cL_law 325 = .ok (.iaload, 1) := by decide +kernel
theorem dL_law_326 : decode cL_law 326 = .ok (.invokevirtual 48, 3) := by decide +kernel
theorem dL_law_329 : decode cL_law 329 = .ok (.aload_n 2, 1) := by decide +kernel
theorem dL_law_330 : decode cL_law 330 = .ok (.aload_n 0, 1) := by decide +kernel
theorem dL_law_331 : decode cL_law 331 = .ok (.iload_n 3, 1) := by decide +kernel
theorem dL_law_332 : decode cL_law 332 = .ok (.iconst 1, 1) := by decide +kernel
theorem dL_law_333 : decode cL_law 333 = .ok (.iadd, 1) := by decide +kernel
theorem dL_law_334 : decode cL_law 334 = .ok (.iaload, 1) := by decide +kernel
theorem dL_law_335 : decode cL_law 335 = .ok (.invokevirtual 51, 3) := by decide +kernel
theorem dL_law_338 : decode cL_law 338 = .ok (.if_icmp .eq 651, 3) := by decide +kernel
theorem dL_law_341 : decode cL_law 341 = .ok (.iconst 0, 1) := by decide +kernel
theorem dL_law_342 : decode cL_law 342 = .ok (.ireturn, 1) := by decide +kernel
theorem dL_law_343 : decode cL_law 343 = .ok (.aload_n 1, 1) := by decide +kernel
theorem dL_law_344 : decode cL_law 344 = .ok (.aload_n 0, 1) := by decide +kernel
theorem dL_law_345 : decode cL_law 345 = .ok (.iload_n 3, 1) := by decide +kernel
theorem dL_law_346 : decode cL_law 346 = .ok (.iconst 1, 1) := by decide +kernel
theorem dL_law_347 : decode cL_law 347 = .ok (.iadd, 1) := by decide +kernel
theorem dL_law_348 : decode cL_law 348 = .ok (.iaload, 1) := by decide +kernel
theorem dL_law_349 : decode cL_law 349 = .ok (.aload_n 0, 1) := by decide +kernel
theorem dL_law_350 : decode cL_law 350 = .ok (.iload_n 3, 1) := by decide +kernel
theorem dL_law_351 : decode cL_law 351 = .ok (.iconst 2, 1) := by decide +kernel
theorem dL_law_352 : decode cL_law 352 = .ok (.iadd, 1) := by decide +kernel
theorem dL_law_353 : decode cL_law 353 = .ok (.iaload, 1) := by decide +kernel
theorem dL_law_354 : decode cL_law 354 = .ok (.invokevirtual 52, 3) := by decide +kernel
theorem dL_law_357 : decode cL_law 357 = .ok (.aload_n 2, 1) := by decide +kernel
theorem dL_law_358 : decode cL_law 358 = .ok (.aload_n 0, 1) := by decide +kernel
theorem dL_law_359 : decode cL_law 359 = .ok (.iload_n 3, 1) := by decide +kernel
theorem dL_law_360 : decode cL_law 360 = .ok (.iconst 1, 1) := by decide +kernel
theorem dL_law_361 : decode cL_law 361 = .ok (.iadd, 1) := by decide +kernel
theorem dL_law_362 : decode cL_law 362 = .ok (.iaload, 1) := by decide +kernel
theorem dL_law_363 : decode cL_law 363 = .ok (.aload_n 0, 1) := by decide +kernel
theorem dL_law_364 : decode cL_law 364 = .ok (.iload_n 3, 1) := by decide +kernel
theorem dL_law_365 : decode cL_law 365 = .ok (.iconst 2, 1) := by decide +kernel
theorem dL_law_366 : decode cL_law 366 = .ok (.iadd, 1) := by decide +kernel
theorem dL_law_367 : decode cL_law 367 = .ok (.iaload, 1) := by decide +kernel
theorem dL_law_368 : decode cL_law 368 = .ok (.invokevirtual 55, 3) := by decide +kernel
theorem dL_law_371 : decode cL_law 371 = .ok (.if_icmp .eq 618, 3) := by decide +kernel
theorem dL_law_374 : decode cL_law 374 = .ok (.iconst 0, 1) := by decide +kernel
theorem dL_law_375 : decode cL_law 375 = .ok (.ireturn, 1) := by decide +kernel
theorem dL_law_376 : decode cL_law 376 = .ok (.aload_n 1, 1) := by decide +kernel
theorem dL_law_377 : decode cL_law 377 = .ok (.aload_n 0, 1) := by decide +kernel
theorem dL_law_378 : decode cL_law 378 = .ok (.iload_n 3, 1) := by decide +kernel
theorem dL_law_379 : decode cL_law 379 = .ok (.iconst 1, 1) := by decide +kernel
theorem dL_law_380 : decode cL_law 380 = .ok (.iadd, 1) := by decide +kernel
theorem dL_law_381 : decode cL_law 381 = .ok (.iaload, 1) := by decide +kernel
theorem dL_law_382 : decode cL_law 382 = .ok (.aload_n 0, 1) := by decide +kernel
theorem dL_law_383 : decode cL_law 383 = .ok (.iload_n 3, 1) := by decide +kernel
theorem dL_law_384 : decode cL_law 384 = .ok (.iconst 2, 1) := by decide +kernel
theorem dL_law_385 : decode cL_law 385 = .ok (.iadd, 1) := by decide +kernel
theorem dL_law_386 : decode cL_law 386 = .ok (.iaload, 1) := by decide +kernel
theorem dL_law_387 : decode cL_law 387 = .ok (.invokevirtual 56, 3) := by decide +kernel
theorem dL_law_390 : decode cL_law 390 = .ok (.aload_n 2, 1) := by decide +kernel
theorem dL_law_391 : decode cL_law 391 = .ok (.aload_n 0, 1) := by decide +kernel
theorem dL_law_392 : decode cL_law 392 = .ok (.iload_n 3, 1) := by decide +kernel
theorem dL_law_393 : decode cL_law 393 = .ok (.iconst 1, 1) := by decide +kernel
theorem dL_law_394 : decode cL_law 394 = .ok (.iadd, 1) := by decide +kernel
theorem dL_law_395 : decode cL_law 395 = .ok (.iaload, 1) := by decide +kernel
theorem dL_law_396 : decode cL_law 396 = .ok (.aload_n 0, 1) := by decide +kernel
theorem dL_law_397 : decode cL_law 397 = .ok (.iload_n 3, 1) := by decide +kernel
theorem dL_law_398 : decode cL_law 398 = .ok (.iconst 2, 1) := by decide +kernel
theorem dL_law_399 : decode cL_law 399 = .ok (.iadd, 1) := by decide +kernel
theorem dL_law_400 : decode cL_law 400 = .ok (.iaload, 1) := by decide +kernel
theorem dL_law_401 : decode cL_law 401 = .ok (.invokevirtual 59, 3) := by decide +kernel
theorem dL_law_404 : decode cL_law 404 = .ok (.if_icmp .eq 585, 3) := by decide +kernel
theorem dL_law_407 : decode cL_law 407 = .ok (.iconst 0, 1) := by decide +kernel
theorem dL_law_408 : decode cL_law 408 = .ok (.ireturn, 1) := by decide +kernel
theorem dL_law_409 : decode cL_law 409 = .ok (.aload_n 1, 1) := by decide +kernel
theorem dL_law_410 : decode cL_law 410 = .ok (.aload_n 0, 1) := by decide +kernel
theorem dL_law_411 : decode cL_law 411 = .ok (.iload_n 3, 1) := by decide +kernel
theorem dL_law_412 : decode cL_law 412 = .ok (.iconst 1, 1) := by decide +kernel
theorem dL_law_413 : decode cL_law 413 = .ok (.iadd, 1) := by decide +kernel
theorem dL_law_414 : decode cL_law 414 = .ok (.iaload, 1) := by decide +kernel
theorem dL_law_415 : decode cL_law 415 = .ok (.invokevirtual 60, 3) := by decide +kernel
theorem dL_law_418 : decode cL_law 418 = .ok (.aload_n 2, 1) := by decide +kernel
theorem dL_law_419 : decode cL_law 419 = .ok (.aload_n 0, 1) := by decide +kernel
theorem dL_law_420 : decode cL_law 420 = .ok (.iload_n 3, 1) := by decide +kernel
theorem dL_law_421 : decode cL_law 421 = .ok (.iconst 1, 1) := by decide +kernel
theorem dL_law_422 : decode cL_law 422 = .ok (.iadd, 1) := by decide +kernel
theorem dL_law_423 : decode cL_law 423 = .ok (.iaload, 1) := by decide +kernel
theorem dL_law_424 : decode cL_law 424 = .ok (.invokevirtual 63, 3) := by decide +kernel
theorem dL_law_427 : decode cL_law 427 = .ok (.if_icmp .eq 562, 3) := by decide +kernel
theorem dL_law_430 : decode cL_law 430 = .ok (.iconst 0, 1) := by decide +kernel
theorem dL_law_431 : decode cL_law 431 = .ok (.ireturn, 1) := by decide +kernel
theorem dL_law_432 : decode cL_law 432 = .ok (.aload_n 1, 1) := by decide +kernel
theorem dL_law_433 : decode cL_law 433 = .ok (.aload_n 0, 1) := by decide +kernel
theorem dL_law_434 : decode cL_law 434 = .ok (.iload_n 3, 1) := by decide +kernel
theorem dL_law_435 : decode cL_law 435 = .ok (.iconst 1, 1) := by decide +kernel
theorem dL_law_436 : decode cL_law 436 = .ok (.iadd, 1) := by decide +kernel
theorem dL_law_437 : decode cL_law 437 = .ok (.iaload, 1) := by decide +kernel
theorem dL_law_438 : decode cL_law 438 = .ok (.invokevirtual 64, 3) := by decide +kernel
theorem dL_law_441 : decode cL_law 441 = .ok (.aload_n 2, 1) := by decide +kernel
theorem dL_law_442 : decode cL_law 442 = .ok (.aload_n 0, 1) := by decide +kernel
theorem dL_law_443 : decode cL_law 443 = .ok (.iload_n 3, 1) := by decide +kernel
theorem dL_law_444 : decode cL_law 444 = .ok (.iconst 1, 1) := by decide +kernel
theorem dL_law_445 : decode cL_law 445 = .ok (.iadd, 1) := by decide +kernel
theorem dL_law_446 : decode cL_law 446 = .ok (.iaload, 1) := by decide +kernel
theorem dL_law_447 : decode cL_law 447 = .ok (.invokevirtual 67, 3) := by decide +kernel
theorem dL_law_450 : decode cL_law 450 = .ok (.if_icmp .eq 539, 3) := by decide +kernel
theorem dL_law_453 : decode cL_law 453 = .ok (.iconst 0, 1) := by decide +kernel
theorem dL_law_454 : decode cL_law 454 = .ok (.ireturn, 1) := by decide +kernel
theorem dL_law_455 : decode cL_law 455 = .ok (.aload_n 1, 1) := by decide +kernel
theorem dL_law_456 : decode cL_law 456 = .ok (.aload_n 0, 1) := by decide +kernel
theorem dL_law_457 : decode cL_law 457 = .ok (.iload_n 3, 1) := by decide +kernel
theorem dL_law_458 : decode cL_law 458 = .ok (.iconst 1, 1) := by decide +kernel
theorem dL_law_459 : decode cL_law 459 = .ok (.iadd, 1) := by decide +kernel
theorem dL_law_460 : decode cL_law 460 = .ok (.iaload, 1) := by decide +kernel
theorem dL_law_461 : decode cL_law 461 = .ok (.invokevirtual 68, 3) := by decide +kernel
theorem dL_law_464 : decode cL_law 464 = .ok (.aload_n 2, 1) := by decide +kernel
theorem dL_law_465 : decode cL_law 465 = .ok (.aload_n 0, 1) := by decide +kernel
theorem dL_law_466 : decode cL_law 466 = .ok (.iload_n 3, 1) := by decide +kernel
theorem dL_law_467 : decode cL_law 467 = .ok (.iconst 1, 1) := by decide +kernel
theorem dL_law_468 : decode cL_law 468 = .ok (.iadd, 1) := by decide +kernel
theorem dL_law_469 : decode cL_law 469 = .ok (.iaload, 1) := by decide +kernel
theorem dL_law_470 : decode cL_law 470 = .ok (.invokevirtual 71, 3) := by decide +kernel
theorem dL_law_473 : decode cL_law 473 = .ok (.if_icmp .eq 516, 3) := by decide +kernel
theorem dL_law_476 : decode cL_law 476 = .ok (.iconst 0, 1) := by decide +kernel
theorem dL_law_477 : decode cL_law 477 = .ok (.ireturn, 1) := by decide +kernel
theorem dL_law_478 : decode cL_law 478 = .ok (.aload_n 1, 1) := by decide +kernel
theorem dL_law_479 : decode cL_law 479 = .ok (.aload_n 0, 1) := by decide +kernel
theorem dL_law_480 : decode cL_law 480 = .ok (.iload_n 3, 1) := by decide +kernel
theorem dL_law_481 : decode cL_law 481 = .ok (.iconst 1, 1) := by decide +kernel
theorem dL_law_482 : decode cL_law 482 = .ok (.iadd, 1) := by decide +kernel
theorem dL_law_483 : decode cL_law 483 = .ok (.iaload, 1) := by decide +kernel
theorem dL_law_484 : decode cL_law 484 = .ok (.aload_n 0, 1) := by decide +kernel
theorem dL_law_485 : decode cL_law 485 = .ok (.iload_n 3, 1) := by decide +kernel
theorem dL_law_486 : decode cL_law 486 = .ok (.iconst 2, 1) := by decide +kernel
theorem dL_law_487 : decode cL_law 487 = .ok (.iadd, 1) := by decide +kernel
theorem dL_law_488 : decode cL_law 488 = .ok (.iaload, 1) := by decide +kernel
theorem dL_law_489 : decode cL_law 489 = .ok (.aload_n 0, 1) := by decide +kernel
theorem dL_law_490 : decode cL_law 490 = .ok (.iload_n 3, 1) := by decide +kernel
theorem dL_law_491 : decode cL_law 491 = .ok (.iconst 3, 1) := by decide +kernel
theorem dL_law_492 : decode cL_law 492 = .ok (.iadd, 1) := by decide +kernel
theorem dL_law_493 : decode cL_law 493 = .ok (.iaload, 1) := by decide +kernel
theorem dL_law_494 : decode cL_law 494 = .ok (.invokevirtual 72, 3) := by decide +kernel
theorem dL_law_497 : decode cL_law 497 = .ok (.aload_n 2, 1) := by decide +kernel
theorem dL_law_498 : decode cL_law 498 = .ok (.aload_n 0, 1) := by decide +kernel
theorem dL_law_499 : decode cL_law 499 = .ok (.iload_n 3, 1) := by decide +kernel
theorem dL_law_500 : decode cL_law 500 = .ok (.iconst 1, 1) := by decide +kernel
theorem dL_law_501 : decode cL_law 501 = .ok (.iadd, 1) := by decide +kernel
theorem dL_law_502 : decode cL_law 502 = .ok (.iaload, 1) := by decide +kernel
theorem dL_law_503 : decode cL_law 503 = .ok (.aload_n 0, 1) := by decide +kernel
theorem dL_law_504 : decode cL_law 504 = .ok (.iload_n 3, 1) := by decide +kernel
theorem dL_law_505 : decode cL_law 505 = .ok (.iconst 2, 1) := by decide +kernel
theorem dL_law_506 : decode cL_law 506 = .ok (.iadd, 1) := by decide +kernel
theorem dL_law_507 : decode cL_law 507 = .ok (.iaload, 1) := by decide +kernel
theorem dL_law_508 : decode cL_law 508 = .ok (.aload_n 0, 1) := by decide +kernel
theorem dL_law_509 : decode cL_law 509 = .ok (.iload_n 3, 1) := by decide +kernel
theorem dL_law_510 : decode cL_law 510 = .ok (.iconst 3, 1) := by decide +kernel
theorem dL_law_511 : decode cL_law 511 = .ok (.iadd, 1) := by decide +kernel
theorem dL_law_512 : decode cL_law 512 = .ok (.iaload, 1) := by decide +kernel
theorem dL_law_513 : decode cL_law 513 = .ok (.invokevirtual 76, 3) := by decide +kernel
theorem dL_law_516 : decode cL_law 516 = .ok (.if_icmp .eq 473, 3) := by decide +kernel
theorem dL_law_519 : decode cL_law 519 = .ok (.iconst 0, 1) := by decide +kernel
theorem dL_law_520 : decode cL_law 520 = .ok (.ireturn, 1) := by decide +kernel
theorem dL_law_521 : decode cL_law 521 = .ok (.aload_n 1, 1) := by decide +kernel
theorem dL_law_522 : decode cL_law 522 = .ok (.aload_n 0, 1) := by decide +kernel
theorem dL_law_523 : decode cL_law 523 = .ok (.iload_n 3, 1) := by decide +kernel
theorem dL_law_524 : decode cL_law 524 = .ok (.iconst 1, 1) := by decide +kernel
theorem dL_law_525 : decode cL_law 525 = .ok (.iadd, 1) := by decide +kernel
theorem dL_law_526 : decode cL_law 526 = .ok (.iaload, 1) := by decide +kernel
theorem dL_law_527 : decode cL_law 527 = .ok (.aload_n 0, 1) := by decide +kernel
theorem dL_law_528 : decode cL_law 528 = .ok (.iload_n 3, 1) := by decide +kernel
theorem dL_law_529 : decode cL_law 529 = .ok (.iconst 2, 1) := by decide +kernel
theorem dL_law_530 : decode cL_law 530 = .ok (.iadd, 1) := by decide +kernel
theorem dL_law_531 : decode cL_law 531 = .ok (.iaload, 1) := by decide +kernel
theorem dL_law_532 : decode cL_law 532 = .ok (.invokevirtual 77, 3) := by decide +kernel
theorem dL_law_535 : decode cL_law 535 = .ok (.aload_n 2, 1) := by decide +kernel
theorem dL_law_536 : decode cL_law 536 = .ok (.aload_n 0, 1) := by decide +kernel
theorem dL_law_537 : decode cL_law 537 = .ok (.iload_n 3, 1) := by decide +kernel
theorem dL_law_538 : decode cL_law 538 = .ok (.iconst 1, 1) := by decide +kernel
theorem dL_law_539 : decode cL_law 539 = .ok (.iadd, 1) := by decide +kernel
theorem dL_law_540 : decode cL_law 540 = .ok (.iaload, 1) := by decide +kernel
theorem dL_law_541 : decode cL_law 541 = .ok (.aload_n 0, 1) := by decide +kernel
theorem dL_law_542 : decode cL_law 542 = .ok (.iload_n 3, 1) := by decide +kernel
theorem dL_law_543 : decode cL_law 543 = .ok (.iconst 2, 1) := by decide +kernel
theorem dL_law_544 : decode cL_law 544 = .ok (.iadd, 1) := by decide +kernel
theorem dL_law_545 : decode cL_law 545 = .ok (.iaload, 1) := by decide +kernel
theorem dL_law_546 : decode cL_law 546 = .ok (.invokevirtual 80, 3) := by decide +kernel
theorem dL_law_549 : decode cL_law 549 = .ok (.if_icmp .eq 440, 3) := by decide +kernel
theorem dL_law_552 : decode cL_law 552 = .ok (.iconst 0, 1) := by decide +kernel
theorem dL_law_553 : decode cL_law 553 = .ok (.ireturn, 1) := by decide +kernel
theorem dL_law_554 : decode cL_law 554 = .ok (.aload_n 1, 1) := by decide +kernel
theorem dL_law_555 : decode cL_law 555 = .ok (.aload_n 0, 1) := by decide +kernel
theorem dL_law_556 : decode cL_law 556 = .ok (.iload_n 3, 1) := by decide +kernel
theorem dL_law_557 : decode cL_law 557 = .ok (.iconst 1, 1) := by decide +kernel
theorem dL_law_558 : decode cL_law 558 = .ok (.iadd, 1) := by decide +kernel
theorem dL_law_559 : decode cL_law 559 = .ok (.iaload, 1) := by decide +kernel
theorem dL_law_560 : decode cL_law 560 = .ok (.invokevirtual 81, 3) := by decide +kernel
theorem dL_law_563 : decode cL_law 563 = .ok (.aload_n 2, 1) := by decide +kernel
theorem dL_law_564 : decode cL_law 564 = .ok (.aload_n 0, 1) := by decide +kernel
theorem dL_law_565 : decode cL_law 565 = .ok (.iload_n 3, 1) := by decide +kernel
theorem dL_law_566 : decode cL_law 566 = .ok (.iconst 1, 1) := by decide +kernel
theorem dL_law_567 : decode cL_law 567 = .ok (.iadd, 1) := by decide +kernel
theorem dL_law_568 : decode cL_law 568 = .ok (.iaload, 1) := by decide +kernel
theorem dL_law_569 : decode cL_law 569 = .ok (.invokevirtual 84, 3) := by decide +kernel
theorem dL_law_572 : decode cL_law 572 = .ok (.if_icmp .eq 417, 3) := by decide +kernel
theorem dL_law_575 : decode cL_law 575 = .ok (.iconst 0, 1) := by decide +kernel
theorem dL_law_576 : decode cL_law 576 = .ok (.ireturn, 1) := by decide +kernel
theorem dL_law_577 : decode cL_law 577 = .ok (.aload_n 1, 1) := by decide +kernel
theorem dL_law_578 : decode cL_law 578 = .ok (.aload_n 0, 1) := by decide +kernel
theorem dL_law_579 : decode cL_law 579 = .ok (.iload_n 3, 1) := by decide +kernel
theorem dL_law_580 : decode cL_law 580 = .ok (.iconst 1, 1) := by decide +kernel
theorem dL_law_581 : decode cL_law 581 = .ok (.iadd, 1) := by decide +kernel
theorem dL_law_582 : decode cL_law 582 = .ok (.iaload, 1) := by decide +kernel
theorem dL_law_583 : decode cL_law 583 = .ok (.invokevirtual 85, 3) := by decide +kernel
theorem dL_law_586 : decode cL_law 586 = .ok (.aload_n 2, 1) := by decide +kernel
theorem dL_law_587 : decode cL_law 587 = .ok (.aload_n 0, 1) := by decide +kernel
theorem dL_law_588 : decode cL_law 588 = .ok (.iload_n 3, 1) := by decide +kernel
theorem dL_law_589 : decode cL_law 589 = .ok (.iconst 1, 1) := by decide +kernel
theorem dL_law_590 : decode cL_law 590 = .ok (.iadd, 1) := by decide +kernel
theorem dL_law_591 : decode cL_law 591 = .ok (.iaload, 1) := by decide +kernel
theorem dL_law_592 : decode cL_law 592 = .ok (.invokevirtual 88, 3) := by decide +kernel
theorem dL_law_595 : decode cL_law 595 = .ok (.if_icmp .eq 394, 3) := by decide +kernel
theorem dL_law_598 : decode cL_law 598 = .ok (.iconst 0, 1) := by decide +kernel
theorem dL_law_599 : decode cL_law 599 = .ok (.ireturn, 1) := by decide +kernel
theorem dL_law_600 : decode cL_law 600 = .ok (.aload_n 1, 1) := by decide +kernel
theorem dL_law_601 : decode cL_law 601 = .ok (.aload_n 0, 1) := by decide +kernel
end
section
theorem dL_law_602 : decode cL_law 602 = .ok (.iload_n 3, 1) := by decide +kernel
theorem dL_law_603 : decode cL_law 603 = .ok (.iconst 1, 1) := by decide +kernel
theorem dL_law_604 : decode cL_law 604 = .ok (.iadd, 1) := by decide +kernel
theorem dL_law_605 : decode cL_law 605 = .ok (.iaload, 1) := by decide +kernel
theorem dL_law_606 : decode cL_law 606 = .ok (.aload_n 0, 1) := by decide +kernel
theorem dL_law_607 : decode cL_law 607 = .ok (.iload_n 3, 1) := by decide +kernel
theorem dL_law_608 : decode cL_law 608 = .ok (.iconst 2, 1) := by decide +kernel
theorem dL_law_609 : decode cL_law 609 = .ok (.iadd, 1) := by decide +kernel
theorem dL_law_610 : decode cL_law 610 = .ok (.iaload, 1) := by decide +kernel
theorem dL_law_611 : decode cL_law 611 = .ok (.invokevirtual 89, 3) := by decide +kernel
theorem dL_law_614 : decode cL_law 614 = .ok (.aload_n 2, 1) := by decide +kernel
theorem dL_law_615 : decode cL_law 615 = .ok (.aload_n 0, 1) := by decide +kernel
theorem dL_law_616 : decode cL_law 616 = .ok (.iload_n 3, 1) := by decide +kernel
theorem dL_law_617 : decode cL_law 617 = .ok (.iconst 1, 1) := by decide +kernel
theorem dL_law_618 : decode cL_law 618 = .ok (.iadd, 1) := by decide +kernel
theorem dL_law_619 : decode cL_law 619 = .ok (.iaload, 1) := by decide +kernel
theorem dL_law_620 : decode cL_law 620 = .ok (.aload_n 0, 1) := by decide +kernel
theorem dL_law_621 : decode cL_law 621 = .ok (.iload_n 3, 1) := by decide +kernel
theorem dL_law_622 : decode cL_law 622 = .ok (.iconst 2, 1) := by decide +kernel
theorem dL_law_623 : decode cL_law 623 = .ok (.iadd, 1) := by decide +kernel
theorem dL_law_624 : decode cL_law 624 = .ok (.iaload, 1) := by decide +kernel
theorem dL_law_625 : decode cL_law 625 = .ok (.invokevirtual 93, 3) := by decide +kernel
theorem dL_law_628 : decode cL_law 628 = .ok (.lcmp, 1) := by decide +kernel
theorem dL_law_629 : decode cL_law 629 = .ok (.ifCond .eq 360, 3) := by decide +kernel
theorem dL_law_632 : decode cL_law 632 = .ok (.iconst 0, 1) := by decide +kernel
theorem dL_law_633 : decode cL_law 633 = .ok (.ireturn, 1) := by decide +kernel
theorem dL_law_634 : decode cL_law 634 = .ok (.aload_n 1, 1) := by decide +kernel
theorem dL_law_635 : decode cL_law 635 = .ok (.aload_n 0, 1) := by decide +kernel
theorem dL_law_636 : decode cL_law 636 = .ok (.iload_n 3, 1) := by decide +kernel
theorem dL_law_637 : decode cL_law 637 = .ok (.iconst 1, 1) := by decide +kernel
theorem dL_law_638 : decode cL_law 638 = .ok (.iadd, 1) := by decide +kernel
theorem dL_law_639 : decode cL_law 639 = .ok (.iaload, 1) := by decide +kernel
theorem dL_law_640 : decode cL_law 640 = .ok (.aload_n 0, 1) := by decide +kernel
theorem dL_law_641 : decode cL_law 641 = .ok (.iload_n 3, 1) := by decide +kernel
theorem dL_law_642 : decode cL_law 642 = .ok (.iconst 2, 1) := by decide +kernel
theorem dL_law_643 : decode cL_law 643 = .ok (.iadd, 1) := by decide +kernel
theorem dL_law_644 : decode cL_law 644 = .ok (.iaload, 1) := by decide +kernel
theorem dL_law_645 : decode cL_law 645 = .ok (.aload_n 0, 1) := by decide +kernel
theorem dL_law_646 : decode cL_law 646 = .ok (.iload_n 3, 1) := by decide +kernel
theorem dL_law_647 : decode cL_law 647 = .ok (.iconst 3, 1) := by decide +kernel
theorem dL_law_648 : decode cL_law 648 = .ok (.iadd, 1) := by decide +kernel
theorem dL_law_649 : decode cL_law 649 = .ok (.iaload, 1) := by decide +kernel
theorem dL_law_650 : decode cL_law 650 = .ok (.i2l, 1) := by decide +kernel
theorem dL_law_651 : decode cL_law 651 = .ok (.bipush 32, 2) := by decide +kernel
theorem dL_law_653 : decode cL_law 653 = .ok (.lshl, 1) := by decide +kernel
theorem dL_law_654 : decode cL_law 654 = .ok (.aload_n 0, 1) := by decide +kernel
theorem dL_law_655 : decode cL_law 655 = .ok (.iload_n 3, 1) := by decide +kernel
theorem dL_law_656 : decode cL_law 656 = .ok (.iconst 4, 1) := by decide +kernel
theorem dL_law_657 : decode cL_law 657 = .ok (.iadd, 1) := by decide +kernel
theorem dL_law_658 : decode cL_law 658 = .ok (.iaload, 1) := by decide +kernel
theorem dL_law_659 : decode cL_law 659 = .ok (.i2l, 1) := by decide +kernel
theorem dL_law_660 : decode cL_law 660 = .ok (.ldc2_w 94, 3) := by decide +kernel
theorem dL_law_663 : decode cL_law 663 = .ok (.land, 1) := by decide +kernel
theorem dL_law_664 : decode cL_law 664 = .ok (.lor, 1) := by decide +kernel
theorem dL_law_665 : decode cL_law 665 = .ok (.invokevirtual 96, 3) := by decide +kernel
theorem dL_law_668 : decode cL_law 668 = .ok (.aload_n 2, 1) := by decide +kernel
theorem dL_law_669 : decode cL_law 669 = .ok (.aload_n 0, 1) := by decide +kernel
theorem dL_law_670 : decode cL_law 670 = .ok (.iload_n 3, 1) := by decide +kernel
theorem dL_law_671 : decode cL_law 671 = .ok (.iconst 1, 1) := by decide +kernel
theorem dL_law_672 : decode cL_law 672 = .ok (.iadd, 1) := by decide +kernel
theorem dL_law_673 : decode cL_law 673 = .ok (.iaload, 1) := by decide +kernel
theorem dL_law_674 : decode cL_law 674 = .ok (.aload_n 0, 1) := by decide +kernel
theorem dL_law_675 : decode cL_law 675 = .ok (.iload_n 3, 1) := by decide +kernel
theorem dL_law_676 : decode cL_law 676 = .ok (.iconst 2, 1) := by decide +kernel
theorem dL_law_677 : decode cL_law 677 = .ok (.iadd, 1) := by decide +kernel
theorem dL_law_678 : decode cL_law 678 = .ok (.iaload, 1) := by decide +kernel
theorem dL_law_679 : decode cL_law 679 = .ok (.aload_n 0, 1) := by decide +kernel
theorem dL_law_680 : decode cL_law 680 = .ok (.iload_n 3, 1) := by decide +kernel
theorem dL_law_681 : decode cL_law 681 = .ok (.iconst 3, 1) := by decide +kernel
theorem dL_law_682 : decode cL_law 682 = .ok (.iadd, 1) := by decide +kernel
theorem dL_law_683 : decode cL_law 683 = .ok (.iaload, 1) := by decide +kernel
theorem dL_law_684 : decode cL_law 684 = .ok (.i2l, 1) := by decide +kernel
theorem dL_law_685 : decode cL_law 685 = .ok (.bipush 32, 2) := by decide +kernel
theorem dL_law_687 : decode cL_law 687 = .ok (.lshl, 1) := by decide +kernel
theorem dL_law_688 : decode cL_law 688 = .ok (.aload_n 0, 1) := by decide +kernel
theorem dL_law_689 : decode cL_law 689 = .ok (.iload_n 3, 1) := by decide +kernel
theorem dL_law_690 : decode cL_law 690 = .ok (.iconst 4, 1) := by decide +kernel
theorem dL_law_691 : decode cL_law 691 = .ok (.iadd, 1) := by decide +kernel
theorem dL_law_692 : decode cL_law 692 = .ok (.iaload, 1) := by decide +kernel
theorem dL_law_693 : decode cL_law 693 = .ok (.i2l, 1) := by decide +kernel
theorem dL_law_694 : decode cL_law 694 = .ok (.ldc2_w 94, 3) := by decide +kernel
theorem dL_law_697 : decode cL_law 697 = .ok (.land, 1) := by decide +kernel
theorem dL_law_698 : decode cL_law 698 = .ok (.lor, 1) := by decide +kernel
theorem dL_law_699 : decode cL_law 699 = .ok (.invokevirtual 100, 3) := by decide +kernel
theorem dL_law_702 : decode cL_law 702 = .ok (.lcmp, 1) := by decide +kernel
theorem dL_law_703 : decode cL_law 703 = .ok (.ifCond .eq 286, 3) := by decide +kernel
theorem dL_law_706 : decode cL_law 706 = .ok (.iconst 0, 1) := by decide +kernel
theorem dL_law_707 : decode cL_law 707 = .ok (.ireturn, 1) := by decide +kernel
theorem dL_law_708 : decode cL_law 708 = .ok (.aload_n 1, 1) := by decide +kernel
theorem dL_law_709 : decode cL_law 709 = .ok (.aload_n 0, 1) := by decide +kernel
theorem dL_law_710 : decode cL_law 710 = .ok (.iload_n 3, 1) := by decide +kernel
theorem dL_law_711 : decode cL_law 711 = .ok (.iconst 1, 1) := by decide +kernel
theorem dL_law_712 : decode cL_law 712 = .ok (.iadd, 1) := by decide +kernel
theorem dL_law_713 : decode cL_law 713 = .ok (.iaload, 1) := by decide +kernel
theorem dL_law_714 : decode cL_law 714 = .ok (.aload_n 0, 1) := by decide +kernel
theorem dL_law_715 : decode cL_law 715 = .ok (.iload_n 3, 1) := by decide +kernel
theorem dL_law_716 : decode cL_law 716 = .ok (.iconst 2, 1) := by decide +kernel
theorem dL_law_717 : decode cL_law 717 = .ok (.iadd, 1) := by decide +kernel
theorem dL_law_718 : decode cL_law 718 = .ok (.iaload, 1) := by decide +kernel
theorem dL_law_719 : decode cL_law 719 = .ok (.aload_n 0, 1) := by decide +kernel
theorem dL_law_720 : decode cL_law 720 = .ok (.iload_n 3, 1) := by decide +kernel
theorem dL_law_721 : decode cL_law 721 = .ok (.iconst 3, 1) := by decide +kernel
theorem dL_law_722 : decode cL_law 722 = .ok (.iadd, 1) := by decide +kernel
theorem dL_law_723 : decode cL_law 723 = .ok (.iaload, 1) := by decide +kernel
theorem dL_law_724 : decode cL_law 724 = .ok (.invokevirtual 101, 3) := by decide +kernel
theorem dL_law_727 : decode cL_law 727 = .ok (.aload_n 2, 1) := by decide +kernel
theorem dL_law_728 : decode cL_law 728 = .ok (.aload_n 0, 1) := by decide +kernel
theorem dL_law_729 : decode cL_law 729 = .ok (.iload_n 3, 1) := by decide +kernel
theorem dL_law_730 : decode cL_law 730 = .ok (.iconst 1, 1) := by decide +kernel
theorem dL_law_731 : decode cL_law 731 = .ok (.iadd, 1) := by decide +kernel
theorem dL_law_732 : decode cL_law 732 = .ok (.iaload, 1) := by decide +kernel
theorem dL_law_733 : decode cL_law 733 = .ok (.aload_n 0, 1) := by decide +kernel
theorem dL_law_734 : decode cL_law 734 = .ok (.iload_n 3, 1) := by decide +kernel
theorem dL_law_735 : decode cL_law 735 = .ok (.iconst 2, 1) := by decide +kernel
theorem dL_law_736 : decode cL_law 736 = .ok (.iadd, 1) := by decide +kernel
theorem dL_law_737 : decode cL_law 737 = .ok (.iaload, 1) := by decide +kernel
theorem dL_law_738 : decode cL_law 738 = .ok (.aload_n 0, 1) := by decide +kernel
theorem dL_law_739 : decode cL_law 739 = .ok (.iload_n 3, 1) := by decide +kernel
theorem dL_law_740 : decode cL_law 740 = .ok (.iconst 3, 1) := by decide +kernel
theorem dL_law_741 : decode cL_law 741 = .ok (.iadd, 1) := by decide +kernel
theorem dL_law_742 : decode cL_law 742 = .ok (.iaload, 1) := by decide +kernel
theorem dL_law_743 : decode cL_law 743 = .ok (.invokevirtual 104, 3) := by decide +kernel
theorem dL_law_746 : decode cL_law 746 = .ok (.if_icmp .eq 243, 3) := by decide +kernel
theorem dL_law_749 : decode cL_law 749 = .ok (.iconst 0, 1) := by decide +kernel
theorem dL_law_750 : decode cL_law 750 = .ok (.ireturn, 1) := by decide +kernel
theorem dL_law_751 : decode cL_law 751 = .ok (.aload_n 1, 1) := by decide +kernel
theorem dL_law_752 : decode cL_law 752 = .ok (.aload_n 0, 1) := by decide +kernel
theorem dL_law_753 : decode cL_law 753 = .ok (.iload_n 3, 1) := by decide +kernel
theorem dL_law_754 : decode cL_law 754 = .ok (.iconst 1, 1) := by decide +kernel
theorem dL_law_755 : decode cL_law 755 = .ok (.iadd, 1) := by decide +kernel
theorem dL_law_756 : decode cL_law 756 = .ok (.iaload, 1) := by decide +kernel
theorem dL_law_757 : decode cL_law 757 = .ok (.aload_n 0, 1) := by decide +kernel
theorem dL_law_758 : decode cL_law 758 = .ok (.iload_n 3, 1) := by decide +kernel
theorem dL_law_759 : decode cL_law 759 = .ok (.iconst 2, 1) := by decide +kernel
theorem dL_law_760 : decode cL_law 760 = .ok (.iadd, 1) := by decide +kernel
theorem dL_law_761 : decode cL_law 761 = .ok (.iaload, 1) := by decide +kernel
theorem dL_law_762 : decode cL_law 762 = .ok (.aload_n 0, 1) := by decide +kernel
theorem dL_law_763 : decode cL_law 763 = .ok (.iload_n 3, 1) := by decide +kernel
theorem dL_law_764 : decode cL_law 764 = .ok (.iconst 3, 1) := by decide +kernel
theorem dL_law_765 : decode cL_law 765 = .ok (.iadd, 1) := by decide +kernel
theorem dL_law_766 : decode cL_law 766 = .ok (.iaload, 1) := by decide +kernel
theorem dL_law_767 : decode cL_law 767 = .ok (.aload_n 0, 1) := by decide +kernel
theorem dL_law_768 : decode cL_law 768 = .ok (.iload_n 3, 1) := by decide +kernel
theorem dL_law_769 : decode cL_law 769 = .ok (.iconst 4, 1) := by decide +kernel
theorem dL_law_770 : decode cL_law 770 = .ok (.iadd, 1) := by decide +kernel
theorem dL_law_771 : decode cL_law 771 = .ok (.iaload, 1) := by decide +kernel
theorem dL_law_772 : decode cL_law 772 = .ok (.aload_n 0, 1) := by decide +kernel
theorem dL_law_773 : decode cL_law 773 = .ok (.iload_n 3, 1) := by decide +kernel
theorem dL_law_774 : decode cL_law 774 = .ok (.iconst 5, 1) := by decide +kernel
theorem dL_law_775 : decode cL_law 775 = .ok (.iadd, 1) := by decide +kernel
theorem dL_law_776 : decode cL_law 776 = .ok (.iaload, 1) := by decide +kernel
theorem dL_law_777 : decode cL_law 777 = .ok (.invokevirtual 105, 3) := by decide +kernel
theorem dL_law_780 : decode cL_law 780 = .ok (.aload_n 2, 1) := by decide +kernel
theorem dL_law_781 : decode cL_law 781 = .ok (.aload_n 0, 1) := by decide +kernel
theorem dL_law_782 : decode cL_law 782 = .ok (.iload_n 3, 1) := by decide +kernel
theorem dL_law_783 : decode cL_law 783 = .ok (.iconst 1, 1) := by decide +kernel
theorem dL_law_784 : decode cL_law 784 = .ok (.iadd, 1) := by decide +kernel
theorem dL_law_785 : decode cL_law 785 = .ok (.iaload, 1) := by decide +kernel
theorem dL_law_786 : decode cL_law 786 = .ok (.aload_n 0, 1) := by decide +kernel
theorem dL_law_787 : decode cL_law 787 = .ok (.iload_n 3, 1) := by decide +kernel
theorem dL_law_788 : decode cL_law 788 = .ok (.iconst 2, 1) := by decide +kernel
theorem dL_law_789 : decode cL_law 789 = .ok (.iadd, 1) := by decide +kernel
theorem dL_law_790 : decode cL_law 790 = .ok (.iaload, 1) := by decide +kernel
theorem dL_law_791 : decode cL_law 791 = .ok (.aload_n 0, 1) := by decide +kernel
theorem dL_law_792 : decode cL_law 792 = .ok (.iload_n 3, 1) := by decide +kernel
theorem dL_law_793 : decode cL_law 793 = .ok (.iconst 3, 1) := by decide +kernel
theorem dL_law_794 : decode cL_law 794 = .ok (.iadd, 1) := by decide +kernel
theorem dL_law_795 : decode cL_law 795 = .ok (.iaload, 1) := by decide +kernel
theorem dL_law_796 : decode cL_law 796 = .ok (.aload_n 0, 1) := by decide +kernel
theorem dL_law_797 : decode cL_law 797 = .ok (.iload_n 3, 1) := by decide +kernel
theorem dL_law_798 : decode cL_law 798 = .ok (.iconst 4, 1) := by decide +kernel
theorem dL_law_799 : decode cL_law 799 = .ok (.iadd, 1) := by decide +kernel
theorem dL_law_800 : decode cL_law 800 = .ok (.iaload, 1) := by decide +kernel
theorem dL_law_801 : decode cL_law 801 = .ok (.aload_n 0, 1) := by decide +kernel
theorem dL_law_802 : decode cL_law 802 = .ok (.iload_n 3, 1) := by decide +kernel
theorem dL_law_803 : decode cL_law 803 = .ok (.iconst 5, 1) := by decide +kernel
theorem dL_law_804 : decode cL_law 804 = .ok (.iadd, 1) := by decide +kernel
theorem dL_law_805 : decode cL_law 805 = .ok (.iaload, 1) := by decide +kernel
theorem dL_law_806 : decode cL_law 806 = .ok (.invokevirtual 109, 3) := by decide +kernel
theorem dL_law_809 : decode cL_law 809 = .ok (.if_icmp .eq 180, 3) := by decide +kernel
theorem dL_law_812 : decode cL_law 812 = .ok (.iconst 0, 1) := by decide +kernel
theorem dL_law_813 : decode cL_law 813 = .ok (.ireturn, 1) := by decide +kernel
theorem dL_law_814 : decode cL_law 814 = .ok (.aload_n 1, 1) := by decide +kernel
theorem dL_law_815 : decode cL_law 815 = .ok (.aload_n 0, 1) := by decide +kernel
theorem dL_law_816 : decode cL_law 816 = .ok (.iload_n 3, 1) := by decide +kernel
theorem dL_law_817 : decode cL_law 817 = .ok (.iconst 1, 1) := by decide +kernel
theorem dL_law_818 : decode cL_law 818 = .ok (.iadd, 1) := by decide +kernel
theorem dL_law_819 : decode cL_law 819 = .ok (.iaload, 1) := by decide +kernel
theorem dL_law_820 : decode cL_law 820 = .ok (.aload_n 0, 1) := by decide +kernel
theorem dL_law_821 : decode cL_law 821 = .ok (.iload_n 3, 1) := by decide +kernel
theorem dL_law_822 : decode cL_law 822 = .ok (.iconst 2, 1) := by decide +kernel
theorem dL_law_823 : decode cL_law 823 = .ok (.iadd, 1) := by decide +kernel
theorem dL_law_824 : decode cL_law 824 = .ok (.iaload, 1) := by decide +kernel
theorem dL_law_825 : decode cL_law 825 = .ok (.invokevirtual 110, 3) := by decide +kernel
theorem dL_law_828 : decode cL_law 828 = .ok (.aload_n 2, 1) := by decide +kernel
theorem dL_law_829 : decode cL_law 829 = .ok (.aload_n 0, 1) := by decide +kernel
theorem dL_law_830 : decode cL_law 830 = .ok (.iload_n 3, 1) := by decide +kernel
theorem dL_law_831 : decode cL_law 831 = .ok (.iconst 1, 1) := by decide +kernel
theorem dL_law_832 : decode cL_law 832 = .ok (.iadd, 1) := by decide +kernel
theorem dL_law_833 : decode cL_law 833 = .ok (.iaload, 1) := by decide +kernel
theorem dL_law_834 : decode cL_law 834 = .ok (.aload_n 0, 1) := by decide +kernel
theorem dL_law_835 : decode cL_law 835 = .ok (.iload_n 3, 1) := by decide +kernel
theorem dL_law_836 : decode cL_law 836 = .ok (.iconst 2, 1) := by decide +kernel
theorem dL_law_837 : decode cL_law 837 = .ok (.iadd, 1) := by decide +kernel
theorem dL_law_838 : decode cL_law 838 = .ok (.iaload, 1) := by decide +kernel
theorem dL_law_839 : decode cL_law 839 = .ok (.invokevirtual 113, 3) := by decide +kernel
theorem dL_law_842 : decode cL_law 842 = .ok (.if_icmp .eq 147, 3) := by decide +kernel
theorem dL_law_845 : decode cL_law 845 = .ok (.iconst 0, 1) := by decide +kernel
theorem dL_law_846 : decode cL_law 846 = .ok (.ireturn, 1) := by decide +kernel
theorem dL_law_847 : decode cL_law 847 = .ok (.aload_n 1, 1) := by decide +kernel
theorem dL_law_848 : decode cL_law 848 = .ok (.aload_n 0, 1) := by decide +kernel
theorem dL_law_849 : decode cL_law 849 = .ok (.iload_n 3, 1) := by decide +kernel
theorem dL_law_850 : decode cL_law 850 = .ok (.iconst 1, 1) := by decide +kernel
theorem dL_law_851 : decode cL_law 851 = .ok (.iadd, 1) := by decide +kernel
theorem dL_law_852 : decode cL_law 852 = .ok (.iaload, 1) := by decide +kernel
theorem dL_law_853 : decode cL_law 853 = .ok (.aload_n 0, 1) := by decide +kernel
theorem dL_law_854 : decode cL_law 854 = .ok (.iload_n 3, 1) := by decide +kernel
theorem dL_law_855 : decode cL_law 855 = .ok (.iconst 2, 1) := by decide +kernel
theorem dL_law_856 : decode cL_law 856 = .ok (.iadd, 1) := by decide +kernel
theorem dL_law_857 : decode cL_law 857 = .ok (.iaload, 1) := by decide +kernel
theorem dL_law_858 : decode cL_law 858 = .ok (.aload_n 0, 1) := by decide +kernel
theorem dL_law_859 : decode cL_law 859 = .ok (.iload_n 3, 1) := by decide +kernel
theorem dL_law_860 : decode cL_law 860 = .ok (.iconst 3, 1) := by decide +kernel
theorem dL_law_861 : decode cL_law 861 = .ok (.iadd, 1) := by decide +kernel
theorem dL_law_862 : decode cL_law 862 = .ok (.iaload, 1) := by decide +kernel
theorem dL_law_863 : decode cL_law 863 = .ok (.invokevirtual 114, 3) := by decide +kernel
theorem dL_law_866 : decode cL_law 866 = .ok (.aload_n 2, 1) := by decide +kernel
theorem dL_law_867 : decode cL_law 867 = .ok (.aload_n 0, 1) := by decide +kernel
theorem dL_law_868 : decode cL_law 868 = .ok (.iload_n 3, 1) := by decide +kernel
theorem dL_law_869 : decode cL_law 869 = .ok (.iconst 1, 1) := by decide +kernel
theorem dL_law_870 : decode cL_law 870 = .ok (.iadd, 1) := by decide +kernel
theorem dL_law_871 : decode cL_law 871 = .ok (.iaload, 1) := by decide +kernel
theorem dL_law_872 : decode cL_law 872 = .ok (.aload_n 0, 1) := by decide +kernel
theorem dL_law_873 : decode cL_law 873 = .ok (.iload_n 3, 1) := by decide +kernel
theorem dL_law_874 : decode cL_law 874 = .ok (.iconst 2, 1) := by decide +kernel
theorem dL_law_875 : decode cL_law 875 = .ok (.iadd, 1) := by decide +kernel
theorem dL_law_876 : decode cL_law 876 = .ok (.iaload, 1) := by decide +kernel
theorem dL_law_877 : decode cL_law 877 = .ok (.aload_n 0, 1) := by decide +kernel
theorem dL_law_878 : decode cL_law 878 = .ok (.iload_n 3, 1) := by decide +kernel
theorem dL_law_879 : decode cL_law 879 = .ok (.iconst 3, 1) := by decide +kernel
theorem dL_law_880 : decode cL_law 880 = .ok (.iadd, 1) := by decide +kernel
theorem dL_law_881 : decode cL_law 881 = .ok (.iaload, 1) := by decide +kernel
theorem dL_law_882 : decode cL_law 882 = .ok (.invokevirtual 117, 3) := by decide +kernel
theorem dL_law_885 : decode cL_law 885 = .ok (.if_icmp .eq 104, 3) := by decide +kernel
theorem dL_law_888 : decode cL_law 888 = .ok (.iconst 0, 1) := by decide +kernel
theorem dL_law_889 : decode cL_law 889 = .ok (.ireturn, 1) := by decide +kernel
theorem dL_law_890 : decode cL_law 890 = .ok (.aload_n 1, 1) := by decide +kernel
theorem dL_law_891 : decode cL_law 891 = .ok (.aload_n 0, 1) := by decide +kernel
theorem dL_law_892 : decode cL_law 892 = .ok (.iload_n 3, 1) := by decide +kernel
theorem dL_law_893 : decode cL_law 893 = .ok (.iconst 1, 1) := by decide +kernel
theorem dL_law_894 : decode cL_law 894 = .ok (.iadd, 1) := by decide +kernel
theorem dL_law_895 : decode cL_law 895 = .ok (.iaload, 1) := by decide +kernel
theorem dL_law_896 : decode cL_law 896 = .ok (.aload_n 0, 1) := by decide +kernel
theorem dL_law_897 : decode cL_law 897 = .ok (.iload_n 3, 1) := by decide +kernel
theorem dL_law_898 : decode cL_law 898 = .ok (.iconst 2, 1) := by decide +kernel
theorem dL_law_899 : decode cL_law 899 = .ok (.iadd, 1) := by decide +kernel
theorem dL_law_900 : decode cL_law 900 = .ok (.iaload, 1) := by decide +kernel
theorem dL_law_901 : decode cL_law 901 = .ok (.invokevirtual 118, 3) := by decide +kernel
theorem dL_law_904 : decode cL_law 904 = .ok (.aload_n 2, 1) := by decide +kernel
theorem dL_law_905 : decode cL_law 905 = .ok (.aload_n 0, 1) := by decide +kernel
theorem dL_law_906 : decode cL_law 906 = .ok (.iload_n 3, 1) := by decide +kernel
theorem dL_law_907 : decode cL_law 907 = .ok (.iconst 1, 1) := by decide +kernel
theorem dL_law_908 : decode cL_law 908 = .ok (.iadd, 1) := by decide +kernel
theorem dL_law_909 : decode cL_law 909 = .ok (.iaload, 1) := by decide +kernel
theorem dL_law_910 : decode cL_law 910 = .ok (.aload_n 0, 1) := by decide +kernel
theorem dL_law_911 : decode cL_law 911 = .ok (.iload_n 3, 1) := by decide +kernel
theorem dL_law_912 : decode cL_law 912 = .ok (.iconst 2, 1) := by decide +kernel
theorem dL_law_913 : decode cL_law 913 = .ok (.iadd, 1) := by decide +kernel
theorem dL_law_914 : decode cL_law 914 = .ok (.iaload, 1) := by decide +kernel
theorem dL_law_915 : decode cL_law 915 = .ok (.invokevirtual 121, 3) := by decide +kernel
theorem dL_law_918 : decode cL_law 918 = .ok (.if_icmp .eq 71, 3) := by decide +kernel
theorem dL_law_921 : decode cL_law 921 = .ok (.iconst 0, 1) := by decide +kernel
theorem dL_law_922 : decode cL_law 922 = .ok (.ireturn, 1) := by decide +kernel
theorem dL_law_923 : decode cL_law 923 = .ok (.aload_n 1, 1) := by decide +kernel
theorem dL_law_924 : decode cL_law 924 = .ok (.aload_n 0, 1) := by decide +kernel
theorem dL_law_925 : decode cL_law 925 = .ok (.iload_n 3, 1) := by decide +kernel
theorem dL_law_926 : decode cL_law 926 = .ok (.iconst 1, 1) := by decide +kernel
theorem dL_law_927 : decode cL_law 927 = .ok (.iadd, 1) := by decide +kernel
theorem dL_law_928 : decode cL_law 928 = .ok (.iaload, 1) := by decide +kernel
theorem dL_law_929 : decode cL_law 929 = .ok (.aload_n 0, 1) := by decide +kernel
theorem dL_law_930 : decode cL_law 930 = .ok (.iload_n 3, 1) := by decide +kernel
theorem dL_law_931 : decode cL_law 931 = .ok (.iconst 2, 1) := by decide +kernel
theorem dL_law_932 : decode cL_law 932 = .ok (.iadd, 1) := by decide +kernel
theorem dL_law_933 : decode cL_law 933 = .ok (.iaload, 1) := by decide +kernel
theorem dL_law_934 : decode cL_law 934 = .ok (.aload_n 0, 1) := by decide +kernel
theorem dL_law_935 : decode cL_law 935 = .ok (.iload_n 3, 1) := by decide +kernel
theorem dL_law_936 : decode cL_law 936 = .ok (.iconst 3, 1) := by decide +kernel
theorem dL_law_937 : decode cL_law 937 = .ok (.iadd, 1) := by decide +kernel
theorem dL_law_938 : decode cL_law 938 = .ok (.iaload, 1) := by decide +kernel
theorem dL_law_939 : decode cL_law 939 = .ok (.aload_n 0, 1) := by decide +kernel
theorem dL_law_940 : decode cL_law 940 = .ok (.iload_n 3, 1) := by decide +kernel
theorem dL_law_941 : decode cL_law 941 = .ok (.iconst 4, 1) := by decide +kernel
theorem dL_law_942 : decode cL_law 942 = .ok (.iadd, 1) := by decide +kernel
theorem dL_law_943 : decode cL_law 943 = .ok (.iaload, 1) := by decide +kernel
theorem dL_law_944 : decode cL_law 944 = .ok (.invokevirtual 122, 3) := by decide +kernel
theorem dL_law_947 : decode cL_law 947 = .ok (.aload_n 2, 1) := by decide +kernel
theorem dL_law_948 : decode cL_law 948 = .ok (.aload_n 0, 1) := by decide +kernel
theorem dL_law_949 : decode cL_law 949 = .ok (.iload_n 3, 1) := by decide +kernel
theorem dL_law_950 : decode cL_law 950 = .ok (.iconst 1, 1) := by decide +kernel
theorem dL_law_951 : decode cL_law 951 = .ok (.iadd, 1) := by decide +kernel
theorem dL_law_952 : decode cL_law 952 = .ok (.iaload, 1) := by decide +kernel
theorem dL_law_953 : decode cL_law 953 = .ok (.aload_n 0, 1) := by decide +kernel
theorem dL_law_954 : decode cL_law 954 = .ok (.iload_n 3, 1) := by decide +kernel
theorem dL_law_955 : decode cL_law 955 = .ok (.iconst 2, 1) := by decide +kernel
theorem dL_law_956 : decode cL_law 956 = .ok (.iadd, 1) := by decide +kernel
theorem dL_law_957 : decode cL_law 957 = .ok (.iaload, 1) := by decide +kernel
theorem dL_law_958 : decode cL_law 958 = .ok (.aload_n 0, 1) := by decide +kernel
theorem dL_law_959 : decode cL_law 959 = .ok (.iload_n 3, 1) := by decide +kernel
theorem dL_law_960 : decode cL_law 960 = .ok (.iconst 3, 1) := by decide +kernel
theorem dL_law_961 : decode cL_law 961 = .ok (.iadd, 1) := by decide +kernel
theorem dL_law_962 : decode cL_law 962 = .ok (.iaload, 1) := by decide +kernel
theorem dL_law_963 : decode cL_law 963 = .ok (.aload_n 0, 1) := by decide +kernel
theorem dL_law_964 : decode cL_law 964 = .ok (.iload_n 3, 1) := by decide +kernel
theorem dL_law_965 : decode cL_law 965 = .ok (.iconst 4, 1) := by decide +kernel
theorem dL_law_966 : decode cL_law 966 = .ok (.iadd, 1) := by decide +kernel
theorem dL_law_967 : decode cL_law 967 = .ok (.iaload, 1) := by decide +kernel
theorem dL_law_968 : decode cL_law 968 = .ok (.invokevirtual 126, 3) := by decide +kernel
theorem dL_law_971 : decode cL_law 971 = .ok (.if_icmp .eq 18, 3) := by decide +kernel
theorem dL_law_974 : decode cL_law 974 = .ok (.iconst 0, 1) := by decide +kernel
theorem dL_law_975 : decode cL_law 975 = .ok (.ireturn, 1) := by decide +kernel
theorem dL_law_976 : decode cL_law 976 = .ok (.aload_n 1, 1) := by decide +kernel
theorem dL_law_977 : decode cL_law 977 = .ok (.invokevirtual 127, 3) := by decide +kernel
theorem dL_law_980 : decode cL_law 980 = .ok (.aload_n 2, 1) := by decide +kernel
theorem dL_law_981 : decode cL_law 981 = .ok (.invokevirtual 130, 3) := by decide +kernel
theorem dL_law_984 : decode cL_law 984 = .ok (.if_icmp .eq 5, 3) := by decide +kernel
theorem dL_law_987 : decode cL_law 987 = .ok (.iconst 0, 1) := by decide +kernel
theorem dL_law_988 : decode cL_law 988 = .ok (.ireturn, 1) := by decide +kernel
theorem dL_law_989 : decode cL_law 989 = .ok (.iinc 3 6, 3) := by decide +kernel
theorem dL_law_992 : decode cL_law 992 = .ok (.goto (-974), 3) := by decide +kernel
theorem dL_law_995 : decode cL_law 995 = .ok (.iconst 1, 1) := by decide +kernel
theorem dL_law_996 : decode cL_law 996 = .ok (.ireturn, 1) := by decide +kernel
abbrev vwCl : List vw_C := [(RX0, TX0, 2), (RX1, TX1, 2), (RX2, TX2, 4), (RX3, TX3, 6), (RX4, TX4, 5), (RX5, TX5, 17)]
end
section
/-! A world as a function from addresses to cells; rows of the kit turned to it; contracts over it. -/
abbrev wo : Type := Nat → Option va_E
abbrev EV : Type := va_G × ClassId × ClassId × ClassId
def ev_t (E : EV) : List (ClassId × FieldType) := [(E.2.1, .int), (E.2.2.1, .long), (E.2.2.2, .object RX2)]
def wo_up (w : wo) (a : Nat) (e : va_E) : wo := fun q => if q = a then some e else w q
theorem wo_up_s {w : wo} {a : Nat} {e : va_E} : wo_up w a e a = some e := by simp [wo_up]
theorem wo_up_n {w : wo} {a b : Nat} {e : va_E} (h : b ≠ a) : wo_up w a e b = w b := by simp [wo_up, h]
theorem wo_ap {w : wo} {a b : Nat} {x y : va_E} (ha : w a = some x) (hb : w b = some y) (h : x ≠ y) : a ≠ b := by
  intro q
  subst q
  exact h (Option.some.inj (ha.symm.trans hb))
theorem wo_kp {w : wo} {a b : Nat} {x y e : va_E} (hb : w b = some y) (ha : w a = some x) (h : y ≠ x) : wo_up w a e b = some y := by
  rw [wo_up_n (wo_ap hb ha h)]; exact hb
def wo_P (E : EV) (w : wo) (H : Heap) : Prop := ∀ (a : Nat) (e : va_E), w a = some e → va_at E.1 vwCl (a, e) H
def wo_A (w : wo) (sz : Nat) : Nat → Prop := fun q => (∃ e, w q = some e) ∨ sz ≤ q
def wo_I (A : Nat → Prop) (w : wo) : Prop := ∀ (a : Nat) (e : va_E), w a = some e → A a
def nest1 : Cond := .methodLinkNest RX3 77 yX4_againstItem RX4
/-- what a method needs to know of the machine's tables beside its words -/
def kn (E : EV) (U : State) : Prop := va_K E.1 vwCl (ev_t E) U ∧ va_Nw nest1 U ∧ va_AO RX2 U
theorem kn.warm {E : EV} {s U : State} (hW : s.WarmedH U.vm) (h : kn E s) : kn E U := ⟨va_K.moved hW.alike h.1, va_Nw.warmM hW h.2.1, h.2.2.moved hW.alike⟩
theorem kn.call {E : EV} {U : State} {g : JFrame} {mk : MethodId} {a : Array Value} (h : kn E U) : kn E (U.calling g mk a) := ⟨va_K.moved (Vm.Alike.refl U.vm) h.1, va_Nw.same rfl rfl h.2.1, h.2.2.moved (Vm.Alike.refl U.vm)⟩
def wo_G (E : EV) (A : Nat → Prop) (s : State) (w : wo) (H : Heap) (locs : List Loc) : Prop := kn E s ∧ wo_P E w H ∧ wo_I A w ∧ va_S A s.heap H locs ∧ ∀ q, s.heap.size ≤ q → A q
theorem wo_list {E : EV} {A : Nat → Prop} {w : wo} {H : Heap} (hP : wo_P E w H) (hI : wo_I A w) : ∃ ws : va_W, va_P E.1 vwCl ws H ∧ va_D A ws ∧ (∀ (a : Nat) (e : va_E), w a = some e → ∃ k : Nat, ws[k]? = some (a, e)) ∧ ∀ (k : Nat) (q : Nat × va_E), ws[k]? = some q → w q.1 = some q.2 := by
  have hf : ∀ (a : Nat) (q : Nat × va_E), (w a).map (fun e => (a, e)) = some q → q.1 = a ∧ w a = some q.2 := by
    intro a q h
    simp only [Option.map_eq_some_iff] at h
    obtain ⟨e, h1, rfl⟩ := h
    exact ⟨rfl, h1⟩
  have hmem : ∀ (k : Nat) (q : Nat × va_E), ((List.range H.size).filterMap (fun a => (w a).map (fun e => (a, e))))[k]? = some q → w q.1 = some q.2 := by
    intro k q h
    obtain ⟨a, -, ha⟩ := List.mem_filterMap.mp (List.mem_of_getElem? h)
    obtain ⟨h1, h2⟩ := hf a q ha
    rw [h1]; exact h2
  refine ⟨(List.range H.size).filterMap (fun a => (w a).map (fun e => (a, e))), fun k q h => hP q.1 q.2 (hmem k q h), ⟨?_, fun k q h => hI _ _ (hmem k q h)⟩, ?_, hmem⟩
  · intro i j p q hi hj hpq
    have hp : ((List.range H.size).filterMap (fun a => (w a).map (fun e => (a, e)))).Pairwise (fun x y => x.1 < y.1) := by
      refine List.Pairwise.filterMap _ ?_ List.pairwise_lt_range
      intro a a' haa b hb b' hb'
      rw [(hf a b hb).1, (hf a' b' hb').1]; exact haa
    rw [List.pairwise_iff_getElem] at hp
    obtain ⟨hi1, hi2⟩ := List.getElem?_eq_some_iff.mp hi
    obtain ⟨hj1, hj2⟩ := List.getElem?_eq_some_iff.mp hj
    rcases Nat.lt_trichotomy i j with h | h | h
    · have := hp i j hi1 hj1 h
      rw [hi2, hj2, hpq] at this; omega
    · exact h
    · have := hp j i hj1 hi1 h
      rw [hi2, hj2, hpq] at this; omega
  · intro a e h
    have hlt : a < H.size := (hP a e h).lt
    exact List.getElem?_of_mem (List.mem_filterMap.mpr ⟨a, List.mem_range.mpr hlt, by simp [h]⟩)
theorem wo_set {E : EV} {w : wo} {H1 : Heap} {ws : va_W} {k a : Nat} {e e' : va_E} (h1 : ∀ (a : Nat) (e : va_E), w a = some e → ∃ k : Nat, ws[k]? = some (a, e)) (hk : ws[k]? = some (a, e)) (hP : va_P E.1 vwCl (ws.set k (a, e')) H1) : wo_P E (wo_up w a e') H1 := by
  intro b eb hb
  by_cases hba : b = a
  · subst hba
    rw [wo_up_s] at hb
    cases hb
    exact hP k (b, e') (by rw [List.getElem?_set_self (List.getElem?_eq_some_iff.mp hk).1])
  · rw [wo_up_n hba] at hb
    obtain ⟨j, hj⟩ := h1 b eb hb
    have hjk : k ≠ j := by
      intro h
      subst h
      rw [hk] at hj
      cases hj
      exact hba rfl
    exact hP j (b, eb) (by rw [List.getElem?_set_ne hjk]; exact hj)
theorem wo_push {E : EV} {w : wo} {H1 : Heap} {ws : va_W} {q : Nat} {e : va_E} (h1 : ∀ (a : Nat) (e : va_E), w a = some e → ∃ k : Nat, ws[k]? = some (a, e)) (hP : va_P E.1 vwCl (ws ++ [(q, e)]) H1) : wo_P E (wo_up w q e) H1 := by
  intro b eb hb
  by_cases hba : b = q
  · subst hba
    rw [wo_up_s] at hb
    cases hb
    exact hP ws.length (b, e) (by simp)
  · rw [wo_up_n hba] at hb
    obtain ⟨j, hj⟩ := h1 b eb hb
    exact hP j (b, eb) (by rw [List.getElem?_append_left (List.getElem?_eq_some_iff.mp hj).1]; exact hj)
theorem wo_fresh {A : Nat → Prop} {w : wo} {ws : va_W} {q : Nat} {e : va_E} (h1 : ∀ (a : Nat) (e : va_E), w a = some e → ∃ k : Nat, ws[k]? = some (a, e)) (hD : va_D A (ws ++ [(q, e)])) : w q = none := by
  cases h : w q with
  | none => rfl
  | some x =>
    obtain ⟨k, hk⟩ := h1 q x h
    have hl := (List.getElem?_eq_some_iff.mp hk).1
    have := hD.1 k ws.length (q, x) (q, e) (by rw [List.getElem?_append_left hl]; exact hk) (by simp) rfl
    omega
theorem wo_I.up {A : Nat → Prop} {w : wo} {a : Nat} {e : va_E} (h : wo_I A w) (ha : A a) : wo_I A (wo_up w a e) := by
  intro b x hb
  by_cases hba : b = a
  · rw [hba]; exact ha
  · rw [wo_up_n hba] at hb; exact h b x hb
theorem wo_one {E : EV} {w : wo} {H : Heap} {a : Nat} {e : va_E} (h : wo_P E w H) (ha : w a = some e) : va_P E.1 vwCl [(a, e)] H := by
  intro k q hq
  have hz : k < 1 := (List.getElem?_eq_some_iff.mp hq).1
  rw [show k = 0 by omega] at hq
  cases hq
  exact h a e ha
section WR
variable {p : Program} {l : Launch} {e : Env} {R : Room} {s : State} {m : MethodId} {args : Array Value} {below : List Frame} {meth : Method} {c : Code} {H : Heap} {locs : List Loc} {cells slots : Nat} {Q : State → Prop}
variable {cc : ByteArray} {pc nL : Nat} {ls : Array Slot} {rest : List Value} {E : EV} {A : Nat → Prop} {a : Nat} {w : wo} {Ts : List Cond} {own : String}
theorem g_get (S : CallFix p m c cc nL s args Ts own) (G : wo_G E A s w H locs) {ci : Nat} {fs : List Value} (hw : w a = some (.inr (ci, fs))) {C : String} {T : u_T} {N : Nat} (hc : vwCl[ci]? = some (C, T, N)) (hin : ∀ x ∈ u_ws C T N, x ∈ Ts) (k : Nat) (hk : k < N) {index : Nat} (hlink : Cond.fieldLink own index (T k).1 (T k).2.1 (T k).2.2.1 ∈ Ts) {v : Value} (hv : fs[k]? = some v) (hdg : decode cc pc = .ok (.getfield index, 3))
    (kk : W p l e R s m args below meth c H locs cells slots Q (F0 m (pc + 3) ls (v :: rest))) : W p l e R s m args below meth c H locs cells slots Q (F0 m pc ls (.ref a :: rest)) :=
  va_get (D := E.1) (cl := vwCl) (tys := ev_t E) (ws := [(a, .inr (ci, fs))]) S.1 S.2.1 S.2.2.2.2 hin S.2.2.2.1 G.1.1 (wo_one G.2.1 hw) 0 rfl hc k hk (S.2.2.2.2 _ hlink) (fun _ h => h) hv hdg kk
theorem g_put (S : CallFix p m c cc nL s args Ts own) (G : wo_G E A s w H locs) {ci : Nat} {fs fs' : List Value} (hw : w a = some (.inr (ci, fs))) {C : String} {T : u_T} {N : Nat} (hc : vwCl[ci]? = some (C, T, N)) (ty0 : Nat → FieldType) (hty : ∀ k, k < N → parseFieldDescriptor (T k).2.2.1 = some (ty0 k)) (hnm : ∀ a, a < N → ∀ b, b < N → a ≠ b → (T a).2.1 ≠ (T b).2.1) (hin : ∀ x ∈ u_ws C T N, x ∈ Ts) (k : Nat) (hk : k < N) {index : Nat} (hlink : Cond.fieldLink own index (T k).1 (T k).2.1 (T k).2.2.1 ∈ Ts) (hfin : (T k).2.2.2 = false) {ty : FieldType} {v : Value} (hd : parseFieldDescriptor (T k).2.2.1 = some ty) (hn : narrow ty v = v) (hfit : fits ty v = true) (hl : k < fs.length) (hfs : fs.set k v = fs') (hdg : decode cc pc = .ok (.putfield index, 3))
    (kk : ∀ (H1 : Heap) (locs1 : List Loc), wo_G E A s (wo_up w a (.inr (ci, fs'))) H1 locs1 → W p l e R s m args below meth c H1 locs1 cells slots Q (F0 m (pc + 3) ls rest)) : W p l e R s m args below meth c H locs cells slots Q (F0 m pc ls (v :: .ref a :: rest)) := by
  subst hfs
  obtain ⟨ws, hP, hD, h1, -⟩ := wo_list G.2.1 G.2.2.1
  obtain ⟨q0, hq⟩ := h1 a _ hw
  exact va_put (D := E.1) (cl := vwCl) (tys := ev_t E) (ws := ws) S.1 S.2.1 S.2.2.2.2 hin ty0 hty hnm S.2.2.2.1 G.1.1 hP hD G.2.2.2.1 q0 hq hc k hk (S.2.2.2.2 _ hlink) (fun _ h => h) hfin hd hn hfit hl hdg (fun H1 locs1 hP1 _ hS1 => kk H1 locs1 ⟨G.1, wo_set h1 hq hP1, G.2.2.1.up (G.2.2.1 a _ hw), hS1, G.2.2.2.2⟩)
theorem g_putF (S : CallFix p m c cc nL s args Ts own) (G : wo_G E A s w H locs) {ci : Nat} {fs fs' : List Value} (hw : w a = some (.inr (ci, fs))) {C : String} {T : u_T} {N : Nat} (hc : vwCl[ci]? = some (C, T, N)) (ty0 : Nat → FieldType) (hty : ∀ k, k < N → parseFieldDescriptor (T k).2.2.1 = some (ty0 k)) (hnm : ∀ a, a < N → ∀ b, b < N → a ≠ b → (T a).2.1 ≠ (T b).2.1) (hin : ∀ x ∈ u_ws C T N, x ∈ Ts) (k : Nat) (hk : k < N) {index : Nat} (hlink : Cond.fieldLink own index (T k).1 (T k).2.1 (T k).2.2.1 ∈ Ts) (hfin : (T k).2.2.2 = true) (hin2 : meth.name = "<init>") (hdecl : (T k).1 = own) {ty : FieldType} {v : Value} (hd : parseFieldDescriptor (T k).2.2.1 = some ty) (hn : narrow ty v = v) (hfit : fits ty v = true) (hl : k < fs.length) (hfs : fs.set k v = fs') (hdg : decode cc pc = .ok (.putfield index, 3))
    (kk : ∀ (H1 : Heap) (locs1 : List Loc), wo_G E A s (wo_up w a (.inr (ci, fs'))) H1 locs1 → W p l e R s m args below meth c H1 locs1 cells slots Q (F0 m (pc + 3) ls rest)) : W p l e R s m args below meth c H locs cells slots Q (F0 m pc ls (v :: .ref a :: rest)) := by
  subst hfs
  obtain ⟨ws, hP, hD, h1, -⟩ := wo_list G.2.1 G.2.2.1
  obtain ⟨q0, hq⟩ := h1 a _ hw
  exact va_putF (D := E.1) (cl := vwCl) (tys := ev_t E) (ws := ws) S.1 S.2.1 S.2.2.2.2 hin ty0 hty hnm S.2.2.2.1 G.1.1 hP hD G.2.2.2.1 q0 hq hc k hk (S.2.2.2.2 _ hlink) (fun _ h => h) hfin hin2 hdecl hd hn hfit hl hdg (fun H1 locs1 hP1 _ hS1 => kk H1 locs1 ⟨G.1, wo_set h1 hq hP1, G.2.2.1.up (G.2.2.1 a _ hw), hS1, G.2.2.2.2⟩)
theorem g_iald (S : CallFix p m c cc nL s args Ts own) (G : wo_G E A s w H locs) {n : Nat} {f : Nat → Int32} (hw : w a = some (.inl (E.2.1, n, .inl f))) {i : Int32} (hin : vp_in i n) (hdg : decode cc pc = .ok (.iaload, 1))
    (kk : W p l e R s m args below meth c H locs cells slots Q (F0 m (pc + 1) ls (.int (f i.toNatClampNeg) :: rest))) : W p l e R s m args below meth c H locs cells slots Q (F0 m pc ls (.int i :: .ref a :: rest)) :=
  va_iald (D := E.1) (cl := vwCl) (tys := ev_t E) (ws := [(a, .inl (E.2.1, n, .inl f))]) S.1 S.2.1 G.1.1 (wo_one G.2.1 hw) 0 0 rfl rfl hin hdg kk
theorem g_lald (S : CallFix p m c cc nL s args Ts own) (G : wo_G E A s w H locs) {n : Nat} {f : Nat → Int64} (hw : w a = some (.inl (E.2.2.1, n, .inr (.inl f)))) {i : Int32} (hin : vp_in i n) (hdg : decode cc pc = .ok (.laload, 1))
    (kk : W p l e R s m args below meth c H locs cells slots Q (F0 m (pc + 1) ls (.long (f i.toNatClampNeg) :: rest))) : W p l e R s m args below meth c H locs cells slots Q (F0 m pc ls (.int i :: .ref a :: rest)) :=
  va_lald (D := E.1) (cl := vwCl) (tys := ev_t E) (ws := [(a, .inl (E.2.2.1, n, .inr (.inl f)))]) S.1 S.2.1 G.1.1 (wo_one G.2.1 hw) 0 1 rfl rfl hin hdg kk
theorem g_aald (S : CallFix p m c cc nL s args Ts own) (G : wo_G E A s w H locs) {n : Nat} {f : Nat → Option Nat} (hw : w a = some (.inl (E.2.2.2, n, .inr (.inr (.inr (.inr f)))))) {i : Int32} (hin : vp_in i n) (hdg : decode cc pc = .ok (.aaload, 1))
    (kk : W p l e R s m args below meth c H locs cells slots Q (F0 m (pc + 1) ls (va_rf (f i.toNatClampNeg) :: rest))) : W p l e R s m args below meth c H locs cells slots Q (F0 m pc ls (.int i :: .ref a :: rest)) :=
  va_aldq (D := E.1) (cl := vwCl) (tys := ev_t E) (ws := [(a, .inl (E.2.2.2, n, .inr (.inr (.inr (.inr f)))))]) (C := RX2) S.1 S.2.1 G.1.1 (wo_one G.2.1 hw) 0 2 rfl rfl hin hdg kk
theorem g_iast (S : CallFix p m c cc nL s args Ts own) (G : wo_G E A s w H locs) {n : Nat} {f : Nat → Int32} (hw : w a = some (.inl (E.2.1, n, .inl f))) {i x : Int32} (hin : vp_in i n) (hdg : decode cc pc = .ok (.iastore, 1))
    (kk : ∀ (H1 : Heap) (locs1 : List Loc), wo_G E A s (wo_up w a (.inl (E.2.1, n, .inl (upd f i.toNatClampNeg x)))) H1 locs1 → W p l e R s m args below meth c H1 locs1 cells slots Q (F0 m (pc + 1) ls rest)) : W p l e R s m args below meth c H locs cells slots Q (F0 m pc ls (.int x :: .int i :: .ref a :: rest)) := by
  obtain ⟨ws, hP, hD, h1, -⟩ := wo_list G.2.1 G.2.2.1
  obtain ⟨q0, hq⟩ := h1 a _ hw
  exact va_iast (D := E.1) (cl := vwCl) (tys := ev_t E) (ws := ws) S.1 S.2.1 G.1.1 hP hD G.2.2.2.1 q0 0 hq rfl hin hdg (fun H1 locs1 hP1 _ hS1 => kk H1 locs1 ⟨G.1, wo_set h1 hq hP1, G.2.2.1.up (G.2.2.1 a _ hw), hS1, G.2.2.2.2⟩)
theorem g_last (S : CallFix p m c cc nL s args Ts own) (G : wo_G E A s w H locs) {n : Nat} {f : Nat → Int64} (hw : w a = some (.inl (E.2.2.1, n, .inr (.inl f)))) {i : Int32} {x : Int64} (hin : vp_in i n) (hdg : decode cc pc = .ok (.lastore, 1))
    (kk : ∀ (H1 : Heap) (locs1 : List Loc), wo_G E A s (wo_up w a (.inl (E.2.2.1, n, .inr (.inl (vp_updL f i.toNatClampNeg x))))) H1 locs1 → W p l e R s m args below meth c H1 locs1 cells slots Q (F0 m (pc + 1) ls rest)) : W p l e R s m args below meth c H locs cells slots Q (F0 m pc ls (.long x :: .int i :: .ref a :: rest)) := by
  obtain ⟨ws, hP, hD, h1, -⟩ := wo_list G.2.1 G.2.2.1
  obtain ⟨q0, hq⟩ := h1 a _ hw
  exact va_last (D := E.1) (cl := vwCl) (tys := ev_t E) (ws := ws) S.1 S.2.1 G.1.1 hP hD G.2.2.2.1 q0 1 hq rfl hin hdg (fun H1 locs1 hP1 _ hS1 => kk H1 locs1 ⟨G.1, wo_set h1 hq hP1, G.2.2.1.up (G.2.2.1 a _ hw), hS1, G.2.2.2.2⟩)
theorem g_aast (S : CallFix p m c cc nL s args Ts own) (G : wo_G E A s w H locs) {n v : Nat} {f : Nat → Option Nat} {vs : List Value} (hw : w a = some (.inl (E.2.2.2, n, .inr (.inr (.inr (.inr f)))))) (hv : w v = some (.inr (2, vs))) {i : Int32} (hin : vp_in i n) (hdg : decode cc pc = .ok (.aastore, 1))
    (kk : ∀ (H1 : Heap) (locs1 : List Loc), wo_G E A s (wo_up w a (.inl (E.2.2.2, n, .inr (.inr (.inr (.inr (va_up f i.toNatClampNeg (some v)))))))) H1 locs1 → W p l e R s m args below meth c H1 locs1 cells slots Q (F0 m (pc + 1) ls rest)) : W p l e R s m args below meth c H locs cells slots Q (F0 m pc ls (.ref v :: .int i :: .ref a :: rest)) := by
  obtain ⟨ws, hP, hD, h1, -⟩ := wo_list G.2.1 G.2.2.1
  obtain ⟨q0, hq⟩ := h1 a _ hw
  obtain ⟨qk, hqk⟩ := h1 v _ hv
  exact va_astq (D := E.1) (cl := vwCl) (tys := ev_t E) (ws := ws) (r := (RX2, TX2, 4)) S.1 S.2.1 G.1.1 hP hD G.2.2.2.1 q0 2 qk 2 hq rfl hqk rfl hin hdg (fun H1 locs1 hP1 _ hS1 => kk H1 locs1 ⟨G.1, wo_set h1 hq hP1, G.2.2.1.up (G.2.2.1 a _ hw), hS1, G.2.2.2.2⟩)
theorem g_ilen (S : CallFix p m c cc nL s args Ts own) (G : wo_G E A s w H locs) {n : Nat} {f : Nat → Int32} (hw : w a = some (.inl (E.2.1, n, .inl f))) (hdg : decode cc pc = .ok (.arraylength, 1))
    (kk : W p l e R s m args below meth c H locs cells slots Q (F0 m (pc + 1) ls (.int (nI n) :: rest))) : W p l e R s m args below meth c H locs cells slots Q (F0 m pc ls (.ref a :: rest)) :=
  va_alen (D := E.1) (cl := vwCl) (tys := ev_t E) (ws := [(a, .inl (E.2.1, n, .inl f))]) (ty := .int) S.1 S.2.1 G.1.1 (wo_one G.2.1 hw) 0 0 rfl rfl rfl hdg kk
theorem g_llen (S : CallFix p m c cc nL s args Ts own) (G : wo_G E A s w H locs) {n : Nat} {f : Nat → Int64} (hw : w a = some (.inl (E.2.2.1, n, .inr (.inl f)))) (hdg : decode cc pc = .ok (.arraylength, 1))
    (kk : W p l e R s m args below meth c H locs cells slots Q (F0 m (pc + 1) ls (.int (nI n) :: rest))) : W p l e R s m args below meth c H locs cells slots Q (F0 m pc ls (.ref a :: rest)) :=
  va_alen (D := E.1) (cl := vwCl) (tys := ev_t E) (ws := [(a, .inl (E.2.2.1, n, .inr (.inl f)))]) (ty := .long) S.1 S.2.1 G.1.1 (wo_one G.2.1 hw) 0 1 rfl rfl rfl hdg kk
theorem g_newi (S : CallFix p m c cc nL s args Ts own) (G : wo_G E A s w H locs) (harr : Cond.arrayClass .int ∈ Ts) {n : Int32} {N' : Nat} (hn : ¬ n < 0) (hN : n.toNatClampNeg = N') (hby : N' ≤ 100000) (hcells : cells + 1 ≤ R.cells) (hslots : slots + N' ≤ R.slots) (hdg : decode cc pc = .ok (.newarray .int, 2))
    (kk : ∀ (q : Nat) (H1 : Heap), w q = none → wo_G E A s (wo_up w q (.inl (E.2.1, N', .inl (fun _ => 0)))) H1 locs → W p l e R s m args below meth c H1 locs (cells + 1) (slots + N') Q (F0 m (pc + 2) ls (.ref q :: rest))) : W p l e R s m args below meth c H locs cells slots Q (F0 m pc ls (.int n :: rest)) := by
  obtain ⟨ws, hP, hD, h1, -⟩ := wo_list G.2.1 G.2.2.1
  refine va_newa (D := E.1) (cl := vwCl) (tys := ev_t E) (ws := ws) (ty := .int) (atype := .int) (a0 := (N', .inl (fun _ => 0))) S.1 S.2.1 (S.2.2.2.2 _ harr) rfl G.1.1 hP hD G.2.2.2.1 G.2.2.2.2 (fun _ => rfl) hn hN (by show N' * 4 ≤ _; omega) hcells hslots hdg (fun q cA H1 hK1 hP1 hD1 hS1 => ?_)
  have e1 : E.2.1 = cA := Option.some.inj ((G.1.1.2 0 _ rfl).2.symm.trans (hK1.2 3 _ rfl).2)
  subst e1
  exact kk q H1 (wo_fresh h1 hD1) ⟨G.1, wo_push h1 hP1, G.2.2.1.up (hD1.2 ws.length (q, _) (by simp; rfl)), hS1, G.2.2.2.2⟩
theorem g_newl (S : CallFix p m c cc nL s args Ts own) (G : wo_G E A s w H locs) (harr : Cond.arrayClass .long ∈ Ts) {n : Int32} {N' : Nat} (hn : ¬ n < 0) (hN : n.toNatClampNeg = N') (hby : N' ≤ 100000) (hcells : cells + 1 ≤ R.cells) (hslots : slots + N' ≤ R.slots) (hdg : decode cc pc = .ok (.newarray .long, 2))
    (kk : ∀ (q : Nat) (H1 : Heap), w q = none → wo_G E A s (wo_up w q (.inl (E.2.2.1, N', .inr (.inl (fun _ => 0))))) H1 locs → W p l e R s m args below meth c H1 locs (cells + 1) (slots + N') Q (F0 m (pc + 2) ls (.ref q :: rest))) : W p l e R s m args below meth c H locs cells slots Q (F0 m pc ls (.int n :: rest)) := by
  obtain ⟨ws, hP, hD, h1, -⟩ := wo_list G.2.1 G.2.2.1
  refine va_newa (D := E.1) (cl := vwCl) (tys := ev_t E) (ws := ws) (ty := .long) (atype := .long) (a0 := (N', .inr (.inl (fun _ => 0)))) S.1 S.2.1 (S.2.2.2.2 _ harr) rfl G.1.1 hP hD G.2.2.2.1 G.2.2.2.2 (fun _ => rfl) hn hN (by show N' * 8 ≤ _; omega) hcells hslots hdg (fun q cA H1 hK1 hP1 hD1 hS1 => ?_)
  have e1 : E.2.2.1 = cA := Option.some.inj ((G.1.1.2 1 _ rfl).2.symm.trans (hK1.2 3 _ rfl).2)
  subst e1
  exact kk q H1 (wo_fresh h1 hD1) ⟨G.1, wo_push h1 hP1, G.2.2.1.up (hD1.2 ws.length (q, _) (by simp; rfl)), hS1, G.2.2.2.2⟩
theorem g_newq (S : CallFix p m c cc nL s args Ts own) (G : wo_G E A s w H locs) {index : Nat} (hcl : Cond.classLink own index RX2 ∈ Ts) {n : Int32} {N' : Nat} (hn : ¬ n < 0) (hN : n.toNatClampNeg = N') (hby : N' ≤ 100000) (hcells : cells + 1 ≤ R.cells) (hslots : slots + N' ≤ R.slots) (hdg : decode cc pc = .ok (.anewarray index, 3))
    (kk : ∀ (q : Nat) (H1 : Heap), w q = none → wo_G E A s (wo_up w q (.inl (E.2.2.2, N', .inr (.inr (.inr (.inr (fun _ => none))))))) H1 locs → W p l e R s m args below meth c H1 locs (cells + 1) (slots + N') Q (F0 m (pc + 3) ls (.ref q :: rest))) : W p l e R s m args below meth c H locs cells slots Q (F0 m pc ls (.int n :: rest)) := by
  obtain ⟨ws, hP, hD, h1, -⟩ := wo_list G.2.1 G.2.2.1
  refine va_newq (D := E.1) (cl := vwCl) (tys := ev_t E) (ws := ws) (C := RX2) S.1 S.2.1 S.2.2.2.1 (S.2.2.2.2 _ hcl) G.1.2.2 G.1.1 hP hD G.2.2.2.1 G.2.2.2.2 hn hN (by omega) hcells hslots hdg (fun q cA H1 hK1 hP1 hD1 hS1 => ?_)
  have e1 : E.2.2.2 = cA := by
    obtain ⟨_, _, _, _, _, z1⟩ := (G.1.1.2 2 _ rfl).2
    obtain ⟨_, _, _, _, _, z2⟩ := (hK1.2 3 _ rfl).2
    exact Option.some.inj (z1.symm.trans z2)
  subst e1
  exact kk q H1 (wo_fresh h1 hD1) ⟨G.1, wo_push h1 hP1, G.2.2.1.up (hD1.2 ws.length (q, _) (by simp; rfl)), hS1, G.2.2.2.2⟩
theorem g_new (S : CallFix p m c cc nL s args Ts own) (G : wo_G E A s w H locs) {C : String} {T : u_T} {N ci index : Nat} (hc : vwCl[ci]? = some (C, T, N)) (ty : Nat → FieldType) (hty : ∀ k, k < N → parseFieldDescriptor (T k).2.2.1 = some (ty k)) (hin : ∀ x ∈ u_ws C T N, x ∈ Ts) (hcl : Cond.classLink own index C ∈ Ts) (hinst : Cond.instantiable C N ∈ Ts) (hini : Cond.initialized C ∈ Ts) {fs : List Value} (hfs : ∀ j, j < N → defaultValue (ty j) = vp_V fs j) (hcells : cells + 1 ≤ R.cells) (hslots : slots + N ≤ R.slots) (hdg : decode cc pc = .ok (.new index, 3))
    (kk : ∀ (q : Nat) (H1 : Heap), w q = none → wo_G E A s (wo_up w q (.inr (ci, fs))) H1 locs → W p l e R s m args below meth c H1 locs (cells + 1) (slots + N) Q (F0 m (pc + 3) ls (.ref q :: rest))) : W p l e R s m args below meth c H locs cells slots Q (F0 m pc ls rest) := by
  obtain ⟨ws, hP, hD, h1, -⟩ := wo_list G.2.1 G.2.2.1
  exact va_new (D := E.1) (cl := vwCl) (tys := ev_t E) (ws := ws) S.1 S.2.1 S.2.2.2.2 hin ty hty S.2.2.2.1 (S.2.2.2.2 _ hcl) (S.2.2.2.2 _ hinst) (S.2.2.2.2 _ hini) G.1.1 hP hD G.2.2.2.1 G.2.2.2.2 hc hfs hcells hslots hdg (fun q H1 hP1 hD1 hS1 => kk q H1 (wo_fresh h1 hD1) ⟨G.1, wo_push h1 hP1, G.2.2.1.up (hD1.2 ws.length (q, _) (by simp; rfl)), hS1, G.2.2.2.2⟩)
end WR
end
section
/-! Contracts over function worlds: what a method does to its world; entry, return, calls. -/
def rmk (k mc ms : Nat) : Room := { frames := k, cells := mc, slots := ms, locals := 40 * k }
def wo_B (E : EV) (A : Nat → Prop) : wo → State → Prop := fun w' t => wo_P E w' t.heap ∧ wo_I A w'
def wo_S (E : EV) (w : wo) (sz : Nat) : State → Prop := fun U => U.heap.size = sz ∧ wo_P E w U.heap ∧ kn E U
def ct_i (l : Launch) (E : EV) (y : MethodName) (ws : List Cond) (k mc ms : Nat) (as : List Value) (w : wo) (post : Int32 → wo → Prop) : Prop := ∀ sz : Nat, Met l y ws (rmk k mc ms) (va_Pc as (wo_S E w sz)) (va_Qi post (wo_B E (wo_A w sz)) (wo_A w sz)) mc ms (wo_A w sz)
def ct_l (l : Launch) (E : EV) (y : MethodName) (ws : List Cond) (k mc ms : Nat) (as : List Value) (w : wo) (post : Int64 → wo → Prop) : Prop := ∀ sz : Nat, Met l y ws (rmk k mc ms) (va_Pc as (wo_S E w sz)) (va_Ql post (wo_B E (wo_A w sz)) (wo_A w sz)) mc ms (wo_A w sz)
def ct_v (l : Launch) (E : EV) (y : MethodName) (ws : List Cond) (k mc ms : Nat) (as : List Value) (w : wo) (post : wo → Prop) : Prop := ∀ sz : Nat, Met l y ws (rmk k mc ms) (va_Pc as (wo_S E w sz)) (va_Qv post (wo_B E (wo_A w sz)) (wo_A w sz)) mc ms (wo_A w sz)
def ct_q (l : Launch) (E : EV) (y : MethodName) (ws : List Cond) (k mc ms : Nat) (as : List Value) (w : wo) (post : Option Nat → wo → Prop) : Prop := ∀ sz : Nat, Met l y ws (rmk k mc ms) (va_Pc as (wo_S E w sz)) (va_Qq post (wo_B E (wo_A w sz)) (wo_A w sz)) mc ms (wo_A w sz)
theorem wo_blind {E : EV} {w : wo} {sz : Nat} {as : List Value} : FrameBlind (va_Pc as (wo_S E w sz)) := by
  intro a U g mk q
  obtain ⟨q0, q1, qP, qK⟩ := q
  exact ⟨q0, q1, qP, qK.call⟩
theorem wo_AA {E : EV} {A : Nat → Prop} {s : State} {w : wo} {H : Heap} {locs : List Loc} (G : wo_G E A s w H locs) : ∀ q, wo_A w H.size q → A q := by
  intro q h
  rcases h with ⟨x, h⟩ | h
  · exact G.2.2.1 q x h
  · exact G.2.2.2.2 q (Nat.le_trans G.2.2.2.1.1 h)
theorem wo_body {l : Launch} {E : EV} {y : MethodName} {ws ws' : List Cond} {k mc ms nL sz : Nat} {cc : ByteArray} {ret : Option FieldType} {as : List Value} {w : wo} {Qc : (Nat → Prop) → Array Value → State → Outcome → State → Prop} (hy : plainName y.cls = true) (hw : ws = Cond.code y cc nL ret :: ws') (hlen : (lg_sl as).length ≤ nL)
    (body : ∀ (p : Program) (e : Env) (s : State) (m : MethodId) (args : Array Value) (below : List Frame) (meth : Method) (c : Code) (A : Nat → Prop) (ls : Array Slot), CallFix p m c cc nL s args ws y.cls → meth.sig.returnType = ret → meth.locks = false → meth.name = y.name → wo_G E A s w s.heap [] → lv_has ls nL (lv_args 0 as) → W p l e (rmk k mc ms) s m args below meth c s.heap [] 0 0 (MQ below (Qc A) args s mc ms A) (F0 m 0 ls [])) : Met l y ws (rmk k mc ms) (va_Pc as (wo_S E w sz)) (Qc (wo_A w sz)) mc ms (wo_A w sz) := by
  refine Met.ofW (cc := cc) (maxL := nL) (ret := ret) hy hw ?_
  intro p e s m args below meth c s₁ B hml hv
  obtain ⟨rfl, hsz, hP, hK⟩ := hv
  subst hsz
  have hts := atoms_spec (ws := ws) B.pre
  have hown : s.vm.findClass y.cls = some m.cls := findClass_of_methodNamed B.named
  rw [lg_entry_eq]
  exact body p e s m _ below meth c (wo_A w s.heap.size) _ ⟨B.exec, B.bytes, hml, hown, hts⟩ B.returns B.notSynchronized (name_of_methodNamed B.named B.method).1 ⟨hK, hP, fun a e h => Or.inl ⟨e, h⟩, va_S.rf, fun q h => Or.inr h⟩ (lv_entry as hlen)
section WC
variable {p : Program} {l : Launch} {e : Env} {R : Room} {s : State} {m : MethodId} {args : Array Value} {below : List Frame} {meth : Method} {c : Code} {H : Heap} {locs : List Loc} {cells slots mc ms : Nat} {Q : State → Prop}
variable {cc : ByteArray} {pc nL : Nat} {ls : Array Slot} {rest st0 : List Value} {E : EV} {A : Nat → Prop} {w : wo} {Ts : List Cond} {own : String}
theorem r_int {v : Int32} {ret : FieldType} {post : Int32 → wo → Prop} (S : CallFix p m c cc nL s args Ts own) (hr : meth.sig.returnType = some ret) (hlk : meth.locks = false) (G : wo_G E A s w H locs) (hn : narrow ret (.int v) = .int v) (hc : cells ≤ mc) (hs : slots ≤ ms) (hdg : decode cc pc = .ok (.ireturn, 1)) (hp : post v w) : W p l e R s m args below meth c H locs cells slots (MQ below (va_Qi post (wo_B E A) A) args s mc ms A) (F0 m pc ls [.int v]) := by
  refine W.widen hc hs ?_
  exact W.zret S.1 S.2.1 hr hn (fun t ht hW => ⟨⟨v, w, rfl, hp, by rw [ht]; exact G.2.1, G.2.2.1⟩, G.2.2.2.1.F ht⟩) G.2.2.2.1.2.2 hdg (hlocks := hlk)
theorem r_long {v : Int64} {post : Int64 → wo → Prop} (S : CallFix p m c cc nL s args Ts own) (hr : meth.sig.returnType = some .long) (hlk : meth.locks = false) (G : wo_G E A s w H locs) (hc : cells ≤ mc) (hs : slots ≤ ms) (hdg : decode cc pc = .ok (.lreturn, 1)) (hp : post v w) : W p l e R s m args below meth c H locs cells slots (MQ below (va_Ql post (wo_B E A) A) args s mc ms A) (F0 m pc ls [.long v]) := by
  refine W.widen hc hs ?_
  exact W.lret S.1 S.2.1 hr (fun t ht hW => ⟨⟨v, w, rfl, hp, by rw [ht]; exact G.2.1, G.2.2.1⟩, G.2.2.2.1.F ht⟩) G.2.2.2.1.2.2 hdg (hlocks := hlk)
theorem r_void {post : wo → Prop} (S : CallFix p m c cc nL s args Ts own) (hr : meth.sig.returnType = none) (hlk : meth.locks = false) (G : wo_G E A s w H locs) (hc : cells ≤ mc) (hs : slots ≤ ms) (hdg : decode cc pc = .ok (.return_, 1)) (hp : post w) : W p l e R s m args below meth c H locs cells slots (MQ below (va_Qv post (wo_B E A) A) args s mc ms A) (F0 m pc ls []) := by
  refine W.widen hc hs ?_
  exact W.vret S.1 S.2.1 hr (fun t ht hW => ⟨⟨w, rfl, hp, by rw [ht]; exact G.2.1, G.2.2.1⟩, G.2.2.2.1.F ht⟩) G.2.2.2.1.2.2 hdg (hlocks := hlk)
theorem r_ref {r : Option Nat} {v : Value} {C : String} {post : Option Nat → wo → Prop} (S : CallFix p m c cc nL s args Ts own) (hr : meth.sig.returnType = some (.object C)) (hlk : meth.locks = false) (G : wo_G E A s w H locs) (hv : v = va_rf r) (hc : cells ≤ mc) (hs : slots ≤ ms) (hdg : decode cc pc = .ok (.areturn, 1)) (hp : post r w) : W p l e R s m args below meth c H locs cells slots (MQ below (va_Qq post (wo_B E A) A) args s mc ms A) (F0 m pc ls [v]) := by
  subst hv
  refine W.widen hc hs ?_
  exact W.aret S.1 S.2.1 hr (Or.inl ⟨_, rfl⟩) (va_rf_or r) (fun t ht hW => ⟨⟨r, w, rfl, hp, by rw [ht]; exact G.2.1, G.2.2.1⟩, G.2.2.2.1.F ht⟩) G.2.2.2.1.2.2 hdg (hlocks := hlk)
variable {y : MethodName} {ws ws' : List Cond} {bytes : ByteArray} {ret : Option FieldType} {C : String} {T : u_T} {b k n ci N maxL index : Nat} {As fs : List Value} {lv : List (Nat × Value)}
theorem wo_pv (G : wo_G E A s w H locs) (hw : w b = some (.inr (ci, fs))) (hc : vwCl[ci]? = some (C, T, N)) : PreV s H C b (va_Pc (.ref b :: As) (wo_S E w H.size)) As :=
  ⟨wo_blind, va_recv (q := (C, T, N)) G.1.1 (wo_one G.2.1 hw) hc (q0 := 0) rfl, fun U hU hW => ⟨rfl, by rw [hU], by rw [hU]; exact G.2.1, G.1.warm hW⟩⟩
theorem wo_ps (G : wo_G E A s w H locs) : PreS s H (va_Pc As (wo_S E w H.size)) As :=
  ⟨wo_blind, fun U hU hW => ⟨rfl, by rw [hU], by rw [hU]; exact G.2.1, G.1.warm hW⟩⟩
theorem g_Vi {post : Int32 → wo → Prop} (S : CallFix p m c cc nL s args Ts own) (G : wo_G E A s w H locs) (hls : lv_has ls nL lv) (hM : ct_i l E y ws k mc ms (.ref b :: As) w post) (hT : GoodIn Ts (wsV own index C y ws)) (hwd : ws = Cond.code y bytes maxL ret :: ws') (hd : y.cls = C ∧ y.cls ≠ "java/lang/invoke/MethodHandle" ∧ y.cls ≠ "java/lang/invoke/VarHandle" ∧ (parseMethodDescriptor y.desc).map (fun d => d.parameters.length) = some n) (hw : w b = some (.inr (ci, fs))) (hc : vwCl[ci]? = some (C, T, N)) (hn : As.length = n) (hst : st0 = As.reverse ++ .ref b :: rest) (hrm : (rest.map fun v => v.category).sum ≤ 8) (hR : k + 1 ≤ R.frames ∧ 8 + (maxL + 11) + 40 * k ≤ R.locals) (hf : cells + mc ≤ R.cells ∧ slots + ms ≤ R.slots) (hdg : decode cc pc = .ok (.invokevirtual index, 3))
    (kk : ∀ (r : Int32) (w' : wo) (H1 : Heap) (locs1 : List Loc), post r w' → wo_G E A s w' H1 locs1 → W p l e R s m args below meth c H1 locs1 (cells + mc) (slots + ms) Q (F0 m (pc + 3) ls (.int r :: rest))) : W p l e R s m args below meth c H locs cells slots Q (F0 m pc ls st0) :=
  va_calli (va_runV (As := As) (rest := rest) S (hM H.size) (cwV n S.2.2.2.2 hT hwd rfl rfl hd hR) (wo_pv G hw hc) rfl hn hls.1 hst (lv_room hrm) hdg hf) G.2.2.2.1 (fun q _ h => wo_AA G q h) (wo_AA G) (fun r w' _ H1 locs1 ht _ hp hB _ _ hS => kk r w' H1 locs1 hp ⟨G.1, by rw [← ht]; exact hB.1, fun a x h => wo_AA G a (hB.2 a x h), hS, G.2.2.2.2⟩)
theorem g_Vl {post : Int64 → wo → Prop} (S : CallFix p m c cc nL s args Ts own) (G : wo_G E A s w H locs) (hls : lv_has ls nL lv) (hM : ct_l l E y ws k mc ms (.ref b :: As) w post) (hT : GoodIn Ts (wsV own index C y ws)) (hwd : ws = Cond.code y bytes maxL ret :: ws') (hd : y.cls = C ∧ y.cls ≠ "java/lang/invoke/MethodHandle" ∧ y.cls ≠ "java/lang/invoke/VarHandle" ∧ (parseMethodDescriptor y.desc).map (fun d => d.parameters.length) = some n) (hw : w b = some (.inr (ci, fs))) (hc : vwCl[ci]? = some (C, T, N)) (hn : As.length = n) (hst : st0 = As.reverse ++ .ref b :: rest) (hrm : (rest.map fun v => v.category).sum ≤ 8) (hR : k + 1 ≤ R.frames ∧ 8 + (maxL + 11) + 40 * k ≤ R.locals) (hf : cells + mc ≤ R.cells ∧ slots + ms ≤ R.slots) (hdg : decode cc pc = .ok (.invokevirtual index, 3))
    (kk : ∀ (r : Int64) (w' : wo) (H1 : Heap) (locs1 : List Loc), post r w' → wo_G E A s w' H1 locs1 → W p l e R s m args below meth c H1 locs1 (cells + mc) (slots + ms) Q (F0 m (pc + 3) ls (.long r :: rest))) : W p l e R s m args below meth c H locs cells slots Q (F0 m pc ls st0) :=
  va_calll (va_runV (As := As) (rest := rest) S (hM H.size) (cwV n S.2.2.2.2 hT hwd rfl rfl hd hR) (wo_pv G hw hc) rfl hn hls.1 hst (lv_room hrm) hdg hf) G.2.2.2.1 (fun q _ h => wo_AA G q h) (wo_AA G) (fun r w' _ H1 locs1 ht _ hp hB _ _ hS => kk r w' H1 locs1 hp ⟨G.1, by rw [← ht]; exact hB.1, fun a x h => wo_AA G a (hB.2 a x h), hS, G.2.2.2.2⟩)
theorem g_Vq {post : Option Nat → wo → Prop} (S : CallFix p m c cc nL s args Ts own) (G : wo_G E A s w H locs) (hls : lv_has ls nL lv) (hM : ct_q l E y ws k mc ms (.ref b :: As) w post) (hT : GoodIn Ts (wsV own index C y ws)) (hwd : ws = Cond.code y bytes maxL ret :: ws') (hd : y.cls = C ∧ y.cls ≠ "java/lang/invoke/MethodHandle" ∧ y.cls ≠ "java/lang/invoke/VarHandle" ∧ (parseMethodDescriptor y.desc).map (fun d => d.parameters.length) = some n) (hw : w b = some (.inr (ci, fs))) (hc : vwCl[ci]? = some (C, T, N)) (hn : As.length = n) (hst : st0 = As.reverse ++ .ref b :: rest) (hrm : (rest.map fun v => v.category).sum ≤ 8) (hR : k + 1 ≤ R.frames ∧ 8 + (maxL + 11) + 40 * k ≤ R.locals) (hf : cells + mc ≤ R.cells ∧ slots + ms ≤ R.slots) (hdg : decode cc pc = .ok (.invokevirtual index, 3))
    (kk : ∀ (r : Option Nat) (w' : wo) (H1 : Heap) (locs1 : List Loc), post r w' → wo_G E A s w' H1 locs1 → W p l e R s m args below meth c H1 locs1 (cells + mc) (slots + ms) Q (F0 m (pc + 3) ls (va_rf r :: rest))) : W p l e R s m args below meth c H locs cells slots Q (F0 m pc ls st0) :=
  va_callq (va_runV (As := As) (rest := rest) S (hM H.size) (cwV n S.2.2.2.2 hT hwd rfl rfl hd hR) (wo_pv G hw hc) rfl hn hls.1 hst (lv_room hrm) hdg hf) G.2.2.2.1 (fun q _ h => wo_AA G q h) (wo_AA G) (fun r w' _ H1 locs1 ht _ hp hB _ _ hS => kk r w' H1 locs1 hp ⟨G.1, by rw [← ht]; exact hB.1, fun a x h => wo_AA G a (hB.2 a x h), hS, G.2.2.2.2⟩)
theorem g_Si {post : Int32 → wo → Prop} (S : CallFix p m c cc nL s args Ts own) (G : wo_G E A s w H locs) (hls : lv_has ls nL lv) (hM : ct_i l E y ws k mc ms As w post) (hT : GoodIn Ts (va_wsS own index y ws)) (hwd : ws = Cond.code y bytes maxL ret :: ws') (hd : y.cls ≠ "java/lang/invoke/MethodHandle" ∧ y.cls ≠ "java/lang/invoke/VarHandle" ∧ (parseMethodDescriptor y.desc).map (fun d => d.parameters.length) = some n) (hn : As.length = n) (hst : st0 = As.reverse ++ rest) (hrm : (rest.map fun v => v.category).sum ≤ 8) (hR : k + 1 ≤ R.frames ∧ 8 + (maxL + 11) + 40 * k ≤ R.locals) (hf : cells + mc ≤ R.cells ∧ slots + ms ≤ R.slots) (hdg : decode cc pc = .ok (.invokestatic index, 3))
    (kk : ∀ (r : Int32) (w' : wo) (H1 : Heap) (locs1 : List Loc), post r w' → wo_G E A s w' H1 locs1 → W p l e R s m args below meth c H1 locs1 (cells + mc) (slots + ms) Q (F0 m (pc + 3) ls (.int r :: rest))) : W p l e R s m args below meth c H locs cells slots Q (F0 m pc ls st0) :=
  va_calli (va_runS (As := As) (rest := rest) S (hM H.size) (va_cwS n S.2.2.2.2 hT hwd rfl rfl hd hR) (wo_ps G) rfl hn hls.1 hst (lv_room hrm) hdg hf) G.2.2.2.1 (fun q _ h => wo_AA G q h) (wo_AA G) (fun r w' _ H1 locs1 ht _ hp hB _ _ hS => kk r w' H1 locs1 hp ⟨G.1, by rw [← ht]; exact hB.1, fun a x h => wo_AA G a (hB.2 a x h), hS, G.2.2.2.2⟩)
theorem g_Sv {post : wo → Prop} (S : CallFix p m c cc nL s args Ts own) (G : wo_G E A s w H locs) (hls : lv_has ls nL lv) (hM : ct_v l E y ws k mc ms As w post) (hT : GoodIn Ts (va_wsS own index y ws)) (hwd : ws = Cond.code y bytes maxL ret :: ws') (hd : y.cls ≠ "java/lang/invoke/MethodHandle" ∧ y.cls ≠ "java/lang/invoke/VarHandle" ∧ (parseMethodDescriptor y.desc).map (fun d => d.parameters.length) = some n) (hn : As.length = n) (hst : st0 = As.reverse ++ rest) (hrm : (rest.map fun v => v.category).sum ≤ 8) (hR : k + 1 ≤ R.frames ∧ 8 + (maxL + 11) + 40 * k ≤ R.locals) (hf : cells + mc ≤ R.cells ∧ slots + ms ≤ R.slots) (hdg : decode cc pc = .ok (.invokestatic index, 3))
    (kk : ∀ (w' : wo) (H1 : Heap) (locs1 : List Loc), post w' → wo_G E A s w' H1 locs1 → W p l e R s m args below meth c H1 locs1 (cells + mc) (slots + ms) Q (F0 m (pc + 3) ls rest)) : W p l e R s m args below meth c H locs cells slots Q (F0 m pc ls st0) :=
  va_callv (va_runS (As := As) (rest := rest) S (hM H.size) (va_cwS n S.2.2.2.2 hT hwd rfl rfl hd hR) (wo_ps G) rfl hn hls.1 hst (lv_room hrm) hdg hf) G.2.2.2.1 (fun q _ h => wo_AA G q h) (wo_AA G) (fun w' _ H1 locs1 ht _ hp hB _ _ hS => kk w' H1 locs1 hp ⟨G.1, by rw [← ht]; exact hB.1, fun a x h => wo_AA G a (hB.2 a x h), hS, G.2.2.2.2⟩)
theorem g_SNi {host : String} {post : Int32 → wo → Prop} (S : CallFix p m c cc nL s args Ts own) (G : wo_G E A s w H locs) (hls : lv_has ls nL lv) (hM : ct_i l E y ws k mc ms As w post) (hT : GoodIn Ts ws) (hl : va_Nw (.methodLinkNest own index y host) s) (hst2 : Cond.static y ∈ Ts) (hini : Cond.initialized y.cls ∈ Ts) (hwd : ws = Cond.code y bytes maxL ret :: ws') (hd : y.cls ≠ "java/lang/invoke/MethodHandle" ∧ y.cls ≠ "java/lang/invoke/VarHandle" ∧ (parseMethodDescriptor y.desc).map (fun d => d.parameters.length) = some n) (hn : As.length = n) (hst : st0 = As.reverse ++ rest) (hrm : (rest.map fun v => v.category).sum ≤ 8) (hR : k + 1 ≤ R.frames ∧ 8 + (maxL + 11) + 40 * k ≤ R.locals) (hf : cells + mc ≤ R.cells ∧ slots + ms ≤ R.slots) (hdg : decode cc pc = .ok (.invokestatic index, 3))
    (kk : ∀ (r : Int32) (w' : wo) (H1 : Heap) (locs1 : List Loc), post r w' → wo_G E A s w' H1 locs1 → W p l e R s m args below meth c H1 locs1 (cells + mc) (slots + ms) Q (F0 m (pc + 3) ls (.int r :: rest))) : W p l e R s m args below meth c H locs cells slots Q (F0 m pc ls st0) :=
  va_calli (va_runSN (As := As) (rest := rest) S (hM H.size) ⟨va_cnB n S.2.2.2.2 hT hwd rfl rfl hl (S.2.2.2.2 _ hini) hd hR, S.2.2.2.2 _ hst2, trivial⟩ (wo_ps G) rfl hn hls.1 hst (lv_room hrm) hdg hf) G.2.2.2.1 (fun q _ h => wo_AA G q h) (wo_AA G) (fun r w' _ H1 locs1 ht _ hp hB _ _ hS => kk r w' H1 locs1 hp ⟨G.1, by rw [← ht]; exact hB.1, fun a x h => wo_AA G a (hB.2 a x h), hS, G.2.2.2.2⟩)
theorem g_Iv {post : wo → Prop} (S : CallFix p m c cc nL s args Ts own) (G : wo_G E A s w H locs) (hls : lv_has ls nL lv) (hM : ct_v l E y ws k mc ms (.ref b :: As) w post) (hT : GoodIn Ts ws) (hl : Cond.methodLink own index y ∈ Ts) (hinst : Cond.instanceMethod y ∈ Ts) (hini : Cond.initialized y.cls ∈ Ts) (hy1 : y.name = "<init>") (hwd : ws = Cond.code y bytes maxL none :: ws') (hd : y.cls ≠ "java/lang/invoke/MethodHandle" ∧ y.cls ≠ "java/lang/invoke/VarHandle" ∧ (parseMethodDescriptor y.desc).map (fun d => d.parameters.length) = some n) (hn : As.length = n) (hst : st0 = As.reverse ++ .ref b :: rest) (hrm : (rest.map fun v => v.category).sum ≤ 8) (hR : k + 1 ≤ R.frames ∧ 8 + (maxL + 11) + 40 * k ≤ R.locals) (hf : cells + mc ≤ R.cells ∧ slots + ms ≤ R.slots) (hdg : decode cc pc = .ok (.invokespecial index, 3))
    (kk : ∀ (w' : wo) (H1 : Heap) (locs1 : List Loc), post w' → wo_G E A s w' H1 locs1 → W p l e R s m args below meth c H1 locs1 (cells + mc) (slots + ms) Q (F0 m (pc + 3) ls rest)) : W p l e R s m args below meth c H locs cells slots Q (F0 m pc ls st0) :=
  va_callv (va_runI (As := As) (rest := rest) S (hM H.size) (cwI n S.2.2.2.2 hT hwd rfl rfl (S.2.2.2.2 _ hini) (S.2.2.2.2 _ hl) (S.2.2.2.2 _ hinst) hy1 hd hR) (wo_ps G) rfl hn hls.1 hst (lv_room hrm) hdg hf) G.2.2.2.1 (fun q _ h => wo_AA G q h) (wo_AA G) (fun w' _ H1 locs1 ht _ hp hB _ _ hS => kk w' H1 locs1 hp ⟨G.1, by rw [← ht]; exact hB.1, fun a x h => wo_AA G a (hB.2 a x h), hS, G.2.2.2.2⟩)
theorem g_obj (S : CallFix p m c cc nL s args Ts own) (hls : lv_has ls nL lv) {a : Nat} (hl : Cond.methodLink own index objectInit ∈ Ts) (hinst : Cond.instanceMethod objectInit ∈ Ts) (hcode : Cond.code objectInit ⟨#[0xb1]⟩ 1 none ∈ Ts) (hrm : (rest.map fun v => v.category).sum ≤ 8) (hR : 1 ≤ R.frames ∧ 20 ≤ R.locals) (hdg : decode cc pc = .ok (.invokespecial index, 3))
    (kk : W p l e R s m args below meth c H locs cells slots Q (F0 m (pc + 3) ls rest)) : W p l e R s m args below meth c H locs cells slots Q (F0 m pc ls (.ref a :: rest)) :=
  W.objInit S.1 S.2.1 S.2.2.2.1 (S.2.2.2.2 _ hl) (S.2.2.2.2 _ hinst) (S.2.2.2.2 _ hcode) rfl (by rw [S.2.2.1]; exact hls.1) rfl hdg hR.1 (Nat.le_trans (Nat.add_le_add_right (lv_room (m := m) (pc := pc) (ls := ls) (rest := .ref a :: rest) hrm) 12) hR.2) kk
end WC
end
section
/-! THE PURE PICTURE: things n with CLASS cl, V vs, LINK lk, the row's number hd; rows nr with SORT so, size sz, items it (twelve a row); outcome oc, own ow, begun bg, deep dp, told td. -/
abbrev ST : Type := Nat × (Nat → Int32) × (Nat → Int32) × (Nat → Int32) × (Nat → Int32) × Nat × (Nat → Int32) × (Nat → Int32) × (Nat → Int64) × Int32 × Int32 × Int32 × Int32 × (Nat → Int32)
abbrev OUT : Int32 := -2000000001
abbrev OUTL : Int64 := -2000000001
def cn (x : Int32) : Nat := x.toNatClampNeg
def tin (n : Nat) (t : Int32) : Bool := decide (0 ≤ t) && decide (cn t < n)
theorem cn_nI {k : Nat} (h : k < 2 ^ 31) : cn (nI k) = k := nI_clamp h
theorem tin_y {n k : Nat} (hk : k < n) (hn : n ≤ 1000) : tin n (nI k) = true := by
  have h1 : 0 ≤ nI k := nI_pos' (by omega)
  simp [tin, h1, cn_nI (show k < 2 ^ 31 by omega), hk]
theorem tin_c (n : Nat) (t : Int32) (hn : n ≤ 1000) : (tin n t = false ∧ (t < 0 ∨ nI n ≤ t)) ∨ ∃ k, k < n ∧ t = nI k := by
  rcases pk_ix t (n := n) (by omega) with h | h | ⟨j, hj, rfl⟩
  · refine Or.inl ⟨?_, Or.inl h⟩
    have h0 : ¬ (0 ≤ t) := Int32.not_le.mpr h
    simp [tin, h0]
  · refine Or.inl ⟨?_, Or.inr h⟩
    have h0 : ¬ t < 0 := fun q => by
      have h1 : (0 : Int32) ≤ nI n := nI_pos' (by omega)
      exact Int32.not_lt.mpr (Int32.le_trans h1 h) q
    obtain ⟨j, hj, rfl⟩ := nI_of h0
    have h2 := (nI_leI (show n < 2 ^ 31 by omega) hj).mp h
    simp [tin, cn_nI hj, h2]
  · exact Or.inr ⟨j, hj, rfl⟩
def s_tell (o : Int32) : ST → ST
  | (n, cl, vs, lk, hd, nr, so, sz, it, _, ow, bg, dp, td) => (n, cl, vs, lk, hd, nr, so, sz, it, o, ow, bg, dp, upd td (cn o) (td (cn o) + 1))
def S_thing (c v : Int32) : ST → Int32 × ST
  | (n, cl, vs, lk, hd, r) => if tin 8 c = true then (if n = 40 then (-2, (n, cl, vs, lk, hd, r)) else (nI n, (n + 1, upd cl n c, upd vs n v, upd lk n (-1), upd hd n (-1), r))) else (OUT, (n, cl, vs, lk, hd, r))
def S_told (o : Int32) : ST → Int32
  | (_, _, _, _, _, _, _, _, _, _, _, _, _, td) => if tin 10 o = true then td (cn o) else OUT
def S_cls (t : Int32) : ST → Int32
  | (n, cl, _) => if tin n t = true then cl (cn t) else OUT
def isof (x c : Int32) : Bool := decide (x = c) || (decide (c < x) && decide (x ≤ 2))
def S_is (t c : Int32) : ST → Int32
  | (n, cl, _) => if tin n t = true then (if tin 8 c = true then (if isof (cl (cn t)) c = true then 1 else 0) else OUT) else OUT
def S_v (t : Int32) : ST → Int32
  | (n, _, vs, _) => if tin n t = true then vs (cn t) else OUT
def S_become (t v : Int32) : ST → Int32 × ST
  | (n, cl, vs, r) => if tin n t = true then (vs (cn t), (n, cl, upd vs (cn t) v, r)) else (OUT, (n, cl, vs, r))
def S_link (t o : Int32) : ST → Int32 × ST
  | (n, cl, vs, lk, r) => if tin n t = true then (if o = -1 ∨ tin n o = true then (lk (cn t), (n, cl, vs, upd lk (cn t) o, r)) else (OUT, (n, cl, vs, lk, r))) else (OUT, (n, cl, vs, lk, r))
def S_linked (t : Int32) : ST → Int32
  | (n, _, _, lk, _) => if tin n t = true then lk (cn t) else OUT
def put_lk (k : Nat) (x : Int32) : ST → ST
  | (n, cl, vs, lk, r) => (n, cl, vs, upd lk k x, r)
def put_vs (k : Nat) (x : Int32) : ST → ST
  | (n, cl, vs, r) => (n, cl, upd vs k x, r)
def put_hd (k : Nat) (x : Int32) : ST → ST
  | (n, cl, vs, lk, hd, r) => (n, cl, vs, lk, upd hd k x, r)
def put_it (k : Nat) (x : Int64) : ST → ST
  | (n, cl, vs, lk, hd, nr, so, sz, it, r) => (n, cl, vs, lk, hd, nr, so, sz, vp_updL it k x, r)
def S_follow (t : Int32) : ST → Int32 × ST
  | (n, cl, vs, lk, r) => if tin n t = true then (if lk (cn t) = -1 then (0, s_tell 1 (n, cl, vs, lk, r)) else (lk (cn (lk (cn t))), put_lk (cn t) (lk (cn (lk (cn t)))) (s_tell 0 (n, cl, vs, lk, r)))) else (OUT, (n, cl, vs, lk, r))
def S_trade (t : Int32) : ST → Int32 × ST
  | (n, cl, vs, lk, r) => if tin n t = true then (if lk (cn t) = -1 then (0, s_tell 1 (n, cl, vs, lk, r)) else (upd (upd vs (cn t) (vs (cn (lk (cn t))))) (cn (lk (cn t))) (vs (cn t)) (cn t), put_vs (cn (lk (cn t))) (vs (cn t)) (put_vs (cn t) (vs (cn (lk (cn t)))) (s_tell 0 (n, cl, vs, lk, r))))) else (OUT, (n, cl, vs, lk, r))
def fil (it : Nat → Int64) (r : Nat) (v : Int64) (m : Nat) : Nat → Int64 := fun q => if 12 * r ≤ q ∧ q < 12 * r + m then v else it q
def add_row (k : Nat) (s z : Int32) : ST → ST
  | (n, cl, vs, lk, hd, nr, so, sz, it, r) => (n, cl, vs, lk, upd hd k (nI nr), nr + 1, upd so nr s, upd sz nr z, fil it nr (if s < 2 then 0 else -1) 12, r)
def S_hold (t s z : Int32) : ST → Int32 × ST
  | (n, r) => if tin n t = true then (if s = -1 ∨ tin 4 s = true then (if z ≤ 12 then (if s = -1 then (0, put_hd (cn t) (-1) (s_tell 0 (n, r))) else if z < 0 then (0, s_tell 4 (n, r)) else (z, add_row (cn t) s z (s_tell 0 (n, r)))) else (OUT, (n, r))) else (OUT, (n, r))) else (OUT, (n, r))
def S_holds (t : Int32) : ST → Int32
  | (n, _, _, _, hd, _, so, _) => if tin n t = true then (if hd (cn t) = -1 then -1 else so (cn (hd (cn t)))) else OUT
def S_share (t o : Int32) : ST → Int32 × ST
  | (n, cl, vs, lk, hd, nr, so, r) => if tin n t = true then (if tin n o = true then (if hd (cn o) = -1 then -1 else so (cn (hd (cn o))), (n, cl, vs, lk, upd hd (cn t) (hd (cn o)), nr, so, r)) else (OUT, (n, cl, vs, lk, hd, nr, so, r))) else (OUT, (n, cl, vs, lk, hd, nr, so, r))
def S_size (t : Int32) : ST → Int32 × ST
  | (n, cl, vs, lk, hd, nr, so, sz, r) => if tin n t = true then (if hd (cn t) = -1 then (0, s_tell 1 (n, cl, vs, lk, hd, nr, so, sz, r)) else (sz (cn (hd (cn t))), s_tell 0 (n, cl, vs, lk, hd, nr, so, sz, r))) else (OUT, (n, cl, vs, lk, hd, nr, so, sz, r))
def S_at (t k : Int32) : ST → Int64 × ST
  | (n, cl, vs, lk, hd, nr, so, sz, it, r) => if tin n t = true then (if hd (cn t) = -1 then (0, s_tell 1 (n, cl, vs, lk, hd, nr, so, sz, it, r)) else if tin (cn (sz (cn (hd (cn t))))) k = true then (it (12 * cn (hd (cn t)) + cn k), s_tell 0 (n, cl, vs, lk, hd, nr, so, sz, it, r)) else (0, s_tell 3 (n, cl, vs, lk, hd, nr, so, sz, it, r))) else (OUTL, (n, cl, vs, lk, hd, nr, so, sz, it, r))
def S_lay (t k : Int32) (v : Int64) : ST → Int64 × ST
  | (n, cl, vs, lk, hd, nr, so, sz, it, r) => if tin n t = true then (if hd (cn t) = -1 then (0, s_tell 1 (n, cl, vs, lk, hd, nr, so, sz, it, r)) else if 1 < so (cn (hd (cn t))) then (0, s_tell 2 (n, cl, vs, lk, hd, nr, so, sz, it, r)) else if tin (cn (sz (cn (hd (cn t))))) k = true then (it (12 * cn (hd (cn t)) + cn k), put_it (12 * cn (hd (cn t)) + cn k) (if so (cn (hd (cn t))) = 0 then v.toInt32.toInt64 else v) (s_tell 0 (n, cl, vs, lk, hd, nr, so, sz, it, r))) else (0, s_tell 3 (n, cl, vs, lk, hd, nr, so, sz, it, r))) else (OUTL, (n, cl, vs, lk, hd, nr, so, sz, it, r))
def S_set (t k o : Int32) : ST → Int32 × ST
  | (n, cl, vs, lk, hd, nr, so, sz, it, r) => if tin n t = true then (if o = -1 ∨ tin n o = true then (if hd (cn t) = -1 then (0, s_tell 1 (n, cl, vs, lk, hd, nr, so, sz, it, r)) else if so (cn (hd (cn t))) < 2 then (0, s_tell 2 (n, cl, vs, lk, hd, nr, so, sz, it, r)) else if tin (cn (sz (cn (hd (cn t))))) k = true then (if so (cn (hd (cn t))) = 3 ∧ ¬ o = -1 ∧ ¬ cl (cn o) ≤ 2 then (0, s_tell 5 (n, cl, vs, lk, hd, nr, so, sz, it, r)) else ((it (12 * cn (hd (cn t)) + cn k)).toInt32, put_it (12 * cn (hd (cn t)) + cn k) o.toInt64 (s_tell 0 (n, cl, vs, lk, hd, nr, so, sz, it, r)))) else (0, s_tell 3 (n, cl, vs, lk, hd, nr, so, sz, it, r))) else (OUT, (n, cl, vs, lk, hd, nr, so, sz, it, r))) else (OUT, (n, cl, vs, lk, hd, nr, so, sz, it, r))
/-- how many of m items from place b on stand ahead of the first one that is no leaf -/
def gon (cl : Nat → Int32) (it : Nat → Int64) (b : Nat) : Nat → Nat
  | 0 => 0
  | m + 1 => if it b = -1 ∨ cl (cn (it b).toInt32) ≤ 2 then gon cl it (b + 1) m + 1 else 0
def S_move (t i o j z : Int32) : ST → Int32 × ST
  | (n, cl, vs, lk, hd, nr, so, sz, it, r) => if tin n t = true then (if tin n o = true then (if hd (cn t) = -1 ∨ hd (cn o) = -1 then (0, s_tell 1 (n, cl, vs, lk, hd, nr, so, sz, it, r)) else
      if so (cn (hd (cn t))) = so (cn (hd (cn o))) ∨ (1 < so (cn (hd (cn t))) ∧ 1 < so (cn (hd (cn o)))) then
        (if 0 ≤ i ∧ 0 ≤ j ∧ 0 ≤ z ∧ cn i + cn z ≤ cn (sz (cn (hd (cn t)))) ∧ cn j + cn z ≤ cn (sz (cn (hd (cn o)))) then
          (let g := if so (cn (hd (cn o))) = 3 then gon cl it (12 * cn (hd (cn t)) + cn i) (cn z) else cn z
           (if g = cn z then z else 0, s_tell (if g = cn z then 0 else 5) (n, cl, vs, lk, hd, nr, so, sz, va_cpy it it (12 * cn (hd (cn t)) + cn i) (12 * cn (hd (cn o)) + cn j) g, r)))
        else (0, s_tell 3 (n, cl, vs, lk, hd, nr, so, sz, it, r)))
      else (0, s_tell 5 (n, cl, vs, lk, hd, nr, so, sz, it, r))) else (OUT, (n, cl, vs, lk, hd, nr, so, sz, it, r))) else (OUT, (n, cl, vs, lk, hd, nr, so, sz, it, r))
def sm (it : Nat → Int64) (b : Nat) : Nat → Int32
  | 0 => 0
  | k + 1 => sm it b k + (it (b + k)).toInt32
/-- a number worked out without another one: its outcome, itself, what is thrown -/
def pl (cl vs hd so sz : Nat → Int32) (it : Nat → Int64) (a : Nat) : Int32 × Int32 × Int32 :=
  if cl a = 0 then (0, vs a, 0) else if cl a = 1 then (0, 2 * vs a, 0) else if cl a = 2 then (0, 3 * vs a, 0)
  else if cl a = 3 then (if vs a = 0 then (6, 0, 0) else (0, 1000 / vs a, 0))
  else if cl a = 5 then (if vs a = 0 then (1, 0, 0) else (7, 0, vs a))
  else if cl a = 6 then (0, (it (12 * cn (hd a))).toInt32, 0)
  else if hd a = -1 then (1, 0, 0) else if so (cn (hd a)) = 0 then (0, sm it (12 * cn (hd a)) (cn (sz (cn (hd a)))), 0) else (2, 0, 0)
/-- what a number takes: its outcome so far, the thing whose number it takes (-1: none) -/
def tk (cl lk hd so sz : Nat → Int32) (it : Nat → Int64) (a : Nat) : Int32 × Int32 :=
  if cl a = 4 then (if lk a = -1 then 1 else 0, lk a)
  else if cl a = 6 then (if hd a = -1 then (1, -1) else if sz (cn (hd a)) = 0 then (3, -1) else if so (cn (hd a)) < 2 then (0, -1) else (if (it (12 * cn (hd a))).toInt32 = -1 then 1 else 0, (it (12 * cn (hd a))).toInt32))
  else (0, -1)
/-- the number of thing a, with d levels left below: outcome, number, begun, deep, thrown -/
def nm (cl vs lk hd so sz : Nat → Int32) (it : Nat → Int64) (lim : Int32) : Nat → Nat → Int32 → Int32 × Int32 × Int32 × Int32 × Int32
  | 0, _, bg => (if bg = lim then 9 else 8, 0, bg, 30, 0)
  | d + 1, a, bg => if bg = lim then (9, 0, bg, nI (29 - d), 0) else
      if (tk cl lk hd so sz it a).1 = 0 then
        (if (tk cl lk hd so sz it a).2 = -1 then ((pl cl vs hd so sz it a).1, (pl cl vs hd so sz it a).2.1, bg + 1, if (pl cl vs hd so sz it a).1 = 0 then 0 else nI (30 - d), (pl cl vs hd so sz it a).2.2)
         else ((nm cl vs lk hd so sz it lim d (cn (tk cl lk hd so sz it a).2) (bg + 1)).1, (nm cl vs lk hd so sz it lim d (cn (tk cl lk hd so sz it a).2) (bg + 1)).2.1 + (if cl a = 4 then 1 else 0), (nm cl vs lk hd so sz it lim d (cn (tk cl lk hd so sz it a).2) (bg + 1)).2.2))
      else ((tk cl lk hd so sz it a).1, 0, bg + 1, nI (30 - d), 0)
def nmS (lim : Int32) (a : Nat) (bg : Int32) : ST → Int32 × Int32 × Int32 × Int32 × Int32
  | (_, cl, vs, lk, hd, _, so, sz, it, _) => nm cl vs lk hd so sz it lim 30 a bg
/-- a call's end: outcome o told, with begun b, deep p, thrown th -/
def s_end (o b p th : Int32) : ST → ST
  | (n, cl, vs, lk, hd, nr, so, sz, it, _, ow, _, _, td) => (n, cl, vs, lk, hd, nr, so, sz, it, o, if o = 7 then th else ow, b, p, upd td (cn o) (td (cn o) + 1))
def lin (x : Int32) : Bool := tin 101 x && !decide (x = 0)
def n_of : ST → Nat
  | (n, _) => n
def S_run (t lim : Int32) (σ : ST) : Int32 × ST :=
  if tin (n_of σ) t = true then (if lin lim = true then
    (let q := nmS lim (cn t) 0 σ
     (if q.1 = 0 then q.2.1 else 0, s_end q.1 q.2.2.1 q.2.2.2.1 q.2.2.2.2 σ)) else (OUT, σ)) else (OUT, σ)
def S_either (t o lim : Int32) (σ : ST) : Int32 × ST :=
  if tin (n_of σ) t = true then (if tin (n_of σ) o = true then (if lin lim = true then
    (let q0 := nmS lim (cn t) 0 σ
     let q := if 1 ≤ q0.1 ∧ q0.1 ≤ 7 then nmS lim (cn o) q0.2.2.1 σ else q0
     (if q.1 = 0 then q.2.1 else 0, s_end q.1 q.2.2.1 q.2.2.2.1 q.2.2.2.2 σ)) else (OUT, σ)) else (OUT, σ)) else (OUT, σ)
def lk_of : ST → Nat → Int32
  | (_, _, _, lk, _) => lk
def vs_of : ST → Nat → Int32
  | (_, _, vs, _) => vs
def S_gather (t lim : Int32) (σ : ST) : Int32 × ST :=
  if tin (n_of σ) t = true then (if lin lim = true then
    (if lk_of σ (cn t) = -1 then (0, s_end 1 0 0 0 σ) else
     let q := nmS lim (cn (lk_of σ (cn t))) 0 σ
     if q.1 = 0 then (vs_of σ (cn t) + q.2.1, put_vs (cn t) (vs_of σ (cn t) + q.2.1) (s_end q.1 q.2.2.1 q.2.2.2.1 q.2.2.2.2 σ)) else (0, s_end q.1 q.2.2.1 q.2.2.2.1 q.2.2.2.2 σ)) else (OUT, σ)) else (OUT, σ)
/-- what is against item k of the ints that thing o holds -/
def agi (k : Int32) (o : Nat) : ST → Int32
  | (_, _, _, _, hd, _, so, sz, _) => if hd o = -1 then 1 else if so (cn (hd o)) = 0 then (if tin (cn (sz (cn (hd o)))) k = true then 0 else 3) else 2
def hd_of : ST → Nat → Int32
  | (_, _, _, _, hd, _) => hd
def S_keep (t o k lim : Int32) (σ : ST) : Int32 × ST :=
  if tin (n_of σ) t = true then (if tin (n_of σ) o = true then (if lin lim = true then
    (let q := nmS lim (cn t) 0 σ
     if q.1 = 0 then (if agi k (cn o) σ = 0 then (q.2.1, put_it (12 * cn (hd_of σ (cn o)) + cn k) q.2.1.toInt64 (s_end 0 q.2.2.1 q.2.2.2.1 q.2.2.2.2 σ)) else (0, s_end (agi k (cn o) σ) q.2.2.1 q.2.2.2.1 q.2.2.2.2 σ)) else (0, s_end q.1 q.2.2.1 q.2.2.2.1 q.2.2.2.2 σ)) else (OUT, σ)) else (OUT, σ)) else (OUT, σ)
end
section
/-! THE CELLS: of the class (Rc), of the reference (Rm), over the pure picture. -/
def ro (Rw : Nat → Nat) (h : Int32) : Option Nat := if h = -1 then none else some (Rw (cn h))
abbrev GC : Type := Nat × Nat × Nat × Nat × Nat × (Nat → Option Nat) × (Nat → Nat) × (Nat → Nat) × (Nat → Nat) × (Nat → Nat → Int64)
def Rc (E : EV) (w : wo) : GC → ST → Int32 × Int32 × Int32 → Prop
  | (x, st, wk, tl, ta, tf, T, Rw, Ia, F), (n, cl, vs, lk, hd, nr, so, sz, it, oc, ow, bg, dp, td), (lim, wou, th) => w x = some (.inr (4, [.ref st, .ref wk, .ref tl, .int oc, .int ow])) ∧ w st = some (.inr (1, [.ref ta, .int (nI n)])) ∧ w wk = some (.inr (3, [.ref st, .int lim, .int bg, .int wou, .int dp, .int th])) ∧ w tl = some (.inl (E.2.1, 10, .inl td)) ∧ w ta = some (.inl (E.2.2.2, 40, .inr (.inr (.inr (.inr tf))))) ∧ (∀ k, k < n → tf k = some (T k)) ∧ (∀ k, k < n → w (T k) = some (.inr (2, [.int (cl k), .int (vs k), .int (lk k), va_rf (ro Rw (hd k))]))) ∧ (∀ r, r < nr → w (Rw r) = some (.inr (0, [.int (so r), .ref (Ia r)]))) ∧ (∀ r, r < nr → w (Ia r) = some (.inl (E.2.2.1, cn (sz r), .inr (.inl (F r))))) ∧ (∀ r, r < nr → ∀ k, k < cn (sz r) → F r k = it (12 * r + k)) ∧ (∀ i j, i < n → j < n → T i = T j → i = j) ∧ (∀ i j, i < nr → j < nr → Rw i = Rw j → i = j) ∧ (∀ i j, i < nr → j < nr → Ia i = Ia j → i = j)
section RCS
variable {E : EV} {w : wo} {x st wk tl ta : Nat} {tf : Nat → Option Nat} {T Rw Ia : Nat → Nat} {F : Nat → Nat → Int64} {n : Nat} {cl vs lk hd : Nat → Int32} {nr : Nat} {so sz : Nat → Int32} {it : Nat → Int64} {oc ow bg dp : Int32} {td : Nat → Int32} {lim wou th : Int32}
theorem Rc_x (R : Rc E w (x, st, wk, tl, ta, tf, T, Rw, Ia, F) (n, cl, vs, lk, hd, nr, so, sz, it, oc, ow, bg, dp, td) (lim, wou, th)) : w x = some (.inr (4, [.ref st, .ref wk, .ref tl, .int oc, .int ow])) := R.1
theorem Rc_st (R : Rc E w (x, st, wk, tl, ta, tf, T, Rw, Ia, F) (n, cl, vs, lk, hd, nr, so, sz, it, oc, ow, bg, dp, td) (lim, wou, th)) : w st = some (.inr (1, [.ref ta, .int (nI n)])) := R.2.1
theorem Rc_wk (R : Rc E w (x, st, wk, tl, ta, tf, T, Rw, Ia, F) (n, cl, vs, lk, hd, nr, so, sz, it, oc, ow, bg, dp, td) (lim, wou, th)) : w wk = some (.inr (3, [.ref st, .int lim, .int bg, .int wou, .int dp, .int th])) := R.2.2.1
theorem Rc_tl (R : Rc E w (x, st, wk, tl, ta, tf, T, Rw, Ia, F) (n, cl, vs, lk, hd, nr, so, sz, it, oc, ow, bg, dp, td) (lim, wou, th)) : w tl = some (.inl (E.2.1, 10, .inl td)) := R.2.2.2.1
theorem Rc_ta (R : Rc E w (x, st, wk, tl, ta, tf, T, Rw, Ia, F) (n, cl, vs, lk, hd, nr, so, sz, it, oc, ow, bg, dp, td) (lim, wou, th)) : w ta = some (.inl (E.2.2.2, 40, .inr (.inr (.inr (.inr tf))))) := R.2.2.2.2.1
theorem Rc_tf (R : Rc E w (x, st, wk, tl, ta, tf, T, Rw, Ia, F) (n, cl, vs, lk, hd, nr, so, sz, it, oc, ow, bg, dp, td) (lim, wou, th)) : (∀ k, k < n → tf k = some (T k)) := R.2.2.2.2.2.1
theorem Rc_T (R : Rc E w (x, st, wk, tl, ta, tf, T, Rw, Ia, F) (n, cl, vs, lk, hd, nr, so, sz, it, oc, ow, bg, dp, td) (lim, wou, th)) : (∀ k, k < n → w (T k) = some (.inr (2, [.int (cl k), .int (vs k), .int (lk k), va_rf (ro Rw (hd k))]))) := R.2.2.2.2.2.2.1
theorem Rc_Rw (R : Rc E w (x, st, wk, tl, ta, tf, T, Rw, Ia, F) (n, cl, vs, lk, hd, nr, so, sz, it, oc, ow, bg, dp, td) (lim, wou, th)) : (∀ r, r < nr → w (Rw r) = some (.inr (0, [.int (so r), .ref (Ia r)]))) := R.2.2.2.2.2.2.2.1
theorem Rc_Ia (R : Rc E w (x, st, wk, tl, ta, tf, T, Rw, Ia, F) (n, cl, vs, lk, hd, nr, so, sz, it, oc, ow, bg, dp, td) (lim, wou, th)) : (∀ r, r < nr → w (Ia r) = some (.inl (E.2.2.1, cn (sz r), .inr (.inl (F r))))) := R.2.2.2.2.2.2.2.2.1
theorem Rc_F (R : Rc E w (x, st, wk, tl, ta, tf, T, Rw, Ia, F) (n, cl, vs, lk, hd, nr, so, sz, it, oc, ow, bg, dp, td) (lim, wou, th)) : (∀ r, r < nr → ∀ k, k < cn (sz r) → F r k = it (12 * r + k)) := R.2.2.2.2.2.2.2.2.2.1
theorem Rc_iT (R : Rc E w (x, st, wk, tl, ta, tf, T, Rw, Ia, F) (n, cl, vs, lk, hd, nr, so, sz, it, oc, ow, bg, dp, td) (lim, wou, th)) : (∀ i j, i < n → j < n → T i = T j → i = j) := R.2.2.2.2.2.2.2.2.2.2.1
theorem Rc_iR (R : Rc E w (x, st, wk, tl, ta, tf, T, Rw, Ia, F) (n, cl, vs, lk, hd, nr, so, sz, it, oc, ow, bg, dp, td) (lim, wou, th)) : (∀ i j, i < nr → j < nr → Rw i = Rw j → i = j) := R.2.2.2.2.2.2.2.2.2.2.2.1
theorem Rc_iI (R : Rc E w (x, st, wk, tl, ta, tf, T, Rw, Ia, F) (n, cl, vs, lk, hd, nr, so, sz, it, oc, ow, bg, dp, td) (lim, wou, th)) : (∀ i j, i < nr → j < nr → Ia i = Ia j → i = j) := R.2.2.2.2.2.2.2.2.2.2.2.2
theorem Rc_p_oc (R : Rc E w (x, st, wk, tl, ta, tf, T, Rw, Ia, F) (n, cl, vs, lk, hd, nr, so, sz, it, oc, ow, bg, dp, td) (lim, wou, th)) (v : Int32) : Rc E (wo_up w x (.inr (4, [.ref st, .ref wk, .ref tl, .int v, .int ow]))) (x, st, wk, tl, ta, tf, T, Rw, Ia, F) (n, cl, vs, lk, hd, nr, so, sz, it, v, ow, bg, dp, td) (lim, wou, th) := by
  obtain ⟨h0, h1, h2, h3, h4, h5, h6, h7, h8, h9, h10, h11, h12⟩ := R
  exact ⟨wo_up_s, wo_kp h1 h0 (by simp), wo_kp h2 h0 (by simp), wo_kp h3 h0 (by simp), wo_kp h4 h0 (by simp), h5, fun k hk => wo_kp (h6 k hk) h0 (by simp), fun r hr => wo_kp (h7 r hr) h0 (by simp), fun r hr => wo_kp (h8 r hr) h0 (by simp), h9, h10, h11, h12⟩
theorem Rc_p_ow (R : Rc E w (x, st, wk, tl, ta, tf, T, Rw, Ia, F) (n, cl, vs, lk, hd, nr, so, sz, it, oc, ow, bg, dp, td) (lim, wou, th)) (v : Int32) : Rc E (wo_up w x (.inr (4, [.ref st, .ref wk, .ref tl, .int oc, .int v]))) (x, st, wk, tl, ta, tf, T, Rw, Ia, F) (n, cl, vs, lk, hd, nr, so, sz, it, oc, v, bg, dp, td) (lim, wou, th) := by
  obtain ⟨h0, h1, h2, h3, h4, h5, h6, h7, h8, h9, h10, h11, h12⟩ := R
  exact ⟨wo_up_s, wo_kp h1 h0 (by simp), wo_kp h2 h0 (by simp), wo_kp h3 h0 (by simp), wo_kp h4 h0 (by simp), h5, fun k hk => wo_kp (h6 k hk) h0 (by simp), fun r hr => wo_kp (h7 r hr) h0 (by simp), fun r hr => wo_kp (h8 r hr) h0 (by simp), h9, h10, h11, h12⟩
theorem Rc_p_lim (R : Rc E w (x, st, wk, tl, ta, tf, T, Rw, Ia, F) (n, cl, vs, lk, hd, nr, so, sz, it, oc, ow, bg, dp, td) (lim, wou, th)) (v : Int32) : Rc E (wo_up w wk (.inr (3, [.ref st, .int v, .int bg, .int wou, .int dp, .int th]))) (x, st, wk, tl, ta, tf, T, Rw, Ia, F) (n, cl, vs, lk, hd, nr, so, sz, it, oc, ow, bg, dp, td) (v, wou, th) := by
  obtain ⟨h0, h1, h2, h3, h4, h5, h6, h7, h8, h9, h10, h11, h12⟩ := R
  exact ⟨wo_kp h0 h2 (by simp), wo_kp h1 h2 (by simp), wo_up_s, wo_kp h3 h2 (by simp), wo_kp h4 h2 (by simp), h5, fun k hk => wo_kp (h6 k hk) h2 (by simp), fun r hr => wo_kp (h7 r hr) h2 (by simp), fun r hr => wo_kp (h8 r hr) h2 (by simp), h9, h10, h11, h12⟩
theorem Rc_p_bg (R : Rc E w (x, st, wk, tl, ta, tf, T, Rw, Ia, F) (n, cl, vs, lk, hd, nr, so, sz, it, oc, ow, bg, dp, td) (lim, wou, th)) (v : Int32) : Rc E (wo_up w wk (.inr (3, [.ref st, .int lim, .int v, .int wou, .int dp, .int th]))) (x, st, wk, tl, ta, tf, T, Rw, Ia, F) (n, cl, vs, lk, hd, nr, so, sz, it, oc, ow, v, dp, td) (lim, wou, th) := by
  obtain ⟨h0, h1, h2, h3, h4, h5, h6, h7, h8, h9, h10, h11, h12⟩ := R
  exact ⟨wo_kp h0 h2 (by simp), wo_kp h1 h2 (by simp), wo_up_s, wo_kp h3 h2 (by simp), wo_kp h4 h2 (by simp), h5, fun k hk => wo_kp (h6 k hk) h2 (by simp), fun r hr => wo_kp (h7 r hr) h2 (by simp), fun r hr => wo_kp (h8 r hr) h2 (by simp), h9, h10, h11, h12⟩
theorem Rc_p_wou (R : Rc E w (x, st, wk, tl, ta, tf, T, Rw, Ia, F) (n, cl, vs, lk, hd, nr, so, sz, it, oc, ow, bg, dp, td) (lim, wou, th)) (v : Int32) : Rc E (wo_up w wk (.inr (3, [.ref st, .int lim, .int bg, .int v, .int dp, .int th]))) (x, st, wk, tl, ta, tf, T, Rw, Ia, F) (n, cl, vs, lk, hd, nr, so, sz, it, oc, ow, bg, dp, td) (lim, v, th) := by
  obtain ⟨h0, h1, h2, h3, h4, h5, h6, h7, h8, h9, h10, h11, h12⟩ := R
  exact ⟨wo_kp h0 h2 (by simp), wo_kp h1 h2 (by simp), wo_up_s, wo_kp h3 h2 (by simp), wo_kp h4 h2 (by simp), h5, fun k hk => wo_kp (h6 k hk) h2 (by simp), fun r hr => wo_kp (h7 r hr) h2 (by simp), fun r hr => wo_kp (h8 r hr) h2 (by simp), h9, h10, h11, h12⟩
theorem Rc_p_dp (R : Rc E w (x, st, wk, tl, ta, tf, T, Rw, Ia, F) (n, cl, vs, lk, hd, nr, so, sz, it, oc, ow, bg, dp, td) (lim, wou, th)) (v : Int32) : Rc E (wo_up w wk (.inr (3, [.ref st, .int lim, .int bg, .int wou, .int v, .int th]))) (x, st, wk, tl, ta, tf, T, Rw, Ia, F) (n, cl, vs, lk, hd, nr, so, sz, it, oc, ow, bg, v, td) (lim, wou, th) := by
  obtain ⟨h0, h1, h2, h3, h4, h5, h6, h7, h8, h9, h10, h11, h12⟩ := R
  exact ⟨wo_kp h0 h2 (by simp), wo_kp h1 h2 (by simp), wo_up_s, wo_kp h3 h2 (by simp), wo_kp h4 h2 (by simp), h5, fun k hk => wo_kp (h6 k hk) h2 (by simp), fun r hr => wo_kp (h7 r hr) h2 (by simp), fun r hr => wo_kp (h8 r hr) h2 (by simp), h9, h10, h11, h12⟩
theorem Rc_p_th (R : Rc E w (x, st, wk, tl, ta, tf, T, Rw, Ia, F) (n, cl, vs, lk, hd, nr, so, sz, it, oc, ow, bg, dp, td) (lim, wou, th)) (v : Int32) : Rc E (wo_up w wk (.inr (3, [.ref st, .int lim, .int bg, .int wou, .int dp, .int v]))) (x, st, wk, tl, ta, tf, T, Rw, Ia, F) (n, cl, vs, lk, hd, nr, so, sz, it, oc, ow, bg, dp, td) (lim, wou, v) := by
  obtain ⟨h0, h1, h2, h3, h4, h5, h6, h7, h8, h9, h10, h11, h12⟩ := R
  exact ⟨wo_kp h0 h2 (by simp), wo_kp h1 h2 (by simp), wo_up_s, wo_kp h3 h2 (by simp), wo_kp h4 h2 (by simp), h5, fun k hk => wo_kp (h6 k hk) h2 (by simp), fun r hr => wo_kp (h7 r hr) h2 (by simp), fun r hr => wo_kp (h8 r hr) h2 (by simp), h9, h10, h11, h12⟩
theorem Rc_p_td (R : Rc E w (x, st, wk, tl, ta, tf, T, Rw, Ia, F) (n, cl, vs, lk, hd, nr, so, sz, it, oc, ow, bg, dp, td) (lim, wou, th)) (f : Nat → Int32) : Rc E (wo_up w tl (.inl (E.2.1, 10, .inl f))) (x, st, wk, tl, ta, tf, T, Rw, Ia, F) (n, cl, vs, lk, hd, nr, so, sz, it, oc, ow, bg, dp, f) (lim, wou, th) := by
  obtain ⟨h0, h1, h2, h3, h4, h5, h6, h7, h8, h9, h10, h11, h12⟩ := R
  exact ⟨wo_kp h0 h3 (by simp), wo_kp h1 h3 (by simp), wo_kp h2 h3 (by simp), wo_up_s, wo_kp h4 h3 (by simp), h5, fun k hk => wo_kp (h6 k hk) h3 (by simp), fun r hr => wo_kp (h7 r hr) h3 (by simp), fun r hr => wo_kp (h8 r hr) h3 (by simp), h9, h10, h11, h12⟩
theorem Rc_p_vs (R : Rc E w (x, st, wk, tl, ta, tf, T, Rw, Ia, F) (n, cl, vs, lk, hd, nr, so, sz, it, oc, ow, bg, dp, td) (lim, wou, th)) {k0 : Nat} (h : k0 < n) (v : Int32) : Rc E (wo_up w (T k0) (.inr (2, [.int (cl k0), .int v, .int (lk k0), va_rf (ro Rw (hd k0))]))) (x, st, wk, tl, ta, tf, T, Rw, Ia, F) (n, cl, upd vs k0 v, lk, hd, nr, so, sz, it, oc, ow, bg, dp, td) (lim, wou, th) := by
  obtain ⟨h0, h1, h2, h3, h4, h5, h6, h7, h8, h9, h10, h11, h12⟩ := R
  have z := h6 k0 h
  refine ⟨wo_kp h0 z (by simp), wo_kp h1 z (by simp), wo_kp h2 z (by simp), wo_kp h3 z (by simp), wo_kp h4 z (by simp), h5, fun k hk => ?_, fun r hr => wo_kp (h7 r hr) z (by simp), fun r hr => wo_kp (h8 r hr) z (by simp), h9, h10, h11, h12⟩
  by_cases q : k = k0
  · subst q
    rw [wo_up_s, pk_us]
  · rw [wo_up_n (fun e => q (h10 k k0 hk h e)), pk_un q]
    exact h6 k hk
theorem Rc_p_lk (R : Rc E w (x, st, wk, tl, ta, tf, T, Rw, Ia, F) (n, cl, vs, lk, hd, nr, so, sz, it, oc, ow, bg, dp, td) (lim, wou, th)) {k0 : Nat} (h : k0 < n) (v : Int32) : Rc E (wo_up w (T k0) (.inr (2, [.int (cl k0), .int (vs k0), .int v, va_rf (ro Rw (hd k0))]))) (x, st, wk, tl, ta, tf, T, Rw, Ia, F) (n, cl, vs, upd lk k0 v, hd, nr, so, sz, it, oc, ow, bg, dp, td) (lim, wou, th) := by
  obtain ⟨h0, h1, h2, h3, h4, h5, h6, h7, h8, h9, h10, h11, h12⟩ := R
  have z := h6 k0 h
  refine ⟨wo_kp h0 z (by simp), wo_kp h1 z (by simp), wo_kp h2 z (by simp), wo_kp h3 z (by simp), wo_kp h4 z (by simp), h5, fun k hk => ?_, fun r hr => wo_kp (h7 r hr) z (by simp), fun r hr => wo_kp (h8 r hr) z (by simp), h9, h10, h11, h12⟩
  by_cases q : k = k0
  · subst q
    rw [wo_up_s, pk_us]
  · rw [wo_up_n (fun e => q (h10 k k0 hk h e)), pk_un q]
    exact h6 k hk
theorem Rc_p_hd (R : Rc E w (x, st, wk, tl, ta, tf, T, Rw, Ia, F) (n, cl, vs, lk, hd, nr, so, sz, it, oc, ow, bg, dp, td) (lim, wou, th)) {k0 : Nat} (h : k0 < n) (v : Int32) : Rc E (wo_up w (T k0) (.inr (2, [.int (cl k0), .int (vs k0), .int (lk k0), va_rf (ro Rw v)]))) (x, st, wk, tl, ta, tf, T, Rw, Ia, F) (n, cl, vs, lk, upd hd k0 v, nr, so, sz, it, oc, ow, bg, dp, td) (lim, wou, th) := by
  obtain ⟨h0, h1, h2, h3, h4, h5, h6, h7, h8, h9, h10, h11, h12⟩ := R
  have z := h6 k0 h
  refine ⟨wo_kp h0 z (by simp), wo_kp h1 z (by simp), wo_kp h2 z (by simp), wo_kp h3 z (by simp), wo_kp h4 z (by simp), h5, fun k hk => ?_, fun r hr => wo_kp (h7 r hr) z (by simp), fun r hr => wo_kp (h8 r hr) z (by simp), h9, h10, h11, h12⟩
  by_cases q : k = k0
  · subst q
    rw [wo_up_s, pk_us]
  · rw [wo_up_n (fun e => q (h10 k k0 hk h e)), pk_un q]
    exact h6 k hk
theorem Rc_p_it (R : Rc E w (x, st, wk, tl, ta, tf, T, Rw, Ia, F) (n, cl, vs, lk, hd, nr, so, sz, it, oc, ow, bg, dp, td) (lim, wou, th)) {r0 : Nat} (h : r0 < nr) (f : Nat → Int64) (jt : Nat → Int64) (hf : ∀ k, k < cn (sz r0) → f k = jt (12 * r0 + k)) (ho : ∀ r, r < nr → r ≠ r0 → ∀ k, k < cn (sz r) → jt (12 * r + k) = it (12 * r + k)) : Rc E (wo_up w (Ia r0) (.inl (E.2.2.1, cn (sz r0), .inr (.inl f)))) (x, st, wk, tl, ta, tf, T, Rw, Ia, va_up F r0 f) (n, cl, vs, lk, hd, nr, so, sz, jt, oc, ow, bg, dp, td) (lim, wou, th) := by
  obtain ⟨h0, h1, h2, h3, h4, h5, h6, h7, h8, h9, h10, h11, h12⟩ := R
  have z := h8 r0 h
  refine ⟨wo_kp h0 z (by simp), wo_kp h1 z (by simp), wo_kp h2 z (by simp), wo_kp h3 z (by simp), wo_kp h4 z (by simp), h5, fun k hk => wo_kp (h6 k hk) z (by simp), fun r hr => wo_kp (h7 r hr) z (by simp), fun r hr => ?_, fun r hr k hk => ?_, h10, h11, h12⟩
  · by_cases q : r = r0
    · subst q
      rw [wo_up_s]
      simp [va_up]
    · rw [wo_up_n (fun e => q (h12 r r0 hr h e))]
      simp only [va_up, q, if_false]
      exact h8 r hr
  · by_cases q : r = r0
    · subst q
      simp only [va_up, if_true]
      exact hf k hk
    · simp only [va_up, q, if_false]
      rw [ho r hr q k hk]
      exact h9 r hr k hk
theorem Rc_addT (R : Rc E w (x, st, wk, tl, ta, tf, T, Rw, Ia, F) (n, cl, vs, lk, hd, nr, so, sz, it, oc, ow, bg, dp, td) (lim, wou, th)) {q : Nat} (hq : w q = none) (c v l : Int32) : Rc E (wo_up (wo_up (wo_up w q (.inr (2, [.int c, .int v, .int l, .null]))) ta (.inl (E.2.2.2, 40, .inr (.inr (.inr (.inr (va_up tf n (some q)))))))) st (.inr (1, [.ref ta, .int (nI (n + 1))]))) (x, st, wk, tl, ta, va_up tf n (some q), va_up T n q, Rw, Ia, F) (n + 1, upd cl n c, upd vs n v, upd lk n l, upd hd n (-1), nr, so, sz, it, oc, ow, bg, dp, td) (lim, wou, th) := by
  obtain ⟨h0, h1, h2, h3, h4, h5, h6, h7, h8, h9, h10, h11, h12⟩ := R
  have nq : ∀ {a : Nat} {y : va_E}, w a = some y → a ≠ q := fun {a y} h e => by rw [e, hq] at h; cases h
  have k3 : ∀ {a : Nat} {y : va_E}, w a = some y → a ≠ ta → a ≠ st → wo_up (wo_up (wo_up w q (.inr (2, [.int c, .int v, .int l, .null]))) ta (.inl (E.2.2.2, 40, .inr (.inr (.inr (.inr (va_up tf n (some q)))))))) st (.inr (1, [.ref ta, .int (nI (n + 1))])) a = some y := fun {a y} h e1 e2 => by rw [wo_up_n e2, wo_up_n e1, wo_up_n (nq h)]; exact h
  have tast : ta ≠ st := wo_ap h4 h1 (by simp)
  refine ⟨k3 h0 (wo_ap h0 h4 (by simp)) (wo_ap h0 h1 (by simp)), wo_up_s, k3 h2 (wo_ap h2 h4 (by simp)) (wo_ap h2 h1 (by simp)), k3 h3 (wo_ap h3 h4 (by simp)) (wo_ap h3 h1 (by simp)), by rw [wo_up_n tast, wo_up_s], fun k hk => ?_, fun k hk => ?_, fun r hr => k3 (h7 r hr) (wo_ap (h7 r hr) h4 (by simp)) (wo_ap (h7 r hr) h1 (by simp)), fun r hr => k3 (h8 r hr) (wo_ap (h8 r hr) h4 (by simp)) (wo_ap (h8 r hr) h1 (by simp)), h9, fun i j hi hj => ?_, h11, h12⟩
  · by_cases z : k = n
    · subst z; simp [va_up]
    · simp only [va_up, z, if_false]
      exact h5 k (by omega)
  · by_cases z : k = n
    · subst z
      have e : va_up T k q k = q := by simp [va_up]
      rw [e, wo_up_n (Ne.symm (nq h1)), wo_up_n (Ne.symm (nq h4)), wo_up_s]
      simp [pk_us, ro, va_rf]
    · have hk2 : k < n := by omega
      have e : va_up T n q k = T k := by simp [va_up, z]
      rw [e, pk_un z, pk_un z, pk_un z, pk_un z]
      exact k3 (h6 k hk2) (wo_ap (h6 k hk2) h4 (by simp)) (wo_ap (h6 k hk2) h1 (by simp))
  · have tq : ∀ k, k < n → T k ≠ q := fun k hk => nq (h6 k hk)
    by_cases zi : i = n <;> by_cases zj : j = n
    · intro; rw [zi, zj]
    · intro e
      simp only [va_up, zi, zj, if_true, if_false] at e
      exact absurd e.symm (tq j (by omega))
    · intro e
      simp only [va_up, zi, zj, if_true, if_false] at e
      exact absurd e (tq i (by omega))
    · intro e
      simp only [va_up, zi, zj, if_false] at e
      exact h10 i j (by omega) (by omega) e
theorem Rc_addR (R : Rc E w (x, st, wk, tl, ta, tf, T, Rw, Ia, F) (n, cl, vs, lk, hd, nr, so, sz, it, oc, ow, bg, dp, td) (lim, wou, th)) {q q2 : Nat} (hq : w q = none) (hq2 : w q2 = none) (hqq : q2 ≠ q) (hh : ∀ k, k < n → hd k = -1 ∨ ∃ r, r < nr ∧ hd k = nI r) (hnr : nr ≤ 600) (s z : Int32) (f : Nat → Int64) (jt : Nat → Int64) (hf : ∀ k, k < cn z → f k = jt (12 * nr + k)) (ho : ∀ r, r < nr → ∀ k, k < cn (sz r) → jt (12 * r + k) = it (12 * r + k)) {w2 : wo} (hw2 : w2 = wo_up (wo_up w q (.inr (0, [.int s, .ref q2]))) q2 (.inl (E.2.2.1, cn z, .inr (.inl f)))) : Rc E w2 (x, st, wk, tl, ta, tf, T, va_up Rw nr q, va_up Ia nr q2, va_up F nr f) (n, cl, vs, lk, hd, nr + 1, upd so nr s, upd sz nr z, jt, oc, ow, bg, dp, td) (lim, wou, th) := by
  obtain ⟨h0, h1, h2, h3, h4, h5, h6, h7, h8, h9, h10, h11, h12⟩ := R
  subst hw2
  have nq : ∀ {a : Nat} {y : va_E}, w a = some y → a ≠ q := fun {a y} h e => by rw [e, hq] at h; cases h
  have nq2 : ∀ {a : Nat} {y : va_E}, w a = some y → a ≠ q2 := fun {a y} h e => by rw [e, hq2] at h; cases h
  have k3 : ∀ {a : Nat} {y : va_E}, w a = some y → wo_up (wo_up w q (.inr (0, [.int s, .ref q2]))) q2 (.inl (E.2.2.1, cn z, .inr (.inl f))) a = some y := fun {a y} h => by rw [wo_up_n (nq2 h), wo_up_n (nq h)]; exact h
  have eo : ∀ {α : Type} (g : Nat → α) (v : α) {r : Nat}, r < nr → va_up g nr v r = g r := fun {α} g v {r} h => by simp [va_up, Nat.ne_of_lt h]
  have en : ∀ {α : Type} (g : Nat → α) (v : α), va_up g nr v nr = v := fun {α} g v => by simp [va_up]
  refine ⟨k3 h0, k3 h1, k3 h2, k3 h3, k3 h4, h5, fun k hk => ?_, fun r hr => ?_, fun r hr => ?_, fun r hr k hk => ?_, h10, fun i j hi hj => ?_, fun i j hi hj => ?_⟩
  · have e : ro (va_up Rw nr q) (hd k) = ro Rw (hd k) := by
      rcases hh k hk with e | ⟨r, hr, e⟩
      · simp [ro, e]
      · simp only [ro, e, cn_nI (show r < 2 ^ 31 by omega), eo Rw q hr]
    rw [e]; exact k3 (h6 k hk)
  · by_cases c : r = nr
    · subst c
      rw [en, en, pk_us, wo_up_n (Ne.symm hqq), wo_up_s]
    · have hr2 : r < nr := by omega
      rw [eo Rw q hr2, eo Ia q2 hr2, pk_un c]
      exact k3 (h7 r hr2)
  · by_cases c : r = nr
    · subst c
      rw [en, en, pk_us, wo_up_s]
    · have hr2 : r < nr := by omega
      rw [eo Ia q2 hr2, eo F f hr2, pk_un c]
      exact k3 (h8 r hr2)
  · by_cases c : r = nr
    · subst c
      rw [pk_us] at hk
      rw [en]
      exact hf k hk
    · have hr2 : r < nr := by omega
      rw [pk_un c] at hk
      rw [eo F f hr2, ho r hr2 k hk]
      exact h9 r hr2 k hk
  · have tq : ∀ k, k < nr → Rw k ≠ q := fun k hk => nq (h7 k hk)
    by_cases zi : i = nr <;> by_cases zj : j = nr
    · intro; rw [zi, zj]
    · intro e
      rw [zi, en, eo Rw q (show j < nr by omega)] at e
      exact absurd e.symm (tq j (by omega))
    · intro e
      rw [zj, en, eo Rw q (show i < nr by omega)] at e
      exact absurd e (tq i (by omega))
    · intro e
      rw [eo Rw q (show i < nr by omega), eo Rw q (show j < nr by omega)] at e
      exact h11 i j (by omega) (by omega) e
  · have tq : ∀ k, k < nr → Ia k ≠ q2 := fun k hk => nq2 (h8 k hk)
    by_cases zi : i = nr <;> by_cases zj : j = nr
    · intro; rw [zi, zj]
    · intro e
      rw [zi, en, eo Ia q2 (show j < nr by omega)] at e
      exact absurd e.symm (tq j (by omega))
    · intro e
      rw [zj, en, eo Ia q2 (show i < nr by omega)] at e
      exact absurd e (tq i (by omega))
    · intro e
      rw [eo Ia q2 (show i < nr by omega), eo Ia q2 (show j < nr by omega)] at e
      exact h12 i j (by omega) (by omega) e
end RCS
abbrev GM : Type := Nat × Nat × Nat × Nat × Nat × Nat × Nat × Nat × Nat
def Rm (E : EV) (w : wo) : GM → ST → Int32 × Int32 × Int32 → Prop
  | (m, aC, aV, aL, aH, aS, aZ, aI, aT), (n, cl, vs, lk, hd, nr, so, sz, it, oc, ow, bg, dp, td), (to, rs, nx) => w m = some (.inr (5, [.int (nI n), .ref aC, .ref aV, .ref aL, .ref aH, .int (nI nr), .ref aS, .ref aZ, .ref aI, .int oc, .int ow, .int bg, .int dp, .ref aT, .int to, .int rs, .int nx])) ∧ w aC = some (.inl (E.2.1, 40, .inl cl)) ∧ w aV = some (.inl (E.2.1, 40, .inl vs)) ∧ w aL = some (.inl (E.2.1, 40, .inl lk)) ∧ w aH = some (.inl (E.2.1, 40, .inl hd)) ∧ w aS = some (.inl (E.2.1, 520, .inl so)) ∧ w aZ = some (.inl (E.2.1, 520, .inl sz)) ∧ w aT = some (.inl (E.2.1, 10, .inl td)) ∧ w aI = some (.inl (E.2.2.1, 6240, .inr (.inl it))) ∧ [aC, aV, aL, aH, aS, aZ, aT].Nodup
section RMS
variable {E : EV} {w : wo} {m aC aV aL aH aS aZ aI aT : Nat} {n : Nat} {cl vs lk hd : Nat → Int32} {nr : Nat} {so sz : Nat → Int32} {it : Nat → Int64} {oc ow bg dp : Int32} {td : Nat → Int32} {to rs nx : Int32}
theorem Rm_m (R : Rm E w (m, aC, aV, aL, aH, aS, aZ, aI, aT) (n, cl, vs, lk, hd, nr, so, sz, it, oc, ow, bg, dp, td) (to, rs, nx)) : w m = some (.inr (5, [.int (nI n), .ref aC, .ref aV, .ref aL, .ref aH, .int (nI nr), .ref aS, .ref aZ, .ref aI, .int oc, .int ow, .int bg, .int dp, .ref aT, .int to, .int rs, .int nx])) := R.1
theorem Rm_C (R : Rm E w (m, aC, aV, aL, aH, aS, aZ, aI, aT) (n, cl, vs, lk, hd, nr, so, sz, it, oc, ow, bg, dp, td) (to, rs, nx)) : w aC = some (.inl (E.2.1, 40, .inl cl)) := R.2.1
theorem Rm_V (R : Rm E w (m, aC, aV, aL, aH, aS, aZ, aI, aT) (n, cl, vs, lk, hd, nr, so, sz, it, oc, ow, bg, dp, td) (to, rs, nx)) : w aV = some (.inl (E.2.1, 40, .inl vs)) := R.2.2.1
theorem Rm_L (R : Rm E w (m, aC, aV, aL, aH, aS, aZ, aI, aT) (n, cl, vs, lk, hd, nr, so, sz, it, oc, ow, bg, dp, td) (to, rs, nx)) : w aL = some (.inl (E.2.1, 40, .inl lk)) := R.2.2.2.1
theorem Rm_H (R : Rm E w (m, aC, aV, aL, aH, aS, aZ, aI, aT) (n, cl, vs, lk, hd, nr, so, sz, it, oc, ow, bg, dp, td) (to, rs, nx)) : w aH = some (.inl (E.2.1, 40, .inl hd)) := R.2.2.2.2.1
theorem Rm_S (R : Rm E w (m, aC, aV, aL, aH, aS, aZ, aI, aT) (n, cl, vs, lk, hd, nr, so, sz, it, oc, ow, bg, dp, td) (to, rs, nx)) : w aS = some (.inl (E.2.1, 520, .inl so)) := R.2.2.2.2.2.1
theorem Rm_Z (R : Rm E w (m, aC, aV, aL, aH, aS, aZ, aI, aT) (n, cl, vs, lk, hd, nr, so, sz, it, oc, ow, bg, dp, td) (to, rs, nx)) : w aZ = some (.inl (E.2.1, 520, .inl sz)) := R.2.2.2.2.2.2.1
theorem Rm_T (R : Rm E w (m, aC, aV, aL, aH, aS, aZ, aI, aT) (n, cl, vs, lk, hd, nr, so, sz, it, oc, ow, bg, dp, td) (to, rs, nx)) : w aT = some (.inl (E.2.1, 10, .inl td)) := R.2.2.2.2.2.2.2.1
theorem Rm_I (R : Rm E w (m, aC, aV, aL, aH, aS, aZ, aI, aT) (n, cl, vs, lk, hd, nr, so, sz, it, oc, ow, bg, dp, td) (to, rs, nx)) : w aI = some (.inl (E.2.2.1, 6240, .inr (.inl it))) := R.2.2.2.2.2.2.2.2.1
theorem Rm_nd (R : Rm E w (m, aC, aV, aL, aH, aS, aZ, aI, aT) (n, cl, vs, lk, hd, nr, so, sz, it, oc, ow, bg, dp, td) (to, rs, nx)) : [aC, aV, aL, aH, aS, aZ, aT].Nodup := R.2.2.2.2.2.2.2.2.2
theorem Rm_p_n (R : Rm E w (m, aC, aV, aL, aH, aS, aZ, aI, aT) (n, cl, vs, lk, hd, nr, so, sz, it, oc, ow, bg, dp, td) (to, rs, nx)) (n2 : Nat) : Rm E (wo_up w m (.inr (5, [.int (nI n2), .ref aC, .ref aV, .ref aL, .ref aH, .int (nI nr), .ref aS, .ref aZ, .ref aI, .int oc, .int ow, .int bg, .int dp, .ref aT, .int to, .int rs, .int nx]))) (m, aC, aV, aL, aH, aS, aZ, aI, aT) (n2, cl, vs, lk, hd, nr, so, sz, it, oc, ow, bg, dp, td) (to, rs, nx) := by
  obtain ⟨h0, h1, h2, h3, h4, h5, h6, h7, h8, h9⟩ := R
  exact ⟨wo_up_s, wo_kp h1 h0 (by simp), wo_kp h2 h0 (by simp), wo_kp h3 h0 (by simp), wo_kp h4 h0 (by simp), wo_kp h5 h0 (by simp), wo_kp h6 h0 (by simp), wo_kp h7 h0 (by simp), wo_kp h8 h0 (by simp), h9⟩
theorem Rm_p_nr (R : Rm E w (m, aC, aV, aL, aH, aS, aZ, aI, aT) (n, cl, vs, lk, hd, nr, so, sz, it, oc, ow, bg, dp, td) (to, rs, nx)) (n2 : Nat) : Rm E (wo_up w m (.inr (5, [.int (nI n), .ref aC, .ref aV, .ref aL, .ref aH, .int (nI n2), .ref aS, .ref aZ, .ref aI, .int oc, .int ow, .int bg, .int dp, .ref aT, .int to, .int rs, .int nx]))) (m, aC, aV, aL, aH, aS, aZ, aI, aT) (n, cl, vs, lk, hd, n2, so, sz, it, oc, ow, bg, dp, td) (to, rs, nx) := by
  obtain ⟨h0, h1, h2, h3, h4, h5, h6, h7, h8, h9⟩ := R
  exact ⟨wo_up_s, wo_kp h1 h0 (by simp), wo_kp h2 h0 (by simp), wo_kp h3 h0 (by simp), wo_kp h4 h0 (by simp), wo_kp h5 h0 (by simp), wo_kp h6 h0 (by simp), wo_kp h7 h0 (by simp), wo_kp h8 h0 (by simp), h9⟩
theorem Rm_p_oc (R : Rm E w (m, aC, aV, aL, aH, aS, aZ, aI, aT) (n, cl, vs, lk, hd, nr, so, sz, it, oc, ow, bg, dp, td) (to, rs, nx)) (v : Int32) : Rm E (wo_up w m (.inr (5, [.int (nI n), .ref aC, .ref aV, .ref aL, .ref aH, .int (nI nr), .ref aS, .ref aZ, .ref aI, .int v, .int ow, .int bg, .int dp, .ref aT, .int to, .int rs, .int nx]))) (m, aC, aV, aL, aH, aS, aZ, aI, aT) (n, cl, vs, lk, hd, nr, so, sz, it, v, ow, bg, dp, td) (to, rs, nx) := by
  obtain ⟨h0, h1, h2, h3, h4, h5, h6, h7, h8, h9⟩ := R
  exact ⟨wo_up_s, wo_kp h1 h0 (by simp), wo_kp h2 h0 (by simp), wo_kp h3 h0 (by simp), wo_kp h4 h0 (by simp), wo_kp h5 h0 (by simp), wo_kp h6 h0 (by simp), wo_kp h7 h0 (by simp), wo_kp h8 h0 (by simp), h9⟩
theorem Rm_p_ow (R : Rm E w (m, aC, aV, aL, aH, aS, aZ, aI, aT) (n, cl, vs, lk, hd, nr, so, sz, it, oc, ow, bg, dp, td) (to, rs, nx)) (v : Int32) : Rm E (wo_up w m (.inr (5, [.int (nI n), .ref aC, .ref aV, .ref aL, .ref aH, .int (nI nr), .ref aS, .ref aZ, .ref aI, .int oc, .int v, .int bg, .int dp, .ref aT, .int to, .int rs, .int nx]))) (m, aC, aV, aL, aH, aS, aZ, aI, aT) (n, cl, vs, lk, hd, nr, so, sz, it, oc, v, bg, dp, td) (to, rs, nx) := by
  obtain ⟨h0, h1, h2, h3, h4, h5, h6, h7, h8, h9⟩ := R
  exact ⟨wo_up_s, wo_kp h1 h0 (by simp), wo_kp h2 h0 (by simp), wo_kp h3 h0 (by simp), wo_kp h4 h0 (by simp), wo_kp h5 h0 (by simp), wo_kp h6 h0 (by simp), wo_kp h7 h0 (by simp), wo_kp h8 h0 (by simp), h9⟩
theorem Rm_p_bg (R : Rm E w (m, aC, aV, aL, aH, aS, aZ, aI, aT) (n, cl, vs, lk, hd, nr, so, sz, it, oc, ow, bg, dp, td) (to, rs, nx)) (v : Int32) : Rm E (wo_up w m (.inr (5, [.int (nI n), .ref aC, .ref aV, .ref aL, .ref aH, .int (nI nr), .ref aS, .ref aZ, .ref aI, .int oc, .int ow, .int v, .int dp, .ref aT, .int to, .int rs, .int nx]))) (m, aC, aV, aL, aH, aS, aZ, aI, aT) (n, cl, vs, lk, hd, nr, so, sz, it, oc, ow, v, dp, td) (to, rs, nx) := by
  obtain ⟨h0, h1, h2, h3, h4, h5, h6, h7, h8, h9⟩ := R
  exact ⟨wo_up_s, wo_kp h1 h0 (by simp), wo_kp h2 h0 (by simp), wo_kp h3 h0 (by simp), wo_kp h4 h0 (by simp), wo_kp h5 h0 (by simp), wo_kp h6 h0 (by simp), wo_kp h7 h0 (by simp), wo_kp h8 h0 (by simp), h9⟩
theorem Rm_p_dp (R : Rm E w (m, aC, aV, aL, aH, aS, aZ, aI, aT) (n, cl, vs, lk, hd, nr, so, sz, it, oc, ow, bg, dp, td) (to, rs, nx)) (v : Int32) : Rm E (wo_up w m (.inr (5, [.int (nI n), .ref aC, .ref aV, .ref aL, .ref aH, .int (nI nr), .ref aS, .ref aZ, .ref aI, .int oc, .int ow, .int bg, .int v, .ref aT, .int to, .int rs, .int nx]))) (m, aC, aV, aL, aH, aS, aZ, aI, aT) (n, cl, vs, lk, hd, nr, so, sz, it, oc, ow, bg, v, td) (to, rs, nx) := by
  obtain ⟨h0, h1, h2, h3, h4, h5, h6, h7, h8, h9⟩ := R
  exact ⟨wo_up_s, wo_kp h1 h0 (by simp), wo_kp h2 h0 (by simp), wo_kp h3 h0 (by simp), wo_kp h4 h0 (by simp), wo_kp h5 h0 (by simp), wo_kp h6 h0 (by simp), wo_kp h7 h0 (by simp), wo_kp h8 h0 (by simp), h9⟩
theorem Rm_p_to (R : Rm E w (m, aC, aV, aL, aH, aS, aZ, aI, aT) (n, cl, vs, lk, hd, nr, so, sz, it, oc, ow, bg, dp, td) (to, rs, nx)) (v : Int32) : Rm E (wo_up w m (.inr (5, [.int (nI n), .ref aC, .ref aV, .ref aL, .ref aH, .int (nI nr), .ref aS, .ref aZ, .ref aI, .int oc, .int ow, .int bg, .int dp, .ref aT, .int v, .int rs, .int nx]))) (m, aC, aV, aL, aH, aS, aZ, aI, aT) (n, cl, vs, lk, hd, nr, so, sz, it, oc, ow, bg, dp, td) (v, rs, nx) := by
  obtain ⟨h0, h1, h2, h3, h4, h5, h6, h7, h8, h9⟩ := R
  exact ⟨wo_up_s, wo_kp h1 h0 (by simp), wo_kp h2 h0 (by simp), wo_kp h3 h0 (by simp), wo_kp h4 h0 (by simp), wo_kp h5 h0 (by simp), wo_kp h6 h0 (by simp), wo_kp h7 h0 (by simp), wo_kp h8 h0 (by simp), h9⟩
theorem Rm_p_rs (R : Rm E w (m, aC, aV, aL, aH, aS, aZ, aI, aT) (n, cl, vs, lk, hd, nr, so, sz, it, oc, ow, bg, dp, td) (to, rs, nx)) (v : Int32) : Rm E (wo_up w m (.inr (5, [.int (nI n), .ref aC, .ref aV, .ref aL, .ref aH, .int (nI nr), .ref aS, .ref aZ, .ref aI, .int oc, .int ow, .int bg, .int dp, .ref aT, .int to, .int v, .int nx]))) (m, aC, aV, aL, aH, aS, aZ, aI, aT) (n, cl, vs, lk, hd, nr, so, sz, it, oc, ow, bg, dp, td) (to, v, nx) := by
  obtain ⟨h0, h1, h2, h3, h4, h5, h6, h7, h8, h9⟩ := R
  exact ⟨wo_up_s, wo_kp h1 h0 (by simp), wo_kp h2 h0 (by simp), wo_kp h3 h0 (by simp), wo_kp h4 h0 (by simp), wo_kp h5 h0 (by simp), wo_kp h6 h0 (by simp), wo_kp h7 h0 (by simp), wo_kp h8 h0 (by simp), h9⟩
theorem Rm_p_nx (R : Rm E w (m, aC, aV, aL, aH, aS, aZ, aI, aT) (n, cl, vs, lk, hd, nr, so, sz, it, oc, ow, bg, dp, td) (to, rs, nx)) (v : Int32) : Rm E (wo_up w m (.inr (5, [.int (nI n), .ref aC, .ref aV, .ref aL, .ref aH, .int (nI nr), .ref aS, .ref aZ, .ref aI, .int oc, .int ow, .int bg, .int dp, .ref aT, .int to, .int rs, .int v]))) (m, aC, aV, aL, aH, aS, aZ, aI, aT) (n, cl, vs, lk, hd, nr, so, sz, it, oc, ow, bg, dp, td) (to, rs, v) := by
  obtain ⟨h0, h1, h2, h3, h4, h5, h6, h7, h8, h9⟩ := R
  exact ⟨wo_up_s, wo_kp h1 h0 (by simp), wo_kp h2 h0 (by simp), wo_kp h3 h0 (by simp), wo_kp h4 h0 (by simp), wo_kp h5 h0 (by simp), wo_kp h6 h0 (by simp), wo_kp h7 h0 (by simp), wo_kp h8 h0 (by simp), h9⟩
theorem Rm_p_cl (R : Rm E w (m, aC, aV, aL, aH, aS, aZ, aI, aT) (n, cl, vs, lk, hd, nr, so, sz, it, oc, ow, bg, dp, td) (to, rs, nx)) (f : Nat → Int32) : Rm E (wo_up w aC (.inl (E.2.1, 40, .inl f))) (m, aC, aV, aL, aH, aS, aZ, aI, aT) (n, f, vs, lk, hd, nr, so, sz, it, oc, ow, bg, dp, td) (to, rs, nx) := by
  obtain ⟨h0, h1, h2, h3, h4, h5, h6, h7, h8, h9⟩ := R
  have nd := h9
  simp only [List.nodup_cons, List.mem_cons, List.not_mem_nil, not_or, or_false, not_false_eq_true, List.nodup_nil, and_true] at nd
  refine ⟨wo_kp h0 h1 (by simp), wo_up_s, ?_, ?_, ?_, ?_, ?_, ?_, wo_kp h8 h1 (by simp), h9⟩
  · rw [wo_up_n (show aV ≠ aC by intro q; subst q; simp at nd)]; exact h2
  · rw [wo_up_n (show aL ≠ aC by intro q; subst q; simp at nd)]; exact h3
  · rw [wo_up_n (show aH ≠ aC by intro q; subst q; simp at nd)]; exact h4
  · rw [wo_up_n (show aS ≠ aC by intro q; subst q; simp at nd)]; exact h5
  · rw [wo_up_n (show aZ ≠ aC by intro q; subst q; simp at nd)]; exact h6
  · rw [wo_up_n (show aT ≠ aC by intro q; subst q; simp at nd)]; exact h7
theorem Rm_p_vs (R : Rm E w (m, aC, aV, aL, aH, aS, aZ, aI, aT) (n, cl, vs, lk, hd, nr, so, sz, it, oc, ow, bg, dp, td) (to, rs, nx)) (f : Nat → Int32) : Rm E (wo_up w aV (.inl (E.2.1, 40, .inl f))) (m, aC, aV, aL, aH, aS, aZ, aI, aT) (n, cl, f, lk, hd, nr, so, sz, it, oc, ow, bg, dp, td) (to, rs, nx) := by
  obtain ⟨h0, h1, h2, h3, h4, h5, h6, h7, h8, h9⟩ := R
  have nd := h9
  simp only [List.nodup_cons, List.mem_cons, List.not_mem_nil, not_or, or_false, not_false_eq_true, List.nodup_nil, and_true] at nd
  refine ⟨wo_kp h0 h2 (by simp), ?_, wo_up_s, ?_, ?_, ?_, ?_, ?_, wo_kp h8 h2 (by simp), h9⟩
  · rw [wo_up_n (show aC ≠ aV by intro q; subst q; simp at nd)]; exact h1
  · rw [wo_up_n (show aL ≠ aV by intro q; subst q; simp at nd)]; exact h3
  · rw [wo_up_n (show aH ≠ aV by intro q; subst q; simp at nd)]; exact h4
  · rw [wo_up_n (show aS ≠ aV by intro q; subst q; simp at nd)]; exact h5
  · rw [wo_up_n (show aZ ≠ aV by intro q; subst q; simp at nd)]; exact h6
  · rw [wo_up_n (show aT ≠ aV by intro q; subst q; simp at nd)]; exact h7
theorem Rm_p_lk (R : Rm E w (m, aC, aV, aL, aH, aS, aZ, aI, aT) (n, cl, vs, lk, hd, nr, so, sz, it, oc, ow, bg, dp, td) (to, rs, nx)) (f : Nat → Int32) : Rm E (wo_up w aL (.inl (E.2.1, 40, .inl f))) (m, aC, aV, aL, aH, aS, aZ, aI, aT) (n, cl, vs, f, hd, nr, so, sz, it, oc, ow, bg, dp, td) (to, rs, nx) := by
  obtain ⟨h0, h1, h2, h3, h4, h5, h6, h7, h8, h9⟩ := R
  have nd := h9
  simp only [List.nodup_cons, List.mem_cons, List.not_mem_nil, not_or, or_false, not_false_eq_true, List.nodup_nil, and_true] at nd
  refine ⟨wo_kp h0 h3 (by simp), ?_, ?_, wo_up_s, ?_, ?_, ?_, ?_, wo_kp h8 h3 (by simp), h9⟩
  · rw [wo_up_n (show aC ≠ aL by intro q; subst q; simp at nd)]; exact h1
  · rw [wo_up_n (show aV ≠ aL by intro q; subst q; simp at nd)]; exact h2
  · rw [wo_up_n (show aH ≠ aL by intro q; subst q; simp at nd)]; exact h4
  · rw [wo_up_n (show aS ≠ aL by intro q; subst q; simp at nd)]; exact h5
  · rw [wo_up_n (show aZ ≠ aL by intro q; subst q; simp at nd)]; exact h6
  · rw [wo_up_n (show aT ≠ aL by intro q; subst q; simp at nd)]; exact h7
theorem Rm_p_hd (R : Rm E w (m, aC, aV, aL, aH, aS, aZ, aI, aT) (n, cl, vs, lk, hd, nr, so, sz, it, oc, ow, bg, dp, td) (to, rs, nx)) (f : Nat → Int32) : Rm E (wo_up w aH (.inl (E.2.1, 40, .inl f))) (m, aC, aV, aL, aH, aS, aZ, aI, aT) (n, cl, vs, lk, f, nr, so, sz, it, oc, ow, bg, dp, td) (to, rs, nx) := by
  obtain ⟨h0, h1, h2, h3, h4, h5, h6, h7, h8, h9⟩ := R
  have nd := h9
  simp only [List.nodup_cons, List.mem_cons, List.not_mem_nil, not_or, or_false, not_false_eq_true, List.nodup_nil, and_true] at nd
  refine ⟨wo_kp h0 h4 (by simp), ?_, ?_, ?_, wo_up_s, ?_, ?_, ?_, wo_kp h8 h4 (by simp), h9⟩
  · rw [wo_up_n (show aC ≠ aH by intro q; subst q; simp at nd)]; exact h1
  · rw [wo_up_n (show aV ≠ aH by intro q; subst q; simp at nd)]; exact h2
  · rw [wo_up_n (show aL ≠ aH by intro q; subst q; simp at nd)]; exact h3
  · rw [wo_up_n (show aS ≠ aH by intro q; subst q; simp at nd)]; exact h5
  · rw [wo_up_n (show aZ ≠ aH by intro q; subst q; simp at nd)]; exact h6
  · rw [wo_up_n (show aT ≠ aH by intro q; subst q; simp at nd)]; exact h7
theorem Rm_p_so (R : Rm E w (m, aC, aV, aL, aH, aS, aZ, aI, aT) (n, cl, vs, lk, hd, nr, so, sz, it, oc, ow, bg, dp, td) (to, rs, nx)) (f : Nat → Int32) : Rm E (wo_up w aS (.inl (E.2.1, 520, .inl f))) (m, aC, aV, aL, aH, aS, aZ, aI, aT) (n, cl, vs, lk, hd, nr, f, sz, it, oc, ow, bg, dp, td) (to, rs, nx) := by
  obtain ⟨h0, h1, h2, h3, h4, h5, h6, h7, h8, h9⟩ := R
  have nd := h9
  simp only [List.nodup_cons, List.mem_cons, List.not_mem_nil, not_or, or_false, not_false_eq_true, List.nodup_nil, and_true] at nd
  refine ⟨wo_kp h0 h5 (by simp), ?_, ?_, ?_, ?_, wo_up_s, ?_, ?_, wo_kp h8 h5 (by simp), h9⟩
  · rw [wo_up_n (show aC ≠ aS by intro q; subst q; simp at nd)]; exact h1
  · rw [wo_up_n (show aV ≠ aS by intro q; subst q; simp at nd)]; exact h2
  · rw [wo_up_n (show aL ≠ aS by intro q; subst q; simp at nd)]; exact h3
  · rw [wo_up_n (show aH ≠ aS by intro q; subst q; simp at nd)]; exact h4
  · rw [wo_up_n (show aZ ≠ aS by intro q; subst q; simp at nd)]; exact h6
  · rw [wo_up_n (show aT ≠ aS by intro q; subst q; simp at nd)]; exact h7
theorem Rm_p_sz (R : Rm E w (m, aC, aV, aL, aH, aS, aZ, aI, aT) (n, cl, vs, lk, hd, nr, so, sz, it, oc, ow, bg, dp, td) (to, rs, nx)) (f : Nat → Int32) : Rm E (wo_up w aZ (.inl (E.2.1, 520, .inl f))) (m, aC, aV, aL, aH, aS, aZ, aI, aT) (n, cl, vs, lk, hd, nr, so, f, it, oc, ow, bg, dp, td) (to, rs, nx) := by
  obtain ⟨h0, h1, h2, h3, h4, h5, h6, h7, h8, h9⟩ := R
  have nd := h9
  simp only [List.nodup_cons, List.mem_cons, List.not_mem_nil, not_or, or_false, not_false_eq_true, List.nodup_nil, and_true] at nd
  refine ⟨wo_kp h0 h6 (by simp), ?_, ?_, ?_, ?_, ?_, wo_up_s, ?_, wo_kp h8 h6 (by simp), h9⟩
  · rw [wo_up_n (show aC ≠ aZ by intro q; subst q; simp at nd)]; exact h1
  · rw [wo_up_n (show aV ≠ aZ by intro q; subst q; simp at nd)]; exact h2
  · rw [wo_up_n (show aL ≠ aZ by intro q; subst q; simp at nd)]; exact h3
  · rw [wo_up_n (show aH ≠ aZ by intro q; subst q; simp at nd)]; exact h4
  · rw [wo_up_n (show aS ≠ aZ by intro q; subst q; simp at nd)]; exact h5
  · rw [wo_up_n (show aT ≠ aZ by intro q; subst q; simp at nd)]; exact h7
theorem Rm_p_td (R : Rm E w (m, aC, aV, aL, aH, aS, aZ, aI, aT) (n, cl, vs, lk, hd, nr, so, sz, it, oc, ow, bg, dp, td) (to, rs, nx)) (f : Nat → Int32) : Rm E (wo_up w aT (.inl (E.2.1, 10, .inl f))) (m, aC, aV, aL, aH, aS, aZ, aI, aT) (n, cl, vs, lk, hd, nr, so, sz, it, oc, ow, bg, dp, f) (to, rs, nx) := by
  obtain ⟨h0, h1, h2, h3, h4, h5, h6, h7, h8, h9⟩ := R
  have nd := h9
  simp only [List.nodup_cons, List.mem_cons, List.not_mem_nil, not_or, or_false, not_false_eq_true, List.nodup_nil, and_true] at nd
  refine ⟨wo_kp h0 h7 (by simp), ?_, ?_, ?_, ?_, ?_, ?_, wo_up_s, wo_kp h8 h7 (by simp), h9⟩
  · rw [wo_up_n (show aC ≠ aT by intro q; subst q; simp at nd)]; exact h1
  · rw [wo_up_n (show aV ≠ aT by intro q; subst q; simp at nd)]; exact h2
  · rw [wo_up_n (show aL ≠ aT by intro q; subst q; simp at nd)]; exact h3
  · rw [wo_up_n (show aH ≠ aT by intro q; subst q; simp at nd)]; exact h4
  · rw [wo_up_n (show aS ≠ aT by intro q; subst q; simp at nd)]; exact h5
  · rw [wo_up_n (show aZ ≠ aT by intro q; subst q; simp at nd)]; exact h6
theorem Rm_p_it (R : Rm E w (m, aC, aV, aL, aH, aS, aZ, aI, aT) (n, cl, vs, lk, hd, nr, so, sz, it, oc, ow, bg, dp, td) (to, rs, nx)) (f : Nat → Int64) : Rm E (wo_up w aI (.inl (E.2.2.1, 6240, .inr (.inl f)))) (m, aC, aV, aL, aH, aS, aZ, aI, aT) (n, cl, vs, lk, hd, nr, so, sz, f, oc, ow, bg, dp, td) (to, rs, nx) := by
  obtain ⟨h0, h1, h2, h3, h4, h5, h6, h7, h8, h9⟩ := R
  exact ⟨wo_kp h0 h8 (by simp), wo_kp h1 h8 (by simp), wo_kp h2 h8 (by simp), wo_kp h3 h8 (by simp), wo_kp h4 h8 (by simp), wo_kp h5 h8 (by simp), wo_kp h6 h8 (by simp), wo_kp h7 h8 (by simp), wo_up_s, h9⟩
end RMS
/-- what stays so in every run -/
def Gd : ST → Prop
  | (n, cl, _, lk, hd, nr, so, sz, it, _) => n ≤ 40 ∧ nr ≤ 512 ∧ (∀ k, k < n → ∃ c, c < 8 ∧ cl k = nI c) ∧ (∀ k, k < n → lk k = -1 ∨ ∃ j, j < n ∧ lk k = nI j) ∧ (∀ k, k < n → hd k = -1 ∨ ∃ r, r < nr ∧ hd k = nI r) ∧ (∀ r, r < nr → ∃ s, s < 4 ∧ so r = nI s) ∧ (∀ r, r < nr → ∃ z, z < 13 ∧ sz r = nI z) ∧ (∀ r, r < nr → 2 ≤ so r → ∀ k, k < cn (sz r) → it (12 * r + k) = -1 ∨ ∃ j, j < n ∧ it (12 * r + k) = lN j ∧ (so r = 3 → cl j ≤ 2))
def RcX (E : EV) (w : wo) (x : Nat) (σ : ST) : Prop := ∃ (st wk tl ta : Nat) (tf : Nat → Option Nat) (T Rw Ia : Nat → Nat) (F : Nat → Nat → Int64) (κ : Int32 × Int32 × Int32), Rc E w (x, st, wk, tl, ta, tf, T, Rw, Ia, F) σ κ
def RmX (E : EV) (w : wo) (m : Nat) (σ : ST) : Prop := ∃ (aC aV aL aH aS aZ aI aT : Nat) (κ : Int32 × Int32 × Int32), Rm E w (m, aC, aV, aL, aH, aS, aZ, aI, aT) σ κ
theorem Rc_ex {E : EV} {A : Nat → Prop} {s : State} {w : wo} {H : Heap} {locs : List Loc} {g : GC} {σ : ST} {κ : Int32 × Int32 × Int32} (R : Rc E w g σ κ) (G : wo_G E A s w H locs) : ∃ w1 : wo, Rc E w1 g σ κ ∧ wo_G E A s w1 H locs := ⟨w, R, G⟩
theorem Rm_ex {E : EV} {A : Nat → Prop} {s : State} {w : wo} {H : Heap} {locs : List Loc} {g : GM} {σ : ST} {κ : Int32 × Int32 × Int32} (R : Rm E w g σ κ) (G : wo_G E A s w H locs) : ∃ w1 : wo, Rm E w1 g σ κ ∧ wo_G E A s w1 H locs := ⟨w, R, G⟩
theorem nar_rf (C : String) (r : Option Nat) : narrow (.object C) (va_rf r) = va_rf r := by cases r <;> rfl
theorem fit_rf (C : String) (r : Option Nat) : fits (.object C) (va_rf r) = true := by cases r <;> rfl
theorem tin_e {n k : Nat} {t : Int32} (e : t = nI k) (hk : k < n) (hn : n ≤ 1000) : tin n t = true := by rw [e]; exact tin_y hk hn
theorem cn_e {k : Nat} {t : Int32} (e : t = nI k) (hk : k < 1000) : cn t = k := by rw [e]; exact cn_nI (by omega)
theorem vin_e {n k : Nat} {t : Int32} (e : t = nI k) (hk : k < n) (hn : n ≤ 10000) : vp_in t n := by rw [e]; exact vp_in_nI hk (by omega)
end
section
/-! THE CLASS, leaves: Row, Thing, Store.find, Work.stop .. -/
theorem tin8 (c : Int32) : (tin 8 c = true) ↔ (¬ c < 0 ∧ ¬ 7 < c) := by
  rcases tin_c 8 c (by omega) with ⟨h, q⟩ | ⟨k, hk, rfl⟩
  · rw [h]
    constructor
    · intro z; cases z
    · rintro ⟨z1, z2⟩
      rcases q with q | q
      · exact absurd q z1
      · exact absurd (Int32.lt_of_lt_of_le (show (7 : Int32) < nI 8 by decide) q) z2
  · rw [tin_y hk (by omega)]
    constructor
    · intro _
      exact ⟨nI_pos (by omega), nI_nlt (a := 7) (b := k) (by omega) (by omega)⟩
    · intro _; rfl
theorem linc (c : Int32) : (lin c = true) ↔ (¬ c < 1 ∧ ¬ 100 < c) := by
  unfold lin
  rcases tin_c 101 c (by omega) with ⟨h, q⟩ | ⟨k, hk, rfl⟩
  · rw [h]
    constructor
    · intro z; cases z
    · rintro ⟨z1, z2⟩
      rcases q with q | q
      · exact absurd (Int32.lt_trans q (by decide)) z1
      · exact absurd (Int32.lt_of_lt_of_le (show (100 : Int32) < nI 101 by decide) q) z2
  · rw [tin_y hk (by omega)]
    have e1 : (nI k < 1) ↔ k < 1 := nI_ltI (b := 1) (by omega) (by omega)
    have e2 : (nI k = 0) ↔ k = 0 := nI_eq (b := 0) (by omega) (by omega)
    have e3 : ((100 : Int32) < nI k) ↔ 100 < k := nI_ltI (a := 100) (by omega) (by omega)
    simp only [Bool.true_and, Bool.not_eq_true', decide_eq_false_iff_not, e1, e2, e3]
    omega
set_option maxHeartbeats 4000000 in
set_option maxRecDepth 100000 in
theorem c_X0_isOfThings (l : Launch) {E : EV} {w : wo} {b ia : Nat} {so : Int32} (hw : w b = some (.inr (0, [.int so, .ref ia]))) : ct_i l E yX0_isOfThings wsX0_isOfThings 0 0 0 [.ref b] w (fun r w' => w' = w ∧ r = if so = 2 ∨ so = 3 then 1 else 0) := by
  intro zz
  refine wo_body (Qc := fun A => va_Qi _ (wo_B E A) A) (ret := (some .boolean)) (by decide) rfl (Nat.le_of_ble_eq_true rfl) ?_
  intro p_ e_ s_ m_ args_ below_ meth_ code_ A_ ls S hret hlk hnm G hl
  have hl : lv_has ls 1 [(0, .ref b)] := hl
  have hx := S.1
  have hb := S.2.1
  refine lv_aload_n hx hb dX0_isOfThings_0 rfl (lv_at hl 0 rfl) ?_
  refine g_get S G hw rfl (by decide +kernel) 0 (by decide) (by decide +kernel) rfl dX0_isOfThings_1 ?_
  refine lv_iconst (v := 2) hx hb dX0_isOfThings_4 (by decide) ?_
  refine lv_icmp_eq (tgt := 16) hx hb dX0_isOfThings_5 (by decide) (fun c1 => ?_) (fun c1 => ?_)
  · skip
    refine lv_iconst (v := 1) hx hb dX0_isOfThings_16 (by decide) ?_
    refine lv_goto (tgt := 21) hx hb dX0_isOfThings_17 (by decide) ?_
    refine r_int S hret hlk G rfl (Nat.le_of_ble_eq_true rfl) (Nat.le_of_ble_eq_true rfl) dX0_isOfThings_21 ?_
    exact ⟨rfl, by simp [c1]⟩
  · skip
    refine lv_aload_n hx hb dX0_isOfThings_8 rfl (lv_at hl 0 rfl) ?_
    refine g_get S G hw rfl (by decide +kernel) 0 (by decide) (by decide +kernel) rfl dX0_isOfThings_9 ?_
    refine lv_iconst (v := 3) hx hb dX0_isOfThings_12 (by decide) ?_
    refine lv_icmp_ne (tgt := 20) hx hb dX0_isOfThings_13 (by decide) (fun c2 => ?_) (fun c2 => ?_)
    · skip
      refine lv_iconst (v := 0) hx hb dX0_isOfThings_20 (by decide) ?_
      refine r_int S hret hlk G rfl (Nat.le_of_ble_eq_true rfl) (Nat.le_of_ble_eq_true rfl) dX0_isOfThings_21 ?_
      exact ⟨rfl, by simp [c1, c2]⟩
    · skip
      refine lv_iconst (v := 1) hx hb dX0_isOfThings_16 (by decide) ?_
      refine lv_goto (tgt := 21) hx hb dX0_isOfThings_17 (by decide) ?_
      refine r_int S hret hlk G rfl (Nat.le_of_ble_eq_true rfl) (Nat.le_of_ble_eq_true rfl) dX0_isOfThings_21 ?_
      exact ⟨rfl, by simp [c1, c2]⟩

set_option maxHeartbeats 4000000 in
set_option maxRecDepth 100000 in
theorem c_X0_hasItems (l : Launch) {E : EV} {w : wo} {b ia N : Nat} {so : Int32} {f : Nat → Int64} (hw : w b = some (.inr (0, [.int so, .ref ia]))) (ha : w ia = some (.inl (E.2.2.1, N, .inr (.inl f)))) (i z : Int32) : ct_i l E yX0_hasItems wsX0_hasItems 0 0 0 [.ref b, .int i, .int z] w (fun r w' => w' = w ∧ r = if (¬ i < 0 ∧ ¬ z < 0) ∧ i ≤ nI N - z then 1 else 0) := by
  intro zz
  refine wo_body (Qc := fun A => va_Qi _ (wo_B E A) A) (ret := (some .boolean)) (by decide) rfl (Nat.le_of_ble_eq_true rfl) ?_
  intro p_ e_ s_ m_ args_ below_ meth_ code_ A_ ls S hret hlk hnm G hl
  have hl : lv_has ls 3 [(0, .ref b), (1, .int i), (2, .int z)] := hl
  have hx := S.1
  have hb := S.2.1
  refine lv_iload_n hx hb dX0_hasItems_0 rfl (lv_at hl 1 rfl) ?_
  refine lv_if_lt (tgt := 23) hx hb dX0_hasItems_1 (by decide) (fun c1 => ?_) (fun c1 => ?_)
  · skip
    refine lv_iconst (v := 0) hx hb dX0_hasItems_23 (by decide) ?_
    refine r_int S hret hlk G rfl (Nat.le_of_ble_eq_true rfl) (Nat.le_of_ble_eq_true rfl) dX0_hasItems_24 ?_
    exact ⟨rfl, by rw [if_neg (by rintro ⟨⟨q, q2⟩, q3⟩; exact q c1)]⟩
  · skip
    refine lv_iload_n hx hb dX0_hasItems_4 rfl (lv_at hl 2 rfl) ?_
    refine lv_if_lt (tgt := 23) hx hb dX0_hasItems_5 (by decide) (fun c2 => ?_) (fun c2 => ?_)
    · skip
      refine lv_iconst (v := 0) hx hb dX0_hasItems_23 (by decide) ?_
      refine r_int S hret hlk G rfl (Nat.le_of_ble_eq_true rfl) (Nat.le_of_ble_eq_true rfl) dX0_hasItems_24 ?_
      exact ⟨rfl, by rw [if_neg (by rintro ⟨⟨q, q2⟩, q3⟩; exact q2 c2)]⟩
    · skip
      refine lv_iload_n hx hb dX0_hasItems_8 rfl (lv_at hl 1 rfl) ?_
      refine lv_aload_n hx hb dX0_hasItems_9 rfl (lv_at hl 0 rfl) ?_
      refine g_get S G hw rfl (by decide +kernel) 1 (by decide) (by decide +kernel) rfl dX0_hasItems_10 ?_
      refine g_llen S G ha dX0_hasItems_13 ?_
      refine lv_iload_n hx hb dX0_hasItems_14 rfl (lv_at hl 2 rfl) ?_
      refine lv_isub hx hb dX0_hasItems_15 ?_
      refine lv_topi (fun a3 ea3 => ?_)
      refine lv_icmp_gt (tgt := 23) hx hb dX0_hasItems_16 (by decide) (fun c4 => ?_) (fun c4 => ?_)
      · skip
        refine lv_iconst (v := 0) hx hb dX0_hasItems_23 (by decide) ?_
        refine r_int S hret hlk G rfl (Nat.le_of_ble_eq_true rfl) (Nat.le_of_ble_eq_true rfl) dX0_hasItems_24 ?_
        exact ⟨rfl, by rw [if_neg (by rintro ⟨⟨q, q2⟩, q3⟩; rw [ea3] at c4; exact absurd c4 (Int32.not_lt.mpr q3))]⟩
      · skip
        refine lv_iconst (v := 1) hx hb dX0_hasItems_19 (by decide) ?_
        refine lv_goto (tgt := 24) hx hb dX0_hasItems_20 (by decide) ?_
        refine r_int S hret hlk G rfl (Nat.le_of_ble_eq_true rfl) (Nat.le_of_ble_eq_true rfl) dX0_hasItems_24 ?_
        exact ⟨rfl, by rw [if_pos ⟨⟨c1, c2⟩, by rw [ea3] at c4; exact Int32.not_lt.mp c4⟩]⟩

set_option maxHeartbeats 4000000 in
set_option maxRecDepth 100000 in
theorem c_X2_isOf (l : Launch) {E : EV} {w : wo} {b : Nat} {x v lk : Int32} {rw : Value} (hw : w b = some (.inr (2, [.int x, .int v, .int lk, rw]))) (c : Int32) : ct_i l E yX2_isOf wsX2_isOf 0 0 0 [.ref b, .int c] w (fun r w' => w' = w ∧ r = if isof x c = true then 1 else 0) := by
  intro zz
  refine wo_body (Qc := fun A => va_Qi _ (wo_B E A) A) (ret := (some .boolean)) (by decide) rfl (Nat.le_of_ble_eq_true rfl) ?_
  intro p_ e_ s_ m_ args_ below_ meth_ code_ A_ ls S hret hlk hnm G hl
  have hl : lv_has ls 2 [(0, .ref b), (1, .int c)] := hl
  have hx := S.1
  have hb := S.2.1
  refine lv_aload_n hx hb dX2_isOf_0 rfl (lv_at hl 0 rfl) ?_
  refine g_get S G hw rfl (by decide +kernel) 0 (by decide) (by decide +kernel) rfl dX2_isOf_1 ?_
  refine lv_iload_n hx hb dX2_isOf_4 rfl (lv_at hl 1 rfl) ?_
  refine lv_icmp_eq (tgt := 24) hx hb dX2_isOf_5 (by decide) (fun c1 => ?_) (fun c1 => ?_)
  · skip
    refine lv_iconst (v := 1) hx hb dX2_isOf_24 (by decide) ?_
    refine lv_goto (tgt := 29) hx hb dX2_isOf_25 (by decide) ?_
    refine r_int S hret hlk G rfl (Nat.le_of_ble_eq_true rfl) (Nat.le_of_ble_eq_true rfl) dX2_isOf_29 ?_
    exact ⟨rfl, by simp [c1, isof, Int32.not_le, Int32.not_lt]⟩
  · skip
    refine lv_iload_n hx hb dX2_isOf_8 rfl (lv_at hl 1 rfl) ?_
    refine lv_aload_n hx hb dX2_isOf_9 rfl (lv_at hl 0 rfl) ?_
    refine g_get S G hw rfl (by decide +kernel) 0 (by decide) (by decide +kernel) rfl dX2_isOf_10 ?_
    refine lv_icmp_ge (tgt := 28) hx hb dX2_isOf_13 (by decide) (fun c2 => ?_) (fun c2 => ?_)
    · skip
      refine lv_iconst (v := 0) hx hb dX2_isOf_28 (by decide) ?_
      refine r_int S hret hlk G rfl (Nat.le_of_ble_eq_true rfl) (Nat.le_of_ble_eq_true rfl) dX2_isOf_29 ?_
      have q9 := Int32.not_lt.mpr c2
      exact ⟨rfl, by simp [c1, q9, isof]⟩
    · skip
      refine lv_aload_n hx hb dX2_isOf_16 rfl (lv_at hl 0 rfl) ?_
      refine g_get S G hw rfl (by decide +kernel) 0 (by decide) (by decide +kernel) rfl dX2_isOf_17 ?_
      refine lv_iconst (v := 2) hx hb dX2_isOf_20 (by decide) ?_
      refine lv_icmp_gt (tgt := 28) hx hb dX2_isOf_21 (by decide) (fun c3 => ?_) (fun c3 => ?_)
      · skip
        refine lv_iconst (v := 0) hx hb dX2_isOf_28 (by decide) ?_
        refine r_int S hret hlk G rfl (Nat.le_of_ble_eq_true rfl) (Nat.le_of_ble_eq_true rfl) dX2_isOf_29 ?_
        exact ⟨rfl, by simp [c1, c2, c3, isof, Int32.not_le, Int32.not_lt]⟩
      · skip
        refine lv_iconst (v := 1) hx hb dX2_isOf_24 (by decide) ?_
        refine lv_goto (tgt := 29) hx hb dX2_isOf_25 (by decide) ?_
        refine r_int S hret hlk G rfl (Nat.le_of_ble_eq_true rfl) (Nat.le_of_ble_eq_true rfl) dX2_isOf_29 ?_
        exact ⟨rfl, by simp [c1, c2, c3, isof, Int32.not_le, Int32.not_lt]⟩

set_option maxHeartbeats 4000000 in
set_option maxRecDepth 100000 in
theorem c_X2_heldSort_n (l : Launch) {E : EV} {w : wo} {b : Nat} {x v lk : Int32} (hw : w b = some (.inr (2, [.int x, .int v, .int lk, .null]))) : ct_i l E yX2_heldSort wsX2_heldSort 0 0 0 [.ref b] w (fun r w' => w' = w ∧ r = -1) := by
  intro zz
  refine wo_body (Qc := fun A => va_Qi _ (wo_B E A) A) (ret := (some .int)) (by decide) rfl (Nat.le_of_ble_eq_true rfl) ?_
  intro p_ e_ s_ m_ args_ below_ meth_ code_ A_ ls S hret hlk hnm G hl
  have hl : lv_has ls 1 [(0, .ref b)] := hl
  have hx := S.1
  have hb := S.2.1
  refine lv_aload_n hx hb dX2_heldSort_0 rfl (lv_at hl 0 rfl) ?_
  refine g_get S G hw rfl (by decide +kernel) 3 (by decide) (by decide +kernel) rfl dX2_heldSort_1 ?_
  refine lv_ifnonnullN hx hb dX2_heldSort_4 ?_
  refine lv_iconst (v := (-1)) hx hb dX2_heldSort_7 (by decide) ?_
  refine lv_goto (tgt := 18) hx hb dX2_heldSort_8 (by decide) ?_
  refine r_int S hret hlk G rfl (Nat.le_of_ble_eq_true rfl) (Nat.le_of_ble_eq_true rfl) dX2_heldSort_18 ?_
  exact ⟨rfl, rfl⟩

set_option maxHeartbeats 4000000 in
set_option maxRecDepth 100000 in
theorem c_X2_heldSort_y (l : Launch) {E : EV} {w : wo} {b q ia : Nat} {x v lk so : Int32} (hw : w b = some (.inr (2, [.int x, .int v, .int lk, .ref q]))) (hq : w q = some (.inr (0, [.int so, .ref ia]))) : ct_i l E yX2_heldSort wsX2_heldSort 0 0 0 [.ref b] w (fun r w' => w' = w ∧ r = so) := by
  intro zz
  refine wo_body (Qc := fun A => va_Qi _ (wo_B E A) A) (ret := (some .int)) (by decide) rfl (Nat.le_of_ble_eq_true rfl) ?_
  intro p_ e_ s_ m_ args_ below_ meth_ code_ A_ ls S hret hlk hnm G hl
  have hl : lv_has ls 1 [(0, .ref b)] := hl
  have hx := S.1
  have hb := S.2.1
  refine lv_aload_n hx hb dX2_heldSort_0 rfl (lv_at hl 0 rfl) ?_
  refine g_get S G hw rfl (by decide +kernel) 3 (by decide) (by decide +kernel) rfl dX2_heldSort_1 ?_
  refine lv_ifnonnull (tgt := 11) hx hb dX2_heldSort_4 (by decide) ?_
  refine lv_aload_n hx hb dX2_heldSort_11 rfl (lv_at hl 0 rfl) ?_
  refine g_get S G hw rfl (by decide +kernel) 3 (by decide) (by decide +kernel) rfl dX2_heldSort_12 ?_
  refine g_get S G hq rfl (by decide +kernel) 0 (by decide) (by decide +kernel) rfl dX2_heldSort_15 ?_
  refine r_int S hret hlk G rfl (Nat.le_of_ble_eq_true rfl) (Nat.le_of_ble_eq_true rfl) dX2_heldSort_18 ?_
  exact ⟨rfl, rfl⟩

set_option maxHeartbeats 4000000 in
set_option maxRecDepth 100000 in
theorem c_X0_put (l : Launch) {E : EV} {w : wo} {b ia N k : Nat} {so : Int32} {f : Nat → Int64} (hw : w b = some (.inr (0, [.int so, .ref ia]))) (ha : w ia = some (.inl (E.2.2.1, N, .inr (.inl f)))) {i : Int32} (ei : i = nI k) (hk : k < N) (hN : N ≤ 1000) (v : Int64) : ct_l l E yX0_put wsX0_put 0 0 0 [.ref b, .int i, .long v] w (fun r w' => w' = wo_up w ia (.inl (E.2.2.1, N, .inr (.inl (vp_updL f k v)))) ∧ r = f k) := by
  intro zz
  refine wo_body (Qc := fun A => va_Ql _ (wo_B E A) A) (ret := (some .long)) (by decide) rfl (Nat.le_of_ble_eq_true rfl) ?_
  intro p_ e_ s_ m_ args_ below_ meth_ code_ A_ ls S hret hlk hnm G hl
  have hl : lv_has ls 6 [(0, .ref b), (1, .int i), (2, .long v)] := hl
  have hx := S.1
  have hb := S.2.1
  refine lv_aload_n hx hb dX0_put_0 rfl (lv_at hl 0 rfl) ?_
  refine g_get S G hw rfl (by decide +kernel) 1 (by decide) (by decide +kernel) rfl dX0_put_1 ?_
  refine lv_iload_n hx hb dX0_put_4 rfl (lv_at hl 1 rfl) ?_
  refine g_lald S G ha (vin_e ei hk (by omega)) dX0_put_5 ?_
  refine lv_lstore (lv' := [(4, .long (f (Int32.toNatClampNeg i))), (0, .ref b), (1, .int i), (2, .long v)]) hx hb dX0_put_6 hl (by decide) rfl (fun ls hl => ?_)
  refine lv_aload_n hx hb dX0_put_8 rfl (lv_at hl 1 rfl) ?_
  refine g_get S G hw rfl (by decide +kernel) 1 (by decide) (by decide +kernel) rfl dX0_put_9 ?_
  refine lv_iload_n hx hb dX0_put_12 rfl (lv_at hl 2 rfl) ?_
  refine lv_lload_n hx hb dX0_put_13 rfl (lv_at hl 3 rfl) ?_
  refine g_last S G ha (vin_e ei hk (by omega)) dX0_put_14 (fun H locs G => ?_)
  refine lv_lload hx hb dX0_put_15 (lv_at hl 0 rfl) ?_
  refine r_long S hret hlk G (Nat.le_of_ble_eq_true rfl) (Nat.le_of_ble_eq_true rfl) dX0_put_17 ?_
  have e9 : Int32.toNatClampNeg i = k := cn_e ei (by omega)
  exact ⟨by rw [e9], by rw [e9]⟩

set_option maxHeartbeats 4000000 in
set_option maxRecDepth 100000 in
theorem c_X4_isClass (l : Launch) {E : EV} {w : wo} (c : Int32) : ct_i l E yX4_isClass wsX4_isClass 0 0 0 [.int c] w (fun r w' => w' = w ∧ r = if tin 8 c = true then 1 else 0) := by
  intro zz
  refine wo_body (Qc := fun A => va_Qi _ (wo_B E A) A) (ret := (some .boolean)) (by decide) rfl (Nat.le_of_ble_eq_true rfl) ?_
  intro p_ e_ s_ m_ args_ below_ meth_ code_ A_ ls S hret hlk hnm G hl
  have hl : lv_has ls 1 [(0, .int c)] := hl
  have hx := S.1
  have hb := S.2.1
  refine lv_iload_n hx hb dX4_isClass_0 rfl (lv_at hl 0 rfl) ?_
  refine lv_if_lt (tgt := 14) hx hb dX4_isClass_1 (by decide) (fun c1 => ?_) (fun c1 => ?_)
  · skip
    refine lv_iconst (v := 0) hx hb dX4_isClass_14 (by decide) ?_
    refine r_int S hret hlk G rfl (Nat.le_of_ble_eq_true rfl) (Nat.le_of_ble_eq_true rfl) dX4_isClass_15 ?_
    exact ⟨rfl, by simp [c1, tin8, Int32.not_lt, Int32.not_le]⟩
  · skip
    refine lv_iload_n hx hb dX4_isClass_4 rfl (lv_at hl 0 rfl) ?_
    refine lv_bipush (v := 7) hx hb dX4_isClass_5 (by decide) ?_
    refine lv_icmp_gt (tgt := 14) hx hb dX4_isClass_7 (by decide) (fun c2 => ?_) (fun c2 => ?_)
    · skip
      refine lv_iconst (v := 0) hx hb dX4_isClass_14 (by decide) ?_
      refine r_int S hret hlk G rfl (Nat.le_of_ble_eq_true rfl) (Nat.le_of_ble_eq_true rfl) dX4_isClass_15 ?_
      exact ⟨rfl, by simp [c1, c2, tin8, Int32.not_lt, Int32.not_le]⟩
    · skip
      refine lv_iconst (v := 1) hx hb dX4_isClass_10 (by decide) ?_
      refine lv_goto (tgt := 15) hx hb dX4_isClass_11 (by decide) ?_
      refine r_int S hret hlk G rfl (Nat.le_of_ble_eq_true rfl) (Nat.le_of_ble_eq_true rfl) dX4_isClass_15 ?_
      exact ⟨rfl, by simp [c1, c2, tin8, Int32.not_lt, Int32.not_le]⟩

set_option maxHeartbeats 4000000 in
set_option maxRecDepth 100000 in
theorem c_X4_isLimit (l : Launch) {E : EV} {w : wo} (c : Int32) : ct_i l E yX4_isLimit wsX4_isLimit 0 0 0 [.int c] w (fun r w' => w' = w ∧ r = if lin c = true then 1 else 0) := by
  intro zz
  refine wo_body (Qc := fun A => va_Qi _ (wo_B E A) A) (ret := (some .boolean)) (by decide) rfl (Nat.le_of_ble_eq_true rfl) ?_
  intro p_ e_ s_ m_ args_ below_ meth_ code_ A_ ls S hret hlk hnm G hl
  have hl : lv_has ls 1 [(0, .int c)] := hl
  have hx := S.1
  have hb := S.2.1
  refine lv_iload_n hx hb dX4_isLimit_0 rfl (lv_at hl 0 rfl) ?_
  refine lv_iconst (v := 1) hx hb dX4_isLimit_1 (by decide) ?_
  refine lv_icmp_lt (tgt := 15) hx hb dX4_isLimit_2 (by decide) (fun c1 => ?_) (fun c1 => ?_)
  · skip
    refine lv_iconst (v := 0) hx hb dX4_isLimit_15 (by decide) ?_
    refine r_int S hret hlk G rfl (Nat.le_of_ble_eq_true rfl) (Nat.le_of_ble_eq_true rfl) dX4_isLimit_16 ?_
    exact ⟨rfl, by simp [c1, linc, Int32.not_lt, Int32.not_le]⟩
  · skip
    refine lv_iload_n hx hb dX4_isLimit_5 rfl (lv_at hl 0 rfl) ?_
    refine lv_bipush (v := 100) hx hb dX4_isLimit_6 (by decide) ?_
    refine lv_icmp_gt (tgt := 15) hx hb dX4_isLimit_8 (by decide) (fun c2 => ?_) (fun c2 => ?_)
    · skip
      refine lv_iconst (v := 0) hx hb dX4_isLimit_15 (by decide) ?_
      refine r_int S hret hlk G rfl (Nat.le_of_ble_eq_true rfl) (Nat.le_of_ble_eq_true rfl) dX4_isLimit_16 ?_
      exact ⟨rfl, by simp [c1, c2, linc, Int32.not_lt, Int32.not_le]⟩
    · skip
      refine lv_iconst (v := 1) hx hb dX4_isLimit_11 (by decide) ?_
      refine lv_goto (tgt := 16) hx hb dX4_isLimit_12 (by decide) ?_
      refine r_int S hret hlk G rfl (Nat.le_of_ble_eq_true rfl) (Nat.le_of_ble_eq_true rfl) dX4_isLimit_16 ?_
      exact ⟨rfl, by simp [c1, c2, linc, Int32.not_lt, Int32.not_le]⟩
end
section
/-! THE CLASS: Store.find, tell, refuse, the Work's stop .. -/
theorem Rc_Tn {E : EV} {w : wo} {x st wk tl ta : Nat} {tf : Nat → Option Nat} {T Rw Ia : Nat → Nat} {F : Nat → Nat → Int64} {n : Nat} {cl vs lk hd : Nat → Int32} {nr : Nat} {so sz : Nat → Int32} {it : Nat → Int64} {oc ow bg dp : Int32} {td : Nat → Int32} {lim wou th : Int32} (R : Rc E w (x, st, wk, tl, ta, tf, T, Rw, Ia, F) (n, cl, vs, lk, hd, nr, so, sz, it, oc, ow, bg, dp, td) (lim, wou, th)) {k : Nat} (hk : k < n) (e : hd k = -1) : w (T k) = some (.inr (2, [.int (cl k), .int (vs k), .int (lk k), .null])) := by
  have q := Rc_T R k hk
  rw [show ro Rw (hd k) = none by simp [ro, e]] at q
  exact q
theorem Rc_Ty {E : EV} {w : wo} {x st wk tl ta : Nat} {tf : Nat → Option Nat} {T Rw Ia : Nat → Nat} {F : Nat → Nat → Int64} {n : Nat} {cl vs lk hd : Nat → Int32} {nr : Nat} {so sz : Nat → Int32} {it : Nat → Int64} {oc ow bg dp : Int32} {td : Nat → Int32} {lim wou th : Int32} (R : Rc E w (x, st, wk, tl, ta, tf, T, Rw, Ia, F) (n, cl, vs, lk, hd, nr, so, sz, it, oc, ow, bg, dp, td) (lim, wou, th)) {k r : Nat} (hk : k < n) (e : hd k = nI r) (hr : r < nr) (hnr : nr ≤ 512) : w (T k) = some (.inr (2, [.int (cl k), .int (vs k), .int (lk k), .ref (Rw r)])) := by
  have q := Rc_T R k hk
  have h0 : ¬ nI r = -1 := fun z => by
    have h1 := congrArg Int32.toInt z
    rw [nI_toInt (show r < 2 ^ 31 by omega)] at h1
    have h2 : (-1 : Int32).toInt = -1 := by decide
    omega
  rw [show ro Rw (hd k) = some (Rw r) by simp [ro, e, h0, cn_nI (show r < 2 ^ 31 by omega)]] at q
  exact q
theorem Rc_p_hdn {E : EV} {w : wo} {x st wk tl ta : Nat} {tf : Nat → Option Nat} {T Rw Ia : Nat → Nat} {F : Nat → Nat → Int64} {n : Nat} {cl vs lk hd : Nat → Int32} {nr : Nat} {so sz : Nat → Int32} {it : Nat → Int64} {oc ow bg dp : Int32} {td : Nat → Int32} {lim wou th : Int32} (R : Rc E w (x, st, wk, tl, ta, tf, T, Rw, Ia, F) (n, cl, vs, lk, hd, nr, so, sz, it, oc, ow, bg, dp, td) (lim, wou, th)) {k0 : Nat} (h : k0 < n) : Rc E (wo_up w (T k0) (.inr (2, [.int (cl k0), .int (vs k0), .int (lk k0), .null]))) (x, st, wk, tl, ta, tf, T, Rw, Ia, F) (n, cl, vs, lk, upd hd k0 (-1), nr, so, sz, it, oc, ow, bg, dp, td) (lim, wou, th) := by
  have q := Rc_p_hd R h (-1)
  rw [show ro Rw (-1) = none by simp [ro]] at q
  exact q
set_option maxHeartbeats 4000000 in
set_option maxRecDepth 100000 in
theorem c_X1_find_y (l : Launch) {E : EV} {w : wo} {x st wk tl ta : Nat} {tf : Nat → Option Nat} {T Rw Ia : Nat → Nat} {F : Nat → Nat → Int64} {n : Nat} {cl vs lk hd : Nat → Int32} {nr : Nat} {so sz : Nat → Int32} {it : Nat → Int64} {oc ow bg dp : Int32} {td : Nat → Int32} {lim wou th : Int32} (R : Rc E w (x, st, wk, tl, ta, tf, T, Rw, Ia, F) (n, cl, vs, lk, hd, nr, so, sz, it, oc, ow, bg, dp, td) (lim, wou, th)) (Kn : n ≤ 40) {t : Int32} {k : Nat} (ek : t = nI k) (hk : k < n) : ct_q l E yX1_find wsX1_find 0 0 0 [.ref st, .int t] w (fun r w' => w' = w ∧ r = some (T k)) := by
  intro zz
  refine wo_body (Qc := fun A => va_Qq _ (wo_B E A) A) (ret := (some (.object "ClassRunner$Thing"))) (by decide) rfl (Nat.le_of_ble_eq_true rfl) ?_
  intro p_ e_ s_ m_ args_ below_ meth_ code_ A_ ls S hret hlk hnm G hl
  have hl : lv_has ls 2 [(0, .ref st), (1, .int t)] := hl
  have hx := S.1
  have hb := S.2.1
  refine lv_iload_n hx hb dX1_find_0 rfl (lv_at hl 1 rfl) ?_
  refine lv_if_lt (tgt := 21) hx hb dX1_find_1 (by decide) (fun c1 => absurd c1 (by rw [ek]; exact nI_pos (by omega))) (fun c1 => ?_)
  refine lv_iload_n hx hb dX1_find_4 rfl (lv_at hl 1 rfl) ?_
  refine lv_aload_n hx hb dX1_find_5 rfl (lv_at hl 0 rfl) ?_
  refine g_get S G (Rc_st R) rfl (by decide +kernel) 1 (by decide) (by decide +kernel) rfl dX1_find_6 ?_
  refine lv_icmp_ge (tgt := 21) hx hb dX1_find_9 (by decide) (fun c2 => absurd c2 (by rw [ek]; exact nI_ge hk (by omega))) (fun c2 => ?_)
  refine lv_aload_n hx hb dX1_find_12 rfl (lv_at hl 0 rfl) ?_
  refine g_get S G (Rc_st R) rfl (by decide +kernel) 0 (by decide) (by decide +kernel) rfl dX1_find_13 ?_
  refine lv_iload_n hx hb dX1_find_16 rfl (lv_at hl 1 rfl) ?_
  refine g_aald S G (Rc_ta R) (vin_e ek (show k < 40 by omega) (by omega)) dX1_find_17 ?_
  rw [show Int32.toNatClampNeg t = k from cn_e ek (by omega), Rc_tf R k hk]
  refine lv_goto (tgt := 22) hx hb dX1_find_18 (by decide) ?_
  refine r_ref (r := (some (T k))) S hret hlk G rfl (Nat.le_of_ble_eq_true rfl) (Nat.le_of_ble_eq_true rfl) dX1_find_22 ?_
  exact ⟨rfl, rfl⟩

set_option maxHeartbeats 4000000 in
set_option maxRecDepth 100000 in
theorem c_X1_find_n (l : Launch) {E : EV} {w : wo} {x st wk tl ta : Nat} {tf : Nat → Option Nat} {T Rw Ia : Nat → Nat} {F : Nat → Nat → Int64} {n : Nat} {cl vs lk hd : Nat → Int32} {nr : Nat} {so sz : Nat → Int32} {it : Nat → Int64} {oc ow bg dp : Int32} {td : Nat → Int32} {lim wou th : Int32} (R : Rc E w (x, st, wk, tl, ta, tf, T, Rw, Ia, F) (n, cl, vs, lk, hd, nr, so, sz, it, oc, ow, bg, dp, td) (lim, wou, th)) (Kn : n ≤ 40) {t : Int32} (ho : t < 0 ∨ nI n ≤ t) : ct_q l E yX1_find wsX1_find 0 0 0 [.ref st, .int t] w (fun r w' => w' = w ∧ r = none) := by
  intro zz
  refine wo_body (Qc := fun A => va_Qq _ (wo_B E A) A) (ret := (some (.object "ClassRunner$Thing"))) (by decide) rfl (Nat.le_of_ble_eq_true rfl) ?_
  intro p_ e_ s_ m_ args_ below_ meth_ code_ A_ ls S hret hlk hnm G hl
  have hl : lv_has ls 2 [(0, .ref st), (1, .int t)] := hl
  have hx := S.1
  have hb := S.2.1
  refine lv_iload_n hx hb dX1_find_0 rfl (lv_at hl 1 rfl) ?_
  refine lv_if_lt (tgt := 21) hx hb dX1_find_1 (by decide) (fun c1 => ?_) (fun c1 => ?_)
  · skip
    refine lv_null hx hb dX1_find_21 ?_
    refine r_ref (r := none) S hret hlk G rfl (Nat.le_of_ble_eq_true rfl) (Nat.le_of_ble_eq_true rfl) dX1_find_22 ?_
    exact ⟨rfl, rfl⟩
  · skip
    refine lv_iload_n hx hb dX1_find_4 rfl (lv_at hl 1 rfl) ?_
    refine lv_aload_n hx hb dX1_find_5 rfl (lv_at hl 0 rfl) ?_
    refine g_get S G (Rc_st R) rfl (by decide +kernel) 1 (by decide) (by decide +kernel) rfl dX1_find_6 ?_
    refine lv_icmp_ge (tgt := 21) hx hb dX1_find_9 (by decide) (fun c2 => ?_) (fun c2 => ?_)
    · skip
      refine lv_null hx hb dX1_find_21 ?_
      refine r_ref (r := none) S hret hlk G rfl (Nat.le_of_ble_eq_true rfl) (Nat.le_of_ble_eq_true rfl) dX1_find_22 ?_
      exact ⟨rfl, rfl⟩
    · skip
      exact ho.elim (fun q => absurd q c1) (fun q => absurd q c2)

set_option maxHeartbeats 4000000 in
set_option maxRecDepth 100000 in
theorem c_X4_tell (l : Launch) {E : EV} {w : wo} {x st wk tl ta : Nat} {tf : Nat → Option Nat} {T Rw Ia : Nat → Nat} {F : Nat → Nat → Int64} {n : Nat} {cl vs lk hd : Nat → Int32} {nr : Nat} {so sz : Nat → Int32} {it : Nat → Int64} {oc ow bg dp : Int32} {td : Nat → Int32} {lim wou th : Int32} (R : Rc E w (x, st, wk, tl, ta, tf, T, Rw, Ia, F) (n, cl, vs, lk, hd, nr, so, sz, it, oc, ow, bg, dp, td) (lim, wou, th)) {o : Int32} {j : Nat} (ej : o = nI j) (hj : j < 10) : ct_i l E yX4_tell wsX4_tell 0 0 0 [.ref x, .int o] w (fun r w' => r = o ∧ Rc E w' (x, st, wk, tl, ta, tf, T, Rw, Ia, F) (n, cl, vs, lk, hd, nr, so, sz, it, o, if o = 7 then th else ow, bg, dp, upd td (cn o) (td (cn o) + 1)) (lim, wou, th)) := by
  intro zz
  refine wo_body (Qc := fun A => va_Qi _ (wo_B E A) A) (ret := (some .int)) (by decide) rfl (Nat.le_of_ble_eq_true rfl) ?_
  intro p_ e_ s_ m_ args_ below_ meth_ code_ A_ ls S hret hlk hnm G hl
  have hl : lv_has ls 2 [(0, .ref x), (1, .int o)] := hl
  have hx := S.1
  have hb := S.2.1
  refine lv_aload_n hx hb dX4_tell_0 rfl (lv_at hl 0 rfl) ?_
  refine lv_iload_n hx hb dX4_tell_1 rfl (lv_at hl 1 rfl) ?_
  refine g_put (fs' := [.ref st, .ref wk, .ref tl, .int o, .int ow]) (ty := .int) (v := .int o) S G (Rc_x R) rfl tyX4 tyX4_ok nmX4 (by decide +kernel) 3 (by decide) (by decide +kernel) rfl (by decide +kernel) rfl rfl (Nat.le_of_ble_eq_true rfl) rfl dX4_tell_2 (fun H locs G => ?_)
  obtain ⟨w, R, G⟩ := Rc_ex (Rc_p_oc R o) G
  refine lv_aload_n hx hb dX4_tell_5 rfl (lv_at hl 0 rfl) ?_
  refine g_get S G (Rc_x R) rfl (by decide +kernel) 2 (by decide) (by decide +kernel) rfl dX4_tell_6 ?_
  refine lv_iload_n hx hb dX4_tell_9 rfl (lv_at hl 1 rfl) ?_
  refine lv_dup2_11 hx hb dX4_tell_10 rfl rfl ?_
  refine g_iald S G (Rc_tl R) (vin_e ej hj (by omega)) dX4_tell_11 ?_
  refine lv_iconst (v := 1) hx hb dX4_tell_12 (by decide) ?_
  refine lv_iadd hx hb dX4_tell_13 ?_
  refine g_iast S G (Rc_tl R) (vin_e ej hj (by omega)) dX4_tell_14 (fun H locs G => ?_)
  obtain ⟨w, R, G⟩ := Rc_ex (Rc_p_td R (upd td (Int32.toNatClampNeg o) ((td (Int32.toNatClampNeg o)) + 1))) G
  refine lv_iload_n hx hb dX4_tell_15 rfl (lv_at hl 1 rfl) ?_
  refine lv_bipush (v := 7) hx hb dX4_tell_16 (by decide) ?_
  refine lv_icmp_ne (tgt := 32) hx hb dX4_tell_18 (by decide) (fun c1 => ?_) (fun c1 => ?_)
  · skip
    refine lv_iload_n hx hb dX4_tell_32 rfl (lv_at hl 1 rfl) ?_
    refine r_int S hret hlk G rfl (Nat.le_of_ble_eq_true rfl) (Nat.le_of_ble_eq_true rfl) dX4_tell_33 ?_
    rw [if_neg c1]
    exact ⟨rfl, R⟩
  · skip
    refine lv_aload_n hx hb dX4_tell_21 rfl (lv_at hl 0 rfl) ?_
    refine lv_aload_n hx hb dX4_tell_22 rfl (lv_at hl 0 rfl) ?_
    refine g_get S G (Rc_x R) rfl (by decide +kernel) 1 (by decide) (by decide +kernel) rfl dX4_tell_23 ?_
    refine g_get S G (Rc_wk R) rfl (by decide +kernel) 5 (by decide) (by decide +kernel) rfl dX4_tell_26 ?_
    refine g_put (fs' := [.ref st, .ref wk, .ref tl, .int o, .int th]) (ty := .int) (v := .int th) S G (Rc_x R) rfl tyX4 tyX4_ok nmX4 (by decide +kernel) 4 (by decide) (by decide +kernel) rfl (by decide +kernel) rfl rfl (Nat.le_of_ble_eq_true rfl) rfl dX4_tell_29 (fun H locs G => ?_)
    obtain ⟨w, R, G⟩ := Rc_ex (Rc_p_ow R th) G
    refine lv_iload_n hx hb dX4_tell_32 rfl (lv_at hl 1 rfl) ?_
    refine r_int S hret hlk G rfl (Nat.le_of_ble_eq_true rfl) (Nat.le_of_ble_eq_true rfl) dX4_tell_33 ?_
    rw [if_pos c1]
    exact ⟨rfl, R⟩

set_option maxHeartbeats 4000000 in
set_option maxRecDepth 100000 in
theorem c_X4_refuse (l : Launch) {E : EV} {w : wo} {x st wk tl ta : Nat} {tf : Nat → Option Nat} {T Rw Ia : Nat → Nat} {F : Nat → Nat → Int64} {n : Nat} {cl vs lk hd : Nat → Int32} {nr : Nat} {so sz : Nat → Int32} {it : Nat → Int64} {oc ow bg dp : Int32} {td : Nat → Int32} {lim wou th : Int32} (R : Rc E w (x, st, wk, tl, ta, tf, T, Rw, Ia, F) (n, cl, vs, lk, hd, nr, so, sz, it, oc, ow, bg, dp, td) (lim, wou, th)) {o : Int32} {j : Nat} (ej : o = nI j) (hj : j < 10) : ct_i l E yX4_refuse wsX4_refuse 1 0 0 [.ref x, .int o] w (fun r w' => r = 0 ∧ Rc E w' (x, st, wk, tl, ta, tf, T, Rw, Ia, F) (n, cl, vs, lk, hd, nr, so, sz, it, o, if o = 7 then th else ow, bg, dp, upd td (cn o) (td (cn o) + 1)) (lim, wou, th)) := by
  intro zz
  refine wo_body (Qc := fun A => va_Qi _ (wo_B E A) A) (ret := (some .int)) (by decide) rfl (Nat.le_of_ble_eq_true rfl) ?_
  intro p_ e_ s_ m_ args_ below_ meth_ code_ A_ ls S hret hlk hnm G hl
  have hl : lv_has ls 2 [(0, .ref x), (1, .int o)] := hl
  have hx := S.1
  have hb := S.2.1
  refine lv_aload_n hx hb dX4_refuse_0 rfl (lv_at hl 0 rfl) ?_
  refine lv_iload_n hx hb dX4_refuse_1 rfl (lv_at hl 1 rfl) ?_
  refine g_Vi (n := 1) (rest := []) S G hl (c_X4_tell l R (o := o) ej hj) gX4_refuse_X4_tell rfl (by decide +kernel) (Rc_x R) rfl rfl rfl (Nat.le_of_ble_eq_true rfl) ⟨Nat.le_of_ble_eq_true rfl, Nat.le_of_ble_eq_true rfl⟩ ⟨Nat.le_of_ble_eq_true rfl, Nat.le_of_ble_eq_true rfl⟩ dX4_refuse_2 ?_
  clear G; intro r_ w1 H locs hp G
  obtain ⟨hr_, R⟩ := hp
  subst r_
  refine lv_pop hx hb dX4_refuse_5 rfl ?_
  refine lv_iconst (v := 0) hx hb dX4_refuse_6 (by decide) ?_
  refine r_int S hret hlk G rfl (Nat.le_of_ble_eq_true rfl) (Nat.le_of_ble_eq_true rfl) dX4_refuse_7 ?_
  exact ⟨rfl, R⟩

set_option maxHeartbeats 4000000 in
set_option maxRecDepth 100000 in
theorem c_X3_stop (l : Launch) {E : EV} {w : wo} {x st wk tl ta : Nat} {tf : Nat → Option Nat} {T Rw Ia : Nat → Nat} {F : Nat → Nat → Int64} {n : Nat} {cl vs lk hd : Nat → Int32} {nr : Nat} {so sz : Nat → Int32} {it : Nat → Int64} {oc ow bg dp : Int32} {td : Nat → Int32} {lim wou th : Int32} (R : Rc E w (x, st, wk, tl, ta, tf, T, Rw, Ia, F) (n, cl, vs, lk, hd, nr, so, sz, it, oc, ow, bg, dp, td) (lim, wou, th)) (o u : Int32) : ct_i l E yX3_stop wsX3_stop 0 0 0 [.ref wk, .int o, .int u] w (fun r w' => r = 0 ∧ Rc E w' (x, st, wk, tl, ta, tf, T, Rw, Ia, F) (n, cl, vs, lk, hd, nr, so, sz, it, oc, ow, bg, u, td) (lim, o, th)) := by
  intro zz
  refine wo_body (Qc := fun A => va_Qi _ (wo_B E A) A) (ret := (some .int)) (by decide) rfl (Nat.le_of_ble_eq_true rfl) ?_
  intro p_ e_ s_ m_ args_ below_ meth_ code_ A_ ls S hret hlk hnm G hl
  have hl : lv_has ls 3 [(0, .ref wk), (1, .int o), (2, .int u)] := hl
  have hx := S.1
  have hb := S.2.1
  refine lv_aload_n hx hb dX3_stop_0 rfl (lv_at hl 0 rfl) ?_
  refine lv_iload_n hx hb dX3_stop_1 rfl (lv_at hl 1 rfl) ?_
  refine g_put (fs' := [.ref st, .int lim, .int bg, .int o, .int dp, .int th]) (ty := .int) (v := .int o) S G (Rc_wk R) rfl tyX3 tyX3_ok nmX3 (by decide +kernel) 3 (by decide) (by decide +kernel) rfl (by decide +kernel) rfl rfl (Nat.le_of_ble_eq_true rfl) rfl dX3_stop_2 (fun H locs G => ?_)
  obtain ⟨w, R, G⟩ := Rc_ex (Rc_p_wou R o) G
  refine lv_aload_n hx hb dX3_stop_5 rfl (lv_at hl 0 rfl) ?_
  refine lv_iload_n hx hb dX3_stop_6 rfl (lv_at hl 2 rfl) ?_
  refine g_put (fs' := [.ref st, .int lim, .int bg, .int o, .int u, .int th]) (ty := .int) (v := .int u) S G (Rc_wk R) rfl tyX3 tyX3_ok nmX3 (by decide +kernel) 4 (by decide) (by decide +kernel) rfl (by decide +kernel) rfl rfl (Nat.le_of_ble_eq_true rfl) rfl dX3_stop_7 (fun H locs G => ?_)
  obtain ⟨w, R, G⟩ := Rc_ex (Rc_p_dp R u) G
  refine lv_iconst (v := 0) hx hb dX3_stop_10 (by decide) ?_
  refine r_int S hret hlk G rfl (Nat.le_of_ble_eq_true rfl) (Nat.le_of_ble_eq_true rfl) dX3_stop_11 ?_
  exact ⟨rfl, R⟩
end
section
/-! THE CLASS: what the public methods answer, the simple ones -/
theorem nm1 {j : Nat} (h : j < 100000) : ¬ nI j = -1 := fun z => by
  have h1 := congrArg Int32.toInt z
  rw [nI_toInt (show j < 2 ^ 31 by omega)] at h1
  have h2 : (-1 : Int32).toInt = -1 := by decide
  omega
theorem m1_lt : (-1 : Int32) < 0 := by decide
def oc_of : ST → Int32
  | (n, cl, vs, lk, hd, nr, so, sz, it, oc, ow, bg, dp, td) => oc
set_option maxHeartbeats 4000000 in
set_option maxRecDepth 100000 in
theorem C_outcome (l : Launch) {E : EV} {w : wo} {x : Nat} {σ : ST} (X : RcX E w x σ) (K : Gd σ)  : ct_i l E yX4_outcome wsX4_outcome 2 0 0 [.ref x] w (fun r w' => r = oc_of σ ∧ RcX E w' x σ) := by
  obtain ⟨st, wk, tl, ta, tf, T, Rw, Ia, F, ⟨lim, wou, th⟩, R⟩ := X
  obtain ⟨n, cl, vs, lk, hd, nr, so, sz, it, oc, ow, bg, dp, td⟩ := σ
  obtain ⟨Kn, Kr, Kc, Kl, Kh, Ks, Kz, Ki⟩ := K
  intro zz
  refine wo_body (Qc := fun A => va_Qi _ (wo_B E A) A) (ret := (some .int)) (by decide) rfl (Nat.le_of_ble_eq_true rfl) ?_
  intro p_ e_ s_ m_ args_ below_ meth_ code_ A_ ls S hret hlk hnm G hl
  have hl : lv_has ls 1 [(0, .ref x)] := hl
  have hx := S.1
  have hb := S.2.1
  refine lv_aload_n hx hb dX4_outcome_0 rfl (lv_at hl 0 rfl) ?_
  refine g_get S G (Rc_x R) rfl (by decide +kernel) 3 (by decide) (by decide +kernel) rfl dX4_outcome_1 ?_
  refine r_int S hret hlk G rfl (Nat.le_of_ble_eq_true rfl) (Nat.le_of_ble_eq_true rfl) dX4_outcome_4 ?_
  exact ⟨rfl, ⟨_, _, _, _, _, _, _, _, _, _, R⟩⟩

def ow_of : ST → Int32
  | (n, cl, vs, lk, hd, nr, so, sz, it, oc, ow, bg, dp, td) => ow
set_option maxHeartbeats 4000000 in
set_option maxRecDepth 100000 in
theorem C_own (l : Launch) {E : EV} {w : wo} {x : Nat} {σ : ST} (X : RcX E w x σ) (K : Gd σ)  : ct_i l E yX4_own wsX4_own 2 0 0 [.ref x] w (fun r w' => r = ow_of σ ∧ RcX E w' x σ) := by
  obtain ⟨st, wk, tl, ta, tf, T, Rw, Ia, F, ⟨lim, wou, th⟩, R⟩ := X
  obtain ⟨n, cl, vs, lk, hd, nr, so, sz, it, oc, ow, bg, dp, td⟩ := σ
  obtain ⟨Kn, Kr, Kc, Kl, Kh, Ks, Kz, Ki⟩ := K
  intro zz
  refine wo_body (Qc := fun A => va_Qi _ (wo_B E A) A) (ret := (some .int)) (by decide) rfl (Nat.le_of_ble_eq_true rfl) ?_
  intro p_ e_ s_ m_ args_ below_ meth_ code_ A_ ls S hret hlk hnm G hl
  have hl : lv_has ls 1 [(0, .ref x)] := hl
  have hx := S.1
  have hb := S.2.1
  refine lv_aload_n hx hb dX4_own_0 rfl (lv_at hl 0 rfl) ?_
  refine g_get S G (Rc_x R) rfl (by decide +kernel) 4 (by decide) (by decide +kernel) rfl dX4_own_1 ?_
  refine r_int S hret hlk G rfl (Nat.le_of_ble_eq_true rfl) (Nat.le_of_ble_eq_true rfl) dX4_own_4 ?_
  exact ⟨rfl, ⟨_, _, _, _, _, _, _, _, _, _, R⟩⟩

def bg_of : ST → Int32
  | (n, cl, vs, lk, hd, nr, so, sz, it, oc, ow, bg, dp, td) => bg
set_option maxHeartbeats 4000000 in
set_option maxRecDepth 100000 in
theorem C_begun (l : Launch) {E : EV} {w : wo} {x : Nat} {σ : ST} (X : RcX E w x σ) (K : Gd σ)  : ct_i l E yX4_begun wsX4_begun 2 0 0 [.ref x] w (fun r w' => r = bg_of σ ∧ RcX E w' x σ) := by
  obtain ⟨st, wk, tl, ta, tf, T, Rw, Ia, F, ⟨lim, wou, th⟩, R⟩ := X
  obtain ⟨n, cl, vs, lk, hd, nr, so, sz, it, oc, ow, bg, dp, td⟩ := σ
  obtain ⟨Kn, Kr, Kc, Kl, Kh, Ks, Kz, Ki⟩ := K
  intro zz
  refine wo_body (Qc := fun A => va_Qi _ (wo_B E A) A) (ret := (some .int)) (by decide) rfl (Nat.le_of_ble_eq_true rfl) ?_
  intro p_ e_ s_ m_ args_ below_ meth_ code_ A_ ls S hret hlk hnm G hl
  have hl : lv_has ls 1 [(0, .ref x)] := hl
  have hx := S.1
  have hb := S.2.1
  refine lv_aload_n hx hb dX4_begun_0 rfl (lv_at hl 0 rfl) ?_
  refine g_get S G (Rc_x R) rfl (by decide +kernel) 1 (by decide) (by decide +kernel) rfl dX4_begun_1 ?_
  refine g_get S G (Rc_wk R) rfl (by decide +kernel) 2 (by decide) (by decide +kernel) rfl dX4_begun_4 ?_
  refine r_int S hret hlk G rfl (Nat.le_of_ble_eq_true rfl) (Nat.le_of_ble_eq_true rfl) dX4_begun_7 ?_
  exact ⟨rfl, ⟨_, _, _, _, _, _, _, _, _, _, R⟩⟩

def dp_of : ST → Int32
  | (n, cl, vs, lk, hd, nr, so, sz, it, oc, ow, bg, dp, td) => dp
set_option maxHeartbeats 4000000 in
set_option maxRecDepth 100000 in
theorem C_deep (l : Launch) {E : EV} {w : wo} {x : Nat} {σ : ST} (X : RcX E w x σ) (K : Gd σ)  : ct_i l E yX4_deep wsX4_deep 2 0 0 [.ref x] w (fun r w' => r = dp_of σ ∧ RcX E w' x σ) := by
  obtain ⟨st, wk, tl, ta, tf, T, Rw, Ia, F, ⟨lim, wou, th⟩, R⟩ := X
  obtain ⟨n, cl, vs, lk, hd, nr, so, sz, it, oc, ow, bg, dp, td⟩ := σ
  obtain ⟨Kn, Kr, Kc, Kl, Kh, Ks, Kz, Ki⟩ := K
  intro zz
  refine wo_body (Qc := fun A => va_Qi _ (wo_B E A) A) (ret := (some .int)) (by decide) rfl (Nat.le_of_ble_eq_true rfl) ?_
  intro p_ e_ s_ m_ args_ below_ meth_ code_ A_ ls S hret hlk hnm G hl
  have hl : lv_has ls 1 [(0, .ref x)] := hl
  have hx := S.1
  have hb := S.2.1
  refine lv_aload_n hx hb dX4_deep_0 rfl (lv_at hl 0 rfl) ?_
  refine g_get S G (Rc_x R) rfl (by decide +kernel) 1 (by decide) (by decide +kernel) rfl dX4_deep_1 ?_
  refine g_get S G (Rc_wk R) rfl (by decide +kernel) 4 (by decide) (by decide +kernel) rfl dX4_deep_4 ?_
  refine r_int S hret hlk G rfl (Nat.le_of_ble_eq_true rfl) (Nat.le_of_ble_eq_true rfl) dX4_deep_7 ?_
  exact ⟨rfl, ⟨_, _, _, _, _, _, _, _, _, _, R⟩⟩

def nn_of : ST → Int32
  | (n, _) => nI n
set_option maxHeartbeats 4000000 in
set_option maxRecDepth 100000 in
theorem C_things (l : Launch) {E : EV} {w : wo} {x : Nat} {σ : ST} (X : RcX E w x σ) (K : Gd σ)  : ct_i l E yX4_things wsX4_things 2 0 0 [.ref x] w (fun r w' => r = nn_of σ ∧ RcX E w' x σ) := by
  obtain ⟨st, wk, tl, ta, tf, T, Rw, Ia, F, ⟨lim, wou, th⟩, R⟩ := X
  obtain ⟨n, cl, vs, lk, hd, nr, so, sz, it, oc, ow, bg, dp, td⟩ := σ
  obtain ⟨Kn, Kr, Kc, Kl, Kh, Ks, Kz, Ki⟩ := K
  intro zz
  refine wo_body (Qc := fun A => va_Qi _ (wo_B E A) A) (ret := (some .int)) (by decide) rfl (Nat.le_of_ble_eq_true rfl) ?_
  intro p_ e_ s_ m_ args_ below_ meth_ code_ A_ ls S hret hlk hnm G hl
  have hl : lv_has ls 1 [(0, .ref x)] := hl
  have hx := S.1
  have hb := S.2.1
  refine lv_aload_n hx hb dX4_things_0 rfl (lv_at hl 0 rfl) ?_
  refine g_get S G (Rc_x R) rfl (by decide +kernel) 0 (by decide) (by decide +kernel) rfl dX4_things_1 ?_
  refine g_get S G (Rc_st R) rfl (by decide +kernel) 1 (by decide) (by decide +kernel) rfl dX4_things_4 ?_
  refine r_int S hret hlk G rfl (Nat.le_of_ble_eq_true rfl) (Nat.le_of_ble_eq_true rfl) dX4_things_7 ?_
  exact ⟨rfl, ⟨_, _, _, _, _, _, _, _, _, _, R⟩⟩

set_option maxHeartbeats 4000000 in
set_option maxRecDepth 100000 in
theorem C_told (l : Launch) {E : EV} {w : wo} {x : Nat} {σ : ST} (X : RcX E w x σ) (K : Gd σ) (o : Int32) : ct_i l E yX4_told wsX4_told 2 0 0 [.ref x, .int o] w (fun r w' => r = S_told o σ ∧ RcX E w' x σ) := by
  obtain ⟨st, wk, tl, ta, tf, T, Rw, Ia, F, ⟨lim, wou, th⟩, R⟩ := X
  obtain ⟨n, cl, vs, lk, hd, nr, so, sz, it, oc, ow, bg, dp, td⟩ := σ
  obtain ⟨Kn, Kr, Kc, Kl, Kh, Ks, Kz, Ki⟩ := K
  intro zz
  refine wo_body (Qc := fun A => va_Qi _ (wo_B E A) A) (ret := (some .int)) (by decide) rfl (Nat.le_of_ble_eq_true rfl) ?_
  intro p_ e_ s_ m_ args_ below_ meth_ code_ A_ ls S hret hlk hnm G hl
  have hl : lv_has ls 2 [(0, .ref x), (1, .int o)] := hl
  have hx := S.1
  have hb := S.2.1
  refine lv_iload_n hx hb dX4_told_0 rfl (lv_at hl 1 rfl) ?_
  refine lv_if_lt (tgt := 10) hx hb dX4_told_1 (by decide) (fun c1 => ?_) (fun c1 => ?_)
  · skip
    refine lv_ldc hx hb S.2.2.2.1 (S.2.2.2.2 (.constant RX4 33 (-2000000001)) (by decide +kernel)) dX4_told_10 ?_
    refine r_int S hret hlk G rfl (Nat.le_of_ble_eq_true rfl) (Nat.le_of_ble_eq_true rfl) dX4_told_12 ?_
    rcases tin_c 10 o (by omega) with ⟨q1, q2⟩ | ⟨k, hk, ek⟩
    · exact ⟨by simp only [S_told, q1, ↓reduceIte, Bool.false_eq_true], ⟨_, _, _, _, _, _, _, _, _, _, R⟩⟩
    · exact absurd c1 (by rw [ek]; exact nI_pos (by omega))
  · skip
    refine lv_iload_n hx hb dX4_told_4 rfl (lv_at hl 1 rfl) ?_
    refine lv_bipush (v := 9) hx hb dX4_told_5 (by decide) ?_
    refine lv_icmp_le (tgt := 13) hx hb dX4_told_7 (by decide) (fun c2 => ?_) (fun c2 => ?_)
    · skip
      refine lv_aload_n hx hb dX4_told_13 rfl (lv_at hl 0 rfl) ?_
      refine g_get S G (Rc_x R) rfl (by decide +kernel) 2 (by decide) (by decide +kernel) rfl dX4_told_14 ?_
      refine lv_iload_n hx hb dX4_told_17 rfl (lv_at hl 1 rfl) ?_
      rcases tin_c 10 o (by omega) with ⟨q1, q2⟩ | ⟨k, hk, ek⟩
      · exact (q2.elim (fun q => absurd q c1) (fun q => absurd (Int32.lt_of_lt_of_le (show (9 : Int32) < nI 10 by decide) q) (Int32.not_lt.mpr c2)))
      refine g_iald S G (Rc_tl R) (vin_e ek hk (by omega)) dX4_told_18 ?_
      refine r_int S hret hlk G rfl (Nat.le_of_ble_eq_true rfl) (Nat.le_of_ble_eq_true rfl) dX4_told_19 ?_
      have y := tin_e ek hk (show 10 ≤ 1000 by omega)
      refine ⟨by simp only [S_told, y, ↓reduceIte, cn], ?_⟩
      exact ⟨_, _, _, _, _, _, _, _, _, _, R⟩
    · skip
      refine lv_ldc hx hb S.2.2.2.1 (S.2.2.2.2 (.constant RX4 33 (-2000000001)) (by decide +kernel)) dX4_told_10 ?_
      refine r_int S hret hlk G rfl (Nat.le_of_ble_eq_true rfl) (Nat.le_of_ble_eq_true rfl) dX4_told_12 ?_
      rcases tin_c 10 o (by omega) with ⟨q1, q2⟩ | ⟨k, hk, ek⟩
      · exact ⟨by simp only [S_told, q1, ↓reduceIte, Bool.false_eq_true], ⟨_, _, _, _, _, _, _, _, _, _, R⟩⟩
      · exact absurd (show o ≤ 9 by rw [ek]; exact nI_le (b := 9) (by omega) (by omega)) c2

set_option maxHeartbeats 4000000 in
set_option maxRecDepth 100000 in
theorem C_cls (l : Launch) {E : EV} {w : wo} {x : Nat} {σ : ST} (X : RcX E w x σ) (K : Gd σ) (t : Int32) : ct_i l E yX4_cls wsX4_cls 2 0 0 [.ref x, .int t] w (fun r w' => r = S_cls t σ ∧ RcX E w' x σ) := by
  obtain ⟨st, wk, tl, ta, tf, T, Rw, Ia, F, ⟨lim, wou, th⟩, R⟩ := X
  obtain ⟨n, cl, vs, lk, hd, nr, so, sz, it, oc, ow, bg, dp, td⟩ := σ
  obtain ⟨Kn, Kr, Kc, Kl, Kh, Ks, Kz, Ki⟩ := K
  intro zz
  refine wo_body (Qc := fun A => va_Qi _ (wo_B E A) A) (ret := (some .int)) (by decide) rfl (Nat.le_of_ble_eq_true rfl) ?_
  intro p_ e_ s_ m_ args_ below_ meth_ code_ A_ ls S hret hlk hnm G hl
  have hl : lv_has ls 3 [(0, .ref x), (1, .int t)] := hl
  have hx := S.1
  have hb := S.2.1
  refine lv_aload_n hx hb dX4_cls_0 rfl (lv_at hl 0 rfl) ?_
  refine g_get S G (Rc_x R) rfl (by decide +kernel) 0 (by decide) (by decide +kernel) rfl dX4_cls_1 ?_
  refine lv_iload_n hx hb dX4_cls_4 rfl (lv_at hl 1 rfl) ?_
  rcases tin_c n t (by omega) with ⟨tk1, ok1⟩ | ⟨k1, hk1, ek1⟩
  · skip
    refine g_Vq (n := 1) (rest := []) S G hl (c_X1_find_n l R Kn ok1) gX4_cls_X1_find rfl (by decide +kernel) (Rc_st R) rfl rfl rfl (Nat.le_of_ble_eq_true rfl) ⟨Nat.le_of_ble_eq_true rfl, Nat.le_of_ble_eq_true rfl⟩ ⟨Nat.le_of_ble_eq_true rfl, Nat.le_of_ble_eq_true rfl⟩ dX4_cls_5 ?_
    clear G; intro r_ w1 H locs hp G
    obtain ⟨rfl, rfl⟩ := hp
    refine W.eq (g2 := F0 m_ 8 ls [.null]) rfl ?_
    refine lv_astore_nN (lv' := [(2, .null), (0, .ref x), (1, .int t)]) hx hb dX4_cls_8 rfl hl (by decide) rfl (fun ls hl => ?_)
    refine lv_aload_nN hx hb dX4_cls_9 rfl (lv_at hl 0 rfl) ?_
    refine lv_ifnonnullN hx hb dX4_cls_10 ?_
    refine lv_ldc hx hb S.2.2.2.1 (S.2.2.2.2 (.constant RX4 33 (-2000000001)) (by decide +kernel)) dX4_cls_13 ?_
    refine lv_goto (tgt := 22) hx hb dX4_cls_15 (by decide) ?_
    refine r_int S hret hlk G rfl (Nat.le_of_ble_eq_true rfl) (Nat.le_of_ble_eq_true rfl) dX4_cls_22 ?_
    refine ⟨by simp only [S_cls, tk1, s_tell, put_lk, put_vs, put_hd, ↓reduceIte, Bool.false_eq_true, pk_us], ?_⟩
    exact ⟨_, _, _, _, _, _, _, _, _, _, R⟩
  · skip
    refine g_Vq (n := 1) (rest := []) S G hl (c_X1_find_y l R Kn ek1 hk1) gX4_cls_X1_find rfl (by decide +kernel) (Rc_st R) rfl rfl rfl (Nat.le_of_ble_eq_true rfl) ⟨Nat.le_of_ble_eq_true rfl, Nat.le_of_ble_eq_true rfl⟩ ⟨Nat.le_of_ble_eq_true rfl, Nat.le_of_ble_eq_true rfl⟩ dX4_cls_5 ?_
    clear G; intro r_ w1 H locs hp G
    obtain ⟨rfl, rfl⟩ := hp
    refine W.eq (g2 := F0 m_ 8 ls [.ref (T k1)]) rfl ?_
    refine lv_astore_n (lv' := [(2, .ref (T k1)), (0, .ref x), (1, .int t)]) hx hb dX4_cls_8 rfl hl (by decide) rfl (fun ls hl => ?_)
    refine lv_aload_n hx hb dX4_cls_9 rfl (lv_at hl 0 rfl) ?_
    refine lv_ifnonnull (tgt := 18) hx hb dX4_cls_10 (by decide) ?_
    refine lv_aload_n hx hb dX4_cls_18 rfl (lv_at hl 0 rfl) ?_
    refine g_get S G (Rc_T R k1 hk1) rfl (by decide +kernel) 0 (by decide) (by decide +kernel) rfl dX4_cls_19 ?_
    refine r_int S hret hlk G rfl (Nat.le_of_ble_eq_true rfl) (Nat.le_of_ble_eq_true rfl) dX4_cls_22 ?_
    have yk1 := tin_e ek1 hk1 (show n ≤ 1000 by omega)
    have zk1 := cn_e ek1 (show k1 < 1000 by omega)
    refine ⟨by simp only [S_cls, yk1, zk1, s_tell, put_lk, put_vs, put_hd, ↓reduceIte, Bool.false_eq_true, pk_us], ?_⟩
    exact ⟨_, _, _, _, _, _, _, _, _, _, R⟩

set_option maxHeartbeats 4000000 in
set_option maxRecDepth 100000 in
theorem C_v (l : Launch) {E : EV} {w : wo} {x : Nat} {σ : ST} (X : RcX E w x σ) (K : Gd σ) (t : Int32) : ct_i l E yX4_v wsX4_v 2 0 0 [.ref x, .int t] w (fun r w' => r = S_v t σ ∧ RcX E w' x σ) := by
  obtain ⟨st, wk, tl, ta, tf, T, Rw, Ia, F, ⟨lim, wou, th⟩, R⟩ := X
  obtain ⟨n, cl, vs, lk, hd, nr, so, sz, it, oc, ow, bg, dp, td⟩ := σ
  obtain ⟨Kn, Kr, Kc, Kl, Kh, Ks, Kz, Ki⟩ := K
  intro zz
  refine wo_body (Qc := fun A => va_Qi _ (wo_B E A) A) (ret := (some .int)) (by decide) rfl (Nat.le_of_ble_eq_true rfl) ?_
  intro p_ e_ s_ m_ args_ below_ meth_ code_ A_ ls S hret hlk hnm G hl
  have hl : lv_has ls 3 [(0, .ref x), (1, .int t)] := hl
  have hx := S.1
  have hb := S.2.1
  refine lv_aload_n hx hb dX4_v_0 rfl (lv_at hl 0 rfl) ?_
  refine g_get S G (Rc_x R) rfl (by decide +kernel) 0 (by decide) (by decide +kernel) rfl dX4_v_1 ?_
  refine lv_iload_n hx hb dX4_v_4 rfl (lv_at hl 1 rfl) ?_
  rcases tin_c n t (by omega) with ⟨tk1, ok1⟩ | ⟨k1, hk1, ek1⟩
  · skip
    refine g_Vq (n := 1) (rest := []) S G hl (c_X1_find_n l R Kn ok1) gX4_v_X1_find rfl (by decide +kernel) (Rc_st R) rfl rfl rfl (Nat.le_of_ble_eq_true rfl) ⟨Nat.le_of_ble_eq_true rfl, Nat.le_of_ble_eq_true rfl⟩ ⟨Nat.le_of_ble_eq_true rfl, Nat.le_of_ble_eq_true rfl⟩ dX4_v_5 ?_
    clear G; intro r_ w1 H locs hp G
    obtain ⟨rfl, rfl⟩ := hp
    refine W.eq (g2 := F0 m_ 8 ls [.null]) rfl ?_
    refine lv_astore_nN (lv' := [(2, .null), (0, .ref x), (1, .int t)]) hx hb dX4_v_8 rfl hl (by decide) rfl (fun ls hl => ?_)
    refine lv_aload_nN hx hb dX4_v_9 rfl (lv_at hl 0 rfl) ?_
    refine lv_ifnonnullN hx hb dX4_v_10 ?_
    refine lv_ldc hx hb S.2.2.2.1 (S.2.2.2.2 (.constant RX4 33 (-2000000001)) (by decide +kernel)) dX4_v_13 ?_
    refine lv_goto (tgt := 22) hx hb dX4_v_15 (by decide) ?_
    refine r_int S hret hlk G rfl (Nat.le_of_ble_eq_true rfl) (Nat.le_of_ble_eq_true rfl) dX4_v_22 ?_
    refine ⟨by simp only [S_v, tk1, s_tell, put_lk, put_vs, put_hd, ↓reduceIte, Bool.false_eq_true, pk_us], ?_⟩
    exact ⟨_, _, _, _, _, _, _, _, _, _, R⟩
  · skip
    refine g_Vq (n := 1) (rest := []) S G hl (c_X1_find_y l R Kn ek1 hk1) gX4_v_X1_find rfl (by decide +kernel) (Rc_st R) rfl rfl rfl (Nat.le_of_ble_eq_true rfl) ⟨Nat.le_of_ble_eq_true rfl, Nat.le_of_ble_eq_true rfl⟩ ⟨Nat.le_of_ble_eq_true rfl, Nat.le_of_ble_eq_true rfl⟩ dX4_v_5 ?_
    clear G; intro r_ w1 H locs hp G
    obtain ⟨rfl, rfl⟩ := hp
    refine W.eq (g2 := F0 m_ 8 ls [.ref (T k1)]) rfl ?_
    refine lv_astore_n (lv' := [(2, .ref (T k1)), (0, .ref x), (1, .int t)]) hx hb dX4_v_8 rfl hl (by decide) rfl (fun ls hl => ?_)
    refine lv_aload_n hx hb dX4_v_9 rfl (lv_at hl 0 rfl) ?_
    refine lv_ifnonnull (tgt := 18) hx hb dX4_v_10 (by decide) ?_
    refine lv_aload_n hx hb dX4_v_18 rfl (lv_at hl 0 rfl) ?_
    refine g_get S G (Rc_T R k1 hk1) rfl (by decide +kernel) 1 (by decide) (by decide +kernel) rfl dX4_v_19 ?_
    refine r_int S hret hlk G rfl (Nat.le_of_ble_eq_true rfl) (Nat.le_of_ble_eq_true rfl) dX4_v_22 ?_
    have yk1 := tin_e ek1 hk1 (show n ≤ 1000 by omega)
    have zk1 := cn_e ek1 (show k1 < 1000 by omega)
    refine ⟨by simp only [S_v, yk1, zk1, s_tell, put_lk, put_vs, put_hd, ↓reduceIte, Bool.false_eq_true, pk_us], ?_⟩
    exact ⟨_, _, _, _, _, _, _, _, _, _, R⟩

set_option maxHeartbeats 4000000 in
set_option maxRecDepth 100000 in
theorem C_linked (l : Launch) {E : EV} {w : wo} {x : Nat} {σ : ST} (X : RcX E w x σ) (K : Gd σ) (t : Int32) : ct_i l E yX4_linked wsX4_linked 2 0 0 [.ref x, .int t] w (fun r w' => r = S_linked t σ ∧ RcX E w' x σ) := by
  obtain ⟨st, wk, tl, ta, tf, T, Rw, Ia, F, ⟨lim, wou, th⟩, R⟩ := X
  obtain ⟨n, cl, vs, lk, hd, nr, so, sz, it, oc, ow, bg, dp, td⟩ := σ
  obtain ⟨Kn, Kr, Kc, Kl, Kh, Ks, Kz, Ki⟩ := K
  intro zz
  refine wo_body (Qc := fun A => va_Qi _ (wo_B E A) A) (ret := (some .int)) (by decide) rfl (Nat.le_of_ble_eq_true rfl) ?_
  intro p_ e_ s_ m_ args_ below_ meth_ code_ A_ ls S hret hlk hnm G hl
  have hl : lv_has ls 3 [(0, .ref x), (1, .int t)] := hl
  have hx := S.1
  have hb := S.2.1
  refine lv_aload_n hx hb dX4_linked_0 rfl (lv_at hl 0 rfl) ?_
  refine g_get S G (Rc_x R) rfl (by decide +kernel) 0 (by decide) (by decide +kernel) rfl dX4_linked_1 ?_
  refine lv_iload_n hx hb dX4_linked_4 rfl (lv_at hl 1 rfl) ?_
  rcases tin_c n t (by omega) with ⟨tk1, ok1⟩ | ⟨k1, hk1, ek1⟩
  · skip
    refine g_Vq (n := 1) (rest := []) S G hl (c_X1_find_n l R Kn ok1) gX4_linked_X1_find rfl (by decide +kernel) (Rc_st R) rfl rfl rfl (Nat.le_of_ble_eq_true rfl) ⟨Nat.le_of_ble_eq_true rfl, Nat.le_of_ble_eq_true rfl⟩ ⟨Nat.le_of_ble_eq_true rfl, Nat.le_of_ble_eq_true rfl⟩ dX4_linked_5 ?_
    clear G; intro r_ w1 H locs hp G
    obtain ⟨rfl, rfl⟩ := hp
    refine W.eq (g2 := F0 m_ 8 ls [.null]) rfl ?_
    refine lv_astore_nN (lv' := [(2, .null), (0, .ref x), (1, .int t)]) hx hb dX4_linked_8 rfl hl (by decide) rfl (fun ls hl => ?_)
    refine lv_aload_nN hx hb dX4_linked_9 rfl (lv_at hl 0 rfl) ?_
    refine lv_ifnonnullN hx hb dX4_linked_10 ?_
    refine lv_ldc hx hb S.2.2.2.1 (S.2.2.2.2 (.constant RX4 33 (-2000000001)) (by decide +kernel)) dX4_linked_13 ?_
    refine lv_goto (tgt := 22) hx hb dX4_linked_15 (by decide) ?_
    refine r_int S hret hlk G rfl (Nat.le_of_ble_eq_true rfl) (Nat.le_of_ble_eq_true rfl) dX4_linked_22 ?_
    refine ⟨by simp only [S_linked, tk1, s_tell, put_lk, put_vs, put_hd, ↓reduceIte, Bool.false_eq_true, pk_us], ?_⟩
    exact ⟨_, _, _, _, _, _, _, _, _, _, R⟩
  · skip
    refine g_Vq (n := 1) (rest := []) S G hl (c_X1_find_y l R Kn ek1 hk1) gX4_linked_X1_find rfl (by decide +kernel) (Rc_st R) rfl rfl rfl (Nat.le_of_ble_eq_true rfl) ⟨Nat.le_of_ble_eq_true rfl, Nat.le_of_ble_eq_true rfl⟩ ⟨Nat.le_of_ble_eq_true rfl, Nat.le_of_ble_eq_true rfl⟩ dX4_linked_5 ?_
    clear G; intro r_ w1 H locs hp G
    obtain ⟨rfl, rfl⟩ := hp
    refine W.eq (g2 := F0 m_ 8 ls [.ref (T k1)]) rfl ?_
    refine lv_astore_n (lv' := [(2, .ref (T k1)), (0, .ref x), (1, .int t)]) hx hb dX4_linked_8 rfl hl (by decide) rfl (fun ls hl => ?_)
    refine lv_aload_n hx hb dX4_linked_9 rfl (lv_at hl 0 rfl) ?_
    refine lv_ifnonnull (tgt := 18) hx hb dX4_linked_10 (by decide) ?_
    refine lv_aload_n hx hb dX4_linked_18 rfl (lv_at hl 0 rfl) ?_
    refine g_get S G (Rc_T R k1 hk1) rfl (by decide +kernel) 2 (by decide) (by decide +kernel) rfl dX4_linked_19 ?_
    refine r_int S hret hlk G rfl (Nat.le_of_ble_eq_true rfl) (Nat.le_of_ble_eq_true rfl) dX4_linked_22 ?_
    have yk1 := tin_e ek1 hk1 (show n ≤ 1000 by omega)
    have zk1 := cn_e ek1 (show k1 < 1000 by omega)
    refine ⟨by simp only [S_linked, yk1, zk1, s_tell, put_lk, put_vs, put_hd, ↓reduceIte, Bool.false_eq_true, pk_us], ?_⟩
    exact ⟨_, _, _, _, _, _, _, _, _, _, R⟩

set_option maxHeartbeats 4000000 in
set_option maxRecDepth 100000 in
theorem C_become (l : Launch) {E : EV} {w : wo} {x : Nat} {σ : ST} (X : RcX E w x σ) (K : Gd σ) (t : Int32) (v : Int32) : ct_i l E yX4_become wsX4_become 2 0 0 [.ref x, .int t, .int v] w (fun r w' => r = (S_become t v σ).1 ∧ RcX E w' x (S_become t v σ).2) := by
  obtain ⟨st, wk, tl, ta, tf, T, Rw, Ia, F, ⟨lim, wou, th⟩, R⟩ := X
  obtain ⟨n, cl, vs, lk, hd, nr, so, sz, it, oc, ow, bg, dp, td⟩ := σ
  obtain ⟨Kn, Kr, Kc, Kl, Kh, Ks, Kz, Ki⟩ := K
  intro zz
  refine wo_body (Qc := fun A => va_Qi _ (wo_B E A) A) (ret := (some .int)) (by decide) rfl (Nat.le_of_ble_eq_true rfl) ?_
  intro p_ e_ s_ m_ args_ below_ meth_ code_ A_ ls S hret hlk hnm G hl
  have hl : lv_has ls 5 [(0, .ref x), (1, .int t), (2, .int v)] := hl
  have hx := S.1
  have hb := S.2.1
  refine lv_aload_n hx hb dX4_become_0 rfl (lv_at hl 0 rfl) ?_
  refine g_get S G (Rc_x R) rfl (by decide +kernel) 0 (by decide) (by decide +kernel) rfl dX4_become_1 ?_
  refine lv_iload_n hx hb dX4_become_4 rfl (lv_at hl 1 rfl) ?_
  rcases tin_c n t (by omega) with ⟨tk1, ok1⟩ | ⟨k1, hk1, ek1⟩
  · skip
    refine g_Vq (n := 1) (rest := []) S G hl (c_X1_find_n l R Kn ok1) gX4_become_X1_find rfl (by decide +kernel) (Rc_st R) rfl rfl rfl (Nat.le_of_ble_eq_true rfl) ⟨Nat.le_of_ble_eq_true rfl, Nat.le_of_ble_eq_true rfl⟩ ⟨Nat.le_of_ble_eq_true rfl, Nat.le_of_ble_eq_true rfl⟩ dX4_become_5 ?_
    clear G; intro r_ w1 H locs hp G
    obtain ⟨rfl, rfl⟩ := hp
    refine W.eq (g2 := F0 m_ 8 ls [.null]) rfl ?_
    refine lv_astore_nN (lv' := [(3, .null), (0, .ref x), (1, .int t), (2, .int v)]) hx hb dX4_become_8 rfl hl (by decide) rfl (fun ls hl => ?_)
    refine lv_aload_nN hx hb dX4_become_9 rfl (lv_at hl 0 rfl) ?_
    refine lv_ifnonnullN hx hb dX4_become_10 ?_
    refine lv_ldc hx hb S.2.2.2.1 (S.2.2.2.2 (.constant RX4 33 (-2000000001)) (by decide +kernel)) dX4_become_13 ?_
    refine r_int S hret hlk G rfl (Nat.le_of_ble_eq_true rfl) (Nat.le_of_ble_eq_true rfl) dX4_become_15 ?_
    refine ⟨by simp only [S_become, tk1, s_tell, put_lk, put_vs, put_hd, ↓reduceIte, Bool.false_eq_true, pk_us], ?_⟩
    simp only [S_become, tk1, s_tell, put_lk, put_vs, put_hd, ↓reduceIte, Bool.false_eq_true, pk_us]
    exact ⟨_, _, _, _, _, _, _, _, _, _, R⟩
  · skip
    refine g_Vq (n := 1) (rest := []) S G hl (c_X1_find_y l R Kn ek1 hk1) gX4_become_X1_find rfl (by decide +kernel) (Rc_st R) rfl rfl rfl (Nat.le_of_ble_eq_true rfl) ⟨Nat.le_of_ble_eq_true rfl, Nat.le_of_ble_eq_true rfl⟩ ⟨Nat.le_of_ble_eq_true rfl, Nat.le_of_ble_eq_true rfl⟩ dX4_become_5 ?_
    clear G; intro r_ w1 H locs hp G
    obtain ⟨rfl, rfl⟩ := hp
    refine W.eq (g2 := F0 m_ 8 ls [.ref (T k1)]) rfl ?_
    refine lv_astore_n (lv' := [(3, .ref (T k1)), (0, .ref x), (1, .int t), (2, .int v)]) hx hb dX4_become_8 rfl hl (by decide) rfl (fun ls hl => ?_)
    refine lv_aload_n hx hb dX4_become_9 rfl (lv_at hl 0 rfl) ?_
    refine lv_ifnonnull (tgt := 16) hx hb dX4_become_10 (by decide) ?_
    refine lv_aload_n hx hb dX4_become_16 rfl (lv_at hl 0 rfl) ?_
    refine g_get S G (Rc_T R k1 hk1) rfl (by decide +kernel) 1 (by decide) (by decide +kernel) rfl dX4_become_17 ?_
    refine lv_istore (lv' := [(4, .int (vs k1)), (3, .ref (T k1)), (0, .ref x), (1, .int t), (2, .int v)]) hx hb dX4_become_20 hl (by decide) rfl (fun ls hl => ?_)
    refine lv_aload_n hx hb dX4_become_22 rfl (lv_at hl 1 rfl) ?_
    refine lv_iload_n hx hb dX4_become_23 rfl (lv_at hl 4 rfl) ?_
    refine g_put (fs' := [.int (cl k1), .int v, .int (lk k1), va_rf (ro Rw (hd k1))]) (ty := .int) (v := .int v) S G (Rc_T R k1 hk1) rfl tyX2 tyX2_ok nmX2 (by decide +kernel) 1 (by decide) (by decide +kernel) rfl (by decide +kernel) rfl rfl (Nat.le_of_ble_eq_true rfl) rfl dX4_become_24 (fun H locs G => ?_)
    obtain ⟨w, R, G⟩ := Rc_ex (Rc_p_vs R hk1 v) G
    refine lv_iload hx hb dX4_become_27 (lv_at hl 0 rfl) ?_
    refine r_int S hret hlk G rfl (Nat.le_of_ble_eq_true rfl) (Nat.le_of_ble_eq_true rfl) dX4_become_29 ?_
    have yk1 := tin_e ek1 hk1 (show n ≤ 1000 by omega)
    have zk1 := cn_e ek1 (show k1 < 1000 by omega)
    refine ⟨by simp only [S_become, yk1, zk1, s_tell, put_lk, put_vs, put_hd, ↓reduceIte, Bool.false_eq_true, pk_us], ?_⟩
    simp only [S_become, yk1, zk1, s_tell, put_lk, put_vs, put_hd, ↓reduceIte, Bool.false_eq_true, pk_us]
    exact ⟨_, _, _, _, _, _, _, _, _, _, R⟩

set_option maxHeartbeats 4000000 in
set_option maxRecDepth 100000 in
theorem c_X1_hasOrNone (l : Launch) {E : EV} {w : wo} {x st wk tl ta : Nat} {tf : Nat → Option Nat} {T Rw Ia : Nat → Nat} {F : Nat → Nat → Int64} {n : Nat} {cl vs lk hd : Nat → Int32} {nr : Nat} {so sz : Nat → Int32} {it : Nat → Int64} {oc ow bg dp : Int32} {td : Nat → Int32} {lim wou th : Int32} (R : Rc E w (x, st, wk, tl, ta, tf, T, Rw, Ia, F) (n, cl, vs, lk, hd, nr, so, sz, it, oc, ow, bg, dp, td) (lim, wou, th)) (Kn : n ≤ 40) (o : Int32) : ct_i l E yX1_hasOrNone wsX1_hasOrNone 1 0 0 [.ref st, .int o] w (fun r w' => w' = w ∧ r = if o = -1 ∨ tin n o = true then 1 else 0) := by
  intro zz
  refine wo_body (Qc := fun A => va_Qi _ (wo_B E A) A) (ret := (some .boolean)) (by decide) rfl (Nat.le_of_ble_eq_true rfl) ?_
  intro p_ e_ s_ m_ args_ below_ meth_ code_ A_ ls S hret hlk hnm G hl
  have hl : lv_has ls 2 [(0, .ref st), (1, .int o)] := hl
  have hx := S.1
  have hb := S.2.1
  refine lv_iload_n hx hb dX1_hasOrNone_0 rfl (lv_at hl 1 rfl) ?_
  refine lv_iconst (v := (-1)) hx hb dX1_hasOrNone_1 (by decide) ?_
  refine lv_icmp_eq (tgt := 13) hx hb dX1_hasOrNone_2 (by decide) (fun c1 => ?_) (fun c1 => ?_)
  · skip
    refine lv_iconst (v := 1) hx hb dX1_hasOrNone_13 (by decide) ?_
    refine lv_goto (tgt := 18) hx hb dX1_hasOrNone_14 (by decide) ?_
    refine r_int S hret hlk G rfl (Nat.le_of_ble_eq_true rfl) (Nat.le_of_ble_eq_true rfl) dX1_hasOrNone_18 ?_
    exact ⟨rfl, by simp [c1]⟩
  · skip
    refine lv_aload_n hx hb dX1_hasOrNone_5 rfl (lv_at hl 0 rfl) ?_
    refine lv_iload_n hx hb dX1_hasOrNone_6 rfl (lv_at hl 1 rfl) ?_
    rcases tin_c n o (by omega) with ⟨tk2, ok2⟩ | ⟨k2, hk2, ek2⟩
    · skip
      refine g_Vq (n := 1) (rest := []) S G hl (c_X1_find_n l R Kn ok2) gX1_hasOrNone_X1_find rfl (by decide +kernel) (Rc_st R) rfl rfl rfl (Nat.le_of_ble_eq_true rfl) ⟨Nat.le_of_ble_eq_true rfl, Nat.le_of_ble_eq_true rfl⟩ ⟨Nat.le_of_ble_eq_true rfl, Nat.le_of_ble_eq_true rfl⟩ dX1_hasOrNone_7 ?_
      clear G; intro r_ w1 H locs hp G
      obtain ⟨rfl, rfl⟩ := hp
      refine W.eq (g2 := F0 m_ 10 ls [.null]) rfl ?_
      refine lv_ifnullN (tgt := 17) hx hb dX1_hasOrNone_10 (by decide) ?_
      refine lv_iconst (v := 0) hx hb dX1_hasOrNone_17 (by decide) ?_
      refine r_int S hret hlk G rfl (Nat.le_of_ble_eq_true rfl) (Nat.le_of_ble_eq_true rfl) dX1_hasOrNone_18 ?_
      exact ⟨rfl, by simp [c1, tk2]⟩
    · skip
      refine g_Vq (n := 1) (rest := []) S G hl (c_X1_find_y l R Kn ek2 hk2) gX1_hasOrNone_X1_find rfl (by decide +kernel) (Rc_st R) rfl rfl rfl (Nat.le_of_ble_eq_true rfl) ⟨Nat.le_of_ble_eq_true rfl, Nat.le_of_ble_eq_true rfl⟩ ⟨Nat.le_of_ble_eq_true rfl, Nat.le_of_ble_eq_true rfl⟩ dX1_hasOrNone_7 ?_
      clear G; intro r_ w1 H locs hp G
      obtain ⟨rfl, rfl⟩ := hp
      refine W.eq (g2 := F0 m_ 10 ls [.ref (T k2)]) rfl ?_
      refine lv_ifnull hx hb dX1_hasOrNone_10 ?_
      refine lv_iconst (v := 1) hx hb dX1_hasOrNone_13 (by decide) ?_
      refine lv_goto (tgt := 18) hx hb dX1_hasOrNone_14 (by decide) ?_
      refine r_int S hret hlk G rfl (Nat.le_of_ble_eq_true rfl) (Nat.le_of_ble_eq_true rfl) dX1_hasOrNone_18 ?_
      have yk2 := tin_e ek2 hk2 (show n ≤ 1000 by omega)
      have zk2 := cn_e ek2 (show k2 < 1000 by omega)
      exact ⟨rfl, by simp [c1, yk2, zk2]⟩

set_option maxHeartbeats 4000000 in
set_option maxRecDepth 100000 in
theorem c_X1_isLeafOrNone (l : Launch) {E : EV} {w : wo} {x st wk tl ta : Nat} {tf : Nat → Option Nat} {T Rw Ia : Nat → Nat} {F : Nat → Nat → Int64} {n : Nat} {cl vs lk hd : Nat → Int32} {nr : Nat} {so sz : Nat → Int32} {it : Nat → Int64} {oc ow bg dp : Int32} {td : Nat → Int32} {lim wou th : Int32} (R : Rc E w (x, st, wk, tl, ta, tf, T, Rw, Ia, F) (n, cl, vs, lk, hd, nr, so, sz, it, oc, ow, bg, dp, td) (lim, wou, th)) (Kn : n ≤ 40) (o : Int32) : ct_i l E yX1_isLeafOrNone wsX1_isLeafOrNone 1 0 0 [.ref st, .int o] w (fun r w' => w' = w ∧ r = if tin n o = true then (if isof (cl (cn o)) 0 = true then 1 else 0) else 1) := by
  intro zz
  refine wo_body (Qc := fun A => va_Qi _ (wo_B E A) A) (ret := (some .boolean)) (by decide) rfl (Nat.le_of_ble_eq_true rfl) ?_
  intro p_ e_ s_ m_ args_ below_ meth_ code_ A_ ls S hret hlk hnm G hl
  have hl : lv_has ls 3 [(0, .ref st), (1, .int o)] := hl
  have hx := S.1
  have hb := S.2.1
  refine lv_aload_n hx hb dX1_isLeafOrNone_0 rfl (lv_at hl 0 rfl) ?_
  refine lv_iload_n hx hb dX1_isLeafOrNone_1 rfl (lv_at hl 1 rfl) ?_
  rcases tin_c n o (by omega) with ⟨tk1, ok1⟩ | ⟨k1, hk1, ek1⟩
  · skip
    refine g_Vq (n := 1) (rest := []) S G hl (c_X1_find_n l R Kn ok1) gX1_isLeafOrNone_X1_find rfl (by decide +kernel) (Rc_st R) rfl rfl rfl (Nat.le_of_ble_eq_true rfl) ⟨Nat.le_of_ble_eq_true rfl, Nat.le_of_ble_eq_true rfl⟩ ⟨Nat.le_of_ble_eq_true rfl, Nat.le_of_ble_eq_true rfl⟩ dX1_isLeafOrNone_2 ?_
    clear G; intro r_ w1 H locs hp G
    obtain ⟨rfl, rfl⟩ := hp
    refine W.eq (g2 := F0 m_ 5 ls [.null]) rfl ?_
    refine lv_astore_nN (lv' := [(2, .null), (0, .ref st), (1, .int o)]) hx hb dX1_isLeafOrNone_5 rfl hl (by decide) rfl (fun ls hl => ?_)
    refine lv_aload_nN hx hb dX1_isLeafOrNone_6 rfl (lv_at hl 0 rfl) ?_
    refine lv_ifnullN (tgt := 18) hx hb dX1_isLeafOrNone_7 (by decide) ?_
    refine lv_iconst (v := 1) hx hb dX1_isLeafOrNone_18 (by decide) ?_
    refine lv_goto (tgt := 23) hx hb dX1_isLeafOrNone_19 (by decide) ?_
    refine r_int S hret hlk G rfl (Nat.le_of_ble_eq_true rfl) (Nat.le_of_ble_eq_true rfl) dX1_isLeafOrNone_23 ?_
    exact ⟨rfl, by simp only [tk1, ↓reduceIte, Bool.false_eq_true]⟩
  · skip
    refine g_Vq (n := 1) (rest := []) S G hl (c_X1_find_y l R Kn ek1 hk1) gX1_isLeafOrNone_X1_find rfl (by decide +kernel) (Rc_st R) rfl rfl rfl (Nat.le_of_ble_eq_true rfl) ⟨Nat.le_of_ble_eq_true rfl, Nat.le_of_ble_eq_true rfl⟩ ⟨Nat.le_of_ble_eq_true rfl, Nat.le_of_ble_eq_true rfl⟩ dX1_isLeafOrNone_2 ?_
    clear G; intro r_ w1 H locs hp G
    obtain ⟨rfl, rfl⟩ := hp
    refine W.eq (g2 := F0 m_ 5 ls [.ref (T k1)]) rfl ?_
    refine lv_astore_n (lv' := [(2, .ref (T k1)), (0, .ref st), (1, .int o)]) hx hb dX1_isLeafOrNone_5 rfl hl (by decide) rfl (fun ls hl => ?_)
    refine lv_aload_n hx hb dX1_isLeafOrNone_6 rfl (lv_at hl 0 rfl) ?_
    refine lv_ifnull hx hb dX1_isLeafOrNone_7 ?_
    refine lv_aload_n hx hb dX1_isLeafOrNone_10 rfl (lv_at hl 0 rfl) ?_
    refine lv_iconst (v := 0) hx hb dX1_isLeafOrNone_11 (by decide) ?_
    refine g_Vi (n := 1) (rest := []) S G hl (c_X2_isOf l (Rc_T R k1 hk1) 0) gX1_isLeafOrNone_X2_isOf rfl (by decide +kernel) (Rc_T R k1 hk1) rfl rfl rfl (Nat.le_of_ble_eq_true rfl) ⟨Nat.le_of_ble_eq_true rfl, Nat.le_of_ble_eq_true rfl⟩ ⟨Nat.le_of_ble_eq_true rfl, Nat.le_of_ble_eq_true rfl⟩ dX1_isLeafOrNone_12 ?_
    clear G; intro r_ w1 H locs hp G
    obtain ⟨rfl, rfl⟩ := hp
    refine lv_if_eq (tgt := 22) hx hb dX1_isLeafOrNone_15 (by decide) (fun c2 => ?_) (fun c2 => ?_)
    · skip
      refine lv_iconst (v := 0) hx hb dX1_isLeafOrNone_22 (by decide) ?_
      refine r_int S hret hlk G rfl (Nat.le_of_ble_eq_true rfl) (Nat.le_of_ble_eq_true rfl) dX1_isLeafOrNone_23 ?_
      have yk1 := tin_e ek1 hk1 (show n ≤ 1000 by omega)
      have zk1 := cn_e ek1 (show k1 < 1000 by omega)
      exact ⟨rfl, by
        simp only [yk1, zk1, ↓reduceIte, Bool.false_eq_true]
        by_cases q : isof (cl k1) 0 = true
        · simp [q] at c2 ⊢
        · simp [q] at c2 ⊢⟩
    · skip
      refine lv_iconst (v := 1) hx hb dX1_isLeafOrNone_18 (by decide) ?_
      refine lv_goto (tgt := 23) hx hb dX1_isLeafOrNone_19 (by decide) ?_
      refine r_int S hret hlk G rfl (Nat.le_of_ble_eq_true rfl) (Nat.le_of_ble_eq_true rfl) dX1_isLeafOrNone_23 ?_
      have yk1 := tin_e ek1 hk1 (show n ≤ 1000 by omega)
      have zk1 := cn_e ek1 (show k1 < 1000 by omega)
      exact ⟨rfl, by
        simp only [yk1, zk1, ↓reduceIte, Bool.false_eq_true]
        by_cases q : isof (cl k1) 0 = true
        · simp [q] at c2 ⊢
        · simp [q] at c2 ⊢⟩

set_option maxHeartbeats 4000000 in
set_option maxRecDepth 100000 in
theorem C_link (l : Launch) {E : EV} {w : wo} {x : Nat} {σ : ST} (X : RcX E w x σ) (K : Gd σ) (t : Int32) (o : Int32) : ct_i l E yX4_link wsX4_link 2 0 0 [.ref x, .int t, .int o] w (fun r w' => r = (S_link t o σ).1 ∧ RcX E w' x (S_link t o σ).2) := by
  obtain ⟨st, wk, tl, ta, tf, T, Rw, Ia, F, ⟨lim, wou, th⟩, R⟩ := X
  obtain ⟨n, cl, vs, lk, hd, nr, so, sz, it, oc, ow, bg, dp, td⟩ := σ
  obtain ⟨Kn, Kr, Kc, Kl, Kh, Ks, Kz, Ki⟩ := K
  intro zz
  refine wo_body (Qc := fun A => va_Qi _ (wo_B E A) A) (ret := (some .int)) (by decide) rfl (Nat.le_of_ble_eq_true rfl) ?_
  intro p_ e_ s_ m_ args_ below_ meth_ code_ A_ ls S hret hlk hnm G hl
  have hl : lv_has ls 5 [(0, .ref x), (1, .int t), (2, .int o)] := hl
  have hx := S.1
  have hb := S.2.1
  refine lv_aload_n hx hb dX4_link_0 rfl (lv_at hl 0 rfl) ?_
  refine g_get S G (Rc_x R) rfl (by decide +kernel) 0 (by decide) (by decide +kernel) rfl dX4_link_1 ?_
  refine lv_iload_n hx hb dX4_link_4 rfl (lv_at hl 1 rfl) ?_
  rcases tin_c n t (by omega) with ⟨tk1, ok1⟩ | ⟨k1, hk1, ek1⟩
  · skip
    refine g_Vq (n := 1) (rest := []) S G hl (c_X1_find_n l R Kn ok1) gX4_link_X1_find rfl (by decide +kernel) (Rc_st R) rfl rfl rfl (Nat.le_of_ble_eq_true rfl) ⟨Nat.le_of_ble_eq_true rfl, Nat.le_of_ble_eq_true rfl⟩ ⟨Nat.le_of_ble_eq_true rfl, Nat.le_of_ble_eq_true rfl⟩ dX4_link_5 ?_
    clear G; intro r_ w1 H locs hp G
    obtain ⟨rfl, rfl⟩ := hp
    refine W.eq (g2 := F0 m_ 8 ls [.null]) rfl ?_
    refine lv_astore_nN (lv' := [(3, .null), (0, .ref x), (1, .int t), (2, .int o)]) hx hb dX4_link_8 rfl hl (by decide) rfl (fun ls hl => ?_)
    refine lv_aload_nN hx hb dX4_link_9 rfl (lv_at hl 0 rfl) ?_
    refine lv_ifnullN (tgt := 24) hx hb dX4_link_10 (by decide) ?_
    refine lv_ldc hx hb S.2.2.2.1 (S.2.2.2.2 (.constant RX4 33 (-2000000001)) (by decide +kernel)) dX4_link_24 ?_
    refine r_int S hret hlk G rfl (Nat.le_of_ble_eq_true rfl) (Nat.le_of_ble_eq_true rfl) dX4_link_26 ?_
    refine ⟨by simp only [S_link, tk1, ↓reduceIte, Bool.false_eq_true], ?_⟩
    simp only [S_link, tk1, ↓reduceIte, Bool.false_eq_true]
    exact ⟨_, _, _, _, _, _, _, _, _, _, R⟩
  · skip
    refine g_Vq (n := 1) (rest := []) S G hl (c_X1_find_y l R Kn ek1 hk1) gX4_link_X1_find rfl (by decide +kernel) (Rc_st R) rfl rfl rfl (Nat.le_of_ble_eq_true rfl) ⟨Nat.le_of_ble_eq_true rfl, Nat.le_of_ble_eq_true rfl⟩ ⟨Nat.le_of_ble_eq_true rfl, Nat.le_of_ble_eq_true rfl⟩ dX4_link_5 ?_
    clear G; intro r_ w1 H locs hp G
    obtain ⟨rfl, rfl⟩ := hp
    refine W.eq (g2 := F0 m_ 8 ls [.ref (T k1)]) rfl ?_
    refine lv_astore_n (lv' := [(3, .ref (T k1)), (0, .ref x), (1, .int t), (2, .int o)]) hx hb dX4_link_8 rfl hl (by decide) rfl (fun ls hl => ?_)
    refine lv_aload_n hx hb dX4_link_9 rfl (lv_at hl 0 rfl) ?_
    refine lv_ifnull hx hb dX4_link_10 ?_
    refine lv_aload_n hx hb dX4_link_13 rfl (lv_at hl 1 rfl) ?_
    refine g_get S G (Rc_x R) rfl (by decide +kernel) 0 (by decide) (by decide +kernel) rfl dX4_link_14 ?_
    refine lv_iload_n hx hb dX4_link_17 rfl (lv_at hl 3 rfl) ?_
    refine g_Vi (n := 1) (rest := []) S G hl (c_X1_hasOrNone l R Kn o) gX4_link_X1_hasOrNone rfl (by decide +kernel) (Rc_st R) rfl rfl rfl (Nat.le_of_ble_eq_true rfl) ⟨Nat.le_of_ble_eq_true rfl, Nat.le_of_ble_eq_true rfl⟩ ⟨Nat.le_of_ble_eq_true rfl, Nat.le_of_ble_eq_true rfl⟩ dX4_link_18 ?_
    clear G; intro r_ w1 H locs hp G
    obtain ⟨rfl, rfl⟩ := hp
    refine lv_if_ne (tgt := 27) hx hb dX4_link_21 (by decide) (fun c2 => ?_) (fun c2 => ?_)
    · skip
      refine lv_aload_n hx hb dX4_link_27 rfl (lv_at hl 0 rfl) ?_
      refine g_get S G (Rc_T R k1 hk1) rfl (by decide +kernel) 2 (by decide) (by decide +kernel) rfl dX4_link_28 ?_
      refine lv_istore (lv' := [(4, .int (lk k1)), (3, .ref (T k1)), (0, .ref x), (1, .int t), (2, .int o)]) hx hb dX4_link_31 hl (by decide) rfl (fun ls hl => ?_)
      refine lv_aload_n hx hb dX4_link_33 rfl (lv_at hl 1 rfl) ?_
      refine lv_iload_n hx hb dX4_link_34 rfl (lv_at hl 4 rfl) ?_
      refine g_put (fs' := [.int (cl k1), .int (vs k1), .int o, va_rf (ro Rw (hd k1))]) (ty := .int) (v := .int o) S G (Rc_T R k1 hk1) rfl tyX2 tyX2_ok nmX2 (by decide +kernel) 2 (by decide) (by decide +kernel) rfl (by decide +kernel) rfl rfl (Nat.le_of_ble_eq_true rfl) rfl dX4_link_35 (fun H locs G => ?_)
      obtain ⟨w, R, G⟩ := Rc_ex (Rc_p_lk R hk1 o) G
      refine lv_iload hx hb dX4_link_38 (lv_at hl 0 rfl) ?_
      refine r_int S hret hlk G rfl (Nat.le_of_ble_eq_true rfl) (Nat.le_of_ble_eq_true rfl) dX4_link_40 ?_
      have yk1 := tin_e ek1 hk1 (show n ≤ 1000 by omega)
      have zk1 := cn_e ek1 (show k1 < 1000 by omega)
      by_cases q : o = -1 ∨ tin n o = true
      · simp only [q, ↓reduceIte] at c2
        refine ⟨by simp only [S_link, yk1, zk1, ↓reduceIte, Bool.false_eq_true, q], ?_⟩
        simp only [S_link, yk1, zk1, ↓reduceIte, Bool.false_eq_true, q]
        exact ⟨_, _, _, _, _, _, _, _, _, _, R⟩
      · simp [q] at c2
    · skip
      refine lv_ldc hx hb S.2.2.2.1 (S.2.2.2.2 (.constant RX4 33 (-2000000001)) (by decide +kernel)) dX4_link_24 ?_
      refine r_int S hret hlk G rfl (Nat.le_of_ble_eq_true rfl) (Nat.le_of_ble_eq_true rfl) dX4_link_26 ?_
      have yk1 := tin_e ek1 hk1 (show n ≤ 1000 by omega)
      have zk1 := cn_e ek1 (show k1 < 1000 by omega)
      by_cases q : o = -1 ∨ tin n o = true
      · simp only [q, ↓reduceIte] at c2
        exact absurd c2 (by decide)
      · refine ⟨by simp only [S_link, yk1, zk1, ↓reduceIte, Bool.false_eq_true, q], ?_⟩
        simp only [S_link, yk1, zk1, ↓reduceIte, Bool.false_eq_true, q]
        exact ⟨_, _, _, _, _, _, _, _, _, _, R⟩

set_option maxHeartbeats 4000000 in
set_option maxRecDepth 100000 in
theorem C_follow (l : Launch) {E : EV} {w : wo} {x : Nat} {σ : ST} (X : RcX E w x σ) (K : Gd σ) (t : Int32) : ct_i l E yX4_follow wsX4_follow 2 0 0 [.ref x, .int t] w (fun r w' => r = (S_follow t σ).1 ∧ RcX E w' x (S_follow t σ).2) := by
  obtain ⟨st, wk, tl, ta, tf, T, Rw, Ia, F, ⟨lim, wou, th⟩, R⟩ := X
  obtain ⟨n, cl, vs, lk, hd, nr, so, sz, it, oc, ow, bg, dp, td⟩ := σ
  obtain ⟨Kn, Kr, Kc, Kl, Kh, Ks, Kz, Ki⟩ := K
  intro zz
  refine wo_body (Qc := fun A => va_Qi _ (wo_B E A) A) (ret := (some .int)) (by decide) rfl (Nat.le_of_ble_eq_true rfl) ?_
  intro p_ e_ s_ m_ args_ below_ meth_ code_ A_ ls S hret hlk hnm G hl
  have hl : lv_has ls 4 [(0, .ref x), (1, .int t)] := hl
  have hx := S.1
  have hb := S.2.1
  refine lv_aload_n hx hb dX4_follow_0 rfl (lv_at hl 0 rfl) ?_
  refine g_get S G (Rc_x R) rfl (by decide +kernel) 0 (by decide) (by decide +kernel) rfl dX4_follow_1 ?_
  refine lv_iload_n hx hb dX4_follow_4 rfl (lv_at hl 1 rfl) ?_
  rcases tin_c n t (by omega) with ⟨tk1, ok1⟩ | ⟨k1, hk1, ek1⟩
  · skip
    refine g_Vq (n := 1) (rest := []) S G hl (c_X1_find_n l R Kn ok1) gX4_follow_X1_find rfl (by decide +kernel) (Rc_st R) rfl rfl rfl (Nat.le_of_ble_eq_true rfl) ⟨Nat.le_of_ble_eq_true rfl, Nat.le_of_ble_eq_true rfl⟩ ⟨Nat.le_of_ble_eq_true rfl, Nat.le_of_ble_eq_true rfl⟩ dX4_follow_5 ?_
    clear G; intro r_ w1 H locs hp G
    obtain ⟨rfl, rfl⟩ := hp
    refine W.eq (g2 := F0 m_ 8 ls [.null]) rfl ?_
    refine lv_astore_nN (lv' := [(2, .null), (0, .ref x), (1, .int t)]) hx hb dX4_follow_8 rfl hl (by decide) rfl (fun ls hl => ?_)
    refine lv_aload_nN hx hb dX4_follow_9 rfl (lv_at hl 0 rfl) ?_
    refine lv_ifnonnullN hx hb dX4_follow_10 ?_
    refine lv_ldc hx hb S.2.2.2.1 (S.2.2.2.2 (.constant RX4 33 (-2000000001)) (by decide +kernel)) dX4_follow_13 ?_
    refine r_int S hret hlk G rfl (Nat.le_of_ble_eq_true rfl) (Nat.le_of_ble_eq_true rfl) dX4_follow_15 ?_
    refine ⟨by simp only [S_follow, tk1, s_tell, put_lk, put_vs, put_hd, ↓reduceIte, Bool.false_eq_true, pk_us], ?_⟩
    simp only [S_follow, tk1, s_tell, put_lk, put_vs, put_hd, ↓reduceIte, Bool.false_eq_true, pk_us]
    exact ⟨_, _, _, _, _, _, _, _, _, _, R⟩
  · skip
    refine g_Vq (n := 1) (rest := []) S G hl (c_X1_find_y l R Kn ek1 hk1) gX4_follow_X1_find rfl (by decide +kernel) (Rc_st R) rfl rfl rfl (Nat.le_of_ble_eq_true rfl) ⟨Nat.le_of_ble_eq_true rfl, Nat.le_of_ble_eq_true rfl⟩ ⟨Nat.le_of_ble_eq_true rfl, Nat.le_of_ble_eq_true rfl⟩ dX4_follow_5 ?_
    clear G; intro r_ w1 H locs hp G
    obtain ⟨rfl, rfl⟩ := hp
    refine W.eq (g2 := F0 m_ 8 ls [.ref (T k1)]) rfl ?_
    refine lv_astore_n (lv' := [(2, .ref (T k1)), (0, .ref x), (1, .int t)]) hx hb dX4_follow_8 rfl hl (by decide) rfl (fun ls hl => ?_)
    refine lv_aload_n hx hb dX4_follow_9 rfl (lv_at hl 0 rfl) ?_
    refine lv_ifnonnull (tgt := 16) hx hb dX4_follow_10 (by decide) ?_
    refine lv_aload_n hx hb dX4_follow_16 rfl (lv_at hl 1 rfl) ?_
    refine g_get S G (Rc_x R) rfl (by decide +kernel) 0 (by decide) (by decide +kernel) rfl dX4_follow_17 ?_
    refine lv_aload_n hx hb dX4_follow_20 rfl (lv_at hl 0 rfl) ?_
    refine g_get S G (Rc_T R k1 hk1) rfl (by decide +kernel) 2 (by decide) (by decide +kernel) rfl dX4_follow_21 ?_
    rcases Kl k1 hk1 with ek2 | ⟨k2, hk2, ek2⟩
    · skip
      refine g_Vq (n := 1) (rest := []) S G hl (c_X1_find_n l R Kn (Or.inl (by rw [ek2]; decide))) gX4_follow_X1_find rfl (by decide +kernel) (Rc_st R) rfl rfl rfl (Nat.le_of_ble_eq_true rfl) ⟨Nat.le_of_ble_eq_true rfl, Nat.le_of_ble_eq_true rfl⟩ ⟨Nat.le_of_ble_eq_true rfl, Nat.le_of_ble_eq_true rfl⟩ dX4_follow_24 ?_
      clear G; intro r_ w1 H locs hp G
      obtain ⟨rfl, rfl⟩ := hp
      refine W.eq (g2 := F0 m_ 27 ls [.null]) rfl ?_
      refine lv_astore_nN (lv' := [(3, .null), (2, .ref (T k1)), (0, .ref x), (1, .int t)]) hx hb dX4_follow_27 rfl hl (by decide) rfl (fun ls hl => ?_)
      refine lv_aload_nN hx hb dX4_follow_28 rfl (lv_at hl 0 rfl) ?_
      refine lv_ifnonnullN hx hb dX4_follow_29 ?_
      refine lv_aload_n hx hb dX4_follow_32 rfl (lv_at hl 2 rfl) ?_
      refine lv_iconst (v := 1) hx hb dX4_follow_33 (by decide) ?_
      refine g_Vi (n := 1) (rest := []) S G hl (c_X4_refuse l R (j := 1) (o := 1) rfl (by decide)) gX4_follow_X4_refuse rfl (by decide +kernel) (Rc_x R) rfl rfl rfl (Nat.le_of_ble_eq_true rfl) ⟨Nat.le_of_ble_eq_true rfl, Nat.le_of_ble_eq_true rfl⟩ ⟨Nat.le_of_ble_eq_true rfl, Nat.le_of_ble_eq_true rfl⟩ dX4_follow_34 ?_
      clear G; intro r_ w1 H locs hp G
      obtain ⟨hr_, R⟩ := hp
      subst r_
      rw [if_neg (show ¬ ((1 : Int32) = 7) by decide)] at R
      refine r_int S hret hlk G rfl (Nat.le_of_ble_eq_true rfl) (Nat.le_of_ble_eq_true rfl) dX4_follow_37 ?_
      have yk1 := tin_e ek1 hk1 (show n ≤ 1000 by omega)
      have zk1 := cn_e ek1 (show k1 < 1000 by omega)
      refine ⟨by simp only [S_follow, yk1, zk1, ek2, s_tell, put_lk, put_vs, put_hd, ↓reduceIte, Bool.false_eq_true, pk_us], ?_⟩
      simp only [S_follow, yk1, zk1, ek2, s_tell, put_lk, put_vs, put_hd, ↓reduceIte, Bool.false_eq_true, pk_us]
      exact ⟨_, _, _, _, _, _, _, _, _, _, R⟩
    · skip
      refine g_Vq (n := 1) (rest := []) S G hl (c_X1_find_y l R Kn ek2 hk2) gX4_follow_X1_find rfl (by decide +kernel) (Rc_st R) rfl rfl rfl (Nat.le_of_ble_eq_true rfl) ⟨Nat.le_of_ble_eq_true rfl, Nat.le_of_ble_eq_true rfl⟩ ⟨Nat.le_of_ble_eq_true rfl, Nat.le_of_ble_eq_true rfl⟩ dX4_follow_24 ?_
      clear G; intro r_ w1 H locs hp G
      obtain ⟨rfl, rfl⟩ := hp
      refine W.eq (g2 := F0 m_ 27 ls [.ref (T k2)]) rfl ?_
      refine lv_astore_n (lv' := [(3, .ref (T k2)), (2, .ref (T k1)), (0, .ref x), (1, .int t)]) hx hb dX4_follow_27 rfl hl (by decide) rfl (fun ls hl => ?_)
      refine lv_aload_n hx hb dX4_follow_28 rfl (lv_at hl 0 rfl) ?_
      refine lv_ifnonnull (tgt := 38) hx hb dX4_follow_29 (by decide) ?_
      refine lv_aload_n hx hb dX4_follow_38 rfl (lv_at hl 2 rfl) ?_
      refine lv_iconst (v := 0) hx hb dX4_follow_39 (by decide) ?_
      refine g_Vi (n := 1) (rest := []) S G hl (c_X4_tell l R (j := 0) (o := 0) rfl (by decide)) gX4_follow_X4_tell rfl (by decide +kernel) (Rc_x R) rfl rfl rfl (Nat.le_of_ble_eq_true rfl) ⟨Nat.le_of_ble_eq_true rfl, Nat.le_of_ble_eq_true rfl⟩ ⟨Nat.le_of_ble_eq_true rfl, Nat.le_of_ble_eq_true rfl⟩ dX4_follow_40 ?_
      clear G; intro r_ w1 H locs hp G
      obtain ⟨hr_, R⟩ := hp
      subst r_
      rw [if_neg (show ¬ ((0 : Int32) = 7) by decide)] at R
      refine lv_pop hx hb dX4_follow_43 rfl ?_
      refine lv_aload_n hx hb dX4_follow_44 rfl (lv_at hl 1 rfl) ?_
      refine lv_aload_n hx hb dX4_follow_45 rfl (lv_at hl 0 rfl) ?_
      refine g_get S G (Rc_T R k2 hk2) rfl (by decide +kernel) 2 (by decide) (by decide +kernel) rfl dX4_follow_46 ?_
      refine g_put (fs' := [.int (cl k1), .int (vs k1), .int (lk k2), va_rf (ro Rw (hd k1))]) (ty := .int) (v := .int (lk k2)) S G (Rc_T R k1 hk1) rfl tyX2 tyX2_ok nmX2 (by decide +kernel) 2 (by decide) (by decide +kernel) rfl (by decide +kernel) rfl rfl (Nat.le_of_ble_eq_true rfl) rfl dX4_follow_49 (fun H locs G => ?_)
      obtain ⟨w, R, G⟩ := Rc_ex (Rc_p_lk R hk1 (lk k2)) G
      refine lv_aload_n hx hb dX4_follow_52 rfl (lv_at hl 1 rfl) ?_
      refine g_get S G (Rc_T R k1 hk1) rfl (by decide +kernel) 2 (by decide) (by decide +kernel) rfl dX4_follow_53 ?_
      refine r_int S hret hlk G rfl (Nat.le_of_ble_eq_true rfl) (Nat.le_of_ble_eq_true rfl) dX4_follow_56 ?_
      have yk1 := tin_e ek1 hk1 (show n ≤ 1000 by omega)
      have zk1 := cn_e ek1 (show k1 < 1000 by omega)
      have qk2 := nm1 (show k2 < 100000 by omega)
      refine ⟨by simp only [S_follow, yk1, zk1, ek2, qk2, cn_nI (show k2 < 2 ^ 31 by omega), s_tell, put_lk, put_vs, put_hd, ↓reduceIte, Bool.false_eq_true, pk_us], ?_⟩
      simp only [S_follow, yk1, zk1, ek2, qk2, cn_nI (show k2 < 2 ^ 31 by omega), s_tell, put_lk, put_vs, put_hd, ↓reduceIte, Bool.false_eq_true, pk_us]
      exact ⟨_, _, _, _, _, _, _, _, _, _, R⟩

set_option maxHeartbeats 4000000 in
set_option maxRecDepth 100000 in
theorem C_trade (l : Launch) {E : EV} {w : wo} {x : Nat} {σ : ST} (X : RcX E w x σ) (K : Gd σ) (t : Int32) : ct_i l E yX4_trade wsX4_trade 2 0 0 [.ref x, .int t] w (fun r w' => r = (S_trade t σ).1 ∧ RcX E w' x (S_trade t σ).2) := by
  obtain ⟨st, wk, tl, ta, tf, T, Rw, Ia, F, ⟨lim, wou, th⟩, R⟩ := X
  obtain ⟨n, cl, vs, lk, hd, nr, so, sz, it, oc, ow, bg, dp, td⟩ := σ
  obtain ⟨Kn, Kr, Kc, Kl, Kh, Ks, Kz, Ki⟩ := K
  intro zz
  refine wo_body (Qc := fun A => va_Qi _ (wo_B E A) A) (ret := (some .int)) (by decide) rfl (Nat.le_of_ble_eq_true rfl) ?_
  intro p_ e_ s_ m_ args_ below_ meth_ code_ A_ ls S hret hlk hnm G hl
  have hl : lv_has ls 5 [(0, .ref x), (1, .int t)] := hl
  have hx := S.1
  have hb := S.2.1
  refine lv_aload_n hx hb dX4_trade_0 rfl (lv_at hl 0 rfl) ?_
  refine g_get S G (Rc_x R) rfl (by decide +kernel) 0 (by decide) (by decide +kernel) rfl dX4_trade_1 ?_
  refine lv_iload_n hx hb dX4_trade_4 rfl (lv_at hl 1 rfl) ?_
  rcases tin_c n t (by omega) with ⟨tk1, ok1⟩ | ⟨k1, hk1, ek1⟩
  · skip
    refine g_Vq (n := 1) (rest := []) S G hl (c_X1_find_n l R Kn ok1) gX4_trade_X1_find rfl (by decide +kernel) (Rc_st R) rfl rfl rfl (Nat.le_of_ble_eq_true rfl) ⟨Nat.le_of_ble_eq_true rfl, Nat.le_of_ble_eq_true rfl⟩ ⟨Nat.le_of_ble_eq_true rfl, Nat.le_of_ble_eq_true rfl⟩ dX4_trade_5 ?_
    clear G; intro r_ w1 H locs hp G
    obtain ⟨rfl, rfl⟩ := hp
    refine W.eq (g2 := F0 m_ 8 ls [.null]) rfl ?_
    refine lv_astore_nN (lv' := [(2, .null), (0, .ref x), (1, .int t)]) hx hb dX4_trade_8 rfl hl (by decide) rfl (fun ls hl => ?_)
    refine lv_aload_nN hx hb dX4_trade_9 rfl (lv_at hl 0 rfl) ?_
    refine lv_ifnonnullN hx hb dX4_trade_10 ?_
    refine lv_ldc hx hb S.2.2.2.1 (S.2.2.2.2 (.constant RX4 33 (-2000000001)) (by decide +kernel)) dX4_trade_13 ?_
    refine r_int S hret hlk G rfl (Nat.le_of_ble_eq_true rfl) (Nat.le_of_ble_eq_true rfl) dX4_trade_15 ?_
    refine ⟨by simp only [S_trade, tk1, s_tell, put_lk, put_vs, put_hd, ↓reduceIte, Bool.false_eq_true, pk_us], ?_⟩
    simp only [S_trade, tk1, s_tell, put_lk, put_vs, put_hd, ↓reduceIte, Bool.false_eq_true, pk_us]
    exact ⟨_, _, _, _, _, _, _, _, _, _, R⟩
  · skip
    refine g_Vq (n := 1) (rest := []) S G hl (c_X1_find_y l R Kn ek1 hk1) gX4_trade_X1_find rfl (by decide +kernel) (Rc_st R) rfl rfl rfl (Nat.le_of_ble_eq_true rfl) ⟨Nat.le_of_ble_eq_true rfl, Nat.le_of_ble_eq_true rfl⟩ ⟨Nat.le_of_ble_eq_true rfl, Nat.le_of_ble_eq_true rfl⟩ dX4_trade_5 ?_
    clear G; intro r_ w1 H locs hp G
    obtain ⟨rfl, rfl⟩ := hp
    refine W.eq (g2 := F0 m_ 8 ls [.ref (T k1)]) rfl ?_
    refine lv_astore_n (lv' := [(2, .ref (T k1)), (0, .ref x), (1, .int t)]) hx hb dX4_trade_8 rfl hl (by decide) rfl (fun ls hl => ?_)
    refine lv_aload_n hx hb dX4_trade_9 rfl (lv_at hl 0 rfl) ?_
    refine lv_ifnonnull (tgt := 16) hx hb dX4_trade_10 (by decide) ?_
    refine lv_aload_n hx hb dX4_trade_16 rfl (lv_at hl 1 rfl) ?_
    refine g_get S G (Rc_x R) rfl (by decide +kernel) 0 (by decide) (by decide +kernel) rfl dX4_trade_17 ?_
    refine lv_aload_n hx hb dX4_trade_20 rfl (lv_at hl 0 rfl) ?_
    refine g_get S G (Rc_T R k1 hk1) rfl (by decide +kernel) 2 (by decide) (by decide +kernel) rfl dX4_trade_21 ?_
    rcases Kl k1 hk1 with ek2 | ⟨k2, hk2, ek2⟩
    · skip
      refine g_Vq (n := 1) (rest := []) S G hl (c_X1_find_n l R Kn (Or.inl (by rw [ek2]; decide))) gX4_trade_X1_find rfl (by decide +kernel) (Rc_st R) rfl rfl rfl (Nat.le_of_ble_eq_true rfl) ⟨Nat.le_of_ble_eq_true rfl, Nat.le_of_ble_eq_true rfl⟩ ⟨Nat.le_of_ble_eq_true rfl, Nat.le_of_ble_eq_true rfl⟩ dX4_trade_24 ?_
      clear G; intro r_ w1 H locs hp G
      obtain ⟨rfl, rfl⟩ := hp
      refine W.eq (g2 := F0 m_ 27 ls [.null]) rfl ?_
      refine lv_astore_nN (lv' := [(3, .null), (2, .ref (T k1)), (0, .ref x), (1, .int t)]) hx hb dX4_trade_27 rfl hl (by decide) rfl (fun ls hl => ?_)
      refine lv_aload_nN hx hb dX4_trade_28 rfl (lv_at hl 0 rfl) ?_
      refine lv_ifnonnullN hx hb dX4_trade_29 ?_
      refine lv_aload_n hx hb dX4_trade_32 rfl (lv_at hl 2 rfl) ?_
      refine lv_iconst (v := 1) hx hb dX4_trade_33 (by decide) ?_
      refine g_Vi (n := 1) (rest := []) S G hl (c_X4_refuse l R (j := 1) (o := 1) rfl (by decide)) gX4_trade_X4_refuse rfl (by decide +kernel) (Rc_x R) rfl rfl rfl (Nat.le_of_ble_eq_true rfl) ⟨Nat.le_of_ble_eq_true rfl, Nat.le_of_ble_eq_true rfl⟩ ⟨Nat.le_of_ble_eq_true rfl, Nat.le_of_ble_eq_true rfl⟩ dX4_trade_34 ?_
      clear G; intro r_ w1 H locs hp G
      obtain ⟨hr_, R⟩ := hp
      subst r_
      rw [if_neg (show ¬ ((1 : Int32) = 7) by decide)] at R
      refine r_int S hret hlk G rfl (Nat.le_of_ble_eq_true rfl) (Nat.le_of_ble_eq_true rfl) dX4_trade_37 ?_
      have yk1 := tin_e ek1 hk1 (show n ≤ 1000 by omega)
      have zk1 := cn_e ek1 (show k1 < 1000 by omega)
      refine ⟨by simp only [S_trade, yk1, zk1, ek2, s_tell, put_lk, put_vs, put_hd, ↓reduceIte, Bool.false_eq_true, pk_us], ?_⟩
      simp only [S_trade, yk1, zk1, ek2, s_tell, put_lk, put_vs, put_hd, ↓reduceIte, Bool.false_eq_true, pk_us]
      exact ⟨_, _, _, _, _, _, _, _, _, _, R⟩
    · skip
      refine g_Vq (n := 1) (rest := []) S G hl (c_X1_find_y l R Kn ek2 hk2) gX4_trade_X1_find rfl (by decide +kernel) (Rc_st R) rfl rfl rfl (Nat.le_of_ble_eq_true rfl) ⟨Nat.le_of_ble_eq_true rfl, Nat.le_of_ble_eq_true rfl⟩ ⟨Nat.le_of_ble_eq_true rfl, Nat.le_of_ble_eq_true rfl⟩ dX4_trade_24 ?_
      clear G; intro r_ w1 H locs hp G
      obtain ⟨rfl, rfl⟩ := hp
      refine W.eq (g2 := F0 m_ 27 ls [.ref (T k2)]) rfl ?_
      refine lv_astore_n (lv' := [(3, .ref (T k2)), (2, .ref (T k1)), (0, .ref x), (1, .int t)]) hx hb dX4_trade_27 rfl hl (by decide) rfl (fun ls hl => ?_)
      refine lv_aload_n hx hb dX4_trade_28 rfl (lv_at hl 0 rfl) ?_
      refine lv_ifnonnull (tgt := 38) hx hb dX4_trade_29 (by decide) ?_
      refine lv_aload_n hx hb dX4_trade_38 rfl (lv_at hl 2 rfl) ?_
      refine lv_iconst (v := 0) hx hb dX4_trade_39 (by decide) ?_
      refine g_Vi (n := 1) (rest := []) S G hl (c_X4_tell l R (j := 0) (o := 0) rfl (by decide)) gX4_trade_X4_tell rfl (by decide +kernel) (Rc_x R) rfl rfl rfl (Nat.le_of_ble_eq_true rfl) ⟨Nat.le_of_ble_eq_true rfl, Nat.le_of_ble_eq_true rfl⟩ ⟨Nat.le_of_ble_eq_true rfl, Nat.le_of_ble_eq_true rfl⟩ dX4_trade_40 ?_
      clear G; intro r_ w1 H locs hp G
      obtain ⟨hr_, R⟩ := hp
      subst r_
      rw [if_neg (show ¬ ((0 : Int32) = 7) by decide)] at R
      refine lv_pop hx hb dX4_trade_43 rfl ?_
      refine lv_aload_n hx hb dX4_trade_44 rfl (lv_at hl 1 rfl) ?_
      refine g_get S G (Rc_T R k1 hk1) rfl (by decide +kernel) 1 (by decide) (by decide +kernel) rfl dX4_trade_45 ?_
      refine lv_istore (lv' := [(4, .int (vs k1)), (3, .ref (T k2)), (2, .ref (T k1)), (0, .ref x), (1, .int t)]) hx hb dX4_trade_48 hl (by decide) rfl (fun ls hl => ?_)
      refine lv_aload_n hx hb dX4_trade_50 rfl (lv_at hl 2 rfl) ?_
      refine lv_aload_n hx hb dX4_trade_51 rfl (lv_at hl 1 rfl) ?_
      refine g_get S G (Rc_T R k2 hk2) rfl (by decide +kernel) 1 (by decide) (by decide +kernel) rfl dX4_trade_52 ?_
      refine g_put (fs' := [.int (cl k1), .int (vs k2), .int (lk k1), va_rf (ro Rw (hd k1))]) (ty := .int) (v := .int (vs k2)) S G (Rc_T R k1 hk1) rfl tyX2 tyX2_ok nmX2 (by decide +kernel) 1 (by decide) (by decide +kernel) rfl (by decide +kernel) rfl rfl (Nat.le_of_ble_eq_true rfl) rfl dX4_trade_55 (fun H locs G => ?_)
      obtain ⟨w, R, G⟩ := Rc_ex (Rc_p_vs R hk1 (vs k2)) G
      refine lv_aload_n hx hb dX4_trade_58 rfl (lv_at hl 1 rfl) ?_
      refine lv_iload hx hb dX4_trade_59 (lv_at hl 0 rfl) ?_
      refine g_put (fs' := [.int (cl k2), .int (vs k1), .int (lk k2), va_rf (ro Rw (hd k2))]) (ty := .int) (v := .int (vs k1)) S G (Rc_T R k2 hk2) rfl tyX2 tyX2_ok nmX2 (by decide +kernel) 1 (by decide) (by decide +kernel) rfl (by decide +kernel) rfl rfl (Nat.le_of_ble_eq_true rfl) rfl dX4_trade_61 (fun H locs G => ?_)
      obtain ⟨w, R, G⟩ := Rc_ex (Rc_p_vs R hk2 (vs k1)) G
      refine lv_aload_n hx hb dX4_trade_64 rfl (lv_at hl 2 rfl) ?_
      refine g_get S G (Rc_T R k1 hk1) rfl (by decide +kernel) 1 (by decide) (by decide +kernel) rfl dX4_trade_65 ?_
      refine r_int S hret hlk G rfl (Nat.le_of_ble_eq_true rfl) (Nat.le_of_ble_eq_true rfl) dX4_trade_68 ?_
      have yk1 := tin_e ek1 hk1 (show n ≤ 1000 by omega)
      have zk1 := cn_e ek1 (show k1 < 1000 by omega)
      have qk2 := nm1 (show k2 < 100000 by omega)
      refine ⟨by simp only [S_trade, yk1, zk1, ek2, qk2, cn_nI (show k2 < 2 ^ 31 by omega), s_tell, put_lk, put_vs, put_hd, ↓reduceIte, Bool.false_eq_true, pk_us], ?_⟩
      simp only [S_trade, yk1, zk1, ek2, qk2, cn_nI (show k2 < 2 ^ 31 by omega), s_tell, put_lk, put_vs, put_hd, ↓reduceIte, Bool.false_eq_true, pk_us]
      exact ⟨_, _, _, _, _, _, _, _, _, _, R⟩
end
section
/-! THE CLASS: rows: is, share, holds, size, at, lay, set -/
theorem Rc_p_hdy {E : EV} {w : wo} {x st wk tl ta : Nat} {tf : Nat → Option Nat} {T Rw Ia : Nat → Nat} {F : Nat → Nat → Int64} {n : Nat} {cl vs lk hd : Nat → Int32} {nr : Nat} {so sz : Nat → Int32} {it : Nat → Int64} {oc ow bg dp : Int32} {td : Nat → Int32} {lim wou th : Int32} (R : Rc E w (x, st, wk, tl, ta, tf, T, Rw, Ia, F) (n, cl, vs, lk, hd, nr, so, sz, it, oc, ow, bg, dp, td) (lim, wou, th)) {k0 r : Nat} (h : k0 < n) (hr : r < nr) (hnr : nr ≤ 512) : Rc E (wo_up w (T k0) (.inr (2, [.int (cl k0), .int (vs k0), .int (lk k0), .ref (Rw r)]))) (x, st, wk, tl, ta, tf, T, Rw, Ia, F) (n, cl, vs, lk, upd hd k0 (nI r), nr, so, sz, it, oc, ow, bg, dp, td) (lim, wou, th) := by
  have q := Rc_p_hd R h (nI r)
  rw [show ro Rw (nI r) = some (Rw r) by simp [ro, nm1 (show r < 100000 by omega), cn_nI (show r < 2 ^ 31 by omega)]] at q
  exact q
theorem so_in {x : Int32} (h : ∃ s, s < 4 ∧ x = nI s) : ¬ (x < 0 ∨ 3 < x) := by
  obtain ⟨s, hs, rfl⟩ := h
  rintro (q | q)
  · exact nI_pos (by omega) q
  · exact nI_nlt (a := 3) (b := s) (by omega) (by omega) q
theorem sz_le {x : Int32} (h : ∃ z, z < 13 ∧ x = nI z) : cn x ≤ 12 := by
  obtain ⟨z, hz, rfl⟩ := h
  rw [cn_nI (by omega)]; omega
theorem sz_eq {x : Int32} (h : ∃ z, z < 13 ∧ x = nI z) : nI (cn x) = x := by
  obtain ⟨z, hz, rfl⟩ := h
  rw [cn_nI (by omega)]
theorem hi1 {N : Nat} (hN : N ≤ 1000) (k : Int32) : ((¬ k < 0 ∧ ¬ (1 : Int32) < 0) ∧ k ≤ nI N - 1) ↔ tin N k = true := by
  have e0 : (nI N - 1).toInt = (N : Int) - 1 := pk_sub_toInt (a := N) (b := 1) (by omega) (by omega)
  rcases tin_c N k hN with ⟨h, q⟩ | ⟨j, hj, rfl⟩
  · rw [h]
    constructor
    · rintro ⟨⟨z1, -⟩, z2⟩
      rcases q with q | q
      · exact absurd q z1
      · have h1 := Int32.le_iff_toInt_le.mp z2
        have h2 := Int32.le_iff_toInt_le.mp q
        rw [nI_toInt (by omega)] at h2
        omega
    · intro z; cases z
  · rw [tin_y hj hN]
    refine ⟨fun _ => rfl, fun _ => ⟨⟨nI_pos (by omega), by decide⟩, ?_⟩⟩
    rw [Int32.le_iff_toInt_le, e0, nI_toInt (by omega)]
    omega
theorem Rc_p_put {E : EV} {w : wo} {x st wk tl ta : Nat} {tf : Nat → Option Nat} {T Rw Ia : Nat → Nat} {F : Nat → Nat → Int64} {n : Nat} {cl vs lk hd : Nat → Int32} {nr : Nat} {so sz : Nat → Int32} {it : Nat → Int64} {oc ow bg dp : Int32} {td : Nat → Int32} {lim wou th : Int32} (R : Rc E w (x, st, wk, tl, ta, tf, T, Rw, Ia, F) (n, cl, vs, lk, hd, nr, so, sz, it, oc, ow, bg, dp, td) (lim, wou, th)) {r0 k0 : Nat} (h : r0 < nr) (Kz : ∀ r, r < nr → ∃ z, z < 13 ∧ sz r = nI z) (hk : k0 < cn (sz r0)) (v : Int64) : Rc E (wo_up w (Ia r0) (.inl (E.2.2.1, cn (sz r0), .inr (.inl (vp_updL (F r0) k0 v))))) (x, st, wk, tl, ta, tf, T, Rw, Ia, va_up F r0 (vp_updL (F r0) k0 v)) (n, cl, vs, lk, hd, nr, so, sz, vp_updL it (12 * r0 + k0) v, oc, ow, bg, dp, td) (lim, wou, th) := by
  refine Rc_p_it R h _ _ (fun k hk2 => ?_) (fun r hr hne k hk2 => ?_)
  · by_cases q : k = k0
    · subst q; rw [pk_uLs, pk_uLs]
    · rw [pk_uLn q, pk_uLn (show 12 * r0 + k ≠ 12 * r0 + k0 by omega)]
      exact Rc_F R r0 h k hk2
  · have h1 := sz_le (Kz r hr)
    have h2 := sz_le (Kz r0 h)
    exact pk_uLn (by omega)
set_option maxHeartbeats 4000000 in
set_option maxRecDepth 100000 in
theorem c_X4_againstItem_n (l : Launch) {E : EV} {w : wo} (lo hi k : Int32) : ct_i l E yX4_againstItem wsX4_againstItem 1 0 0 [.null, .int lo, .int hi, .int k] w (fun r w' => w' = w ∧ r = 1) := by
  intro zz
  refine wo_body (Qc := fun A => va_Qi _ (wo_B E A) A) (ret := (some .int)) (by decide) rfl (Nat.le_of_ble_eq_true rfl) ?_
  intro p_ e_ s_ m_ args_ below_ meth_ code_ A_ ls S hret hlk hnm G hl
  have hl : lv_has ls 4 [(0, .null), (1, .int lo), (2, .int hi), (3, .int k)] := hl
  have hx := S.1
  have hb := S.2.1
  refine lv_aload_nN hx hb dX4_againstItem_0 rfl (lv_at hl 0 rfl) ?_
  refine lv_ifnonnullN hx hb dX4_againstItem_1 ?_
  refine lv_iconst (v := 1) hx hb dX4_againstItem_4 (by decide) ?_
  refine r_int S hret hlk G rfl (Nat.le_of_ble_eq_true rfl) (Nat.le_of_ble_eq_true rfl) dX4_againstItem_5 ?_
  exact ⟨rfl, rfl⟩

set_option maxHeartbeats 4000000 in
set_option maxRecDepth 100000 in
theorem c_X4_againstItem_y (l : Launch) {E : EV} {w : wo} {x st wk tl ta : Nat} {tf : Nat → Option Nat} {T Rw Ia : Nat → Nat} {F : Nat → Nat → Int64} {n : Nat} {cl vs lk hd : Nat → Int32} {nr : Nat} {so sz : Nat → Int32} {it : Nat → Int64} {oc ow bg dp : Int32} {td : Nat → Int32} {lim wou th : Int32} (R : Rc E w (x, st, wk, tl, ta, tf, T, Rw, Ia, F) (n, cl, vs, lk, hd, nr, so, sz, it, oc, ow, bg, dp, td) (lim, wou, th)) {r : Nat} (hr : r < nr) (hz : cn (sz r) ≤ 12) (lo hi k : Int32) : ct_i l E yX4_againstItem wsX4_againstItem 1 0 0 [.ref (Rw r), .int lo, .int hi, .int k] w (fun q w' => w' = w ∧ q = if so r < lo ∨ hi < so r then 2 else if tin (cn (sz r)) k = true then 0 else 3) := by
  intro zz
  refine wo_body (Qc := fun A => va_Qi _ (wo_B E A) A) (ret := (some .int)) (by decide) rfl (Nat.le_of_ble_eq_true rfl) ?_
  intro p_ e_ s_ m_ args_ below_ meth_ code_ A_ ls S hret hlk hnm G hl
  have hl : lv_has ls 4 [(0, .ref (Rw r)), (1, .int lo), (2, .int hi), (3, .int k)] := hl
  have hx := S.1
  have hb := S.2.1
  refine lv_aload_n hx hb dX4_againstItem_0 rfl (lv_at hl 0 rfl) ?_
  refine lv_ifnonnull (tgt := 6) hx hb dX4_againstItem_1 (by decide) ?_
  refine lv_aload_n hx hb dX4_againstItem_6 rfl (lv_at hl 0 rfl) ?_
  refine g_get S G (Rc_Rw R r hr) rfl (by decide +kernel) 0 (by decide) (by decide +kernel) rfl dX4_againstItem_7 ?_
  refine lv_iload_n hx hb dX4_againstItem_10 rfl (lv_at hl 1 rfl) ?_
  refine lv_icmp_lt (tgt := 22) hx hb dX4_againstItem_11 (by decide) (fun c1 => ?_) (fun c1 => ?_)
  · skip
    refine lv_iconst (v := 2) hx hb dX4_againstItem_22 (by decide) ?_
    refine r_int S hret hlk G rfl (Nat.le_of_ble_eq_true rfl) (Nat.le_of_ble_eq_true rfl) dX4_againstItem_23 ?_
    exact ⟨rfl, by rw [if_pos (Or.inl c1)]⟩
  · skip
    refine lv_aload_n hx hb dX4_againstItem_14 rfl (lv_at hl 0 rfl) ?_
    refine g_get S G (Rc_Rw R r hr) rfl (by decide +kernel) 0 (by decide) (by decide +kernel) rfl dX4_againstItem_15 ?_
    refine lv_iload_n hx hb dX4_againstItem_18 rfl (lv_at hl 2 rfl) ?_
    refine lv_icmp_le (tgt := 24) hx hb dX4_againstItem_19 (by decide) (fun c2 => ?_) (fun c2 => ?_)
    · skip
      refine lv_aload_n hx hb dX4_againstItem_24 rfl (lv_at hl 0 rfl) ?_
      refine lv_iload_n hx hb dX4_againstItem_25 rfl (lv_at hl 3 rfl) ?_
      refine lv_iconst (v := 1) hx hb dX4_againstItem_26 (by decide) ?_
      refine g_Vi (n := 2) (rest := []) S G hl (c_X0_hasItems l (Rc_Rw R r hr) (Rc_Ia R r hr) k 1) gX4_againstItem_X0_hasItems rfl (by decide +kernel) (Rc_Rw R r hr) rfl rfl rfl (Nat.le_of_ble_eq_true rfl) ⟨Nat.le_of_ble_eq_true rfl, Nat.le_of_ble_eq_true rfl⟩ ⟨Nat.le_of_ble_eq_true rfl, Nat.le_of_ble_eq_true rfl⟩ dX4_againstItem_27 ?_
      clear G; intro r_ w1 H locs hp G
      obtain ⟨rfl, rfl⟩ := hp
      refine lv_if_eq (tgt := 37) hx hb dX4_againstItem_30 (by decide) (fun c3 => ?_) (fun c3 => ?_)
      · skip
        refine lv_iconst (v := 3) hx hb dX4_againstItem_37 (by decide) ?_
        refine r_int S hret hlk G rfl (Nat.le_of_ble_eq_true rfl) (Nat.le_of_ble_eq_true rfl) dX4_againstItem_38 ?_
        have q0 : ¬ (so r < lo ∨ hi < so r) := fun z => z.elim c1 (Int32.not_lt.mpr c2)
        have q1 := hi1 (Nat.le_trans hz (by decide)) k
        refine ⟨rfl, ?_⟩
        rw [if_neg q0]
        by_cases q : tin (cn (sz r)) k = true
        · rw [if_pos (q1.mpr q)] at c3
          exact absurd c3 (by decide)
        · simp only [q, ↓reduceIte, Bool.false_eq_true]
      · skip
        refine lv_iconst (v := 0) hx hb dX4_againstItem_33 (by decide) ?_
        refine lv_goto (tgt := 38) hx hb dX4_againstItem_34 (by decide) ?_
        refine r_int S hret hlk G rfl (Nat.le_of_ble_eq_true rfl) (Nat.le_of_ble_eq_true rfl) dX4_againstItem_38 ?_
        have q0 : ¬ (so r < lo ∨ hi < so r) := fun z => z.elim c1 (Int32.not_lt.mpr c2)
        have q1 := hi1 (Nat.le_trans hz (by decide)) k
        refine ⟨rfl, ?_⟩
        rw [if_neg q0]
        by_cases q : tin (cn (sz r)) k = true
        · simp only [q, ↓reduceIte]
        · rw [if_neg (fun z => q (q1.mp z))] at c3
          exact absurd rfl c3
    · skip
      refine lv_iconst (v := 2) hx hb dX4_againstItem_22 (by decide) ?_
      refine r_int S hret hlk G rfl (Nat.le_of_ble_eq_true rfl) (Nat.le_of_ble_eq_true rfl) dX4_againstItem_23 ?_
      exact ⟨rfl, by rw [if_pos (Or.inr (Int32.not_le.mp c2))]⟩

set_option maxHeartbeats 4000000 in
set_option maxRecDepth 100000 in
theorem C_is (l : Launch) {E : EV} {w : wo} {x : Nat} {σ : ST} (X : RcX E w x σ) (K : Gd σ) (t : Int32) (c : Int32) : ct_i l E yX4_is wsX4_is 2 0 0 [.ref x, .int t, .int c] w (fun r w' => r = S_is t c σ ∧ RcX E w' x σ) := by
  obtain ⟨st, wk, tl, ta, tf, T, Rw, Ia, F, ⟨lim, wou, th⟩, R⟩ := X
  obtain ⟨n, cl, vs, lk, hd, nr, so, sz, it, oc, ow, bg, dp, td⟩ := σ
  obtain ⟨Kn, Kr, Kc, Kl, Kh, Ks, Kz, Ki⟩ := K
  intro zz
  refine wo_body (Qc := fun A => va_Qi _ (wo_B E A) A) (ret := (some .int)) (by decide) rfl (Nat.le_of_ble_eq_true rfl) ?_
  intro p_ e_ s_ m_ args_ below_ meth_ code_ A_ ls S hret hlk hnm G hl
  have hl : lv_has ls 4 [(0, .ref x), (1, .int t), (2, .int c)] := hl
  have hx := S.1
  have hb := S.2.1
  refine lv_aload_n hx hb dX4_is_0 rfl (lv_at hl 0 rfl) ?_
  refine g_get S G (Rc_x R) rfl (by decide +kernel) 0 (by decide) (by decide +kernel) rfl dX4_is_1 ?_
  refine lv_iload_n hx hb dX4_is_4 rfl (lv_at hl 1 rfl) ?_
  rcases tin_c n t (by omega) with ⟨tk1, ok1⟩ | ⟨k1, hk1, ek1⟩
  · skip
    refine g_Vq (n := 1) (rest := []) S G hl (c_X1_find_n l R Kn ok1) gX4_is_X1_find rfl (by decide +kernel) (Rc_st R) rfl rfl rfl (Nat.le_of_ble_eq_true rfl) ⟨Nat.le_of_ble_eq_true rfl, Nat.le_of_ble_eq_true rfl⟩ ⟨Nat.le_of_ble_eq_true rfl, Nat.le_of_ble_eq_true rfl⟩ dX4_is_5 ?_
    clear G; intro r_ w1 H locs hp G
    obtain ⟨rfl, rfl⟩ := hp
    refine W.eq (g2 := F0 m_ 8 ls [.null]) rfl ?_
    refine lv_astore_nN (lv' := [(3, .null), (0, .ref x), (1, .int t), (2, .int c)]) hx hb dX4_is_8 rfl hl (by decide) rfl (fun ls hl => ?_)
    refine lv_aload_nN hx hb dX4_is_9 rfl (lv_at hl 0 rfl) ?_
    refine lv_ifnullN (tgt := 20) hx hb dX4_is_10 (by decide) ?_
    refine lv_ldc hx hb S.2.2.2.1 (S.2.2.2.2 (.constant RX4 33 (-2000000001)) (by decide +kernel)) dX4_is_20 ?_
    refine r_int S hret hlk G rfl (Nat.le_of_ble_eq_true rfl) (Nat.le_of_ble_eq_true rfl) dX4_is_22 ?_
    exact ⟨by simp only [S_is, tk1, ↓reduceIte, Bool.false_eq_true], ⟨_, _, _, _, _, _, _, _, _, _, R⟩⟩
  · skip
    refine g_Vq (n := 1) (rest := []) S G hl (c_X1_find_y l R Kn ek1 hk1) gX4_is_X1_find rfl (by decide +kernel) (Rc_st R) rfl rfl rfl (Nat.le_of_ble_eq_true rfl) ⟨Nat.le_of_ble_eq_true rfl, Nat.le_of_ble_eq_true rfl⟩ ⟨Nat.le_of_ble_eq_true rfl, Nat.le_of_ble_eq_true rfl⟩ dX4_is_5 ?_
    clear G; intro r_ w1 H locs hp G
    obtain ⟨rfl, rfl⟩ := hp
    refine W.eq (g2 := F0 m_ 8 ls [.ref (T k1)]) rfl ?_
    refine lv_astore_n (lv' := [(3, .ref (T k1)), (0, .ref x), (1, .int t), (2, .int c)]) hx hb dX4_is_8 rfl hl (by decide) rfl (fun ls hl => ?_)
    refine lv_aload_n hx hb dX4_is_9 rfl (lv_at hl 0 rfl) ?_
    refine lv_ifnull hx hb dX4_is_10 ?_
    refine lv_iload_n hx hb dX4_is_13 rfl (lv_at hl 3 rfl) ?_
    refine g_Si (n := 1) (rest := []) S G hl (c_X4_isClass l c) gX4_is_X4_isClass rfl (by decide +kernel) rfl rfl (Nat.le_of_ble_eq_true rfl) ⟨Nat.le_of_ble_eq_true rfl, Nat.le_of_ble_eq_true rfl⟩ ⟨Nat.le_of_ble_eq_true rfl, Nat.le_of_ble_eq_true rfl⟩ dX4_is_14 ?_
    clear G; intro r_ w1 H locs hp G
    obtain ⟨rfl, rfl⟩ := hp
    refine lv_if_ne (tgt := 23) hx hb dX4_is_17 (by decide) (fun c2 => ?_) (fun c2 => ?_)
    · skip
      refine lv_aload_n hx hb dX4_is_23 rfl (lv_at hl 0 rfl) ?_
      refine lv_iload_n hx hb dX4_is_24 rfl (lv_at hl 3 rfl) ?_
      refine g_Vi (n := 1) (rest := []) S G hl (c_X2_isOf l (Rc_T R k1 hk1) c) gX4_is_X2_isOf rfl (by decide +kernel) (Rc_T R k1 hk1) rfl rfl rfl (Nat.le_of_ble_eq_true rfl) ⟨Nat.le_of_ble_eq_true rfl, Nat.le_of_ble_eq_true rfl⟩ ⟨Nat.le_of_ble_eq_true rfl, Nat.le_of_ble_eq_true rfl⟩ dX4_is_25 ?_
      clear G; intro r_ w1 H locs hp G
      obtain ⟨rfl, rfl⟩ := hp
      refine lv_if_eq (tgt := 35) hx hb dX4_is_28 (by decide) (fun c3 => ?_) (fun c3 => ?_)
      · skip
        refine lv_iconst (v := 0) hx hb dX4_is_35 (by decide) ?_
        refine r_int S hret hlk G rfl (Nat.le_of_ble_eq_true rfl) (Nat.le_of_ble_eq_true rfl) dX4_is_36 ?_
        have yk1 := tin_e ek1 hk1 (show n ≤ 1000 by omega)
        have zk1 := cn_e ek1 (show k1 < 1000 by omega)
        refine ⟨?_, ⟨_, _, _, _, _, _, _, _, _, _, R⟩⟩
        simp only [S_is, yk1, zk1, ↓reduceIte, Bool.false_eq_true]
        by_cases q : tin 8 c = true
        · rw [if_pos q]
          by_cases q2 : isof (cl k1) c = true
          · rw [if_pos q2] at c3
            exact absurd c3 (by decide)
          · rw [if_neg q2]
        · rw [if_neg q] at c2
          exact absurd rfl c2
      · skip
        refine lv_iconst (v := 1) hx hb dX4_is_31 (by decide) ?_
        refine lv_goto (tgt := 36) hx hb dX4_is_32 (by decide) ?_
        refine r_int S hret hlk G rfl (Nat.le_of_ble_eq_true rfl) (Nat.le_of_ble_eq_true rfl) dX4_is_36 ?_
        have yk1 := tin_e ek1 hk1 (show n ≤ 1000 by omega)
        have zk1 := cn_e ek1 (show k1 < 1000 by omega)
        refine ⟨?_, ⟨_, _, _, _, _, _, _, _, _, _, R⟩⟩
        simp only [S_is, yk1, zk1, ↓reduceIte, Bool.false_eq_true]
        by_cases q : tin 8 c = true
        · rw [if_pos q]
          by_cases q2 : isof (cl k1) c = true
          · rw [if_pos q2]
          · rw [if_neg q2] at c3
            exact absurd rfl c3
        · rw [if_neg q] at c2
          exact absurd rfl c2
    · skip
      refine lv_ldc hx hb S.2.2.2.1 (S.2.2.2.2 (.constant RX4 33 (-2000000001)) (by decide +kernel)) dX4_is_20 ?_
      refine r_int S hret hlk G rfl (Nat.le_of_ble_eq_true rfl) (Nat.le_of_ble_eq_true rfl) dX4_is_22 ?_
      have yk1 := tin_e ek1 hk1 (show n ≤ 1000 by omega)
      have zk1 := cn_e ek1 (show k1 < 1000 by omega)
      refine ⟨?_, ⟨_, _, _, _, _, _, _, _, _, _, R⟩⟩
      simp only [S_is, yk1, zk1, ↓reduceIte, Bool.false_eq_true]
      by_cases q : tin 8 c = true
      · rw [if_pos q] at c2
        exact absurd c2 (by decide)
      · rw [if_neg q]

set_option maxHeartbeats 4000000 in
set_option maxRecDepth 100000 in
theorem C_holds (l : Launch) {E : EV} {w : wo} {x : Nat} {σ : ST} (X : RcX E w x σ) (K : Gd σ) (t : Int32) : ct_i l E yX4_holds wsX4_holds 2 0 0 [.ref x, .int t] w (fun r w' => r = S_holds t σ ∧ RcX E w' x σ) := by
  obtain ⟨st, wk, tl, ta, tf, T, Rw, Ia, F, ⟨lim, wou, th⟩, R⟩ := X
  obtain ⟨n, cl, vs, lk, hd, nr, so, sz, it, oc, ow, bg, dp, td⟩ := σ
  obtain ⟨Kn, Kr, Kc, Kl, Kh, Ks, Kz, Ki⟩ := K
  intro zz
  refine wo_body (Qc := fun A => va_Qi _ (wo_B E A) A) (ret := (some .int)) (by decide) rfl (Nat.le_of_ble_eq_true rfl) ?_
  intro p_ e_ s_ m_ args_ below_ meth_ code_ A_ ls S hret hlk hnm G hl
  have hl : lv_has ls 3 [(0, .ref x), (1, .int t)] := hl
  have hx := S.1
  have hb := S.2.1
  refine lv_aload_n hx hb dX4_holds_0 rfl (lv_at hl 0 rfl) ?_
  refine g_get S G (Rc_x R) rfl (by decide +kernel) 0 (by decide) (by decide +kernel) rfl dX4_holds_1 ?_
  refine lv_iload_n hx hb dX4_holds_4 rfl (lv_at hl 1 rfl) ?_
  rcases tin_c n t (by omega) with ⟨tk1, ok1⟩ | ⟨k1, hk1, ek1⟩
  · skip
    refine g_Vq (n := 1) (rest := []) S G hl (c_X1_find_n l R Kn ok1) gX4_holds_X1_find rfl (by decide +kernel) (Rc_st R) rfl rfl rfl (Nat.le_of_ble_eq_true rfl) ⟨Nat.le_of_ble_eq_true rfl, Nat.le_of_ble_eq_true rfl⟩ ⟨Nat.le_of_ble_eq_true rfl, Nat.le_of_ble_eq_true rfl⟩ dX4_holds_5 ?_
    clear G; intro r_ w1 H locs hp G
    obtain ⟨rfl, rfl⟩ := hp
    refine W.eq (g2 := F0 m_ 8 ls [.null]) rfl ?_
    refine lv_astore_nN (lv' := [(2, .null), (0, .ref x), (1, .int t)]) hx hb dX4_holds_8 rfl hl (by decide) rfl (fun ls hl => ?_)
    refine lv_aload_nN hx hb dX4_holds_9 rfl (lv_at hl 0 rfl) ?_
    refine lv_ifnonnullN hx hb dX4_holds_10 ?_
    refine lv_ldc hx hb S.2.2.2.1 (S.2.2.2.2 (.constant RX4 33 (-2000000001)) (by decide +kernel)) dX4_holds_13 ?_
    refine lv_goto (tgt := 22) hx hb dX4_holds_15 (by decide) ?_
    refine r_int S hret hlk G rfl (Nat.le_of_ble_eq_true rfl) (Nat.le_of_ble_eq_true rfl) dX4_holds_22 ?_
    refine ⟨by simp only [S_holds, tk1, s_tell, put_lk, put_vs, put_hd, put_it, ↓reduceIte, Bool.false_eq_true, pk_us], ?_⟩
    exact ⟨_, _, _, _, _, _, _, _, _, _, R⟩
  · skip
    refine g_Vq (n := 1) (rest := []) S G hl (c_X1_find_y l R Kn ek1 hk1) gX4_holds_X1_find rfl (by decide +kernel) (Rc_st R) rfl rfl rfl (Nat.le_of_ble_eq_true rfl) ⟨Nat.le_of_ble_eq_true rfl, Nat.le_of_ble_eq_true rfl⟩ ⟨Nat.le_of_ble_eq_true rfl, Nat.le_of_ble_eq_true rfl⟩ dX4_holds_5 ?_
    clear G; intro r_ w1 H locs hp G
    obtain ⟨rfl, rfl⟩ := hp
    refine W.eq (g2 := F0 m_ 8 ls [.ref (T k1)]) rfl ?_
    refine lv_astore_n (lv' := [(2, .ref (T k1)), (0, .ref x), (1, .int t)]) hx hb dX4_holds_8 rfl hl (by decide) rfl (fun ls hl => ?_)
    refine lv_aload_n hx hb dX4_holds_9 rfl (lv_at hl 0 rfl) ?_
    refine lv_ifnonnull (tgt := 18) hx hb dX4_holds_10 (by decide) ?_
    refine lv_aload_n hx hb dX4_holds_18 rfl (lv_at hl 0 rfl) ?_
    rcases Kh k1 hk1 with er2 | ⟨r2, hr2, er2⟩
    · skip
      refine g_Vi (n := 0) (rest := []) S G hl (c_X2_heldSort_n l (Rc_Tn R hk1 er2)) gX4_holds_X2_heldSort rfl (by decide +kernel) (Rc_Tn R hk1 er2) rfl rfl rfl (Nat.le_of_ble_eq_true rfl) ⟨Nat.le_of_ble_eq_true rfl, Nat.le_of_ble_eq_true rfl⟩ ⟨Nat.le_of_ble_eq_true rfl, Nat.le_of_ble_eq_true rfl⟩ dX4_holds_19 ?_
      clear G; intro r_ w1 H locs hp G
      obtain ⟨rfl, rfl⟩ := hp
      refine r_int S hret hlk G rfl (Nat.le_of_ble_eq_true rfl) (Nat.le_of_ble_eq_true rfl) dX4_holds_22 ?_
      have yk1 := tin_e ek1 hk1 (show n ≤ 1000 by omega)
      have zk1 := cn_e ek1 (show k1 < 1000 by omega)
      refine ⟨by simp only [S_holds, yk1, zk1, er2, s_tell, put_lk, put_vs, put_hd, put_it, ↓reduceIte, Bool.false_eq_true, pk_us], ?_⟩
      exact ⟨_, _, _, _, _, _, _, _, _, _, R⟩
    · skip
      refine g_Vi (n := 0) (rest := []) S G hl (c_X2_heldSort_y l (Rc_Ty R hk1 er2 hr2 Kr) (Rc_Rw R r2 hr2)) gX4_holds_X2_heldSort rfl (by decide +kernel) (Rc_Ty R hk1 er2 hr2 Kr) rfl rfl rfl (Nat.le_of_ble_eq_true rfl) ⟨Nat.le_of_ble_eq_true rfl, Nat.le_of_ble_eq_true rfl⟩ ⟨Nat.le_of_ble_eq_true rfl, Nat.le_of_ble_eq_true rfl⟩ dX4_holds_19 ?_
      clear G; intro r_ w1 H locs hp G
      obtain ⟨rfl, rfl⟩ := hp
      refine r_int S hret hlk G rfl (Nat.le_of_ble_eq_true rfl) (Nat.le_of_ble_eq_true rfl) dX4_holds_22 ?_
      have yk1 := tin_e ek1 hk1 (show n ≤ 1000 by omega)
      have zk1 := cn_e ek1 (show k1 < 1000 by omega)
      have qr2 := nm1 (show r2 < 100000 by omega)
      refine ⟨by simp only [S_holds, yk1, zk1, er2, qr2, cn_nI (show r2 < 2 ^ 31 by omega), s_tell, put_lk, put_vs, put_hd, put_it, ↓reduceIte, Bool.false_eq_true, pk_us], ?_⟩
      exact ⟨_, _, _, _, _, _, _, _, _, _, R⟩

set_option maxHeartbeats 4000000 in
set_option maxRecDepth 100000 in
theorem C_share (l : Launch) {E : EV} {w : wo} {x : Nat} {σ : ST} (X : RcX E w x σ) (K : Gd σ) (t : Int32) (o : Int32) : ct_i l E yX4_share wsX4_share 2 0 0 [.ref x, .int t, .int o] w (fun r w' => r = (S_share t o σ).1 ∧ RcX E w' x (S_share t o σ).2) := by
  obtain ⟨st, wk, tl, ta, tf, T, Rw, Ia, F, ⟨lim, wou, th⟩, R⟩ := X
  obtain ⟨n, cl, vs, lk, hd, nr, so, sz, it, oc, ow, bg, dp, td⟩ := σ
  obtain ⟨Kn, Kr, Kc, Kl, Kh, Ks, Kz, Ki⟩ := K
  intro zz
  refine wo_body (Qc := fun A => va_Qi _ (wo_B E A) A) (ret := (some .int)) (by decide) rfl (Nat.le_of_ble_eq_true rfl) ?_
  intro p_ e_ s_ m_ args_ below_ meth_ code_ A_ ls S hret hlk hnm G hl
  have hl : lv_has ls 5 [(0, .ref x), (1, .int t), (2, .int o)] := hl
  have hx := S.1
  have hb := S.2.1
  refine lv_aload_n hx hb dX4_share_0 rfl (lv_at hl 0 rfl) ?_
  refine g_get S G (Rc_x R) rfl (by decide +kernel) 0 (by decide) (by decide +kernel) rfl dX4_share_1 ?_
  refine lv_iload_n hx hb dX4_share_4 rfl (lv_at hl 1 rfl) ?_
  rcases tin_c n t (by omega) with ⟨tk1, ok1⟩ | ⟨k1, hk1, ek1⟩
  · skip
    refine g_Vq (n := 1) (rest := []) S G hl (c_X1_find_n l R Kn ok1) gX4_share_X1_find rfl (by decide +kernel) (Rc_st R) rfl rfl rfl (Nat.le_of_ble_eq_true rfl) ⟨Nat.le_of_ble_eq_true rfl, Nat.le_of_ble_eq_true rfl⟩ ⟨Nat.le_of_ble_eq_true rfl, Nat.le_of_ble_eq_true rfl⟩ dX4_share_5 ?_
    clear G; intro r_ w1 H locs hp G
    obtain ⟨rfl, rfl⟩ := hp
    refine W.eq (g2 := F0 m_ 8 ls [.null]) rfl ?_
    refine lv_astore_nN (lv' := [(3, .null), (0, .ref x), (1, .int t), (2, .int o)]) hx hb dX4_share_8 rfl hl (by decide) rfl (fun ls hl => ?_)
    refine lv_aload_n hx hb dX4_share_9 rfl (lv_at hl 1 rfl) ?_
    refine g_get S G (Rc_x R) rfl (by decide +kernel) 0 (by decide) (by decide +kernel) rfl dX4_share_10 ?_
    refine lv_iload_n hx hb dX4_share_13 rfl (lv_at hl 3 rfl) ?_
    rcases tin_c n o (by omega) with ⟨tk2, ok2⟩ | ⟨k2, hk2, ek2⟩
    · skip
      refine g_Vq (n := 1) (rest := []) S G hl (c_X1_find_n l R Kn ok2) gX4_share_X1_find rfl (by decide +kernel) (Rc_st R) rfl rfl rfl (Nat.le_of_ble_eq_true rfl) ⟨Nat.le_of_ble_eq_true rfl, Nat.le_of_ble_eq_true rfl⟩ ⟨Nat.le_of_ble_eq_true rfl, Nat.le_of_ble_eq_true rfl⟩ dX4_share_14 ?_
      clear G; intro r_ w1 H locs hp G
      obtain ⟨rfl, rfl⟩ := hp
      refine W.eq (g2 := F0 m_ 17 ls [.null]) rfl ?_
      refine lv_astoreN (lv' := [(4, .null), (3, .null), (0, .ref x), (1, .int t), (2, .int o)]) hx hb dX4_share_17 hl (by decide) rfl (fun ls hl => ?_)
      refine lv_aload_nN hx hb dX4_share_19 rfl (lv_at hl 1 rfl) ?_
      refine lv_ifnullN (tgt := 28) hx hb dX4_share_20 (by decide) ?_
      refine lv_ldc hx hb S.2.2.2.1 (S.2.2.2.2 (.constant RX4 33 (-2000000001)) (by decide +kernel)) dX4_share_28 ?_
      refine r_int S hret hlk G rfl (Nat.le_of_ble_eq_true rfl) (Nat.le_of_ble_eq_true rfl) dX4_share_30 ?_
      refine ⟨by simp only [S_share, tk1, tk2, s_tell, put_lk, put_vs, put_hd, put_it, ↓reduceIte, Bool.false_eq_true, pk_us], ?_⟩
      simp only [S_share, tk1, tk2, s_tell, put_lk, put_vs, put_hd, put_it, ↓reduceIte, Bool.false_eq_true, pk_us]
      exact ⟨_, _, _, _, _, _, _, _, _, _, R⟩
    · skip
      refine g_Vq (n := 1) (rest := []) S G hl (c_X1_find_y l R Kn ek2 hk2) gX4_share_X1_find rfl (by decide +kernel) (Rc_st R) rfl rfl rfl (Nat.le_of_ble_eq_true rfl) ⟨Nat.le_of_ble_eq_true rfl, Nat.le_of_ble_eq_true rfl⟩ ⟨Nat.le_of_ble_eq_true rfl, Nat.le_of_ble_eq_true rfl⟩ dX4_share_14 ?_
      clear G; intro r_ w1 H locs hp G
      obtain ⟨rfl, rfl⟩ := hp
      refine W.eq (g2 := F0 m_ 17 ls [.ref (T k2)]) rfl ?_
      refine lv_astore (lv' := [(4, .ref (T k2)), (3, .null), (0, .ref x), (1, .int t), (2, .int o)]) hx hb dX4_share_17 hl (by decide) rfl (fun ls hl => ?_)
      refine lv_aload_nN hx hb dX4_share_19 rfl (lv_at hl 1 rfl) ?_
      refine lv_ifnullN (tgt := 28) hx hb dX4_share_20 (by decide) ?_
      refine lv_ldc hx hb S.2.2.2.1 (S.2.2.2.2 (.constant RX4 33 (-2000000001)) (by decide +kernel)) dX4_share_28 ?_
      refine r_int S hret hlk G rfl (Nat.le_of_ble_eq_true rfl) (Nat.le_of_ble_eq_true rfl) dX4_share_30 ?_
      have yk2 := tin_e ek2 hk2 (show n ≤ 1000 by omega)
      have zk2 := cn_e ek2 (show k2 < 1000 by omega)
      refine ⟨by simp only [S_share, tk1, yk2, zk2, s_tell, put_lk, put_vs, put_hd, put_it, ↓reduceIte, Bool.false_eq_true, pk_us], ?_⟩
      simp only [S_share, tk1, yk2, zk2, s_tell, put_lk, put_vs, put_hd, put_it, ↓reduceIte, Bool.false_eq_true, pk_us]
      exact ⟨_, _, _, _, _, _, _, _, _, _, R⟩
  · skip
    refine g_Vq (n := 1) (rest := []) S G hl (c_X1_find_y l R Kn ek1 hk1) gX4_share_X1_find rfl (by decide +kernel) (Rc_st R) rfl rfl rfl (Nat.le_of_ble_eq_true rfl) ⟨Nat.le_of_ble_eq_true rfl, Nat.le_of_ble_eq_true rfl⟩ ⟨Nat.le_of_ble_eq_true rfl, Nat.le_of_ble_eq_true rfl⟩ dX4_share_5 ?_
    clear G; intro r_ w1 H locs hp G
    obtain ⟨rfl, rfl⟩ := hp
    refine W.eq (g2 := F0 m_ 8 ls [.ref (T k1)]) rfl ?_
    refine lv_astore_n (lv' := [(3, .ref (T k1)), (0, .ref x), (1, .int t), (2, .int o)]) hx hb dX4_share_8 rfl hl (by decide) rfl (fun ls hl => ?_)
    refine lv_aload_n hx hb dX4_share_9 rfl (lv_at hl 1 rfl) ?_
    refine g_get S G (Rc_x R) rfl (by decide +kernel) 0 (by decide) (by decide +kernel) rfl dX4_share_10 ?_
    refine lv_iload_n hx hb dX4_share_13 rfl (lv_at hl 3 rfl) ?_
    rcases tin_c n o (by omega) with ⟨tk3, ok3⟩ | ⟨k3, hk3, ek3⟩
    · skip
      refine g_Vq (n := 1) (rest := []) S G hl (c_X1_find_n l R Kn ok3) gX4_share_X1_find rfl (by decide +kernel) (Rc_st R) rfl rfl rfl (Nat.le_of_ble_eq_true rfl) ⟨Nat.le_of_ble_eq_true rfl, Nat.le_of_ble_eq_true rfl⟩ ⟨Nat.le_of_ble_eq_true rfl, Nat.le_of_ble_eq_true rfl⟩ dX4_share_14 ?_
      clear G; intro r_ w1 H locs hp G
      obtain ⟨rfl, rfl⟩ := hp
      refine W.eq (g2 := F0 m_ 17 ls [.null]) rfl ?_
      refine lv_astoreN (lv' := [(4, .null), (3, .ref (T k1)), (0, .ref x), (1, .int t), (2, .int o)]) hx hb dX4_share_17 hl (by decide) rfl (fun ls hl => ?_)
      refine lv_aload_n hx hb dX4_share_19 rfl (lv_at hl 1 rfl) ?_
      refine lv_ifnull hx hb dX4_share_20 ?_
      refine lv_aloadN hx hb dX4_share_23 (lv_at hl 0 rfl) ?_
      refine lv_ifnonnullN hx hb dX4_share_25 ?_
      refine lv_ldc hx hb S.2.2.2.1 (S.2.2.2.2 (.constant RX4 33 (-2000000001)) (by decide +kernel)) dX4_share_28 ?_
      refine r_int S hret hlk G rfl (Nat.le_of_ble_eq_true rfl) (Nat.le_of_ble_eq_true rfl) dX4_share_30 ?_
      have yk1 := tin_e ek1 hk1 (show n ≤ 1000 by omega)
      have zk1 := cn_e ek1 (show k1 < 1000 by omega)
      refine ⟨by simp only [S_share, yk1, zk1, tk3, s_tell, put_lk, put_vs, put_hd, put_it, ↓reduceIte, Bool.false_eq_true, pk_us], ?_⟩
      simp only [S_share, yk1, zk1, tk3, s_tell, put_lk, put_vs, put_hd, put_it, ↓reduceIte, Bool.false_eq_true, pk_us]
      exact ⟨_, _, _, _, _, _, _, _, _, _, R⟩
    · skip
      refine g_Vq (n := 1) (rest := []) S G hl (c_X1_find_y l R Kn ek3 hk3) gX4_share_X1_find rfl (by decide +kernel) (Rc_st R) rfl rfl rfl (Nat.le_of_ble_eq_true rfl) ⟨Nat.le_of_ble_eq_true rfl, Nat.le_of_ble_eq_true rfl⟩ ⟨Nat.le_of_ble_eq_true rfl, Nat.le_of_ble_eq_true rfl⟩ dX4_share_14 ?_
      clear G; intro r_ w1 H locs hp G
      obtain ⟨rfl, rfl⟩ := hp
      refine W.eq (g2 := F0 m_ 17 ls [.ref (T k3)]) rfl ?_
      refine lv_astore (lv' := [(4, .ref (T k3)), (3, .ref (T k1)), (0, .ref x), (1, .int t), (2, .int o)]) hx hb dX4_share_17 hl (by decide) rfl (fun ls hl => ?_)
      refine lv_aload_n hx hb dX4_share_19 rfl (lv_at hl 1 rfl) ?_
      refine lv_ifnull hx hb dX4_share_20 ?_
      refine lv_aload hx hb dX4_share_23 (lv_at hl 0 rfl) ?_
      refine lv_ifnonnull (tgt := 31) hx hb dX4_share_25 (by decide) ?_
      refine lv_aload_n hx hb dX4_share_31 rfl (lv_at hl 1 rfl) ?_
      refine lv_aload hx hb dX4_share_32 (lv_at hl 0 rfl) ?_
      rcases Kh k3 hk3 with er4 | ⟨r4, hr4, er4⟩
      · skip
        refine g_get S G (Rc_Tn R hk3 er4) rfl (by decide +kernel) 3 (by decide) (by decide +kernel) rfl dX4_share_34 ?_
        refine g_put (fs' := [.int (cl k1), .int (vs k1), .int (lk k1), .null]) (ty := .object "ClassRunner$Row") (v := .null) S G (Rc_T R k1 hk1) rfl tyX2 tyX2_ok nmX2 (by decide +kernel) 3 (by decide) (by decide +kernel) rfl (by decide +kernel) rfl rfl (Nat.le_of_ble_eq_true rfl) rfl dX4_share_37 (fun H locs G => ?_)
        obtain ⟨w, R, G⟩ := Rc_ex (Rc_p_hdn R hk1) G
        refine lv_aload_n hx hb dX4_share_40 rfl (lv_at hl 1 rfl) ?_
        refine g_Vi (n := 0) (rest := []) S G hl (c_X2_heldSort_n l (Rc_Tn R hk1 pk_us)) gX4_share_X2_heldSort rfl (by decide +kernel) (Rc_Tn R hk1 pk_us) rfl rfl rfl (Nat.le_of_ble_eq_true rfl) ⟨Nat.le_of_ble_eq_true rfl, Nat.le_of_ble_eq_true rfl⟩ ⟨Nat.le_of_ble_eq_true rfl, Nat.le_of_ble_eq_true rfl⟩ dX4_share_41 ?_
        clear G; intro r_ w1 H locs hp G
        obtain ⟨rfl, rfl⟩ := hp
        refine r_int S hret hlk G rfl (Nat.le_of_ble_eq_true rfl) (Nat.le_of_ble_eq_true rfl) dX4_share_44 ?_
        have yk1 := tin_e ek1 hk1 (show n ≤ 1000 by omega)
        have zk1 := cn_e ek1 (show k1 < 1000 by omega)
        have yk3 := tin_e ek3 hk3 (show n ≤ 1000 by omega)
        have zk3 := cn_e ek3 (show k3 < 1000 by omega)
        refine ⟨by simp only [S_share, yk1, zk1, yk3, zk3, er4, pk_us, s_tell, put_lk, put_vs, put_hd, put_it, ↓reduceIte, Bool.false_eq_true, pk_us], ?_⟩
        simp only [S_share, yk1, zk1, yk3, zk3, er4, pk_us, s_tell, put_lk, put_vs, put_hd, put_it, ↓reduceIte, Bool.false_eq_true, pk_us]
        exact ⟨_, _, _, _, _, _, _, _, _, _, R⟩
      · skip
        refine g_get S G (Rc_Ty R hk3 er4 hr4 Kr) rfl (by decide +kernel) 3 (by decide) (by decide +kernel) rfl dX4_share_34 ?_
        refine g_put (fs' := [.int (cl k1), .int (vs k1), .int (lk k1), .ref (Rw r4)]) (ty := .object "ClassRunner$Row") (v := .ref (Rw r4)) S G (Rc_T R k1 hk1) rfl tyX2 tyX2_ok nmX2 (by decide +kernel) 3 (by decide) (by decide +kernel) rfl (by decide +kernel) rfl rfl (Nat.le_of_ble_eq_true rfl) rfl dX4_share_37 (fun H locs G => ?_)
        obtain ⟨w, R, G⟩ := Rc_ex (Rc_p_hdy R hk1 hr4 Kr) G
        refine lv_aload_n hx hb dX4_share_40 rfl (lv_at hl 1 rfl) ?_
        refine g_Vi (n := 0) (rest := []) S G hl (c_X2_heldSort_y l (Rc_Ty R hk1 pk_us hr4 Kr) (Rc_Rw R r4 hr4)) gX4_share_X2_heldSort rfl (by decide +kernel) (Rc_Ty R hk1 pk_us hr4 Kr) rfl rfl rfl (Nat.le_of_ble_eq_true rfl) ⟨Nat.le_of_ble_eq_true rfl, Nat.le_of_ble_eq_true rfl⟩ ⟨Nat.le_of_ble_eq_true rfl, Nat.le_of_ble_eq_true rfl⟩ dX4_share_41 ?_
        clear G; intro r_ w1 H locs hp G
        obtain ⟨rfl, rfl⟩ := hp
        refine r_int S hret hlk G rfl (Nat.le_of_ble_eq_true rfl) (Nat.le_of_ble_eq_true rfl) dX4_share_44 ?_
        have yk1 := tin_e ek1 hk1 (show n ≤ 1000 by omega)
        have zk1 := cn_e ek1 (show k1 < 1000 by omega)
        have yk3 := tin_e ek3 hk3 (show n ≤ 1000 by omega)
        have zk3 := cn_e ek3 (show k3 < 1000 by omega)
        have qr4 := nm1 (show r4 < 100000 by omega)
        have qr4 := nm1 (show r4 < 100000 by omega)
        refine ⟨by simp only [S_share, yk1, zk1, yk3, zk3, er4, qr4, cn_nI (show r4 < 2 ^ 31 by omega), pk_us, qr4, cn_nI (show r4 < 2 ^ 31 by omega), s_tell, put_lk, put_vs, put_hd, put_it, ↓reduceIte, Bool.false_eq_true, pk_us], ?_⟩
        simp only [S_share, yk1, zk1, yk3, zk3, er4, qr4, cn_nI (show r4 < 2 ^ 31 by omega), pk_us, qr4, cn_nI (show r4 < 2 ^ 31 by omega), s_tell, put_lk, put_vs, put_hd, put_it, ↓reduceIte, Bool.false_eq_true, pk_us]
        exact ⟨_, _, _, _, _, _, _, _, _, _, R⟩

set_option maxHeartbeats 4000000 in
set_option maxRecDepth 100000 in
theorem C_size (l : Launch) {E : EV} {w : wo} {x : Nat} {σ : ST} (X : RcX E w x σ) (K : Gd σ) (t : Int32) : ct_i l E yX4_size wsX4_size 2 0 0 [.ref x, .int t] w (fun r w' => r = (S_size t σ).1 ∧ RcX E w' x (S_size t σ).2) := by
  obtain ⟨st, wk, tl, ta, tf, T, Rw, Ia, F, ⟨lim, wou, th⟩, R⟩ := X
  obtain ⟨n, cl, vs, lk, hd, nr, so, sz, it, oc, ow, bg, dp, td⟩ := σ
  obtain ⟨Kn, Kr, Kc, Kl, Kh, Ks, Kz, Ki⟩ := K
  intro zz
  refine wo_body (Qc := fun A => va_Qi _ (wo_B E A) A) (ret := (some .int)) (by decide) rfl (Nat.le_of_ble_eq_true rfl) ?_
  intro p_ e_ s_ m_ args_ below_ meth_ code_ A_ ls S hret hlk hnm G hl
  have hl : lv_has ls 4 [(0, .ref x), (1, .int t)] := hl
  have hx := S.1
  have hb := S.2.1
  refine lv_aload_n hx hb dX4_size_0 rfl (lv_at hl 0 rfl) ?_
  refine g_get S G (Rc_x R) rfl (by decide +kernel) 0 (by decide) (by decide +kernel) rfl dX4_size_1 ?_
  refine lv_iload_n hx hb dX4_size_4 rfl (lv_at hl 1 rfl) ?_
  rcases tin_c n t (by omega) with ⟨tk1, ok1⟩ | ⟨k1, hk1, ek1⟩
  · skip
    refine g_Vq (n := 1) (rest := []) S G hl (c_X1_find_n l R Kn ok1) gX4_size_X1_find rfl (by decide +kernel) (Rc_st R) rfl rfl rfl (Nat.le_of_ble_eq_true rfl) ⟨Nat.le_of_ble_eq_true rfl, Nat.le_of_ble_eq_true rfl⟩ ⟨Nat.le_of_ble_eq_true rfl, Nat.le_of_ble_eq_true rfl⟩ dX4_size_5 ?_
    clear G; intro r_ w1 H locs hp G
    obtain ⟨rfl, rfl⟩ := hp
    refine W.eq (g2 := F0 m_ 8 ls [.null]) rfl ?_
    refine lv_astore_nN (lv' := [(2, .null), (0, .ref x), (1, .int t)]) hx hb dX4_size_8 rfl hl (by decide) rfl (fun ls hl => ?_)
    refine lv_aload_nN hx hb dX4_size_9 rfl (lv_at hl 0 rfl) ?_
    refine lv_ifnonnullN hx hb dX4_size_10 ?_
    refine lv_ldc hx hb S.2.2.2.1 (S.2.2.2.2 (.constant RX4 33 (-2000000001)) (by decide +kernel)) dX4_size_13 ?_
    refine r_int S hret hlk G rfl (Nat.le_of_ble_eq_true rfl) (Nat.le_of_ble_eq_true rfl) dX4_size_15 ?_
    refine ⟨by simp only [S_size, tk1, s_tell, put_lk, put_vs, put_hd, put_it, ↓reduceIte, Bool.false_eq_true, pk_us], ?_⟩
    simp only [S_size, tk1, s_tell, put_lk, put_vs, put_hd, put_it, ↓reduceIte, Bool.false_eq_true, pk_us]
    exact ⟨_, _, _, _, _, _, _, _, _, _, R⟩
  · skip
    refine g_Vq (n := 1) (rest := []) S G hl (c_X1_find_y l R Kn ek1 hk1) gX4_size_X1_find rfl (by decide +kernel) (Rc_st R) rfl rfl rfl (Nat.le_of_ble_eq_true rfl) ⟨Nat.le_of_ble_eq_true rfl, Nat.le_of_ble_eq_true rfl⟩ ⟨Nat.le_of_ble_eq_true rfl, Nat.le_of_ble_eq_true rfl⟩ dX4_size_5 ?_
    clear G; intro r_ w1 H locs hp G
    obtain ⟨rfl, rfl⟩ := hp
    refine W.eq (g2 := F0 m_ 8 ls [.ref (T k1)]) rfl ?_
    refine lv_astore_n (lv' := [(2, .ref (T k1)), (0, .ref x), (1, .int t)]) hx hb dX4_size_8 rfl hl (by decide) rfl (fun ls hl => ?_)
    refine lv_aload_n hx hb dX4_size_9 rfl (lv_at hl 0 rfl) ?_
    refine lv_ifnonnull (tgt := 16) hx hb dX4_size_10 (by decide) ?_
    refine lv_aload_n hx hb dX4_size_16 rfl (lv_at hl 0 rfl) ?_
    rcases Kh k1 hk1 with er2 | ⟨r2, hr2, er2⟩
    · skip
      refine g_get S G (Rc_Tn R hk1 er2) rfl (by decide +kernel) 3 (by decide) (by decide +kernel) rfl dX4_size_17 ?_
      refine lv_astore_nN (lv' := [(3, .null), (2, .ref (T k1)), (0, .ref x), (1, .int t)]) hx hb dX4_size_20 rfl hl (by decide) rfl (fun ls hl => ?_)
      refine lv_aload_nN hx hb dX4_size_21 rfl (lv_at hl 0 rfl) ?_
      refine lv_ifnonnullN hx hb dX4_size_22 ?_
      refine lv_aload_n hx hb dX4_size_25 rfl (lv_at hl 2 rfl) ?_
      refine lv_iconst (v := 1) hx hb dX4_size_26 (by decide) ?_
      refine g_Vi (n := 1) (rest := []) S G hl (c_X4_refuse l R (j := 1) (o := 1) rfl (by decide)) gX4_size_X4_refuse rfl (by decide +kernel) (Rc_x R) rfl rfl rfl (Nat.le_of_ble_eq_true rfl) ⟨Nat.le_of_ble_eq_true rfl, Nat.le_of_ble_eq_true rfl⟩ ⟨Nat.le_of_ble_eq_true rfl, Nat.le_of_ble_eq_true rfl⟩ dX4_size_27 ?_
      clear G; intro r_ w1 H locs hp G
      obtain ⟨hr_, R⟩ := hp
      subst r_
      rw [if_neg (show ¬ ((1 : Int32) = 7) by decide)] at R
      refine r_int S hret hlk G rfl (Nat.le_of_ble_eq_true rfl) (Nat.le_of_ble_eq_true rfl) dX4_size_30 ?_
      have yk1 := tin_e ek1 hk1 (show n ≤ 1000 by omega)
      have zk1 := cn_e ek1 (show k1 < 1000 by omega)
      refine ⟨by simp only [S_size, yk1, zk1, er2, s_tell, put_lk, put_vs, put_hd, put_it, ↓reduceIte, Bool.false_eq_true, pk_us], ?_⟩
      simp only [S_size, yk1, zk1, er2, s_tell, put_lk, put_vs, put_hd, put_it, ↓reduceIte, Bool.false_eq_true, pk_us]
      exact ⟨_, _, _, _, _, _, _, _, _, _, R⟩
    · skip
      refine g_get S G (Rc_Ty R hk1 er2 hr2 Kr) rfl (by decide +kernel) 3 (by decide) (by decide +kernel) rfl dX4_size_17 ?_
      refine lv_astore_n (lv' := [(3, .ref (Rw r2)), (2, .ref (T k1)), (0, .ref x), (1, .int t)]) hx hb dX4_size_20 rfl hl (by decide) rfl (fun ls hl => ?_)
      refine lv_aload_n hx hb dX4_size_21 rfl (lv_at hl 0 rfl) ?_
      refine lv_ifnonnull (tgt := 31) hx hb dX4_size_22 (by decide) ?_
      refine lv_aload_n hx hb dX4_size_31 rfl (lv_at hl 2 rfl) ?_
      refine lv_iconst (v := 0) hx hb dX4_size_32 (by decide) ?_
      refine g_Vi (n := 1) (rest := []) S G hl (c_X4_tell l R (j := 0) (o := 0) rfl (by decide)) gX4_size_X4_tell rfl (by decide +kernel) (Rc_x R) rfl rfl rfl (Nat.le_of_ble_eq_true rfl) ⟨Nat.le_of_ble_eq_true rfl, Nat.le_of_ble_eq_true rfl⟩ ⟨Nat.le_of_ble_eq_true rfl, Nat.le_of_ble_eq_true rfl⟩ dX4_size_33 ?_
      clear G; intro r_ w1 H locs hp G
      obtain ⟨hr_, R⟩ := hp
      subst r_
      rw [if_neg (show ¬ ((0 : Int32) = 7) by decide)] at R
      refine lv_pop hx hb dX4_size_36 rfl ?_
      refine lv_aload_n hx hb dX4_size_37 rfl (lv_at hl 0 rfl) ?_
      refine g_get S G (Rc_Rw R r2 hr2) rfl (by decide +kernel) 1 (by decide) (by decide +kernel) rfl dX4_size_38 ?_
      refine g_llen S G (Rc_Ia R r2 hr2) dX4_size_41 ?_
      refine r_int S hret hlk G rfl (Nat.le_of_ble_eq_true rfl) (Nat.le_of_ble_eq_true rfl) dX4_size_42 ?_
      have yk1 := tin_e ek1 hk1 (show n ≤ 1000 by omega)
      have zk1 := cn_e ek1 (show k1 < 1000 by omega)
      have qr2 := nm1 (show r2 < 100000 by omega)
      refine ⟨by simp only [S_size, yk1, zk1, er2, qr2, cn_nI (show r2 < 2 ^ 31 by omega), sz_eq (Kz r2 hr2), s_tell, put_lk, put_vs, put_hd, put_it, ↓reduceIte, Bool.false_eq_true, pk_us], ?_⟩
      simp only [S_size, yk1, zk1, er2, qr2, cn_nI (show r2 < 2 ^ 31 by omega), sz_eq (Kz r2 hr2), s_tell, put_lk, put_vs, put_hd, put_it, ↓reduceIte, Bool.false_eq_true, pk_us]
      exact ⟨_, _, _, _, _, _, _, _, _, _, R⟩

theorem z64 : Int32.toInt64 0 = 0 := by decide
set_option maxHeartbeats 4000000 in
set_option maxRecDepth 100000 in
theorem C_at (l : Launch) {E : EV} {w : wo} {x : Nat} {σ : ST} (X : RcX E w x σ) (K : Gd σ) (t : Int32) (k : Int32) : ct_l l E yX4_at wsX4_at 2 0 0 [.ref x, .int t, .int k] w (fun r w' => r = (S_at t k σ).1 ∧ RcX E w' x (S_at t k σ).2) := by
  obtain ⟨st, wk, tl, ta, tf, T, Rw, Ia, F, ⟨lim, wou, th⟩, R⟩ := X
  obtain ⟨n, cl, vs, lk, hd, nr, so, sz, it, oc, ow, bg, dp, td⟩ := σ
  obtain ⟨Kn, Kr, Kc, Kl, Kh, Ks, Kz, Ki⟩ := K
  intro zz
  refine wo_body (Qc := fun A => va_Ql _ (wo_B E A) A) (ret := (some .long)) (by decide) rfl (Nat.le_of_ble_eq_true rfl) ?_
  intro p_ e_ s_ m_ args_ below_ meth_ code_ A_ ls S hret hlk hnm G hl
  have hl : lv_has ls 6 [(0, .ref x), (1, .int t), (2, .int k)] := hl
  have hx := S.1
  have hb := S.2.1
  refine lv_aload_n hx hb dX4_at_0 rfl (lv_at hl 0 rfl) ?_
  refine g_get S G (Rc_x R) rfl (by decide +kernel) 0 (by decide) (by decide +kernel) rfl dX4_at_1 ?_
  refine lv_iload_n hx hb dX4_at_4 rfl (lv_at hl 1 rfl) ?_
  rcases tin_c n t (by omega) with ⟨tk1, ok1⟩ | ⟨k1, hk1, ek1⟩
  · skip
    refine g_Vq (n := 1) (rest := []) S G hl (c_X1_find_n l R Kn ok1) gX4_at_X1_find rfl (by decide +kernel) (Rc_st R) rfl rfl rfl (Nat.le_of_ble_eq_true rfl) ⟨Nat.le_of_ble_eq_true rfl, Nat.le_of_ble_eq_true rfl⟩ ⟨Nat.le_of_ble_eq_true rfl, Nat.le_of_ble_eq_true rfl⟩ dX4_at_5 ?_
    clear G; intro r_ w1 H locs hp G
    obtain ⟨rfl, rfl⟩ := hp
    refine W.eq (g2 := F0 m_ 8 ls [.null]) rfl ?_
    refine lv_astore_nN (lv' := [(3, .null), (0, .ref x), (1, .int t), (2, .int k)]) hx hb dX4_at_8 rfl hl (by decide) rfl (fun ls hl => ?_)
    refine lv_aload_nN hx hb dX4_at_9 rfl (lv_at hl 0 rfl) ?_
    refine lv_ifnonnullN hx hb dX4_at_10 ?_
    refine lv_ldc2 hx hb S.2.2.2.1 (S.2.2.2.2 (.constantLong RX4 96 (-2000000001)) (by decide +kernel)) dX4_at_13 ?_
    refine r_long S hret hlk G (Nat.le_of_ble_eq_true rfl) (Nat.le_of_ble_eq_true rfl) dX4_at_16 ?_
    refine ⟨by simp only [S_at, tk1, s_tell, put_lk, put_vs, put_hd, put_it, ↓reduceIte, Bool.false_eq_true, pk_us, z64], ?_⟩
    simp only [S_at, tk1, s_tell, put_lk, put_vs, put_hd, put_it, ↓reduceIte, Bool.false_eq_true, pk_us, z64]
    exact ⟨_, _, _, _, _, _, _, _, _, _, R⟩
  · skip
    refine g_Vq (n := 1) (rest := []) S G hl (c_X1_find_y l R Kn ek1 hk1) gX4_at_X1_find rfl (by decide +kernel) (Rc_st R) rfl rfl rfl (Nat.le_of_ble_eq_true rfl) ⟨Nat.le_of_ble_eq_true rfl, Nat.le_of_ble_eq_true rfl⟩ ⟨Nat.le_of_ble_eq_true rfl, Nat.le_of_ble_eq_true rfl⟩ dX4_at_5 ?_
    clear G; intro r_ w1 H locs hp G
    obtain ⟨rfl, rfl⟩ := hp
    refine W.eq (g2 := F0 m_ 8 ls [.ref (T k1)]) rfl ?_
    refine lv_astore_n (lv' := [(3, .ref (T k1)), (0, .ref x), (1, .int t), (2, .int k)]) hx hb dX4_at_8 rfl hl (by decide) rfl (fun ls hl => ?_)
    refine lv_aload_n hx hb dX4_at_9 rfl (lv_at hl 0 rfl) ?_
    refine lv_ifnonnull (tgt := 17) hx hb dX4_at_10 (by decide) ?_
    refine lv_aload_n hx hb dX4_at_17 rfl (lv_at hl 0 rfl) ?_
    rcases Kh k1 hk1 with er2 | ⟨r2, hr2, er2⟩
    · skip
      refine g_get S G (Rc_Tn R hk1 er2) rfl (by decide +kernel) 3 (by decide) (by decide +kernel) rfl dX4_at_18 ?_
      refine lv_astoreN (lv' := [(4, .null), (3, .ref (T k1)), (0, .ref x), (1, .int t), (2, .int k)]) hx hb dX4_at_21 hl (by decide) rfl (fun ls hl => ?_)
      refine lv_aloadN hx hb dX4_at_23 (lv_at hl 0 rfl) ?_
      refine lv_iconst (v := 0) hx hb dX4_at_25 (by decide) ?_
      refine lv_iconst (v := 3) hx hb dX4_at_26 (by decide) ?_
      refine lv_iload_n hx hb dX4_at_27 rfl (lv_at hl 4 rfl) ?_
      refine g_Si (n := 4) (rest := []) S G hl (c_X4_againstItem_n l 0 3 k) gX4_at_X4_againstItem rfl (by decide +kernel) rfl rfl (Nat.le_of_ble_eq_true rfl) ⟨Nat.le_of_ble_eq_true rfl, Nat.le_of_ble_eq_true rfl⟩ ⟨Nat.le_of_ble_eq_true rfl, Nat.le_of_ble_eq_true rfl⟩ dX4_at_28 ?_
      clear G; intro r_ w1 H locs hp G
      obtain ⟨rfl, rfl⟩ := hp
      refine lv_istore (lv' := [(5, .int 1), (4, .null), (3, .ref (T k1)), (0, .ref x), (1, .int t), (2, .int k)]) hx hb dX4_at_31 hl (by decide) rfl (fun ls hl => ?_)
      refine lv_iload hx hb dX4_at_33 (lv_at hl 0 rfl) ?_
      refine lv_if_eq (tgt := 46) hx hb dX4_at_35 (by decide) (fun c3 => absurd c3 (by decide)) (fun c3 => ?_)
      refine lv_aload_n hx hb dX4_at_38 rfl (lv_at hl 3 rfl) ?_
      refine lv_iload hx hb dX4_at_39 (lv_at hl 0 rfl) ?_
      refine g_Vi (n := 1) (rest := []) S G hl (c_X4_refuse l R (j := 1) (o := 1) rfl (by decide)) gX4_at_X4_refuse rfl (by decide +kernel) (Rc_x R) rfl rfl rfl (Nat.le_of_ble_eq_true rfl) ⟨Nat.le_of_ble_eq_true rfl, Nat.le_of_ble_eq_true rfl⟩ ⟨Nat.le_of_ble_eq_true rfl, Nat.le_of_ble_eq_true rfl⟩ dX4_at_41 ?_
      clear G; intro r_ w1 H locs hp G
      obtain ⟨hr_, R⟩ := hp
      subst r_
      rw [if_neg (show ¬ ((1 : Int32) = 7) by decide)] at R
      refine lv_i2l (v := (Int32.toInt64 0)) hx hb dX4_at_44 rfl ?_
      refine r_long S hret hlk G (Nat.le_of_ble_eq_true rfl) (Nat.le_of_ble_eq_true rfl) dX4_at_45 ?_
      have yk1 := tin_e ek1 hk1 (show n ≤ 1000 by omega)
      have zk1 := cn_e ek1 (show k1 < 1000 by omega)
      refine ⟨by simp only [S_at, yk1, zk1, er2, s_tell, put_lk, put_vs, put_hd, put_it, ↓reduceIte, Bool.false_eq_true, pk_us, z64], ?_⟩
      simp only [S_at, yk1, zk1, er2, s_tell, put_lk, put_vs, put_hd, put_it, ↓reduceIte, Bool.false_eq_true, pk_us, z64]
      exact ⟨_, _, _, _, _, _, _, _, _, _, R⟩
    · skip
      refine g_get S G (Rc_Ty R hk1 er2 hr2 Kr) rfl (by decide +kernel) 3 (by decide) (by decide +kernel) rfl dX4_at_18 ?_
      refine lv_astore (lv' := [(4, .ref (Rw r2)), (3, .ref (T k1)), (0, .ref x), (1, .int t), (2, .int k)]) hx hb dX4_at_21 hl (by decide) rfl (fun ls hl => ?_)
      refine lv_aload hx hb dX4_at_23 (lv_at hl 0 rfl) ?_
      refine lv_iconst (v := 0) hx hb dX4_at_25 (by decide) ?_
      refine lv_iconst (v := 3) hx hb dX4_at_26 (by decide) ?_
      refine lv_iload_n hx hb dX4_at_27 rfl (lv_at hl 4 rfl) ?_
      have q4 : ¬ (so r2 < 0 ∨ 3 < so r2) := so_in (Ks r2 hr2)
      rcases tin_c (cn (sz r2)) k (Nat.le_trans (sz_le (Kz r2 hr2)) (by decide)) with ⟨tk5, ok5⟩ | ⟨k5, hk5, ek5⟩
      · skip
        refine g_Si (n := 4) (rest := []) S G hl (c_X4_againstItem_y l R hr2 (sz_le (Kz r2 hr2)) 0 3 k) gX4_at_X4_againstItem rfl (by decide +kernel) rfl rfl (Nat.le_of_ble_eq_true rfl) ⟨Nat.le_of_ble_eq_true rfl, Nat.le_of_ble_eq_true rfl⟩ ⟨Nat.le_of_ble_eq_true rfl, Nat.le_of_ble_eq_true rfl⟩ dX4_at_28 ?_
        clear G; intro r_ w1 H locs hp G
        obtain ⟨rfl, hq_⟩ := hp
        simp only [q4, tk5, ↓reduceIte, Bool.false_eq_true] at hq_
        subst hq_
        refine lv_istore (lv' := [(5, .int 3), (4, .ref (Rw r2)), (3, .ref (T k1)), (0, .ref x), (1, .int t), (2, .int k)]) hx hb dX4_at_31 hl (by decide) rfl (fun ls hl => ?_)
        refine lv_iload hx hb dX4_at_33 (lv_at hl 0 rfl) ?_
        refine lv_if_eq (tgt := 46) hx hb dX4_at_35 (by decide) (fun c6 => absurd c6 (by decide)) (fun c6 => ?_)
        refine lv_aload_n hx hb dX4_at_38 rfl (lv_at hl 3 rfl) ?_
        refine lv_iload hx hb dX4_at_39 (lv_at hl 0 rfl) ?_
        refine g_Vi (n := 1) (rest := []) S G hl (c_X4_refuse l R (j := 3) (o := 3) rfl (by decide)) gX4_at_X4_refuse rfl (by decide +kernel) (Rc_x R) rfl rfl rfl (Nat.le_of_ble_eq_true rfl) ⟨Nat.le_of_ble_eq_true rfl, Nat.le_of_ble_eq_true rfl⟩ ⟨Nat.le_of_ble_eq_true rfl, Nat.le_of_ble_eq_true rfl⟩ dX4_at_41 ?_
        clear G; intro r_ w1 H locs hp G
        obtain ⟨hr_, R⟩ := hp
        subst r_
        rw [if_neg (show ¬ ((3 : Int32) = 7) by decide)] at R
        refine lv_i2l (v := (Int32.toInt64 0)) hx hb dX4_at_44 rfl ?_
        refine r_long S hret hlk G (Nat.le_of_ble_eq_true rfl) (Nat.le_of_ble_eq_true rfl) dX4_at_45 ?_
        have yk1 := tin_e ek1 hk1 (show n ≤ 1000 by omega)
        have zk1 := cn_e ek1 (show k1 < 1000 by omega)
        have qr2 := nm1 (show r2 < 100000 by omega)
        refine ⟨by simp only [S_at, yk1, zk1, er2, qr2, cn_nI (show r2 < 2 ^ 31 by omega), q4, tk5, s_tell, put_lk, put_vs, put_hd, put_it, ↓reduceIte, Bool.false_eq_true, pk_us, z64], ?_⟩
        simp only [S_at, yk1, zk1, er2, qr2, cn_nI (show r2 < 2 ^ 31 by omega), q4, tk5, s_tell, put_lk, put_vs, put_hd, put_it, ↓reduceIte, Bool.false_eq_true, pk_us, z64]
        exact ⟨_, _, _, _, _, _, _, _, _, _, R⟩
      · skip
        refine g_Si (n := 4) (rest := []) S G hl (c_X4_againstItem_y l R hr2 (sz_le (Kz r2 hr2)) 0 3 k) gX4_at_X4_againstItem rfl (by decide +kernel) rfl rfl (Nat.le_of_ble_eq_true rfl) ⟨Nat.le_of_ble_eq_true rfl, Nat.le_of_ble_eq_true rfl⟩ ⟨Nat.le_of_ble_eq_true rfl, Nat.le_of_ble_eq_true rfl⟩ dX4_at_28 ?_
        clear G; intro r_ w1 H locs hp G
        obtain ⟨rfl, hq_⟩ := hp
        have yk5 := tin_e ek5 hk5 (Nat.le_trans (sz_le (Kz r2 hr2)) (by decide))
        have zk5 := cn_e ek5 (Nat.lt_of_lt_of_le hk5 (Nat.le_trans (sz_le (Kz r2 hr2)) (by decide)))
        simp only [q4, yk5, ↓reduceIte, Bool.false_eq_true] at hq_
        subst hq_
        refine lv_istore (lv' := [(5, .int 0), (4, .ref (Rw r2)), (3, .ref (T k1)), (0, .ref x), (1, .int t), (2, .int k)]) hx hb dX4_at_31 hl (by decide) rfl (fun ls hl => ?_)
        refine lv_iload hx hb dX4_at_33 (lv_at hl 0 rfl) ?_
        refine lv_if_eq (tgt := 46) hx hb dX4_at_35 (by decide) (fun c7 => ?_) (fun c7 => absurd (by decide) c7)
        refine lv_aload_n hx hb dX4_at_46 rfl (lv_at hl 3 rfl) ?_
        refine lv_iconst (v := 0) hx hb dX4_at_47 (by decide) ?_
        refine g_Vi (n := 1) (rest := []) S G hl (c_X4_tell l R (j := 0) (o := 0) rfl (by decide)) gX4_at_X4_tell rfl (by decide +kernel) (Rc_x R) rfl rfl rfl (Nat.le_of_ble_eq_true rfl) ⟨Nat.le_of_ble_eq_true rfl, Nat.le_of_ble_eq_true rfl⟩ ⟨Nat.le_of_ble_eq_true rfl, Nat.le_of_ble_eq_true rfl⟩ dX4_at_48 ?_
        clear G; intro r_ w1 H locs hp G
        obtain ⟨hr_, R⟩ := hp
        subst r_
        rw [if_neg (show ¬ ((0 : Int32) = 7) by decide)] at R
        refine lv_pop hx hb dX4_at_51 rfl ?_
        refine lv_aload hx hb dX4_at_52 (lv_at hl 1 rfl) ?_
        refine g_get S G (Rc_Rw R r2 hr2) rfl (by decide +kernel) 1 (by decide) (by decide +kernel) rfl dX4_at_54 ?_
        refine lv_iload_n hx hb dX4_at_57 rfl (lv_at hl 5 rfl) ?_
        have e9 : Int32.toNatClampNeg k = k5 := zk5
        refine g_lald S G (Rc_Ia R r2 hr2) (vin_e ek5 hk5 (Nat.le_trans (sz_le (Kz r2 hr2)) (by decide))) dX4_at_58 ?_
        rw [e9, Rc_F R r2 hr2 k5 hk5]
        refine r_long S hret hlk G (Nat.le_of_ble_eq_true rfl) (Nat.le_of_ble_eq_true rfl) dX4_at_59 ?_
        have yk1 := tin_e ek1 hk1 (show n ≤ 1000 by omega)
        have zk1 := cn_e ek1 (show k1 < 1000 by omega)
        have qr2 := nm1 (show r2 < 100000 by omega)
        refine ⟨by simp only [S_at, yk1, zk1, er2, qr2, cn_nI (show r2 < 2 ^ 31 by omega), q4, yk5, zk5, s_tell, put_lk, put_vs, put_hd, put_it, ↓reduceIte, Bool.false_eq_true, pk_us, z64], ?_⟩
        simp only [S_at, yk1, zk1, er2, qr2, cn_nI (show r2 < 2 ^ 31 by omega), q4, yk5, zk5, s_tell, put_lk, put_vs, put_hd, put_it, ↓reduceIte, Bool.false_eq_true, pk_us, z64]
        exact ⟨_, _, _, _, _, _, _, _, _, _, R⟩

set_option maxHeartbeats 4000000 in
set_option maxRecDepth 100000 in
theorem C_lay (l : Launch) {E : EV} {w : wo} {x : Nat} {σ : ST} (X : RcX E w x σ) (K : Gd σ) (t : Int32) (k : Int32) (v : Int64) : ct_l l E yX4_lay wsX4_lay 2 0 0 [.ref x, .int t, .int k, .long v] w (fun r w' => r = (S_lay t k v σ).1 ∧ RcX E w' x (S_lay t k v σ).2) := by
  obtain ⟨st, wk, tl, ta, tf, T, Rw, Ia, F, ⟨lim, wou, th⟩, R⟩ := X
  obtain ⟨n, cl, vs, lk, hd, nr, so, sz, it, oc, ow, bg, dp, td⟩ := σ
  obtain ⟨Kn, Kr, Kc, Kl, Kh, Ks, Kz, Ki⟩ := K
  intro zz
  refine wo_body (Qc := fun A => va_Ql _ (wo_B E A) A) (ret := (some .long)) (by decide) rfl (Nat.le_of_ble_eq_true rfl) ?_
  intro p_ e_ s_ m_ args_ below_ meth_ code_ A_ ls S hret hlk hnm G hl
  have hl : lv_has ls 8 [(0, .ref x), (1, .int t), (2, .int k), (3, .long v)] := hl
  have hx := S.1
  have hb := S.2.1
  refine lv_aload_n hx hb dX4_lay_0 rfl (lv_at hl 0 rfl) ?_
  refine g_get S G (Rc_x R) rfl (by decide +kernel) 0 (by decide) (by decide +kernel) rfl dX4_lay_1 ?_
  refine lv_iload_n hx hb dX4_lay_4 rfl (lv_at hl 1 rfl) ?_
  rcases tin_c n t (by omega) with ⟨tk1, ok1⟩ | ⟨k1, hk1, ek1⟩
  · skip
    refine g_Vq (n := 1) (rest := []) S G hl (c_X1_find_n l R Kn ok1) gX4_lay_X1_find rfl (by decide +kernel) (Rc_st R) rfl rfl rfl (Nat.le_of_ble_eq_true rfl) ⟨Nat.le_of_ble_eq_true rfl, Nat.le_of_ble_eq_true rfl⟩ ⟨Nat.le_of_ble_eq_true rfl, Nat.le_of_ble_eq_true rfl⟩ dX4_lay_5 ?_
    clear G; intro r_ w1 H locs hp G
    obtain ⟨rfl, rfl⟩ := hp
    refine W.eq (g2 := F0 m_ 8 ls [.null]) rfl ?_
    refine lv_astoreN (lv' := [(5, .null), (0, .ref x), (1, .int t), (2, .int k), (3, .long v)]) hx hb dX4_lay_8 hl (by decide) rfl (fun ls hl => ?_)
    refine lv_aloadN hx hb dX4_lay_10 (lv_at hl 0 rfl) ?_
    refine lv_ifnonnullN hx hb dX4_lay_12 ?_
    refine lv_ldc2 hx hb S.2.2.2.1 (S.2.2.2.2 (.constantLong RX4 96 (-2000000001)) (by decide +kernel)) dX4_lay_15 ?_
    refine r_long S hret hlk G (Nat.le_of_ble_eq_true rfl) (Nat.le_of_ble_eq_true rfl) dX4_lay_18 ?_
    refine ⟨by simp only [S_lay, tk1, s_tell, put_lk, put_vs, put_hd, put_it, ↓reduceIte, Bool.false_eq_true, pk_us, z64, show ¬ (1 : Int32) < 0 by decide], ?_⟩
    simp only [S_lay, tk1, s_tell, put_lk, put_vs, put_hd, put_it, ↓reduceIte, Bool.false_eq_true, pk_us, z64, show ¬ (1 : Int32) < 0 by decide]
    exact ⟨_, _, _, _, _, _, _, _, _, _, R⟩
  · skip
    refine g_Vq (n := 1) (rest := []) S G hl (c_X1_find_y l R Kn ek1 hk1) gX4_lay_X1_find rfl (by decide +kernel) (Rc_st R) rfl rfl rfl (Nat.le_of_ble_eq_true rfl) ⟨Nat.le_of_ble_eq_true rfl, Nat.le_of_ble_eq_true rfl⟩ ⟨Nat.le_of_ble_eq_true rfl, Nat.le_of_ble_eq_true rfl⟩ dX4_lay_5 ?_
    clear G; intro r_ w1 H locs hp G
    obtain ⟨rfl, rfl⟩ := hp
    refine W.eq (g2 := F0 m_ 8 ls [.ref (T k1)]) rfl ?_
    refine lv_astore (lv' := [(5, .ref (T k1)), (0, .ref x), (1, .int t), (2, .int k), (3, .long v)]) hx hb dX4_lay_8 hl (by decide) rfl (fun ls hl => ?_)
    refine lv_aload hx hb dX4_lay_10 (lv_at hl 0 rfl) ?_
    refine lv_ifnonnull (tgt := 19) hx hb dX4_lay_12 (by decide) ?_
    refine lv_aload hx hb dX4_lay_19 (lv_at hl 0 rfl) ?_
    rcases Kh k1 hk1 with er2 | ⟨r2, hr2, er2⟩
    · skip
      refine g_get S G (Rc_Tn R hk1 er2) rfl (by decide +kernel) 3 (by decide) (by decide +kernel) rfl dX4_lay_21 ?_
      refine lv_astoreN (lv' := [(6, .null), (5, .ref (T k1)), (0, .ref x), (1, .int t), (2, .int k), (3, .long v)]) hx hb dX4_lay_24 hl (by decide) rfl (fun ls hl => ?_)
      refine lv_aloadN hx hb dX4_lay_26 (lv_at hl 0 rfl) ?_
      refine lv_iconst (v := 0) hx hb dX4_lay_28 (by decide) ?_
      refine lv_iconst (v := 1) hx hb dX4_lay_29 (by decide) ?_
      refine lv_iload_n hx hb dX4_lay_30 rfl (lv_at hl 4 rfl) ?_
      refine g_Si (n := 4) (rest := []) S G hl (c_X4_againstItem_n l 0 1 k) gX4_lay_X4_againstItem rfl (by decide +kernel) rfl rfl (Nat.le_of_ble_eq_true rfl) ⟨Nat.le_of_ble_eq_true rfl, Nat.le_of_ble_eq_true rfl⟩ ⟨Nat.le_of_ble_eq_true rfl, Nat.le_of_ble_eq_true rfl⟩ dX4_lay_31 ?_
      clear G; intro r_ w1 H locs hp G
      obtain ⟨rfl, rfl⟩ := hp
      refine lv_istore (lv' := [(7, .int 1), (6, .null), (5, .ref (T k1)), (0, .ref x), (1, .int t), (2, .int k), (3, .long v)]) hx hb dX4_lay_34 hl (by decide) rfl (fun ls hl => ?_)
      refine lv_iload hx hb dX4_lay_36 (lv_at hl 0 rfl) ?_
      refine lv_if_eq (tgt := 49) hx hb dX4_lay_38 (by decide) (fun c3 => absurd c3 (by decide)) (fun c3 => ?_)
      refine lv_aload_n hx hb dX4_lay_41 rfl (lv_at hl 3 rfl) ?_
      refine lv_iload hx hb dX4_lay_42 (lv_at hl 0 rfl) ?_
      refine g_Vi (n := 1) (rest := []) S G hl (c_X4_refuse l R (j := 1) (o := 1) rfl (by decide)) gX4_lay_X4_refuse rfl (by decide +kernel) (Rc_x R) rfl rfl rfl (Nat.le_of_ble_eq_true rfl) ⟨Nat.le_of_ble_eq_true rfl, Nat.le_of_ble_eq_true rfl⟩ ⟨Nat.le_of_ble_eq_true rfl, Nat.le_of_ble_eq_true rfl⟩ dX4_lay_44 ?_
      clear G; intro r_ w1 H locs hp G
      obtain ⟨hr_, R⟩ := hp
      subst r_
      rw [if_neg (show ¬ ((1 : Int32) = 7) by decide)] at R
      refine lv_i2l (v := (Int32.toInt64 0)) hx hb dX4_lay_47 rfl ?_
      refine r_long S hret hlk G (Nat.le_of_ble_eq_true rfl) (Nat.le_of_ble_eq_true rfl) dX4_lay_48 ?_
      have yk1 := tin_e ek1 hk1 (show n ≤ 1000 by omega)
      have zk1 := cn_e ek1 (show k1 < 1000 by omega)
      refine ⟨by simp only [S_lay, yk1, zk1, er2, s_tell, put_lk, put_vs, put_hd, put_it, ↓reduceIte, Bool.false_eq_true, pk_us, z64, show ¬ (1 : Int32) < 0 by decide], ?_⟩
      simp only [S_lay, yk1, zk1, er2, s_tell, put_lk, put_vs, put_hd, put_it, ↓reduceIte, Bool.false_eq_true, pk_us, z64, show ¬ (1 : Int32) < 0 by decide]
      exact ⟨_, _, _, _, _, _, _, _, _, _, R⟩
    · skip
      refine g_get S G (Rc_Ty R hk1 er2 hr2 Kr) rfl (by decide +kernel) 3 (by decide) (by decide +kernel) rfl dX4_lay_21 ?_
      refine lv_astore (lv' := [(6, .ref (Rw r2)), (5, .ref (T k1)), (0, .ref x), (1, .int t), (2, .int k), (3, .long v)]) hx hb dX4_lay_24 hl (by decide) rfl (fun ls hl => ?_)
      refine lv_aload hx hb dX4_lay_26 (lv_at hl 0 rfl) ?_
      refine lv_iconst (v := 0) hx hb dX4_lay_28 (by decide) ?_
      refine lv_iconst (v := 1) hx hb dX4_lay_29 (by decide) ?_
      refine lv_iload_n hx hb dX4_lay_30 rfl (lv_at hl 4 rfl) ?_
      by_cases q4 : so r2 < 0 ∨ 1 < so r2
      · skip
        refine g_Si (n := 4) (rest := []) S G hl (c_X4_againstItem_y l R hr2 (sz_le (Kz r2 hr2)) 0 1 k) gX4_lay_X4_againstItem rfl (by decide +kernel) rfl rfl (Nat.le_of_ble_eq_true rfl) ⟨Nat.le_of_ble_eq_true rfl, Nat.le_of_ble_eq_true rfl⟩ ⟨Nat.le_of_ble_eq_true rfl, Nat.le_of_ble_eq_true rfl⟩ dX4_lay_31 ?_
        clear G; intro r_ w1 H locs hp G
        obtain ⟨rfl, hq_⟩ := hp
        simp only [q4, ↓reduceIte, Bool.false_eq_true] at hq_
        subst hq_
        refine lv_istore (lv' := [(7, .int 2), (6, .ref (Rw r2)), (5, .ref (T k1)), (0, .ref x), (1, .int t), (2, .int k), (3, .long v)]) hx hb dX4_lay_34 hl (by decide) rfl (fun ls hl => ?_)
        refine lv_iload hx hb dX4_lay_36 (lv_at hl 0 rfl) ?_
        refine lv_if_eq (tgt := 49) hx hb dX4_lay_38 (by decide) (fun c6 => absurd c6 (by decide)) (fun c6 => ?_)
        refine lv_aload_n hx hb dX4_lay_41 rfl (lv_at hl 3 rfl) ?_
        refine lv_iload hx hb dX4_lay_42 (lv_at hl 0 rfl) ?_
        refine g_Vi (n := 1) (rest := []) S G hl (c_X4_refuse l R (j := 2) (o := 2) rfl (by decide)) gX4_lay_X4_refuse rfl (by decide +kernel) (Rc_x R) rfl rfl rfl (Nat.le_of_ble_eq_true rfl) ⟨Nat.le_of_ble_eq_true rfl, Nat.le_of_ble_eq_true rfl⟩ ⟨Nat.le_of_ble_eq_true rfl, Nat.le_of_ble_eq_true rfl⟩ dX4_lay_44 ?_
        clear G; intro r_ w1 H locs hp G
        obtain ⟨hr_, R⟩ := hp
        subst r_
        rw [if_neg (show ¬ ((2 : Int32) = 7) by decide)] at R
        refine lv_i2l (v := (Int32.toInt64 0)) hx hb dX4_lay_47 rfl ?_
        refine r_long S hret hlk G (Nat.le_of_ble_eq_true rfl) (Nat.le_of_ble_eq_true rfl) dX4_lay_48 ?_
        have g9 : (1 : Int32) < so r2 := q4.elim (fun z => absurd z (fun z => so_in (Ks r2 hr2) (Or.inl z))) id
        have yk1 := tin_e ek1 hk1 (show n ≤ 1000 by omega)
        have zk1 := cn_e ek1 (show k1 < 1000 by omega)
        have qr2 := nm1 (show r2 < 100000 by omega)
        refine ⟨by simp only [S_lay, yk1, zk1, er2, qr2, cn_nI (show r2 < 2 ^ 31 by omega), q4, g9, s_tell, put_lk, put_vs, put_hd, put_it, ↓reduceIte, Bool.false_eq_true, pk_us, z64, show ¬ (1 : Int32) < 0 by decide], ?_⟩
        simp only [S_lay, yk1, zk1, er2, qr2, cn_nI (show r2 < 2 ^ 31 by omega), q4, g9, s_tell, put_lk, put_vs, put_hd, put_it, ↓reduceIte, Bool.false_eq_true, pk_us, z64, show ¬ (1 : Int32) < 0 by decide]
        exact ⟨_, _, _, _, _, _, _, _, _, _, R⟩
      rcases tin_c (cn (sz r2)) k (Nat.le_trans (sz_le (Kz r2 hr2)) (by decide)) with ⟨tk5, ok5⟩ | ⟨k5, hk5, ek5⟩
      · skip
        refine g_Si (n := 4) (rest := []) S G hl (c_X4_againstItem_y l R hr2 (sz_le (Kz r2 hr2)) 0 1 k) gX4_lay_X4_againstItem rfl (by decide +kernel) rfl rfl (Nat.le_of_ble_eq_true rfl) ⟨Nat.le_of_ble_eq_true rfl, Nat.le_of_ble_eq_true rfl⟩ ⟨Nat.le_of_ble_eq_true rfl, Nat.le_of_ble_eq_true rfl⟩ dX4_lay_31 ?_
        clear G; intro r_ w1 H locs hp G
        obtain ⟨rfl, hq_⟩ := hp
        simp only [q4, tk5, ↓reduceIte, Bool.false_eq_true] at hq_
        subst hq_
        refine lv_istore (lv' := [(7, .int 3), (6, .ref (Rw r2)), (5, .ref (T k1)), (0, .ref x), (1, .int t), (2, .int k), (3, .long v)]) hx hb dX4_lay_34 hl (by decide) rfl (fun ls hl => ?_)
        refine lv_iload hx hb dX4_lay_36 (lv_at hl 0 rfl) ?_
        refine lv_if_eq (tgt := 49) hx hb dX4_lay_38 (by decide) (fun c7 => absurd c7 (by decide)) (fun c7 => ?_)
        refine lv_aload_n hx hb dX4_lay_41 rfl (lv_at hl 3 rfl) ?_
        refine lv_iload hx hb dX4_lay_42 (lv_at hl 0 rfl) ?_
        refine g_Vi (n := 1) (rest := []) S G hl (c_X4_refuse l R (j := 3) (o := 3) rfl (by decide)) gX4_lay_X4_refuse rfl (by decide +kernel) (Rc_x R) rfl rfl rfl (Nat.le_of_ble_eq_true rfl) ⟨Nat.le_of_ble_eq_true rfl, Nat.le_of_ble_eq_true rfl⟩ ⟨Nat.le_of_ble_eq_true rfl, Nat.le_of_ble_eq_true rfl⟩ dX4_lay_44 ?_
        clear G; intro r_ w1 H locs hp G
        obtain ⟨hr_, R⟩ := hp
        subst r_
        rw [if_neg (show ¬ ((3 : Int32) = 7) by decide)] at R
        refine lv_i2l (v := (Int32.toInt64 0)) hx hb dX4_lay_47 rfl ?_
        refine r_long S hret hlk G (Nat.le_of_ble_eq_true rfl) (Nat.le_of_ble_eq_true rfl) dX4_lay_48 ?_
        have g9 : ¬ (1 : Int32) < so r2 := fun z => q4 (Or.inr z)
        have yk1 := tin_e ek1 hk1 (show n ≤ 1000 by omega)
        have zk1 := cn_e ek1 (show k1 < 1000 by omega)
        have qr2 := nm1 (show r2 < 100000 by omega)
        refine ⟨by simp only [S_lay, yk1, zk1, er2, qr2, cn_nI (show r2 < 2 ^ 31 by omega), q4, tk5, g9, s_tell, put_lk, put_vs, put_hd, put_it, ↓reduceIte, Bool.false_eq_true, pk_us, z64, show ¬ (1 : Int32) < 0 by decide], ?_⟩
        simp only [S_lay, yk1, zk1, er2, qr2, cn_nI (show r2 < 2 ^ 31 by omega), q4, tk5, g9, s_tell, put_lk, put_vs, put_hd, put_it, ↓reduceIte, Bool.false_eq_true, pk_us, z64, show ¬ (1 : Int32) < 0 by decide]
        exact ⟨_, _, _, _, _, _, _, _, _, _, R⟩
      · skip
        refine g_Si (n := 4) (rest := []) S G hl (c_X4_againstItem_y l R hr2 (sz_le (Kz r2 hr2)) 0 1 k) gX4_lay_X4_againstItem rfl (by decide +kernel) rfl rfl (Nat.le_of_ble_eq_true rfl) ⟨Nat.le_of_ble_eq_true rfl, Nat.le_of_ble_eq_true rfl⟩ ⟨Nat.le_of_ble_eq_true rfl, Nat.le_of_ble_eq_true rfl⟩ dX4_lay_31 ?_
        clear G; intro r_ w1 H locs hp G
        obtain ⟨rfl, hq_⟩ := hp
        have yk5 := tin_e ek5 hk5 (Nat.le_trans (sz_le (Kz r2 hr2)) (by decide))
        have zk5 := cn_e ek5 (Nat.lt_of_lt_of_le hk5 (Nat.le_trans (sz_le (Kz r2 hr2)) (by decide)))
        simp only [q4, yk5, ↓reduceIte, Bool.false_eq_true] at hq_
        subst hq_
        refine lv_istore (lv' := [(7, .int 0), (6, .ref (Rw r2)), (5, .ref (T k1)), (0, .ref x), (1, .int t), (2, .int k), (3, .long v)]) hx hb dX4_lay_34 hl (by decide) rfl (fun ls hl => ?_)
        refine lv_iload hx hb dX4_lay_36 (lv_at hl 0 rfl) ?_
        refine lv_if_eq (tgt := 49) hx hb dX4_lay_38 (by decide) (fun c8 => ?_) (fun c8 => absurd (by decide) c8)
        refine lv_aload_n hx hb dX4_lay_49 rfl (lv_at hl 3 rfl) ?_
        refine lv_iconst (v := 0) hx hb dX4_lay_50 (by decide) ?_
        refine g_Vi (n := 1) (rest := []) S G hl (c_X4_tell l R (j := 0) (o := 0) rfl (by decide)) gX4_lay_X4_tell rfl (by decide +kernel) (Rc_x R) rfl rfl rfl (Nat.le_of_ble_eq_true rfl) ⟨Nat.le_of_ble_eq_true rfl, Nat.le_of_ble_eq_true rfl⟩ ⟨Nat.le_of_ble_eq_true rfl, Nat.le_of_ble_eq_true rfl⟩ dX4_lay_51 ?_
        clear G; intro r_ w1 H locs hp G
        obtain ⟨hr_, R⟩ := hp
        subst r_
        rw [if_neg (show ¬ ((0 : Int32) = 7) by decide)] at R
        refine lv_pop hx hb dX4_lay_54 rfl ?_
        refine lv_aload hx hb dX4_lay_55 (lv_at hl 1 rfl) ?_
        refine lv_iload_n hx hb dX4_lay_57 rfl (lv_at hl 5 rfl) ?_
        refine lv_aload hx hb dX4_lay_58 (lv_at hl 1 rfl) ?_
        refine g_get S G (Rc_Rw R r2 hr2) rfl (by decide +kernel) 0 (by decide) (by decide +kernel) rfl dX4_lay_60 ?_
        refine lv_if_ne (tgt := 72) hx hb dX4_lay_63 (by decide) (fun c9 => ?_) (fun c9 => ?_)
        · skip
          refine lv_lload_n hx hb dX4_lay_72 rfl (lv_at hl 6 rfl) ?_
          refine g_Vl (n := 2) (rest := []) S G hl (c_X0_put l (Rc_Rw R r2 hr2) (Rc_Ia R r2 hr2) ek5 hk5 (Nat.le_trans (sz_le (Kz r2 hr2)) (by decide)) v) gX4_lay_X0_put rfl (by decide +kernel) (Rc_Rw R r2 hr2) rfl rfl rfl (Nat.le_of_ble_eq_true rfl) ⟨Nat.le_of_ble_eq_true rfl, Nat.le_of_ble_eq_true rfl⟩ ⟨Nat.le_of_ble_eq_true rfl, Nat.le_of_ble_eq_true rfl⟩ dX4_lay_73 ?_
          clear G; intro r_ w1 H locs hp G
          obtain ⟨rfl, rfl⟩ := hp
          have fj := Rc_F R r2 hr2 k5 hk5
          obtain ⟨w, R, G⟩ := Rc_ex (Rc_p_put R hr2 Kz hk5 v) G
          refine r_long S hret hlk G (Nat.le_of_ble_eq_true rfl) (Nat.le_of_ble_eq_true rfl) dX4_lay_76 ?_
          have g9 : ¬ (1 : Int32) < so r2 := fun z => q4 (Or.inr z)
          have yk1 := tin_e ek1 hk1 (show n ≤ 1000 by omega)
          have zk1 := cn_e ek1 (show k1 < 1000 by omega)
          have qr2 := nm1 (show r2 < 100000 by omega)
          refine ⟨by simp only [S_lay, yk1, zk1, er2, qr2, cn_nI (show r2 < 2 ^ 31 by omega), q4, yk5, zk5, fj, g9, c9, s_tell, put_lk, put_vs, put_hd, put_it, ↓reduceIte, Bool.false_eq_true, pk_us, z64, show ¬ (1 : Int32) < 0 by decide], ?_⟩
          simp only [S_lay, yk1, zk1, er2, qr2, cn_nI (show r2 < 2 ^ 31 by omega), q4, yk5, zk5, fj, g9, c9, s_tell, put_lk, put_vs, put_hd, put_it, ↓reduceIte, Bool.false_eq_true, pk_us, z64, show ¬ (1 : Int32) < 0 by decide]
          exact ⟨_, _, _, _, _, _, _, _, _, _, R⟩
        · skip
          refine lv_lload_n hx hb dX4_lay_66 rfl (lv_at hl 6 rfl) ?_
          refine lv_l2i (v := (Int64.toInt32 v)) hx hb dX4_lay_67 rfl ?_
          refine lv_i2l (v := (Int32.toInt64 (Int64.toInt32 v))) hx hb dX4_lay_68 rfl ?_
          refine lv_goto (tgt := 73) hx hb dX4_lay_69 (by decide) ?_
          refine g_Vl (n := 2) (rest := []) S G hl (c_X0_put l (Rc_Rw R r2 hr2) (Rc_Ia R r2 hr2) ek5 hk5 (Nat.le_trans (sz_le (Kz r2 hr2)) (by decide)) (Int32.toInt64 (Int64.toInt32 v))) gX4_lay_X0_put rfl (by decide +kernel) (Rc_Rw R r2 hr2) rfl rfl rfl (Nat.le_of_ble_eq_true rfl) ⟨Nat.le_of_ble_eq_true rfl, Nat.le_of_ble_eq_true rfl⟩ ⟨Nat.le_of_ble_eq_true rfl, Nat.le_of_ble_eq_true rfl⟩ dX4_lay_73 ?_
          clear G; intro r_ w1 H locs hp G
          obtain ⟨rfl, rfl⟩ := hp
          have fj := Rc_F R r2 hr2 k5 hk5
          obtain ⟨w, R, G⟩ := Rc_ex (Rc_p_put R hr2 Kz hk5 (Int32.toInt64 (Int64.toInt32 v))) G
          refine r_long S hret hlk G (Nat.le_of_ble_eq_true rfl) (Nat.le_of_ble_eq_true rfl) dX4_lay_76 ?_
          have g9 : ¬ (1 : Int32) < so r2 := fun z => q4 (Or.inr z)
          have yk1 := tin_e ek1 hk1 (show n ≤ 1000 by omega)
          have zk1 := cn_e ek1 (show k1 < 1000 by omega)
          have qr2 := nm1 (show r2 < 100000 by omega)
          refine ⟨by simp only [S_lay, yk1, zk1, er2, qr2, cn_nI (show r2 < 2 ^ 31 by omega), q4, yk5, zk5, fj, g9, c9, s_tell, put_lk, put_vs, put_hd, put_it, ↓reduceIte, Bool.false_eq_true, pk_us, z64, show ¬ (1 : Int32) < 0 by decide], ?_⟩
          simp only [S_lay, yk1, zk1, er2, qr2, cn_nI (show r2 < 2 ^ 31 by omega), q4, yk5, zk5, fj, g9, c9, s_tell, put_lk, put_vs, put_hd, put_it, ↓reduceIte, Bool.false_eq_true, pk_us, z64, show ¬ (1 : Int32) < 0 by decide]
          exact ⟨_, _, _, _, _, _, _, _, _, _, R⟩
end
section
/-! THE CLASS: set -/
theorem isof0 {x : Int32} (h : ∃ c, c < 8 ∧ x = nI c) : (isof x 0 = true) ↔ x ≤ 2 := by
  obtain ⟨c, hc, rfl⟩ := h
  have e1 : (nI c = 0) ↔ c = 0 := nI_eq (b := 0) (by omega) (by omega)
  have e2 : ((0 : Int32) < nI c) ↔ 0 < c := nI_ltI (a := 0) (by omega) (by omega)
  have e3 : (nI c ≤ 2) ↔ c ≤ 2 := nI_leI (b := 2) (by omega) (by omega)
  simp only [isof, Bool.or_eq_true, Bool.and_eq_true, decide_eq_true_eq, e1, e2, e3]
  omega
theorem tin_m1 (n : Nat) : tin n (-1) = false := by
  have h : ¬ (0 : Int32) ≤ -1 := by decide
  simp [tin, h]
set_option maxHeartbeats 4000000 in
set_option maxRecDepth 100000 in
theorem C_set (l : Launch) {E : EV} {w : wo} {x : Nat} {σ : ST} (X : RcX E w x σ) (K : Gd σ) (t : Int32) (k : Int32) (o : Int32) : ct_i l E yX4_set wsX4_set 2 0 0 [.ref x, .int t, .int k, .int o] w (fun r w' => r = (S_set t k o σ).1 ∧ RcX E w' x (S_set t k o σ).2) := by
  obtain ⟨st, wk, tl, ta, tf, T, Rw, Ia, F, ⟨lim, wou, th⟩, R⟩ := X
  obtain ⟨n, cl, vs, lk, hd, nr, so, sz, it, oc, ow, bg, dp, td⟩ := σ
  obtain ⟨Kn, Kr, Kc, Kl, Kh, Ks, Kz, Ki⟩ := K
  intro zz
  refine wo_body (Qc := fun A => va_Qi _ (wo_B E A) A) (ret := (some .int)) (by decide) rfl (Nat.le_of_ble_eq_true rfl) ?_
  intro p_ e_ s_ m_ args_ below_ meth_ code_ A_ ls S hret hlk hnm G hl
  have hl : lv_has ls 7 [(0, .ref x), (1, .int t), (2, .int k), (3, .int o)] := hl
  have hx := S.1
  have hb := S.2.1
  refine lv_aload_n hx hb dX4_set_0 rfl (lv_at hl 0 rfl) ?_
  refine g_get S G (Rc_x R) rfl (by decide +kernel) 0 (by decide) (by decide +kernel) rfl dX4_set_1 ?_
  refine lv_iload_n hx hb dX4_set_4 rfl (lv_at hl 1 rfl) ?_
  rcases tin_c n t (by omega) with ⟨tk1, ok1⟩ | ⟨k1, hk1, ek1⟩
  · skip
    refine g_Vq (n := 1) (rest := []) S G hl (c_X1_find_n l R Kn ok1) gX4_set_X1_find rfl (by decide +kernel) (Rc_st R) rfl rfl rfl (Nat.le_of_ble_eq_true rfl) ⟨Nat.le_of_ble_eq_true rfl, Nat.le_of_ble_eq_true rfl⟩ ⟨Nat.le_of_ble_eq_true rfl, Nat.le_of_ble_eq_true rfl⟩ dX4_set_5 ?_
    clear G; intro r_ w1 H locs hp G
    obtain ⟨rfl, rfl⟩ := hp
    refine W.eq (g2 := F0 m_ 8 ls [.null]) rfl ?_
    refine lv_astoreN (lv' := [(4, .null), (0, .ref x), (1, .int t), (2, .int k), (3, .int o)]) hx hb dX4_set_8 hl (by decide) rfl (fun ls hl => ?_)
    refine lv_aloadN hx hb dX4_set_10 (lv_at hl 0 rfl) ?_
    refine lv_ifnullN (tgt := 26) hx hb dX4_set_12 (by decide) ?_
    refine lv_ldc hx hb S.2.2.2.1 (S.2.2.2.2 (.constant RX4 33 (-2000000001)) (by decide +kernel)) dX4_set_26 ?_
    refine r_int S hret hlk G rfl (Nat.le_of_ble_eq_true rfl) (Nat.le_of_ble_eq_true rfl) dX4_set_28 ?_
    refine ⟨by simp only [S_set, tk1, s_tell, put_it, ↓reduceIte, Bool.false_eq_true, or_true, true_or, and_true, true_and, not_false_eq_true, false_or, show ¬ (3 : Int32) < 2 by decide], ?_⟩
    simp only [S_set, tk1, s_tell, put_it, ↓reduceIte, Bool.false_eq_true, or_true, true_or, and_true, true_and, not_false_eq_true, false_or, show ¬ (3 : Int32) < 2 by decide]
    exact ⟨_, _, _, _, _, _, _, _, _, _, R⟩
  · skip
    refine g_Vq (n := 1) (rest := []) S G hl (c_X1_find_y l R Kn ek1 hk1) gX4_set_X1_find rfl (by decide +kernel) (Rc_st R) rfl rfl rfl (Nat.le_of_ble_eq_true rfl) ⟨Nat.le_of_ble_eq_true rfl, Nat.le_of_ble_eq_true rfl⟩ ⟨Nat.le_of_ble_eq_true rfl, Nat.le_of_ble_eq_true rfl⟩ dX4_set_5 ?_
    clear G; intro r_ w1 H locs hp G
    obtain ⟨rfl, rfl⟩ := hp
    refine W.eq (g2 := F0 m_ 8 ls [.ref (T k1)]) rfl ?_
    refine lv_astore (lv' := [(4, .ref (T k1)), (0, .ref x), (1, .int t), (2, .int k), (3, .int o)]) hx hb dX4_set_8 hl (by decide) rfl (fun ls hl => ?_)
    refine lv_aload hx hb dX4_set_10 (lv_at hl 0 rfl) ?_
    refine lv_ifnull hx hb dX4_set_12 ?_
    refine lv_aload_n hx hb dX4_set_15 rfl (lv_at hl 1 rfl) ?_
    refine g_get S G (Rc_x R) rfl (by decide +kernel) 0 (by decide) (by decide +kernel) rfl dX4_set_16 ?_
    refine lv_iload_n hx hb dX4_set_19 rfl (lv_at hl 4 rfl) ?_
    by_cases nk2 : o = -1
    · skip
      refine g_Vi (n := 1) (rest := []) S G hl (c_X1_hasOrNone l R Kn o) gX4_set_X1_hasOrNone rfl (by decide +kernel) (Rc_st R) rfl rfl rfl (Nat.le_of_ble_eq_true rfl) ⟨Nat.le_of_ble_eq_true rfl, Nat.le_of_ble_eq_true rfl⟩ ⟨Nat.le_of_ble_eq_true rfl, Nat.le_of_ble_eq_true rfl⟩ dX4_set_20 ?_
      clear G; intro r_ w1 H locs hp G
      obtain ⟨rfl, hq_⟩ := hp
      have dk2 : o = -1 ∨ tin n o = true := Or.inl nk2
      simp only [dk2, ↓reduceIte] at hq_
      subst hq_
      refine lv_if_ne (tgt := 29) hx hb dX4_set_23 (by decide) (fun c3 => ?_) (fun c3 => absurd c3 (by decide))
      refine lv_aload hx hb dX4_set_29 (lv_at hl 0 rfl) ?_
      rcases Kh k1 hk1 with er4 | ⟨r4, hr4, er4⟩
      · skip
        refine g_get S G (Rc_Tn R hk1 er4) rfl (by decide +kernel) 3 (by decide) (by decide +kernel) rfl dX4_set_31 ?_
        refine lv_astoreN (lv' := [(5, .null), (4, .ref (T k1)), (0, .ref x), (1, .int t), (2, .int k), (3, .int o)]) hx hb dX4_set_34 hl (by decide) rfl (fun ls hl => ?_)
        refine lv_aloadN hx hb dX4_set_36 (lv_at hl 0 rfl) ?_
        refine lv_iconst (v := 2) hx hb dX4_set_38 (by decide) ?_
        refine lv_iconst (v := 3) hx hb dX4_set_39 (by decide) ?_
        refine lv_iload_n hx hb dX4_set_40 rfl (lv_at hl 4 rfl) ?_
        refine g_Si (n := 4) (rest := []) S G hl (c_X4_againstItem_n l 2 3 k) gX4_set_X4_againstItem rfl (by decide +kernel) rfl rfl (Nat.le_of_ble_eq_true rfl) ⟨Nat.le_of_ble_eq_true rfl, Nat.le_of_ble_eq_true rfl⟩ ⟨Nat.le_of_ble_eq_true rfl, Nat.le_of_ble_eq_true rfl⟩ dX4_set_41 ?_
        clear G; intro r_ w1 H locs hp G
        obtain ⟨rfl, rfl⟩ := hp
        refine lv_istore (lv' := [(6, .int 1), (5, .null), (4, .ref (T k1)), (0, .ref x), (1, .int t), (2, .int k), (3, .int o)]) hx hb dX4_set_44 hl (by decide) rfl (fun ls hl => ?_)
        refine lv_iload hx hb dX4_set_46 (lv_at hl 0 rfl) ?_
        refine lv_if_eq (tgt := 58) hx hb dX4_set_48 (by decide) (fun c5 => absurd c5 (by decide)) (fun c5 => ?_)
        refine lv_aload_n hx hb dX4_set_51 rfl (lv_at hl 3 rfl) ?_
        refine lv_iload hx hb dX4_set_52 (lv_at hl 0 rfl) ?_
        refine g_Vi (n := 1) (rest := []) S G hl (c_X4_refuse l R (j := 1) (o := 1) rfl (by decide)) gX4_set_X4_refuse rfl (by decide +kernel) (Rc_x R) rfl rfl rfl (Nat.le_of_ble_eq_true rfl) ⟨Nat.le_of_ble_eq_true rfl, Nat.le_of_ble_eq_true rfl⟩ ⟨Nat.le_of_ble_eq_true rfl, Nat.le_of_ble_eq_true rfl⟩ dX4_set_54 ?_
        clear G; intro r_ w1 H locs hp G
        obtain ⟨hr_, R⟩ := hp
        subst r_
        rw [if_neg (show ¬ ((1 : Int32) = 7) by decide)] at R
        refine r_int S hret hlk G rfl (Nat.le_of_ble_eq_true rfl) (Nat.le_of_ble_eq_true rfl) dX4_set_57 ?_
        have yk1 := tin_e ek1 hk1 (show n ≤ 1000 by omega)
        have zk1 := cn_e ek1 (show k1 < 1000 by omega)
        refine ⟨by simp only [S_set, yk1, zk1, er4, dk2, s_tell, put_it, ↓reduceIte, Bool.false_eq_true, or_true, true_or, and_true, true_and, not_false_eq_true, false_or, show ¬ (3 : Int32) < 2 by decide], ?_⟩
        simp only [S_set, yk1, zk1, er4, dk2, s_tell, put_it, ↓reduceIte, Bool.false_eq_true, or_true, true_or, and_true, true_and, not_false_eq_true, false_or, show ¬ (3 : Int32) < 2 by decide]
        exact ⟨_, _, _, _, _, _, _, _, _, _, R⟩
      · skip
        refine g_get S G (Rc_Ty R hk1 er4 hr4 Kr) rfl (by decide +kernel) 3 (by decide) (by decide +kernel) rfl dX4_set_31 ?_
        refine lv_astore (lv' := [(5, .ref (Rw r4)), (4, .ref (T k1)), (0, .ref x), (1, .int t), (2, .int k), (3, .int o)]) hx hb dX4_set_34 hl (by decide) rfl (fun ls hl => ?_)
        refine lv_aload hx hb dX4_set_36 (lv_at hl 0 rfl) ?_
        refine lv_iconst (v := 2) hx hb dX4_set_38 (by decide) ?_
        refine lv_iconst (v := 3) hx hb dX4_set_39 (by decide) ?_
        refine lv_iload_n hx hb dX4_set_40 rfl (lv_at hl 4 rfl) ?_
        by_cases q6 : so r4 < 2 ∨ 3 < so r4
        · skip
          refine g_Si (n := 4) (rest := []) S G hl (c_X4_againstItem_y l R hr4 (sz_le (Kz r4 hr4)) 2 3 k) gX4_set_X4_againstItem rfl (by decide +kernel) rfl rfl (Nat.le_of_ble_eq_true rfl) ⟨Nat.le_of_ble_eq_true rfl, Nat.le_of_ble_eq_true rfl⟩ ⟨Nat.le_of_ble_eq_true rfl, Nat.le_of_ble_eq_true rfl⟩ dX4_set_41 ?_
          clear G; intro r_ w1 H locs hp G
          obtain ⟨rfl, hq_⟩ := hp
          simp only [q6, ↓reduceIte, Bool.false_eq_true] at hq_
          subst hq_
          refine lv_istore (lv' := [(6, .int 2), (5, .ref (Rw r4)), (4, .ref (T k1)), (0, .ref x), (1, .int t), (2, .int k), (3, .int o)]) hx hb dX4_set_44 hl (by decide) rfl (fun ls hl => ?_)
          refine lv_iload hx hb dX4_set_46 (lv_at hl 0 rfl) ?_
          refine lv_if_eq (tgt := 58) hx hb dX4_set_48 (by decide) (fun c8 => absurd c8 (by decide)) (fun c8 => ?_)
          refine lv_aload_n hx hb dX4_set_51 rfl (lv_at hl 3 rfl) ?_
          refine lv_iload hx hb dX4_set_52 (lv_at hl 0 rfl) ?_
          refine g_Vi (n := 1) (rest := []) S G hl (c_X4_refuse l R (j := 2) (o := 2) rfl (by decide)) gX4_set_X4_refuse rfl (by decide +kernel) (Rc_x R) rfl rfl rfl (Nat.le_of_ble_eq_true rfl) ⟨Nat.le_of_ble_eq_true rfl, Nat.le_of_ble_eq_true rfl⟩ ⟨Nat.le_of_ble_eq_true rfl, Nat.le_of_ble_eq_true rfl⟩ dX4_set_54 ?_
          clear G; intro r_ w1 H locs hp G
          obtain ⟨hr_, R⟩ := hp
          subst r_
          rw [if_neg (show ¬ ((2 : Int32) = 7) by decide)] at R
          refine r_int S hret hlk G rfl (Nat.le_of_ble_eq_true rfl) (Nat.le_of_ble_eq_true rfl) dX4_set_57 ?_
          have yk1 := tin_e ek1 hk1 (show n ≤ 1000 by omega)
          have zk1 := cn_e ek1 (show k1 < 1000 by omega)
          have qr4 := nm1 (show r4 < 100000 by omega)
          have g9 : so r4 < 2 := q6.elim id (fun z => absurd (Or.inr z) (so_in (Ks r4 hr4)))
          refine ⟨by simp only [S_set, yk1, zk1, er4, qr4, cn_nI (show r4 < 2 ^ 31 by omega), dk2, q6, g9, s_tell, put_it, ↓reduceIte, Bool.false_eq_true, or_true, true_or, and_true, true_and, not_false_eq_true, false_or, show ¬ (3 : Int32) < 2 by decide], ?_⟩
          simp only [S_set, yk1, zk1, er4, qr4, cn_nI (show r4 < 2 ^ 31 by omega), dk2, q6, g9, s_tell, put_it, ↓reduceIte, Bool.false_eq_true, or_true, true_or, and_true, true_and, not_false_eq_true, false_or, show ¬ (3 : Int32) < 2 by decide]
          exact ⟨_, _, _, _, _, _, _, _, _, _, R⟩
        rcases tin_c (cn (sz r4)) k (Nat.le_trans (sz_le (Kz r4 hr4)) (by decide)) with ⟨tk7, ok7⟩ | ⟨k7, hk7, ek7⟩
        · skip
          refine g_Si (n := 4) (rest := []) S G hl (c_X4_againstItem_y l R hr4 (sz_le (Kz r4 hr4)) 2 3 k) gX4_set_X4_againstItem rfl (by decide +kernel) rfl rfl (Nat.le_of_ble_eq_true rfl) ⟨Nat.le_of_ble_eq_true rfl, Nat.le_of_ble_eq_true rfl⟩ ⟨Nat.le_of_ble_eq_true rfl, Nat.le_of_ble_eq_true rfl⟩ dX4_set_41 ?_
          clear G; intro r_ w1 H locs hp G
          obtain ⟨rfl, hq_⟩ := hp
          simp only [q6, tk7, ↓reduceIte, Bool.false_eq_true] at hq_
          subst hq_
          refine lv_istore (lv' := [(6, .int 3), (5, .ref (Rw r4)), (4, .ref (T k1)), (0, .ref x), (1, .int t), (2, .int k), (3, .int o)]) hx hb dX4_set_44 hl (by decide) rfl (fun ls hl => ?_)
          refine lv_iload hx hb dX4_set_46 (lv_at hl 0 rfl) ?_
          refine lv_if_eq (tgt := 58) hx hb dX4_set_48 (by decide) (fun c9 => absurd c9 (by decide)) (fun c9 => ?_)
          refine lv_aload_n hx hb dX4_set_51 rfl (lv_at hl 3 rfl) ?_
          refine lv_iload hx hb dX4_set_52 (lv_at hl 0 rfl) ?_
          refine g_Vi (n := 1) (rest := []) S G hl (c_X4_refuse l R (j := 3) (o := 3) rfl (by decide)) gX4_set_X4_refuse rfl (by decide +kernel) (Rc_x R) rfl rfl rfl (Nat.le_of_ble_eq_true rfl) ⟨Nat.le_of_ble_eq_true rfl, Nat.le_of_ble_eq_true rfl⟩ ⟨Nat.le_of_ble_eq_true rfl, Nat.le_of_ble_eq_true rfl⟩ dX4_set_54 ?_
          clear G; intro r_ w1 H locs hp G
          obtain ⟨hr_, R⟩ := hp
          subst r_
          rw [if_neg (show ¬ ((3 : Int32) = 7) by decide)] at R
          refine r_int S hret hlk G rfl (Nat.le_of_ble_eq_true rfl) (Nat.le_of_ble_eq_true rfl) dX4_set_57 ?_
          have yk1 := tin_e ek1 hk1 (show n ≤ 1000 by omega)
          have zk1 := cn_e ek1 (show k1 < 1000 by omega)
          have qr4 := nm1 (show r4 < 100000 by omega)
          have g9 : ¬ so r4 < 2 := fun z => q6 (Or.inl z)
          refine ⟨by simp only [S_set, yk1, zk1, er4, qr4, cn_nI (show r4 < 2 ^ 31 by omega), dk2, q6, tk7, g9, s_tell, put_it, ↓reduceIte, Bool.false_eq_true, or_true, true_or, and_true, true_and, not_false_eq_true, false_or, show ¬ (3 : Int32) < 2 by decide], ?_⟩
          simp only [S_set, yk1, zk1, er4, qr4, cn_nI (show r4 < 2 ^ 31 by omega), dk2, q6, tk7, g9, s_tell, put_it, ↓reduceIte, Bool.false_eq_true, or_true, true_or, and_true, true_and, not_false_eq_true, false_or, show ¬ (3 : Int32) < 2 by decide]
          exact ⟨_, _, _, _, _, _, _, _, _, _, R⟩
        · skip
          refine g_Si (n := 4) (rest := []) S G hl (c_X4_againstItem_y l R hr4 (sz_le (Kz r4 hr4)) 2 3 k) gX4_set_X4_againstItem rfl (by decide +kernel) rfl rfl (Nat.le_of_ble_eq_true rfl) ⟨Nat.le_of_ble_eq_true rfl, Nat.le_of_ble_eq_true rfl⟩ ⟨Nat.le_of_ble_eq_true rfl, Nat.le_of_ble_eq_true rfl⟩ dX4_set_41 ?_
          clear G; intro r_ w1 H locs hp G
          obtain ⟨rfl, hq_⟩ := hp
          have yk7 := tin_e ek7 hk7 (Nat.le_trans (sz_le (Kz r4 hr4)) (by decide))
          have zk7 := cn_e ek7 (Nat.lt_of_lt_of_le hk7 (Nat.le_trans (sz_le (Kz r4 hr4)) (by decide)))
          simp only [q6, yk7, ↓reduceIte, Bool.false_eq_true] at hq_
          subst hq_
          refine lv_istore (lv' := [(6, .int 0), (5, .ref (Rw r4)), (4, .ref (T k1)), (0, .ref x), (1, .int t), (2, .int k), (3, .int o)]) hx hb dX4_set_44 hl (by decide) rfl (fun ls hl => ?_)
          refine lv_iload hx hb dX4_set_46 (lv_at hl 0 rfl) ?_
          refine lv_if_eq (tgt := 58) hx hb dX4_set_48 (by decide) (fun c10 => ?_) (fun c10 => absurd (by decide) c10)
          refine lv_aload hx hb dX4_set_58 (lv_at hl 1 rfl) ?_
          refine g_get S G (Rc_Rw R r4 hr4) rfl (by decide +kernel) 0 (by decide) (by decide +kernel) rfl dX4_set_60 ?_
          refine lv_iconst (v := 3) hx hb dX4_set_63 (by decide) ?_
          refine lv_icmp_ne (tgt := 84) hx hb dX4_set_64 (by decide) (fun c11 => ?_) (fun c11 => ?_)
          · skip
            refine lv_aload_n hx hb dX4_set_84 rfl (lv_at hl 3 rfl) ?_
            refine lv_iconst (v := 0) hx hb dX4_set_85 (by decide) ?_
            refine g_Vi (n := 1) (rest := []) S G hl (c_X4_tell l R (j := 0) (o := 0) rfl (by decide)) gX4_set_X4_tell rfl (by decide +kernel) (Rc_x R) rfl rfl rfl (Nat.le_of_ble_eq_true rfl) ⟨Nat.le_of_ble_eq_true rfl, Nat.le_of_ble_eq_true rfl⟩ ⟨Nat.le_of_ble_eq_true rfl, Nat.le_of_ble_eq_true rfl⟩ dX4_set_86 ?_
            clear G; intro r_ w1 H locs hp G
            obtain ⟨hr_, R⟩ := hp
            subst r_
            rw [if_neg (show ¬ ((0 : Int32) = 7) by decide)] at R
            refine lv_pop hx hb dX4_set_89 rfl ?_
            refine lv_aload hx hb dX4_set_90 (lv_at hl 1 rfl) ?_
            refine lv_iload_n hx hb dX4_set_92 rfl (lv_at hl 5 rfl) ?_
            refine lv_iload_n hx hb dX4_set_93 rfl (lv_at hl 6 rfl) ?_
            refine lv_i2l (v := (Int32.toInt64 o)) hx hb dX4_set_94 rfl ?_
            refine g_Vl (n := 2) (rest := []) S G hl (c_X0_put l (Rc_Rw R r4 hr4) (Rc_Ia R r4 hr4) ek7 hk7 (Nat.le_trans (sz_le (Kz r4 hr4)) (by decide)) (Int32.toInt64 o)) gX4_set_X0_put rfl (by decide +kernel) (Rc_Rw R r4 hr4) rfl rfl rfl (Nat.le_of_ble_eq_true rfl) ⟨Nat.le_of_ble_eq_true rfl, Nat.le_of_ble_eq_true rfl⟩ ⟨Nat.le_of_ble_eq_true rfl, Nat.le_of_ble_eq_true rfl⟩ dX4_set_95 ?_
            clear G; intro r_ w1 H locs hp G
            obtain ⟨rfl, rfl⟩ := hp
            have fj := Rc_F R r4 hr4 k7 hk7
            obtain ⟨w, R, G⟩ := Rc_ex (Rc_p_put R hr4 Kz hk7 (Int32.toInt64 o)) G
            refine lv_l2i (v := (Int64.toInt32 (F r4 k7))) hx hb dX4_set_98 rfl ?_
            refine r_int S hret hlk G rfl (Nat.le_of_ble_eq_true rfl) (Nat.le_of_ble_eq_true rfl) dX4_set_99 ?_
            have yk1 := tin_e ek1 hk1 (show n ≤ 1000 by omega)
            have zk1 := cn_e ek1 (show k1 < 1000 by omega)
            have qr4 := nm1 (show r4 < 100000 by omega)
            have g9 : ¬ so r4 < 2 := fun z => q6 (Or.inl z)
            have d9 : ¬ (so r4 = 3 ∧ ¬ o = -1 ∧ ¬ cl (cn o) ≤ 2) := fun z => c11 z.1
            refine ⟨by simp only [S_set, yk1, zk1, er4, qr4, cn_nI (show r4 < 2 ^ 31 by omega), dk2, q6, yk7, zk7, fj, g9, d9, s_tell, put_it, ↓reduceIte, Bool.false_eq_true, or_true, true_or, and_true, true_and, not_false_eq_true, false_or, show ¬ (3 : Int32) < 2 by decide], ?_⟩
            simp only [S_set, yk1, zk1, er4, qr4, cn_nI (show r4 < 2 ^ 31 by omega), dk2, q6, yk7, zk7, fj, g9, d9, s_tell, put_it, ↓reduceIte, Bool.false_eq_true, or_true, true_or, and_true, true_and, not_false_eq_true, false_or, show ¬ (3 : Int32) < 2 by decide]
            exact ⟨_, _, _, _, _, _, _, _, _, _, R⟩
          · skip
            refine lv_aload_n hx hb dX4_set_67 rfl (lv_at hl 3 rfl) ?_
            refine g_get S G (Rc_x R) rfl (by decide +kernel) 0 (by decide) (by decide +kernel) rfl dX4_set_68 ?_
            refine lv_iload_n hx hb dX4_set_71 rfl (lv_at hl 6 rfl) ?_
            refine g_Vi (n := 1) (rest := []) S G hl (c_X1_isLeafOrNone l R Kn o) gX4_set_X1_isLeafOrNone rfl (by decide +kernel) (Rc_st R) rfl rfl rfl (Nat.le_of_ble_eq_true rfl) ⟨Nat.le_of_ble_eq_true rfl, Nat.le_of_ble_eq_true rfl⟩ ⟨Nat.le_of_ble_eq_true rfl, Nat.le_of_ble_eq_true rfl⟩ dX4_set_72 ?_
            clear G; intro r_ w1 H locs hp G
            obtain ⟨rfl, rfl⟩ := hp
            refine lv_if_ne (tgt := 84) hx hb dX4_set_75 (by decide) (fun c12 => ?_) (fun c12 => ?_)
            · skip
              refine lv_aload_n hx hb dX4_set_84 rfl (lv_at hl 3 rfl) ?_
              refine lv_iconst (v := 0) hx hb dX4_set_85 (by decide) ?_
              refine g_Vi (n := 1) (rest := []) S G hl (c_X4_tell l R (j := 0) (o := 0) rfl (by decide)) gX4_set_X4_tell rfl (by decide +kernel) (Rc_x R) rfl rfl rfl (Nat.le_of_ble_eq_true rfl) ⟨Nat.le_of_ble_eq_true rfl, Nat.le_of_ble_eq_true rfl⟩ ⟨Nat.le_of_ble_eq_true rfl, Nat.le_of_ble_eq_true rfl⟩ dX4_set_86 ?_
              clear G; intro r_ w1 H locs hp G
              obtain ⟨hr_, R⟩ := hp
              subst r_
              rw [if_neg (show ¬ ((0 : Int32) = 7) by decide)] at R
              refine lv_pop hx hb dX4_set_89 rfl ?_
              refine lv_aload hx hb dX4_set_90 (lv_at hl 1 rfl) ?_
              refine lv_iload_n hx hb dX4_set_92 rfl (lv_at hl 5 rfl) ?_
              refine lv_iload_n hx hb dX4_set_93 rfl (lv_at hl 6 rfl) ?_
              refine lv_i2l (v := (Int32.toInt64 o)) hx hb dX4_set_94 rfl ?_
              refine g_Vl (n := 2) (rest := []) S G hl (c_X0_put l (Rc_Rw R r4 hr4) (Rc_Ia R r4 hr4) ek7 hk7 (Nat.le_trans (sz_le (Kz r4 hr4)) (by decide)) (Int32.toInt64 o)) gX4_set_X0_put rfl (by decide +kernel) (Rc_Rw R r4 hr4) rfl rfl rfl (Nat.le_of_ble_eq_true rfl) ⟨Nat.le_of_ble_eq_true rfl, Nat.le_of_ble_eq_true rfl⟩ ⟨Nat.le_of_ble_eq_true rfl, Nat.le_of_ble_eq_true rfl⟩ dX4_set_95 ?_
              clear G; intro r_ w1 H locs hp G
              obtain ⟨rfl, rfl⟩ := hp
              have fj := Rc_F R r4 hr4 k7 hk7
              obtain ⟨w, R, G⟩ := Rc_ex (Rc_p_put R hr4 Kz hk7 (Int32.toInt64 o)) G
              refine lv_l2i (v := (Int64.toInt32 (F r4 k7))) hx hb dX4_set_98 rfl ?_
              refine r_int S hret hlk G rfl (Nat.le_of_ble_eq_true rfl) (Nat.le_of_ble_eq_true rfl) dX4_set_99 ?_
              have yk1 := tin_e ek1 hk1 (show n ≤ 1000 by omega)
              have zk1 := cn_e ek1 (show k1 < 1000 by omega)
              have qr4 := nm1 (show r4 < 100000 by omega)
              have g9 : ¬ so r4 < 2 := fun z => q6 (Or.inl z)
              have d9 : ¬ (so r4 = 3 ∧ ¬ o = -1 ∧ ¬ cl (cn o) ≤ 2) := fun z => z.2.1 nk2
              refine ⟨by simp only [S_set, yk1, zk1, er4, qr4, cn_nI (show r4 < 2 ^ 31 by omega), dk2, q6, yk7, zk7, fj, g9, d9, s_tell, put_it, ↓reduceIte, Bool.false_eq_true, or_true, true_or, and_true, true_and, not_false_eq_true, false_or, show ¬ (3 : Int32) < 2 by decide], ?_⟩
              simp only [S_set, yk1, zk1, er4, qr4, cn_nI (show r4 < 2 ^ 31 by omega), dk2, q6, yk7, zk7, fj, g9, d9, s_tell, put_it, ↓reduceIte, Bool.false_eq_true, or_true, true_or, and_true, true_and, not_false_eq_true, false_or, show ¬ (3 : Int32) < 2 by decide]
              exact ⟨_, _, _, _, _, _, _, _, _, _, R⟩
            · skip
              refine lv_aload_n hx hb dX4_set_78 rfl (lv_at hl 3 rfl) ?_
              refine lv_iconst (v := 5) hx hb dX4_set_79 (by decide) ?_
              refine g_Vi (n := 1) (rest := []) S G hl (c_X4_refuse l R (j := 5) (o := 5) rfl (by decide)) gX4_set_X4_refuse rfl (by decide +kernel) (Rc_x R) rfl rfl rfl (Nat.le_of_ble_eq_true rfl) ⟨Nat.le_of_ble_eq_true rfl, Nat.le_of_ble_eq_true rfl⟩ ⟨Nat.le_of_ble_eq_true rfl, Nat.le_of_ble_eq_true rfl⟩ dX4_set_80 ?_
              clear G; intro r_ w1 H locs hp G
              obtain ⟨hr_, R⟩ := hp
              subst r_
              rw [if_neg (show ¬ ((5 : Int32) = 7) by decide)] at R
              refine r_int S hret hlk G rfl (Nat.le_of_ble_eq_true rfl) (Nat.le_of_ble_eq_true rfl) dX4_set_83 ?_
              have yk1 := tin_e ek1 hk1 (show n ≤ 1000 by omega)
              have zk1 := cn_e ek1 (show k1 < 1000 by omega)
              have qr4 := nm1 (show r4 < 100000 by omega)
              have g9 : ¬ so r4 < 2 := fun z => q6 (Or.inl z)
              rw [nk2, tin_m1] at c12
              simp at c12
    rcases tin_c n o (by omega) with ⟨tk2, ok2⟩ | ⟨k2, hk2, ek2⟩
    · skip
      refine g_Vi (n := 1) (rest := []) S G hl (c_X1_hasOrNone l R Kn o) gX4_set_X1_hasOrNone rfl (by decide +kernel) (Rc_st R) rfl rfl rfl (Nat.le_of_ble_eq_true rfl) ⟨Nat.le_of_ble_eq_true rfl, Nat.le_of_ble_eq_true rfl⟩ ⟨Nat.le_of_ble_eq_true rfl, Nat.le_of_ble_eq_true rfl⟩ dX4_set_20 ?_
      clear G; intro r_ w1 H locs hp G
      obtain ⟨rfl, hq_⟩ := hp
      have dk2 : ¬ (o = -1 ∨ tin n o = true) := fun z => z.elim nk2 (fun z => by rw [tk2] at z; cases z)
      simp only [dk2, ↓reduceIte] at hq_
      subst hq_
      refine lv_if_ne (tgt := 29) hx hb dX4_set_23 (by decide) (fun c13 => absurd (by decide) c13) (fun c13 => ?_)
      refine lv_ldc hx hb S.2.2.2.1 (S.2.2.2.2 (.constant RX4 33 (-2000000001)) (by decide +kernel)) dX4_set_26 ?_
      refine r_int S hret hlk G rfl (Nat.le_of_ble_eq_true rfl) (Nat.le_of_ble_eq_true rfl) dX4_set_28 ?_
      have yk1 := tin_e ek1 hk1 (show n ≤ 1000 by omega)
      have zk1 := cn_e ek1 (show k1 < 1000 by omega)
      refine ⟨by simp only [S_set, yk1, zk1, dk2, s_tell, put_it, ↓reduceIte, Bool.false_eq_true, or_true, true_or, and_true, true_and, not_false_eq_true, false_or, show ¬ (3 : Int32) < 2 by decide], ?_⟩
      simp only [S_set, yk1, zk1, dk2, s_tell, put_it, ↓reduceIte, Bool.false_eq_true, or_true, true_or, and_true, true_and, not_false_eq_true, false_or, show ¬ (3 : Int32) < 2 by decide]
      exact ⟨_, _, _, _, _, _, _, _, _, _, R⟩
    · skip
      refine g_Vi (n := 1) (rest := []) S G hl (c_X1_hasOrNone l R Kn o) gX4_set_X1_hasOrNone rfl (by decide +kernel) (Rc_st R) rfl rfl rfl (Nat.le_of_ble_eq_true rfl) ⟨Nat.le_of_ble_eq_true rfl, Nat.le_of_ble_eq_true rfl⟩ ⟨Nat.le_of_ble_eq_true rfl, Nat.le_of_ble_eq_true rfl⟩ dX4_set_20 ?_
      clear G; intro r_ w1 H locs hp G
      obtain ⟨rfl, hq_⟩ := hp
      have dk2 : o = -1 ∨ tin n o = true := Or.inr (tin_e ek2 hk2 (by omega))
      simp only [dk2, ↓reduceIte] at hq_
      subst hq_
      refine lv_if_ne (tgt := 29) hx hb dX4_set_23 (by decide) (fun c14 => ?_) (fun c14 => absurd c14 (by decide))
      refine lv_aload hx hb dX4_set_29 (lv_at hl 0 rfl) ?_
      rcases Kh k1 hk1 with er15 | ⟨r15, hr15, er15⟩
      · skip
        refine g_get S G (Rc_Tn R hk1 er15) rfl (by decide +kernel) 3 (by decide) (by decide +kernel) rfl dX4_set_31 ?_
        refine lv_astoreN (lv' := [(5, .null), (4, .ref (T k1)), (0, .ref x), (1, .int t), (2, .int k), (3, .int o)]) hx hb dX4_set_34 hl (by decide) rfl (fun ls hl => ?_)
        refine lv_aloadN hx hb dX4_set_36 (lv_at hl 0 rfl) ?_
        refine lv_iconst (v := 2) hx hb dX4_set_38 (by decide) ?_
        refine lv_iconst (v := 3) hx hb dX4_set_39 (by decide) ?_
        refine lv_iload_n hx hb dX4_set_40 rfl (lv_at hl 4 rfl) ?_
        refine g_Si (n := 4) (rest := []) S G hl (c_X4_againstItem_n l 2 3 k) gX4_set_X4_againstItem rfl (by decide +kernel) rfl rfl (Nat.le_of_ble_eq_true rfl) ⟨Nat.le_of_ble_eq_true rfl, Nat.le_of_ble_eq_true rfl⟩ ⟨Nat.le_of_ble_eq_true rfl, Nat.le_of_ble_eq_true rfl⟩ dX4_set_41 ?_
        clear G; intro r_ w1 H locs hp G
        obtain ⟨rfl, rfl⟩ := hp
        refine lv_istore (lv' := [(6, .int 1), (5, .null), (4, .ref (T k1)), (0, .ref x), (1, .int t), (2, .int k), (3, .int o)]) hx hb dX4_set_44 hl (by decide) rfl (fun ls hl => ?_)
        refine lv_iload hx hb dX4_set_46 (lv_at hl 0 rfl) ?_
        refine lv_if_eq (tgt := 58) hx hb dX4_set_48 (by decide) (fun c16 => absurd c16 (by decide)) (fun c16 => ?_)
        refine lv_aload_n hx hb dX4_set_51 rfl (lv_at hl 3 rfl) ?_
        refine lv_iload hx hb dX4_set_52 (lv_at hl 0 rfl) ?_
        refine g_Vi (n := 1) (rest := []) S G hl (c_X4_refuse l R (j := 1) (o := 1) rfl (by decide)) gX4_set_X4_refuse rfl (by decide +kernel) (Rc_x R) rfl rfl rfl (Nat.le_of_ble_eq_true rfl) ⟨Nat.le_of_ble_eq_true rfl, Nat.le_of_ble_eq_true rfl⟩ ⟨Nat.le_of_ble_eq_true rfl, Nat.le_of_ble_eq_true rfl⟩ dX4_set_54 ?_
        clear G; intro r_ w1 H locs hp G
        obtain ⟨hr_, R⟩ := hp
        subst r_
        rw [if_neg (show ¬ ((1 : Int32) = 7) by decide)] at R
        refine r_int S hret hlk G rfl (Nat.le_of_ble_eq_true rfl) (Nat.le_of_ble_eq_true rfl) dX4_set_57 ?_
        have yk1 := tin_e ek1 hk1 (show n ≤ 1000 by omega)
        have zk1 := cn_e ek1 (show k1 < 1000 by omega)
        have yk2 := tin_e ek2 hk2 (show n ≤ 1000 by omega)
        have zk2 := cn_e ek2 (show k2 < 1000 by omega)
        refine ⟨by simp only [S_set, yk1, zk1, yk2, zk2, er15, dk2, s_tell, put_it, ↓reduceIte, Bool.false_eq_true, or_true, true_or, and_true, true_and, not_false_eq_true, false_or, show ¬ (3 : Int32) < 2 by decide], ?_⟩
        simp only [S_set, yk1, zk1, yk2, zk2, er15, dk2, s_tell, put_it, ↓reduceIte, Bool.false_eq_true, or_true, true_or, and_true, true_and, not_false_eq_true, false_or, show ¬ (3 : Int32) < 2 by decide]
        exact ⟨_, _, _, _, _, _, _, _, _, _, R⟩
      · skip
        refine g_get S G (Rc_Ty R hk1 er15 hr15 Kr) rfl (by decide +kernel) 3 (by decide) (by decide +kernel) rfl dX4_set_31 ?_
        refine lv_astore (lv' := [(5, .ref (Rw r15)), (4, .ref (T k1)), (0, .ref x), (1, .int t), (2, .int k), (3, .int o)]) hx hb dX4_set_34 hl (by decide) rfl (fun ls hl => ?_)
        refine lv_aload hx hb dX4_set_36 (lv_at hl 0 rfl) ?_
        refine lv_iconst (v := 2) hx hb dX4_set_38 (by decide) ?_
        refine lv_iconst (v := 3) hx hb dX4_set_39 (by decide) ?_
        refine lv_iload_n hx hb dX4_set_40 rfl (lv_at hl 4 rfl) ?_
        by_cases q17 : so r15 < 2 ∨ 3 < so r15
        · skip
          refine g_Si (n := 4) (rest := []) S G hl (c_X4_againstItem_y l R hr15 (sz_le (Kz r15 hr15)) 2 3 k) gX4_set_X4_againstItem rfl (by decide +kernel) rfl rfl (Nat.le_of_ble_eq_true rfl) ⟨Nat.le_of_ble_eq_true rfl, Nat.le_of_ble_eq_true rfl⟩ ⟨Nat.le_of_ble_eq_true rfl, Nat.le_of_ble_eq_true rfl⟩ dX4_set_41 ?_
          clear G; intro r_ w1 H locs hp G
          obtain ⟨rfl, hq_⟩ := hp
          simp only [q17, ↓reduceIte, Bool.false_eq_true] at hq_
          subst hq_
          refine lv_istore (lv' := [(6, .int 2), (5, .ref (Rw r15)), (4, .ref (T k1)), (0, .ref x), (1, .int t), (2, .int k), (3, .int o)]) hx hb dX4_set_44 hl (by decide) rfl (fun ls hl => ?_)
          refine lv_iload hx hb dX4_set_46 (lv_at hl 0 rfl) ?_
          refine lv_if_eq (tgt := 58) hx hb dX4_set_48 (by decide) (fun c19 => absurd c19 (by decide)) (fun c19 => ?_)
          refine lv_aload_n hx hb dX4_set_51 rfl (lv_at hl 3 rfl) ?_
          refine lv_iload hx hb dX4_set_52 (lv_at hl 0 rfl) ?_
          refine g_Vi (n := 1) (rest := []) S G hl (c_X4_refuse l R (j := 2) (o := 2) rfl (by decide)) gX4_set_X4_refuse rfl (by decide +kernel) (Rc_x R) rfl rfl rfl (Nat.le_of_ble_eq_true rfl) ⟨Nat.le_of_ble_eq_true rfl, Nat.le_of_ble_eq_true rfl⟩ ⟨Nat.le_of_ble_eq_true rfl, Nat.le_of_ble_eq_true rfl⟩ dX4_set_54 ?_
          clear G; intro r_ w1 H locs hp G
          obtain ⟨hr_, R⟩ := hp
          subst r_
          rw [if_neg (show ¬ ((2 : Int32) = 7) by decide)] at R
          refine r_int S hret hlk G rfl (Nat.le_of_ble_eq_true rfl) (Nat.le_of_ble_eq_true rfl) dX4_set_57 ?_
          have yk1 := tin_e ek1 hk1 (show n ≤ 1000 by omega)
          have zk1 := cn_e ek1 (show k1 < 1000 by omega)
          have yk2 := tin_e ek2 hk2 (show n ≤ 1000 by omega)
          have zk2 := cn_e ek2 (show k2 < 1000 by omega)
          have qr15 := nm1 (show r15 < 100000 by omega)
          have g9 : so r15 < 2 := q17.elim id (fun z => absurd (Or.inr z) (so_in (Ks r15 hr15)))
          refine ⟨by simp only [S_set, yk1, zk1, yk2, zk2, er15, qr15, cn_nI (show r15 < 2 ^ 31 by omega), dk2, q17, g9, s_tell, put_it, ↓reduceIte, Bool.false_eq_true, or_true, true_or, and_true, true_and, not_false_eq_true, false_or, show ¬ (3 : Int32) < 2 by decide], ?_⟩
          simp only [S_set, yk1, zk1, yk2, zk2, er15, qr15, cn_nI (show r15 < 2 ^ 31 by omega), dk2, q17, g9, s_tell, put_it, ↓reduceIte, Bool.false_eq_true, or_true, true_or, and_true, true_and, not_false_eq_true, false_or, show ¬ (3 : Int32) < 2 by decide]
          exact ⟨_, _, _, _, _, _, _, _, _, _, R⟩
        rcases tin_c (cn (sz r15)) k (Nat.le_trans (sz_le (Kz r15 hr15)) (by decide)) with ⟨tk18, ok18⟩ | ⟨k18, hk18, ek18⟩
        · skip
          refine g_Si (n := 4) (rest := []) S G hl (c_X4_againstItem_y l R hr15 (sz_le (Kz r15 hr15)) 2 3 k) gX4_set_X4_againstItem rfl (by decide +kernel) rfl rfl (Nat.le_of_ble_eq_true rfl) ⟨Nat.le_of_ble_eq_true rfl, Nat.le_of_ble_eq_true rfl⟩ ⟨Nat.le_of_ble_eq_true rfl, Nat.le_of_ble_eq_true rfl⟩ dX4_set_41 ?_
          clear G; intro r_ w1 H locs hp G
          obtain ⟨rfl, hq_⟩ := hp
          simp only [q17, tk18, ↓reduceIte, Bool.false_eq_true] at hq_
          subst hq_
          refine lv_istore (lv' := [(6, .int 3), (5, .ref (Rw r15)), (4, .ref (T k1)), (0, .ref x), (1, .int t), (2, .int k), (3, .int o)]) hx hb dX4_set_44 hl (by decide) rfl (fun ls hl => ?_)
          refine lv_iload hx hb dX4_set_46 (lv_at hl 0 rfl) ?_
          refine lv_if_eq (tgt := 58) hx hb dX4_set_48 (by decide) (fun c20 => absurd c20 (by decide)) (fun c20 => ?_)
          refine lv_aload_n hx hb dX4_set_51 rfl (lv_at hl 3 rfl) ?_
          refine lv_iload hx hb dX4_set_52 (lv_at hl 0 rfl) ?_
          refine g_Vi (n := 1) (rest := []) S G hl (c_X4_refuse l R (j := 3) (o := 3) rfl (by decide)) gX4_set_X4_refuse rfl (by decide +kernel) (Rc_x R) rfl rfl rfl (Nat.le_of_ble_eq_true rfl) ⟨Nat.le_of_ble_eq_true rfl, Nat.le_of_ble_eq_true rfl⟩ ⟨Nat.le_of_ble_eq_true rfl, Nat.le_of_ble_eq_true rfl⟩ dX4_set_54 ?_
          clear G; intro r_ w1 H locs hp G
          obtain ⟨hr_, R⟩ := hp
          subst r_
          rw [if_neg (show ¬ ((3 : Int32) = 7) by decide)] at R
          refine r_int S hret hlk G rfl (Nat.le_of_ble_eq_true rfl) (Nat.le_of_ble_eq_true rfl) dX4_set_57 ?_
          have yk1 := tin_e ek1 hk1 (show n ≤ 1000 by omega)
          have zk1 := cn_e ek1 (show k1 < 1000 by omega)
          have yk2 := tin_e ek2 hk2 (show n ≤ 1000 by omega)
          have zk2 := cn_e ek2 (show k2 < 1000 by omega)
          have qr15 := nm1 (show r15 < 100000 by omega)
          have g9 : ¬ so r15 < 2 := fun z => q17 (Or.inl z)
          refine ⟨by simp only [S_set, yk1, zk1, yk2, zk2, er15, qr15, cn_nI (show r15 < 2 ^ 31 by omega), dk2, q17, tk18, g9, s_tell, put_it, ↓reduceIte, Bool.false_eq_true, or_true, true_or, and_true, true_and, not_false_eq_true, false_or, show ¬ (3 : Int32) < 2 by decide], ?_⟩
          simp only [S_set, yk1, zk1, yk2, zk2, er15, qr15, cn_nI (show r15 < 2 ^ 31 by omega), dk2, q17, tk18, g9, s_tell, put_it, ↓reduceIte, Bool.false_eq_true, or_true, true_or, and_true, true_and, not_false_eq_true, false_or, show ¬ (3 : Int32) < 2 by decide]
          exact ⟨_, _, _, _, _, _, _, _, _, _, R⟩
        · skip
          refine g_Si (n := 4) (rest := []) S G hl (c_X4_againstItem_y l R hr15 (sz_le (Kz r15 hr15)) 2 3 k) gX4_set_X4_againstItem rfl (by decide +kernel) rfl rfl (Nat.le_of_ble_eq_true rfl) ⟨Nat.le_of_ble_eq_true rfl, Nat.le_of_ble_eq_true rfl⟩ ⟨Nat.le_of_ble_eq_true rfl, Nat.le_of_ble_eq_true rfl⟩ dX4_set_41 ?_
          clear G; intro r_ w1 H locs hp G
          obtain ⟨rfl, hq_⟩ := hp
          have yk18 := tin_e ek18 hk18 (Nat.le_trans (sz_le (Kz r15 hr15)) (by decide))
          have zk18 := cn_e ek18 (Nat.lt_of_lt_of_le hk18 (Nat.le_trans (sz_le (Kz r15 hr15)) (by decide)))
          simp only [q17, yk18, ↓reduceIte, Bool.false_eq_true] at hq_
          subst hq_
          refine lv_istore (lv' := [(6, .int 0), (5, .ref (Rw r15)), (4, .ref (T k1)), (0, .ref x), (1, .int t), (2, .int k), (3, .int o)]) hx hb dX4_set_44 hl (by decide) rfl (fun ls hl => ?_)
          refine lv_iload hx hb dX4_set_46 (lv_at hl 0 rfl) ?_
          refine lv_if_eq (tgt := 58) hx hb dX4_set_48 (by decide) (fun c21 => ?_) (fun c21 => absurd (by decide) c21)
          refine lv_aload hx hb dX4_set_58 (lv_at hl 1 rfl) ?_
          refine g_get S G (Rc_Rw R r15 hr15) rfl (by decide +kernel) 0 (by decide) (by decide +kernel) rfl dX4_set_60 ?_
          refine lv_iconst (v := 3) hx hb dX4_set_63 (by decide) ?_
          refine lv_icmp_ne (tgt := 84) hx hb dX4_set_64 (by decide) (fun c22 => ?_) (fun c22 => ?_)
          · skip
            refine lv_aload_n hx hb dX4_set_84 rfl (lv_at hl 3 rfl) ?_
            refine lv_iconst (v := 0) hx hb dX4_set_85 (by decide) ?_
            refine g_Vi (n := 1) (rest := []) S G hl (c_X4_tell l R (j := 0) (o := 0) rfl (by decide)) gX4_set_X4_tell rfl (by decide +kernel) (Rc_x R) rfl rfl rfl (Nat.le_of_ble_eq_true rfl) ⟨Nat.le_of_ble_eq_true rfl, Nat.le_of_ble_eq_true rfl⟩ ⟨Nat.le_of_ble_eq_true rfl, Nat.le_of_ble_eq_true rfl⟩ dX4_set_86 ?_
            clear G; intro r_ w1 H locs hp G
            obtain ⟨hr_, R⟩ := hp
            subst r_
            rw [if_neg (show ¬ ((0 : Int32) = 7) by decide)] at R
            refine lv_pop hx hb dX4_set_89 rfl ?_
            refine lv_aload hx hb dX4_set_90 (lv_at hl 1 rfl) ?_
            refine lv_iload_n hx hb dX4_set_92 rfl (lv_at hl 5 rfl) ?_
            refine lv_iload_n hx hb dX4_set_93 rfl (lv_at hl 6 rfl) ?_
            refine lv_i2l (v := (Int32.toInt64 o)) hx hb dX4_set_94 rfl ?_
            refine g_Vl (n := 2) (rest := []) S G hl (c_X0_put l (Rc_Rw R r15 hr15) (Rc_Ia R r15 hr15) ek18 hk18 (Nat.le_trans (sz_le (Kz r15 hr15)) (by decide)) (Int32.toInt64 o)) gX4_set_X0_put rfl (by decide +kernel) (Rc_Rw R r15 hr15) rfl rfl rfl (Nat.le_of_ble_eq_true rfl) ⟨Nat.le_of_ble_eq_true rfl, Nat.le_of_ble_eq_true rfl⟩ ⟨Nat.le_of_ble_eq_true rfl, Nat.le_of_ble_eq_true rfl⟩ dX4_set_95 ?_
            clear G; intro r_ w1 H locs hp G
            obtain ⟨rfl, rfl⟩ := hp
            have fj := Rc_F R r15 hr15 k18 hk18
            obtain ⟨w, R, G⟩ := Rc_ex (Rc_p_put R hr15 Kz hk18 (Int32.toInt64 o)) G
            refine lv_l2i (v := (Int64.toInt32 (F r15 k18))) hx hb dX4_set_98 rfl ?_
            refine r_int S hret hlk G rfl (Nat.le_of_ble_eq_true rfl) (Nat.le_of_ble_eq_true rfl) dX4_set_99 ?_
            have yk1 := tin_e ek1 hk1 (show n ≤ 1000 by omega)
            have zk1 := cn_e ek1 (show k1 < 1000 by omega)
            have yk2 := tin_e ek2 hk2 (show n ≤ 1000 by omega)
            have zk2 := cn_e ek2 (show k2 < 1000 by omega)
            have qr15 := nm1 (show r15 < 100000 by omega)
            have g9 : ¬ so r15 < 2 := fun z => q17 (Or.inl z)
            have d9 : ¬ (so r15 = 3 ∧ ¬ o = -1 ∧ ¬ cl k2 ≤ 2) := fun z => c22 z.1
            refine ⟨by simp only [S_set, yk1, zk1, yk2, zk2, er15, qr15, cn_nI (show r15 < 2 ^ 31 by omega), dk2, q17, yk18, zk18, fj, g9, d9, s_tell, put_it, ↓reduceIte, Bool.false_eq_true, or_true, true_or, and_true, true_and, not_false_eq_true, false_or, show ¬ (3 : Int32) < 2 by decide], ?_⟩
            simp only [S_set, yk1, zk1, yk2, zk2, er15, qr15, cn_nI (show r15 < 2 ^ 31 by omega), dk2, q17, yk18, zk18, fj, g9, d9, s_tell, put_it, ↓reduceIte, Bool.false_eq_true, or_true, true_or, and_true, true_and, not_false_eq_true, false_or, show ¬ (3 : Int32) < 2 by decide]
            exact ⟨_, _, _, _, _, _, _, _, _, _, R⟩
          · skip
            refine lv_aload_n hx hb dX4_set_67 rfl (lv_at hl 3 rfl) ?_
            refine g_get S G (Rc_x R) rfl (by decide +kernel) 0 (by decide) (by decide +kernel) rfl dX4_set_68 ?_
            refine lv_iload_n hx hb dX4_set_71 rfl (lv_at hl 6 rfl) ?_
            refine g_Vi (n := 1) (rest := []) S G hl (c_X1_isLeafOrNone l R Kn o) gX4_set_X1_isLeafOrNone rfl (by decide +kernel) (Rc_st R) rfl rfl rfl (Nat.le_of_ble_eq_true rfl) ⟨Nat.le_of_ble_eq_true rfl, Nat.le_of_ble_eq_true rfl⟩ ⟨Nat.le_of_ble_eq_true rfl, Nat.le_of_ble_eq_true rfl⟩ dX4_set_72 ?_
            clear G; intro r_ w1 H locs hp G
            obtain ⟨rfl, rfl⟩ := hp
            refine lv_if_ne (tgt := 84) hx hb dX4_set_75 (by decide) (fun c23 => ?_) (fun c23 => ?_)
            · skip
              refine lv_aload_n hx hb dX4_set_84 rfl (lv_at hl 3 rfl) ?_
              refine lv_iconst (v := 0) hx hb dX4_set_85 (by decide) ?_
              refine g_Vi (n := 1) (rest := []) S G hl (c_X4_tell l R (j := 0) (o := 0) rfl (by decide)) gX4_set_X4_tell rfl (by decide +kernel) (Rc_x R) rfl rfl rfl (Nat.le_of_ble_eq_true rfl) ⟨Nat.le_of_ble_eq_true rfl, Nat.le_of_ble_eq_true rfl⟩ ⟨Nat.le_of_ble_eq_true rfl, Nat.le_of_ble_eq_true rfl⟩ dX4_set_86 ?_
              clear G; intro r_ w1 H locs hp G
              obtain ⟨hr_, R⟩ := hp
              subst r_
              rw [if_neg (show ¬ ((0 : Int32) = 7) by decide)] at R
              refine lv_pop hx hb dX4_set_89 rfl ?_
              refine lv_aload hx hb dX4_set_90 (lv_at hl 1 rfl) ?_
              refine lv_iload_n hx hb dX4_set_92 rfl (lv_at hl 5 rfl) ?_
              refine lv_iload_n hx hb dX4_set_93 rfl (lv_at hl 6 rfl) ?_
              refine lv_i2l (v := (Int32.toInt64 o)) hx hb dX4_set_94 rfl ?_
              refine g_Vl (n := 2) (rest := []) S G hl (c_X0_put l (Rc_Rw R r15 hr15) (Rc_Ia R r15 hr15) ek18 hk18 (Nat.le_trans (sz_le (Kz r15 hr15)) (by decide)) (Int32.toInt64 o)) gX4_set_X0_put rfl (by decide +kernel) (Rc_Rw R r15 hr15) rfl rfl rfl (Nat.le_of_ble_eq_true rfl) ⟨Nat.le_of_ble_eq_true rfl, Nat.le_of_ble_eq_true rfl⟩ ⟨Nat.le_of_ble_eq_true rfl, Nat.le_of_ble_eq_true rfl⟩ dX4_set_95 ?_
              clear G; intro r_ w1 H locs hp G
              obtain ⟨rfl, rfl⟩ := hp
              have fj := Rc_F R r15 hr15 k18 hk18
              obtain ⟨w, R, G⟩ := Rc_ex (Rc_p_put R hr15 Kz hk18 (Int32.toInt64 o)) G
              refine lv_l2i (v := (Int64.toInt32 (F r15 k18))) hx hb dX4_set_98 rfl ?_
              refine r_int S hret hlk G rfl (Nat.le_of_ble_eq_true rfl) (Nat.le_of_ble_eq_true rfl) dX4_set_99 ?_
              have yk1 := tin_e ek1 hk1 (show n ≤ 1000 by omega)
              have zk1 := cn_e ek1 (show k1 < 1000 by omega)
              have yk2 := tin_e ek2 hk2 (show n ≤ 1000 by omega)
              have zk2 := cn_e ek2 (show k2 < 1000 by omega)
              have qr15 := nm1 (show r15 < 100000 by omega)
              have g9 : ¬ so r15 < 2 := fun z => q17 (Or.inl z)
              rw [if_pos yk2, zk2] at c23
              have i9 := isof0 (Kc k2 hk2)
              have d9 : ¬ (so r15 = 3 ∧ ¬ o = -1 ∧ ¬ cl k2 ≤ 2) := fun z => by
                rw [if_neg (fun y => z.2.2 (i9.mp y))] at c23
                exact c23 rfl
              refine ⟨by simp only [S_set, yk1, zk1, yk2, zk2, er15, qr15, cn_nI (show r15 < 2 ^ 31 by omega), dk2, q17, yk18, zk18, fj, g9, d9, s_tell, put_it, ↓reduceIte, Bool.false_eq_true, or_true, true_or, and_true, true_and, not_false_eq_true, false_or, show ¬ (3 : Int32) < 2 by decide], ?_⟩
              simp only [S_set, yk1, zk1, yk2, zk2, er15, qr15, cn_nI (show r15 < 2 ^ 31 by omega), dk2, q17, yk18, zk18, fj, g9, d9, s_tell, put_it, ↓reduceIte, Bool.false_eq_true, or_true, true_or, and_true, true_and, not_false_eq_true, false_or, show ¬ (3 : Int32) < 2 by decide]
              exact ⟨_, _, _, _, _, _, _, _, _, _, R⟩
            · skip
              refine lv_aload_n hx hb dX4_set_78 rfl (lv_at hl 3 rfl) ?_
              refine lv_iconst (v := 5) hx hb dX4_set_79 (by decide) ?_
              refine g_Vi (n := 1) (rest := []) S G hl (c_X4_refuse l R (j := 5) (o := 5) rfl (by decide)) gX4_set_X4_refuse rfl (by decide +kernel) (Rc_x R) rfl rfl rfl (Nat.le_of_ble_eq_true rfl) ⟨Nat.le_of_ble_eq_true rfl, Nat.le_of_ble_eq_true rfl⟩ ⟨Nat.le_of_ble_eq_true rfl, Nat.le_of_ble_eq_true rfl⟩ dX4_set_80 ?_
              clear G; intro r_ w1 H locs hp G
              obtain ⟨hr_, R⟩ := hp
              subst r_
              rw [if_neg (show ¬ ((5 : Int32) = 7) by decide)] at R
              refine r_int S hret hlk G rfl (Nat.le_of_ble_eq_true rfl) (Nat.le_of_ble_eq_true rfl) dX4_set_83 ?_
              have yk1 := tin_e ek1 hk1 (show n ≤ 1000 by omega)
              have zk1 := cn_e ek1 (show k1 < 1000 by omega)
              have yk2 := tin_e ek2 hk2 (show n ≤ 1000 by omega)
              have zk2 := cn_e ek2 (show k2 < 1000 by omega)
              have qr15 := nm1 (show r15 < 100000 by omega)
              have g9 : ¬ so r15 < 2 := fun z => q17 (Or.inl z)
              rw [if_pos yk2, zk2] at c23
              have i9 := isof0 (Kc k2 hk2)
              have d9 : (so r15 = 3 ∧ ¬ o = -1 ∧ ¬ cl k2 ≤ 2) := ⟨c22, nk2, fun y => by
                rw [if_pos (i9.mpr y)] at c23
                exact absurd c23 (by decide)⟩
              refine ⟨by simp only [S_set, yk1, zk1, yk2, zk2, er15, qr15, cn_nI (show r15 < 2 ^ 31 by omega), dk2, q17, yk18, zk18, g9, d9, s_tell, put_it, ↓reduceIte, Bool.false_eq_true, or_true, true_or, and_true, true_and, not_false_eq_true, false_or, show ¬ (3 : Int32) < 2 by decide], ?_⟩
              simp only [S_set, yk1, zk1, yk2, zk2, er15, qr15, cn_nI (show r15 < 2 ^ 31 by omega), dk2, q17, yk18, zk18, g9, d9, s_tell, put_it, ↓reduceIte, Bool.false_eq_true, or_true, true_or, and_true, true_and, not_false_eq_true, false_or, show ¬ (3 : Int32) < 2 by decide]
              exact ⟨_, _, _, _, _, _, _, _, _, _, R⟩
end
section
/-! THE CLASS: Work: the numbers -/
theorem nm_spent {cl vs lk hd so sz : Nat → Int32} {it : Nat → Int64} {lim bg : Int32} {d a : Nat} (h : bg = lim) : nm cl vs lk hd so sz it lim (d + 1) a bg = (9, 0, bg, nI (29 - d), 0) := by
  simp [nm, tk, pl, h]
theorem nm_c0 {cl vs lk hd so sz : Nat → Int32} {it : Nat → Int64} {lim bg : Int32} {d a : Nat} (h : ¬ bg = lim) (ec : cl a = 0) : nm cl vs lk hd so sz it lim (d + 1) a bg = (0, vs a, bg + 1, 0, 0) := by
  simp [nm, tk, pl, h, ec]
theorem nm_c1 {cl vs lk hd so sz : Nat → Int32} {it : Nat → Int64} {lim bg : Int32} {d a : Nat} (h : ¬ bg = lim) (ec : cl a = 1) : nm cl vs lk hd so sz it lim (d + 1) a bg = (0, 2 * vs a, bg + 1, 0, 0) := by
  simp [nm, tk, pl, h, ec]
theorem nm_c2 {cl vs lk hd so sz : Nat → Int32} {it : Nat → Int64} {lim bg : Int32} {d a : Nat} (h : ¬ bg = lim) (ec : cl a = 2) : nm cl vs lk hd so sz it lim (d + 1) a bg = (0, 3 * vs a, bg + 1, 0, 0) := by
  simp [nm, tk, pl, h, ec]
theorem nm_c3z {cl vs lk hd so sz : Nat → Int32} {it : Nat → Int64} {lim bg : Int32} {d a : Nat} (h : ¬ bg = lim) (ec : cl a = 3) (e : vs a = 0) : nm cl vs lk hd so sz it lim (d + 1) a bg = (6, 0, bg + 1, nI (30 - d), 0) := by
  simp [nm, tk, pl, h, ec, e]
theorem nm_c3 {cl vs lk hd so sz : Nat → Int32} {it : Nat → Int64} {lim bg : Int32} {d a : Nat} (h : ¬ bg = lim) (ec : cl a = 3) (e : ¬ vs a = 0) : nm cl vs lk hd so sz it lim (d + 1) a bg = (0, 1000 / vs a, bg + 1, 0, 0) := by
  simp [nm, tk, pl, h, ec, e]
theorem nm_c4n {cl vs lk hd so sz : Nat → Int32} {it : Nat → Int64} {lim bg : Int32} {d a : Nat} (h : ¬ bg = lim) (ec : cl a = 4) (e : lk a = -1) : nm cl vs lk hd so sz it lim (d + 1) a bg = (1, 0, bg + 1, nI (30 - d), 0) := by
  simp [nm, tk, pl, h, ec, e]
theorem nm_c4 {cl vs lk hd so sz : Nat → Int32} {it : Nat → Int64} {lim bg : Int32} {d a : Nat} (h : ¬ bg = lim) {j : Nat} (hj : j < 1000) (ec : cl a = 4) (e : lk a = nI j) : nm cl vs lk hd so sz it lim (d + 1) a bg = ((nm cl vs lk hd so sz it lim d j (bg + 1)).1, (nm cl vs lk hd so sz it lim d j (bg + 1)).2.1 + 1, (nm cl vs lk hd so sz it lim d j (bg + 1)).2.2) := by
  simp [nm, tk, pl, h, ec, e, nm1 (show j < 100000 by omega), cn_nI (show j < 2 ^ 31 by omega)]
theorem nm_c5z {cl vs lk hd so sz : Nat → Int32} {it : Nat → Int64} {lim bg : Int32} {d a : Nat} (h : ¬ bg = lim) (ec : cl a = 5) (e : vs a = 0) : nm cl vs lk hd so sz it lim (d + 1) a bg = (1, 0, bg + 1, nI (30 - d), 0) := by
  simp [nm, tk, pl, h, ec, e]
theorem nm_c5 {cl vs lk hd so sz : Nat → Int32} {it : Nat → Int64} {lim bg : Int32} {d a : Nat} (h : ¬ bg = lim) (ec : cl a = 5) (e : ¬ vs a = 0) : nm cl vs lk hd so sz it lim (d + 1) a bg = (7, 0, bg + 1, nI (30 - d), vs a) := by
  simp [nm, tk, pl, h, ec, e]
theorem nm_c6n {cl vs lk hd so sz : Nat → Int32} {it : Nat → Int64} {lim bg : Int32} {d a : Nat} (h : ¬ bg = lim) (ec : cl a = 6) (e : hd a = -1) : nm cl vs lk hd so sz it lim (d + 1) a bg = (1, 0, bg + 1, nI (30 - d), 0) := by
  simp [nm, tk, pl, h, ec, e]
theorem nm_c6e {cl vs lk hd so sz : Nat → Int32} {it : Nat → Int64} {lim bg : Int32} {d a : Nat} (h : ¬ bg = lim) {r : Nat} (hr : r < 1000) (ec : cl a = 6) (e : hd a = nI r) (z : sz r = 0) : nm cl vs lk hd so sz it lim (d + 1) a bg = (3, 0, bg + 1, nI (30 - d), 0) := by
  simp [nm, tk, pl, h, ec, e, nm1 (show r < 100000 by omega), cn_nI (show r < 2 ^ 31 by omega), z]
theorem nm_c6i {cl vs lk hd so sz : Nat → Int32} {it : Nat → Int64} {lim bg : Int32} {d a : Nat} (h : ¬ bg = lim) {r : Nat} (hr : r < 1000) (ec : cl a = 6) (e : hd a = nI r) (z : ¬ sz r = 0) (s : so r < 2) : nm cl vs lk hd so sz it lim (d + 1) a bg = (0, (it (12 * r)).toInt32, bg + 1, 0, 0) := by
  simp [nm, tk, pl, h, ec, e, nm1 (show r < 100000 by omega), cn_nI (show r < 2 ^ 31 by omega), z, s]
theorem nm_c6m {cl vs lk hd so sz : Nat → Int32} {it : Nat → Int64} {lim bg : Int32} {d a : Nat} (h : ¬ bg = lim) {r : Nat} (hr : r < 1000) (ec : cl a = 6) (e : hd a = nI r) (z : ¬ sz r = 0) (s : ¬ so r < 2) (i : (it (12 * r)).toInt32 = -1) : nm cl vs lk hd so sz it lim (d + 1) a bg = (1, 0, bg + 1, nI (30 - d), 0) := by
  simp [nm, tk, pl, h, ec, e, nm1 (show r < 100000 by omega), cn_nI (show r < 2 ^ 31 by omega), z, s, i]
theorem nm_c6 {cl vs lk hd so sz : Nat → Int32} {it : Nat → Int64} {lim bg : Int32} {d a : Nat} (h : ¬ bg = lim) {r : Nat} (hr : r < 1000) (ec : cl a = 6) (e : hd a = nI r) {j : Nat} (hj : j < 1000) (z : ¬ sz r = 0) (s : ¬ so r < 2) (i : (it (12 * r)).toInt32 = nI j) : nm cl vs lk hd so sz it lim (d + 1) a bg = ((nm cl vs lk hd so sz it lim d j (bg + 1)).1, (nm cl vs lk hd so sz it lim d j (bg + 1)).2.1, (nm cl vs lk hd so sz it lim d j (bg + 1)).2.2) := by
  simp [nm, tk, pl, h, ec, e, nm1 (show r < 100000 by omega), cn_nI (show r < 2 ^ 31 by omega), z, s, i, nm1 (show j < 100000 by omega), cn_nI (show j < 2 ^ 31 by omega)]
theorem nm_c7n {cl vs lk hd so sz : Nat → Int32} {it : Nat → Int64} {lim bg : Int32} {d a : Nat} (h : ¬ bg = lim) (ec : cl a = 7) (e : hd a = -1) : nm cl vs lk hd so sz it lim (d + 1) a bg = (1, 0, bg + 1, nI (30 - d), 0) := by
  simp [nm, tk, pl, h, ec, e]
theorem nm_c7c {cl vs lk hd so sz : Nat → Int32} {it : Nat → Int64} {lim bg : Int32} {d a : Nat} (h : ¬ bg = lim) {r : Nat} (hr : r < 1000) (ec : cl a = 7) (e : hd a = nI r) (s : ¬ so r = 0) : nm cl vs lk hd so sz it lim (d + 1) a bg = (2, 0, bg + 1, nI (30 - d), 0) := by
  simp [nm, tk, pl, h, ec, e, nm1 (show r < 100000 by omega), cn_nI (show r < 2 ^ 31 by omega), s]
theorem nm_c7 {cl vs lk hd so sz : Nat → Int32} {it : Nat → Int64} {lim bg : Int32} {d a : Nat} (h : ¬ bg = lim) {r : Nat} (hr : r < 1000) (ec : cl a = 7) (e : hd a = nI r) (s : so r = 0) : nm cl vs lk hd so sz it lim (d + 1) a bg = (0, sm it (12 * r) (cn (sz r)), bg + 1, 0, 0) := by
  simp [nm, tk, pl, h, ec, e, nm1 (show r < 100000 by omega), cn_nI (show r < 2 ^ 31 by omega), s]
def sf (f : Nat → Int64) : Nat → Int32
  | 0 => 0
  | k + 1 => sf f k + (f k).toInt32
theorem sf_sm {f it : Nat → Int64} {b : Nat} : ∀ (N : Nat), (∀ k, k < N → f k = it (b + k)) → sf f N = sm it b N := by
  intro N
  induction N with
  | zero => intro _; rfl
  | succ N ih =>
    intro h
    rw [sf, sm, ih (fun k hk => h k (by omega)), h N (by omega)]
set_option maxHeartbeats 4000000 in
set_option maxRecDepth 100000 in
theorem c_X3_throwOwn (l : Launch) {E : EV} {w : wo} {x st wk tl ta : Nat} {tf : Nat → Option Nat} {T Rw Ia : Nat → Nat} {F : Nat → Nat → Int64} {n : Nat} {cl vs lk hd : Nat → Int32} {nr : Nat} {so sz : Nat → Int32} {it : Nat → Int64} {oc ow bg dp : Int32} {td : Nat → Int32} {lim wou th : Int32} (R : Rc E w (x, st, wk, tl, ta, tf, T, Rw, Ia, F) (n, cl, vs, lk, hd, nr, so, sz, it, oc, ow, bg, dp, td) (lim, wou, th)) (v u : Int32) : ct_i l E yX3_throwOwn wsX3_throwOwn 1 0 0 [.ref wk, .int v, .int u] w (fun r w' => r = 0 ∧ Rc E w' (x, st, wk, tl, ta, tf, T, Rw, Ia, F) (n, cl, vs, lk, hd, nr, so, sz, it, oc, ow, bg, u, td) (lim, if v = 0 then 1 else 7, if v = 0 then th else v)) := by
  intro zz
  refine wo_body (Qc := fun A => va_Qi _ (wo_B E A) A) (ret := (some .int)) (by decide) rfl (Nat.le_of_ble_eq_true rfl) ?_
  intro p_ e_ s_ m_ args_ below_ meth_ code_ A_ ls S hret hlk hnm G hl
  have hl : lv_has ls 3 [(0, .ref wk), (1, .int v), (2, .int u)] := hl
  have hx := S.1
  have hb := S.2.1
  refine lv_iload_n hx hb dX3_throwOwn_0 rfl (lv_at hl 1 rfl) ?_
  refine lv_if_ne (tgt := 11) hx hb dX3_throwOwn_1 (by decide) (fun c1 => ?_) (fun c1 => ?_)
  · skip
    refine lv_aload_n hx hb dX3_throwOwn_11 rfl (lv_at hl 0 rfl) ?_
    refine lv_iload_n hx hb dX3_throwOwn_12 rfl (lv_at hl 1 rfl) ?_
    refine g_put (fs' := [.ref st, .int lim, .int bg, .int wou, .int dp, .int v]) (ty := .int) (v := .int v) S G (Rc_wk R) rfl tyX3 tyX3_ok nmX3 (by decide +kernel) 5 (by decide) (by decide +kernel) rfl (by decide +kernel) rfl rfl (Nat.le_of_ble_eq_true rfl) rfl dX3_throwOwn_13 (fun H locs G => ?_)
    obtain ⟨w, R, G⟩ := Rc_ex (Rc_p_th R v) G
    refine lv_aload_n hx hb dX3_throwOwn_16 rfl (lv_at hl 0 rfl) ?_
    refine lv_bipush (v := 7) hx hb dX3_throwOwn_17 (by decide) ?_
    refine lv_iload_n hx hb dX3_throwOwn_19 rfl (lv_at hl 2 rfl) ?_
    refine g_Vi (n := 2) (rest := []) S G hl (c_X3_stop l R 7 u) gX3_throwOwn_X3_stop rfl (by decide +kernel) (Rc_wk R) rfl rfl rfl (Nat.le_of_ble_eq_true rfl) ⟨Nat.le_of_ble_eq_true rfl, Nat.le_of_ble_eq_true rfl⟩ ⟨Nat.le_of_ble_eq_true rfl, Nat.le_of_ble_eq_true rfl⟩ dX3_throwOwn_20 ?_
    clear G; intro r_ w1 H locs hp G
    obtain ⟨rfl, R⟩ := hp
    refine r_int S hret hlk G rfl (Nat.le_of_ble_eq_true rfl) (Nat.le_of_ble_eq_true rfl) dX3_throwOwn_23 ?_
    rw [if_neg c1, if_neg c1]
    exact ⟨rfl, R⟩
  · skip
    refine lv_aload_n hx hb dX3_throwOwn_4 rfl (lv_at hl 0 rfl) ?_
    refine lv_iconst (v := 1) hx hb dX3_throwOwn_5 (by decide) ?_
    refine lv_iload_n hx hb dX3_throwOwn_6 rfl (lv_at hl 2 rfl) ?_
    refine g_Vi (n := 2) (rest := []) S G hl (c_X3_stop l R 1 u) gX3_throwOwn_X3_stop rfl (by decide +kernel) (Rc_wk R) rfl rfl rfl (Nat.le_of_ble_eq_true rfl) ⟨Nat.le_of_ble_eq_true rfl, Nat.le_of_ble_eq_true rfl⟩ ⟨Nat.le_of_ble_eq_true rfl, Nat.le_of_ble_eq_true rfl⟩ dX3_throwOwn_7 ?_
    clear G; intro r_ w1 H locs hp G
    obtain ⟨rfl, R⟩ := hp
    refine r_int S hret hlk G rfl (Nat.le_of_ble_eq_true rfl) (Nat.le_of_ble_eq_true rfl) dX3_throwOwn_10 ?_
    rw [if_pos c1, if_pos c1]
    exact ⟨rfl, R⟩

set_option maxHeartbeats 4000000 in
set_option maxRecDepth 100000 in
theorem lp_X3_sumOf {p_ : Program} {l : Launch} {e_ : Env} {R_ : Room} {s_ : State} {m_ : MethodId} {args_ : Array Value} {below_ : List Frame} {meth_ : Method} {code_ : Code} {cells slots : Nat} {Q_ : State → Prop} {E : EV} {A_ : Nat → Prop} {H : Heap} {locs : List Loc} {w : wo} (S : CallFix p_ m_ code_ cX3_sumOf 9 s_ args_ wsX3_sumOf yX3_sumOf.cls) (G : wo_G E A_ s_ w H locs) {b N : Nat} {f : Nat → Int64} (hN : N ≤ 1000) (ha : w b = some (.inl (E.2.2.1, N, .inr (.inl f)))) (kx : ∀ ls : Array Slot, lv_has ls 9 [(3, .int (sf f N))] → W p_ l e_ R_ s_ m_ args_ below_ meth_ code_ H locs cells slots Q_ (F0 m_ 67 ls [])) : ∀ (mm j : Nat) (sj jv : Int32), j + mm = N → sj = sf f j → jv = nI j → ∀ ls : Array Slot, lv_has ls 9 [(3, .int sj), (4, .ref b), (5, .int (nI N)), (6, .int jv)] → W p_ l e_ R_ s_ m_ args_ below_ meth_ code_ H locs cells slots Q_ (F0 m_ 41 ls []) := by
  have hx := S.1
  have hb := S.2.1
  intro mm
  induction mm with
  | zero =>
    intro j sj jv hj es ej ls hl
    refine lv_iload hx hb dX3_sumOf_41 (lv_at hl 3 rfl) ?_
    refine lv_iload hx hb dX3_sumOf_43 (lv_at hl 2 rfl) ?_
    refine lv_icmp_ge (tgt := 67) hx hb dX3_sumOf_45 (by decide) (fun c1 => ?_) (fun c1 => absurd (by rw [ej]; exact nI_le (by omega) (by omega)) c1)
    exact kx ls (by rw [es, show j = N by omega] at hl; exact lv_sub hl [0] rfl)
  | succ mm ih =>
    intro j sj jv hj es ej ls hl
    refine lv_iload hx hb dX3_sumOf_41 (lv_at hl 3 rfl) ?_
    refine lv_iload hx hb dX3_sumOf_43 (lv_at hl 2 rfl) ?_
    refine lv_icmp_ge (tgt := 67) hx hb dX3_sumOf_45 (by decide) (fun c1 => absurd c1 (by rw [ej]; exact nI_ge (by omega) (by omega))) (fun c1 => ?_)
    refine lv_aload hx hb dX3_sumOf_48 (lv_at hl 1 rfl) ?_
    refine lv_iload hx hb dX3_sumOf_50 (lv_at hl 3 rfl) ?_
    refine g_lald S G ha (vin_e ej (show j < N by omega) (by omega)) dX3_sumOf_52 ?_
    refine lv_lstore (lv' := [(7, .long (f (Int32.toNatClampNeg jv))), (3, .int sj), (4, .ref b), (5, .int (nI N)), (6, .int jv)]) hx hb dX3_sumOf_53 hl (by decide) rfl (fun ls hl => ?_)
    refine lv_iload_n hx hb dX3_sumOf_55 rfl (lv_at hl 1 rfl) ?_
    refine lv_lload hx hb dX3_sumOf_56 (lv_at hl 0 rfl) ?_
    refine lv_l2i (v := (Int64.toInt32 (f (Int32.toNatClampNeg jv)))) hx hb dX3_sumOf_58 rfl ?_
    refine lv_iadd hx hb dX3_sumOf_59 ?_
    refine lv_topi (fun a2 ea2 => ?_)
    refine lv_istore_n (lv' := [(3, .int a2), (7, .long (f (Int32.toNatClampNeg jv))), (4, .ref b), (5, .int (nI N)), (6, .int jv)]) hx hb dX3_sumOf_60 rfl hl (by decide) rfl (fun ls hl => ?_)
    obtain ⟨a3, ea3⟩ : ∃ y : Int32, y = jv + 1 := ⟨_, rfl⟩
    refine lv_iinc (v := a3) (lv' := [(6, .int a3), (3, .int a2), (7, .long (f (Int32.toNatClampNeg jv))), (4, .ref b), (5, .int (nI N))]) hx hb dX3_sumOf_61 hl (k := 4) rfl (by rw [ea3]; rfl) (by decide) rfl (fun ls hl => ?_)
    refine lv_goto (tgt := 41) hx hb dX3_sumOf_64 (by decide) ?_
    exact ih (j + 1) a2 a3 (by omega) (by rw [ea2, es, show Int32.toNatClampNeg jv = j from cn_e ej (by omega)]; rfl) (by rw [ea3, ej]; exact nI_1 j) ls (lv_sub hl [1, 3, 4, 0] rfl)
set_option maxHeartbeats 4000000 in
set_option maxRecDepth 100000 in
theorem c_X3_sumOf_n (l : Launch) {E : EV} {w : wo} {x st wk tl ta : Nat} {tf : Nat → Option Nat} {T Rw Ia : Nat → Nat} {F : Nat → Nat → Int64} {n : Nat} {cl vs lk hd : Nat → Int32} {nr : Nat} {so sz : Nat → Int32} {it : Nat → Int64} {oc ow bg dp : Int32} {td : Nat → Int32} {lim wou th : Int32} (R : Rc E w (x, st, wk, tl, ta, tf, T, Rw, Ia, F) (n, cl, vs, lk, hd, nr, so, sz, it, oc, ow, bg, dp, td) (lim, wou, th)) (u : Int32) : ct_i l E yX3_sumOf wsX3_sumOf 1 0 0 [.ref wk, .null, .int u] w (fun r w' => r = 0 ∧ Rc E w' (x, st, wk, tl, ta, tf, T, Rw, Ia, F) (n, cl, vs, lk, hd, nr, so, sz, it, oc, ow, bg, u, td) (lim, 1, th)) := by
  intro zz
  refine wo_body (Qc := fun A => va_Qi _ (wo_B E A) A) (ret := (some .int)) (by decide) rfl (Nat.le_of_ble_eq_true rfl) ?_
  intro p_ e_ s_ m_ args_ below_ meth_ code_ A_ ls S hret hlk hnm G hl
  have hl : lv_has ls 9 [(0, .ref wk), (1, .null), (2, .int u)] := hl
  have hx := S.1
  have hb := S.2.1
  refine lv_aload_nN hx hb dX3_sumOf_0 rfl (lv_at hl 1 rfl) ?_
  refine lv_ifnonnullN hx hb dX3_sumOf_1 ?_
  refine lv_aload_n hx hb dX3_sumOf_4 rfl (lv_at hl 0 rfl) ?_
  refine lv_iconst (v := 1) hx hb dX3_sumOf_5 (by decide) ?_
  refine lv_iload_n hx hb dX3_sumOf_6 rfl (lv_at hl 2 rfl) ?_
  refine g_Vi (n := 2) (rest := []) S G hl (c_X3_stop l R 1 u) gX3_sumOf_X3_stop rfl (by decide +kernel) (Rc_wk R) rfl rfl rfl (Nat.le_of_ble_eq_true rfl) ⟨Nat.le_of_ble_eq_true rfl, Nat.le_of_ble_eq_true rfl⟩ ⟨Nat.le_of_ble_eq_true rfl, Nat.le_of_ble_eq_true rfl⟩ dX3_sumOf_7 ?_
  clear G; intro r_ w1 H locs hp G
  obtain ⟨rfl, R⟩ := hp
  refine r_int S hret hlk G rfl (Nat.le_of_ble_eq_true rfl) (Nat.le_of_ble_eq_true rfl) dX3_sumOf_10 ?_
  exact ⟨rfl, R⟩

set_option maxHeartbeats 4000000 in
set_option maxRecDepth 100000 in
theorem c_X3_sumOf_y (l : Launch) {E : EV} {w : wo} {x st wk tl ta : Nat} {tf : Nat → Option Nat} {T Rw Ia : Nat → Nat} {F : Nat → Nat → Int64} {n : Nat} {cl vs lk hd : Nat → Int32} {nr : Nat} {so sz : Nat → Int32} {it : Nat → Int64} {oc ow bg dp : Int32} {td : Nat → Int32} {lim wou th : Int32} (R : Rc E w (x, st, wk, tl, ta, tf, T, Rw, Ia, F) (n, cl, vs, lk, hd, nr, so, sz, it, oc, ow, bg, dp, td) (lim, wou, th)) {r : Nat} (hr : r < nr) (hz : cn (sz r) ≤ 12) (u : Int32) : ct_i l E yX3_sumOf wsX3_sumOf 1 0 0 [.ref wk, .ref (Rw r), .int u] w (fun q w' => (so r = 0 ∧ q = sm it (12 * r) (cn (sz r)) ∧ Rc E w' (x, st, wk, tl, ta, tf, T, Rw, Ia, F) (n, cl, vs, lk, hd, nr, so, sz, it, oc, ow, bg, dp, td) (lim, wou, th)) ∨ (¬ so r = 0 ∧ q = 0 ∧ Rc E w' (x, st, wk, tl, ta, tf, T, Rw, Ia, F) (n, cl, vs, lk, hd, nr, so, sz, it, oc, ow, bg, u, td) (lim, 2, th))) := by
  intro zz
  refine wo_body (Qc := fun A => va_Qi _ (wo_B E A) A) (ret := (some .int)) (by decide) rfl (Nat.le_of_ble_eq_true rfl) ?_
  intro p_ e_ s_ m_ args_ below_ meth_ code_ A_ ls S hret hlk hnm G hl
  have hl : lv_has ls 9 [(0, .ref wk), (1, .ref (Rw r)), (2, .int u)] := hl
  have hx := S.1
  have hb := S.2.1
  refine lv_aload_n hx hb dX3_sumOf_0 rfl (lv_at hl 1 rfl) ?_
  refine lv_ifnonnull (tgt := 11) hx hb dX3_sumOf_1 (by decide) ?_
  refine lv_aload_n hx hb dX3_sumOf_11 rfl (lv_at hl 1 rfl) ?_
  refine g_get S G (Rc_Rw R r hr) rfl (by decide +kernel) 0 (by decide) (by decide +kernel) rfl dX3_sumOf_12 ?_
  refine lv_if_eq (tgt := 25) hx hb dX3_sumOf_15 (by decide) (fun c1 => ?_) (fun c1 => ?_)
  · skip
    refine lv_iconst (v := 0) hx hb dX3_sumOf_25 (by decide) ?_
    refine lv_istore_n (lv' := [(3, .int 0), (0, .ref wk), (1, .ref (Rw r)), (2, .int u)]) hx hb dX3_sumOf_26 rfl hl (by decide) rfl (fun ls hl => ?_)
    refine lv_aload_n hx hb dX3_sumOf_27 rfl (lv_at hl 2 rfl) ?_
    refine g_get S G (Rc_Rw R r hr) rfl (by decide +kernel) 1 (by decide) (by decide +kernel) rfl dX3_sumOf_28 ?_
    refine lv_astore (lv' := [(4, .ref (Ia r)), (3, .int 0), (0, .ref wk), (1, .ref (Rw r)), (2, .int u)]) hx hb dX3_sumOf_31 hl (by decide) rfl (fun ls hl => ?_)
    refine lv_aload hx hb dX3_sumOf_33 (lv_at hl 0 rfl) ?_
    refine g_llen S G (Rc_Ia R r hr) dX3_sumOf_35 ?_
    refine lv_istore (lv' := [(5, .int (nI (cn (sz r)))), (4, .ref (Ia r)), (3, .int 0), (0, .ref wk), (1, .ref (Rw r)), (2, .int u)]) hx hb dX3_sumOf_36 hl (by decide) rfl (fun ls hl => ?_)
    refine lv_iconst (v := 0) hx hb dX3_sumOf_38 (by decide) ?_
    refine lv_istore (lv' := [(6, .int 0), (5, .int (nI (cn (sz r)))), (4, .ref (Ia r)), (3, .int 0), (0, .ref wk), (1, .ref (Rw r)), (2, .int u)]) hx hb dX3_sumOf_39 hl (by decide) rfl (fun ls hl => ?_)
    refine lp_X3_sumOf S G (Nat.le_trans hz (by decide)) (Rc_Ia R r hr) (fun ls hl => ?_) (cn (sz r)) 0 0 0 (by omega) rfl rfl ls (lv_sub hl [3, 2, 1, 0] rfl)
    refine lv_iload_n hx hb dX3_sumOf_67 rfl (lv_at hl 0 rfl) ?_
    refine r_int S hret hlk G rfl (Nat.le_of_ble_eq_true rfl) (Nat.le_of_ble_eq_true rfl) dX3_sumOf_68 ?_
    exact Or.inl ⟨c1, sf_sm _ (fun k hk => Rc_F R r hr k hk), R⟩
  · skip
    refine lv_aload_n hx hb dX3_sumOf_18 rfl (lv_at hl 0 rfl) ?_
    refine lv_iconst (v := 2) hx hb dX3_sumOf_19 (by decide) ?_
    refine lv_iload_n hx hb dX3_sumOf_20 rfl (lv_at hl 2 rfl) ?_
    refine g_Vi (n := 2) (rest := []) S G hl (c_X3_stop l R 2 u) gX3_sumOf_X3_stop rfl (by decide +kernel) (Rc_wk R) rfl rfl rfl (Nat.le_of_ble_eq_true rfl) ⟨Nat.le_of_ble_eq_true rfl, Nat.le_of_ble_eq_true rfl⟩ ⟨Nat.le_of_ble_eq_true rfl, Nat.le_of_ble_eq_true rfl⟩ dX3_sumOf_21 ?_
    clear G; intro r_ w1 H locs hp G
    obtain ⟨rfl, R⟩ := hp
    refine r_int S hret hlk G rfl (Nat.le_of_ble_eq_true rfl) (Nat.le_of_ble_eq_true rfl) dX3_sumOf_24 ?_
    exact Or.inr ⟨c1, rfl, R⟩
end
section
/-! THE CLASS: Work: begin, workOut, firstOf, one within the other; next, first -/
def WBG (l : Launch) (E : EV) (d : Nat) : Prop := ∀ {w : wo} {x st wk tl ta : Nat} {tf : Nat → Option Nat} {T Rw Ia : Nat → Nat} {F : Nat → Nat → Int64} {n : Nat} {cl vs lk hd : Nat → Int32} {nr : Nat} {so sz : Nat → Int32} {it : Nat → Int64} {oc ow bg dp : Int32} {td : Nat → Int32} {lim wou th : Int32} (R : Rc E w (x, st, wk, tl, ta, tf, T, Rw, Ia, F) (n, cl, vs, lk, hd, nr, so, sz, it, oc, ow, bg, dp, td) (lim, wou, th)) (K : Gd (n, cl, vs, lk, hd, nr, so, sz, it, oc, ow, bg, dp, td)) (hbl : bg ≤ lim) {a u : Nat} (ha : a < n) (hu : u + d = 30) {uv : Int32} (eu : uv = nI u), ct_i l E yX3_begin wsX3_begin (3 * d + 3) 0 0 [.ref wk, .ref (T a), .int uv] w (fun r w' => ((nm cl vs lk hd so sz it lim d a bg).1 = 0 → r = (nm cl vs lk hd so sz it lim d a bg).2.1) ∧ Rc E w' (x, st, wk, tl, ta, tf, T, Rw, Ia, F) (n, cl, vs, lk, hd, nr, so, sz, it, oc, ow, (nm cl vs lk hd so sz it lim d a bg).2.2.1, if (nm cl vs lk hd so sz it lim d a bg).1 = 0 then dp else (nm cl vs lk hd so sz it lim d a bg).2.2.2.1, td) (lim, if (nm cl vs lk hd so sz it lim d a bg).1 = 0 then wou else (nm cl vs lk hd so sz it lim d a bg).1, if (nm cl vs lk hd so sz it lim d a bg).1 = 7 then (nm cl vs lk hd so sz it lim d a bg).2.2.2.2 else th))
theorem bg_lt {b c : Int32} (h : b ≤ c) (hn : ¬ b = c) : b + 1 ≤ c ∧ b < c := by
  have h1 := Int32.le_iff_toInt_le.mp h
  have h2 : b.toInt ≠ c.toInt := fun z => hn (Int32.toInt_inj.mp z)
  have h3 := c.toInt_lt
  have h4 := b.le_toInt
  have e : (b + 1).toInt = b.toInt + 1 := by
    rw [Int32.toInt_add]
    have : (1 : Int32).toInt = 1 := by decide
    rw [this]
    exact Int.bmod_eq_of_le (by omega) (by omega)
  refine ⟨Int32.le_iff_toInt_le.mpr (by rw [e]; omega), Int32.lt_iff_toInt_lt.mpr (by omega)⟩
set_option maxHeartbeats 4000000 in
set_option maxRecDepth 100000 in
theorem c_X3_begin_n (l : Launch) {E : EV} (d : Nat) {w : wo} {x st wk tl ta : Nat} {tf : Nat → Option Nat} {T Rw Ia : Nat → Nat} {F : Nat → Nat → Int64} {n : Nat} {cl vs lk hd : Nat → Int32} {nr : Nat} {so sz : Nat → Int32} {it : Nat → Int64} {oc ow bg dp : Int32} {td : Nat → Int32} {lim wou th : Int32} (R : Rc E w (x, st, wk, tl, ta, tf, T, Rw, Ia, F) (n, cl, vs, lk, hd, nr, so, sz, it, oc, ow, bg, dp, td) (lim, wou, th)) (u : Int32) : ct_i l E yX3_begin wsX3_begin (3 * d + 3) 0 0 [.ref wk, .null, .int u] w (fun r w' => r = 0 ∧ Rc E w' (x, st, wk, tl, ta, tf, T, Rw, Ia, F) (n, cl, vs, lk, hd, nr, so, sz, it, oc, ow, bg, u, td) (lim, 1, th)) := by
  intro zz
  refine wo_body (Qc := fun A => va_Qi _ (wo_B E A) A) (ret := (some .int)) (by decide) rfl (Nat.le_of_ble_eq_true rfl) ?_
  intro p_ e_ s_ m_ args_ below_ meth_ code_ A_ ls S hret hlk hnm G hl
  have hl : lv_has ls 3 [(0, .ref wk), (1, .null), (2, .int u)] := hl
  have hx := S.1
  have hb := S.2.1
  refine lv_aload_nN hx hb dX3_begin_0 rfl (lv_at hl 1 rfl) ?_
  refine lv_ifnonnullN hx hb dX3_begin_1 ?_
  refine lv_aload_n hx hb dX3_begin_4 rfl (lv_at hl 0 rfl) ?_
  refine lv_iconst (v := 1) hx hb dX3_begin_5 (by decide) ?_
  refine lv_iload_n hx hb dX3_begin_6 rfl (lv_at hl 2 rfl) ?_
  refine g_Vi (n := 2) (rest := []) S G hl (c_X3_stop l R 1 u) gX3_begin_X3_stop rfl (by decide +kernel) (Rc_wk R) rfl rfl rfl (Nat.le_of_ble_eq_true rfl) ⟨by simp only [rmk]; omega, by simp only [rmk]; omega⟩ ⟨Nat.le_of_ble_eq_true rfl, Nat.le_of_ble_eq_true rfl⟩ dX3_begin_7 ?_
  clear G; intro r_ w1 H locs hp G
  obtain ⟨rfl, R⟩ := hp
  refine r_int S hret hlk G rfl (Nat.le_of_ble_eq_true rfl) (Nat.le_of_ble_eq_true rfl) dX3_begin_10 ?_
  exact ⟨rfl, R⟩

set_option maxHeartbeats 4000000 in
set_option maxRecDepth 100000 in
theorem c_X3_begin_0 (l : Launch) {E : EV} {w : wo} {x st wk tl ta : Nat} {tf : Nat → Option Nat} {T Rw Ia : Nat → Nat} {F : Nat → Nat → Int64} {n : Nat} {cl vs lk hd : Nat → Int32} {nr : Nat} {so sz : Nat → Int32} {it : Nat → Int64} {oc ow bg dp : Int32} {td : Nat → Int32} {lim wou th : Int32} (R : Rc E w (x, st, wk, tl, ta, tf, T, Rw, Ia, F) (n, cl, vs, lk, hd, nr, so, sz, it, oc, ow, bg, dp, td) (lim, wou, th)) (K : Gd (n, cl, vs, lk, hd, nr, so, sz, it, oc, ow, bg, dp, td)) (hbl : bg ≤ lim) {a u : Nat} (ha : a < n) (hu : u + 0 = 30) {uv : Int32} (eu : uv = nI u) : ct_i l E yX3_begin wsX3_begin (3 * 0 + 3) 0 0 [.ref wk, .ref (T a), .int uv] w (fun r w' => ((nm cl vs lk hd so sz it lim 0 a bg).1 = 0 → r = (nm cl vs lk hd so sz it lim 0 a bg).2.1) ∧ Rc E w' (x, st, wk, tl, ta, tf, T, Rw, Ia, F) (n, cl, vs, lk, hd, nr, so, sz, it, oc, ow, (nm cl vs lk hd so sz it lim 0 a bg).2.2.1, if (nm cl vs lk hd so sz it lim 0 a bg).1 = 0 then dp else (nm cl vs lk hd so sz it lim 0 a bg).2.2.2.1, td) (lim, if (nm cl vs lk hd so sz it lim 0 a bg).1 = 0 then wou else (nm cl vs lk hd so sz it lim 0 a bg).1, if (nm cl vs lk hd so sz it lim 0 a bg).1 = 7 then (nm cl vs lk hd so sz it lim 0 a bg).2.2.2.2 else th)) := by
  intro zz
  refine wo_body (Qc := fun A => va_Qi _ (wo_B E A) A) (ret := (some .int)) (by decide) rfl (Nat.le_of_ble_eq_true rfl) ?_
  intro p_ e_ s_ m_ args_ below_ meth_ code_ A_ ls S hret hlk hnm G hl
  have hl : lv_has ls 3 [(0, .ref wk), (1, .ref (T a)), (2, .int uv)] := hl
  have hx := S.1
  have hb := S.2.1
  refine lv_aload_n hx hb dX3_begin_0 rfl (lv_at hl 1 rfl) ?_
  refine lv_ifnonnull (tgt := 11) hx hb dX3_begin_1 (by decide) ?_
  refine lv_aload_n hx hb dX3_begin_11 rfl (lv_at hl 0 rfl) ?_
  refine g_get S G (Rc_wk R) rfl (by decide +kernel) 2 (by decide) (by decide +kernel) rfl dX3_begin_12 ?_
  refine lv_aload_n hx hb dX3_begin_15 rfl (lv_at hl 0 rfl) ?_
  refine g_get S G (Rc_wk R) rfl (by decide +kernel) 1 (by decide) (by decide +kernel) rfl dX3_begin_16 ?_
  refine lv_icmp_lt (tgt := 30) hx hb dX3_begin_19 (by decide) (fun c1 => ?_) (fun c1 => ?_)
  · skip
    refine lv_iload_n hx hb dX3_begin_30 rfl (lv_at hl 2 rfl) ?_
    refine lv_bipush (v := 30) hx hb dX3_begin_31 (by decide) ?_
    refine lv_icmp_lt (tgt := 44) hx hb dX3_begin_33 (by decide) (fun c2 => absurd c2 (by rw [eu]; exact nI_nlt (b := 30) (by omega) (by omega))) (fun c2 => ?_)
    refine lv_aload_n hx hb dX3_begin_36 rfl (lv_at hl 0 rfl) ?_
    refine lv_bipush (v := 8) hx hb dX3_begin_37 (by decide) ?_
    refine lv_iload_n hx hb dX3_begin_39 rfl (lv_at hl 2 rfl) ?_
    refine g_Vi (n := 2) (rest := []) S G hl (c_X3_stop l R 8 uv) gX3_begin_X3_stop rfl (by decide +kernel) (Rc_wk R) rfl rfl rfl (Nat.le_of_ble_eq_true rfl) ⟨by simp only [rmk]; omega, by simp only [rmk]; omega⟩ ⟨Nat.le_of_ble_eq_true rfl, Nat.le_of_ble_eq_true rfl⟩ dX3_begin_40 ?_
    clear G; intro r_ w1 H locs hp G
    obtain ⟨rfl, R⟩ := hp
    refine r_int S hret hlk G rfl (Nat.le_of_ble_eq_true rfl) (Nat.le_of_ble_eq_true rfl) dX3_begin_43 ?_
    have q : ¬ bg = lim := fun z => by rw [z] at c1; exact Int32.lt_irrefl c1
    have e1 : nm cl vs lk hd so sz it lim 0 a bg = (8, 0, bg, 30, 0) := by simp [nm, q]
    have e2 : uv = 30 := by rw [eu, show u = 30 by omega]; rfl
    rw [e2] at R
    rw [e1]
    exact ⟨fun z => absurd z (by dsimp only; decide), R⟩
  · skip
    refine lv_aload_n hx hb dX3_begin_22 rfl (lv_at hl 0 rfl) ?_
    refine lv_bipush (v := 9) hx hb dX3_begin_23 (by decide) ?_
    refine lv_iload_n hx hb dX3_begin_25 rfl (lv_at hl 2 rfl) ?_
    refine g_Vi (n := 2) (rest := []) S G hl (c_X3_stop l R 9 uv) gX3_begin_X3_stop rfl (by decide +kernel) (Rc_wk R) rfl rfl rfl (Nat.le_of_ble_eq_true rfl) ⟨by simp only [rmk]; omega, by simp only [rmk]; omega⟩ ⟨Nat.le_of_ble_eq_true rfl, Nat.le_of_ble_eq_true rfl⟩ dX3_begin_26 ?_
    clear G; intro r_ w1 H locs hp G
    obtain ⟨rfl, R⟩ := hp
    refine r_int S hret hlk G rfl (Nat.le_of_ble_eq_true rfl) (Nat.le_of_ble_eq_true rfl) dX3_begin_29 ?_
    have q : bg = lim := Int32.le_antisymm hbl (Int32.not_lt.mp c1)
    have e1 : nm cl vs lk hd so sz it lim 0 a bg = (9, 0, bg, 30, 0) := by simp [nm, q]
    have e2 : uv = 30 := by rw [eu, show u = 30 by omega]; rfl
    rw [e2] at R
    rw [e1]
    exact ⟨fun z => absurd z (by dsimp only; decide), R⟩

set_option maxHeartbeats 4000000 in
set_option maxRecDepth 100000 in
theorem c_X3_firstOf_n (l : Launch) {E : EV} (d : Nat) {w : wo} {x st wk tl ta : Nat} {tf : Nat → Option Nat} {T Rw Ia : Nat → Nat} {F : Nat → Nat → Int64} {n : Nat} {cl vs lk hd : Nat → Int32} {nr : Nat} {so sz : Nat → Int32} {it : Nat → Int64} {oc ow bg dp : Int32} {td : Nat → Int32} {lim wou th : Int32} (R : Rc E w (x, st, wk, tl, ta, tf, T, Rw, Ia, F) (n, cl, vs, lk, hd, nr, so, sz, it, oc, ow, bg, dp, td) (lim, wou, th)) (u : Int32) : ct_i l E yX3_firstOf wsX3_firstOf (3 * d + 4) 0 0 [.ref wk, .null, .int u] w (fun r w' => r = 0 ∧ Rc E w' (x, st, wk, tl, ta, tf, T, Rw, Ia, F) (n, cl, vs, lk, hd, nr, so, sz, it, oc, ow, bg, u, td) (lim, 1, th)) := by
  intro zz
  refine wo_body (Qc := fun A => va_Qi _ (wo_B E A) A) (ret := (some .int)) (by decide) rfl (Nat.le_of_ble_eq_true rfl) ?_
  intro p_ e_ s_ m_ args_ below_ meth_ code_ A_ ls S hret hlk hnm G hl
  have hl : lv_has ls 5 [(0, .ref wk), (1, .null), (2, .int u)] := hl
  have hx := S.1
  have hb := S.2.1
  refine lv_aload_nN hx hb dX3_firstOf_0 rfl (lv_at hl 1 rfl) ?_
  refine lv_iconst (v := 0) hx hb dX3_firstOf_1 (by decide) ?_
  refine lv_iconst (v := 3) hx hb dX3_firstOf_2 (by decide) ?_
  refine lv_iconst (v := 0) hx hb dX3_firstOf_3 (by decide) ?_
  refine g_SNi (n := 4) (rest := []) S G hl (c_X4_againstItem_n l 0 3 0) gX3_firstOf_X4_againstItem_n77 G.1.2.1 (by decide +kernel) (by decide +kernel) rfl (by decide +kernel) rfl rfl (Nat.le_of_ble_eq_true rfl) ⟨by simp only [rmk]; omega, by simp only [rmk]; omega⟩ ⟨Nat.le_of_ble_eq_true rfl, Nat.le_of_ble_eq_true rfl⟩ dX3_firstOf_4 ?_
  clear G; intro r_ w1 H locs hp G
  obtain ⟨rfl, rfl⟩ := hp
  refine lv_istore_n (lv' := [(3, .int 1), (0, .ref wk), (1, .null), (2, .int u)]) hx hb dX3_firstOf_7 rfl hl (by decide) rfl (fun ls hl => ?_)
  refine lv_iload_n hx hb dX3_firstOf_8 rfl (lv_at hl 0 rfl) ?_
  refine lv_if_eq (tgt := 19) hx hb dX3_firstOf_9 (by decide) (fun c1 => absurd c1 (by decide)) (fun c1 => ?_)
  refine lv_aload_n hx hb dX3_firstOf_12 rfl (lv_at hl 1 rfl) ?_
  refine lv_iload_n hx hb dX3_firstOf_13 rfl (lv_at hl 0 rfl) ?_
  refine lv_iload_n hx hb dX3_firstOf_14 rfl (lv_at hl 3 rfl) ?_
  refine g_Vi (n := 2) (rest := []) S G hl (c_X3_stop l R 1 u) gX3_firstOf_X3_stop rfl (by decide +kernel) (Rc_wk R) rfl rfl rfl (Nat.le_of_ble_eq_true rfl) ⟨by simp only [rmk]; omega, by simp only [rmk]; omega⟩ ⟨Nat.le_of_ble_eq_true rfl, Nat.le_of_ble_eq_true rfl⟩ dX3_firstOf_15 ?_
  clear G; intro r_ w1 H locs hp G
  obtain ⟨rfl, R⟩ := hp
  refine r_int S hret hlk G rfl (Nat.le_of_ble_eq_true rfl) (Nat.le_of_ble_eq_true rfl) dX3_firstOf_18 ?_
  exact ⟨rfl, R⟩

theorem sz_pos {x : Int32} (h : ∃ z, z < 13 ∧ x = nI z) (h0 : ¬ x = 0) : 0 < cn x := by
  obtain ⟨z, hz, rfl⟩ := h
  rw [cn_nI (by omega)]
  rcases Nat.eq_zero_or_pos z with q | q
  · subst q; exact absurd rfl h0
  · exact q
theorem so_things {x : Int32} (h : ∃ s, s < 4 ∧ x = nI s) (h0 : ¬ (if x = 2 ∨ x = 3 then 1 else 0 : Int32) = 0) : 2 ≤ x := by
  by_cases q : x = 2 ∨ x = 3
  · rcases q with q | q
    · rw [q]; decide
    · rw [q]; decide
  · rw [if_neg q] at h0; exact absurd rfl h0
theorem so_nums {x : Int32} (h : ∃ s, s < 4 ∧ x = nI s) (h0 : (if x = 2 ∨ x = 3 then 1 else 0 : Int32) = 0) : x < 2 := by
  obtain ⟨s, hs, rfl⟩ := h
  by_cases q : nI s = 2 ∨ nI s = 3
  · rw [if_pos q] at h0; exact absurd h0 (by decide)
  · rcases (show s = 0 ∨ s = 1 ∨ s = 2 ∨ s = 3 by omega) with rfl | rfl | rfl | rfl
    · decide
    · decide
    · exact absurd (Or.inl rfl) q
    · exact absurd (Or.inr rfl) q
set_option maxHeartbeats 4000000 in
set_option maxRecDepth 100000 in
theorem c_X3_firstOf_y (l : Launch) {E : EV} {d : Nat} (B : WBG l E d) {w : wo} {x st wk tl ta : Nat} {tf : Nat → Option Nat} {T Rw Ia : Nat → Nat} {F : Nat → Nat → Int64} {n : Nat} {cl vs lk hd : Nat → Int32} {nr : Nat} {so sz : Nat → Int32} {it : Nat → Int64} {oc ow bg dp : Int32} {td : Nat → Int32} {lim wou th : Int32} (R : Rc E w (x, st, wk, tl, ta, tf, T, Rw, Ia, F) (n, cl, vs, lk, hd, nr, so, sz, it, oc, ow, bg, dp, td) (lim, wou, th)) (K : Gd (n, cl, vs, lk, hd, nr, so, sz, it, oc, ow, bg, dp, td)) (hbl : bg ≤ lim) {a u : Nat} (ha : a < n) {b0 : Int32} (hne : ¬ b0 = lim) (ebg : bg = b0 + 1) (ec : cl a = 6) {r : Nat} (hr : r < nr) (e : hd a = nI r) (hu : u + 1 + d = 30) {uv : Int32} (eu : uv = nI (u + 1)) : ct_i l E yX3_firstOf wsX3_firstOf (3 * d + 4) 0 0 [.ref wk, .ref (Rw r), .int uv] w (fun r w' => ((nm cl vs lk hd so sz it lim (d + 1) a b0).1 = 0 → r = (nm cl vs lk hd so sz it lim (d + 1) a b0).2.1) ∧ Rc E w' (x, st, wk, tl, ta, tf, T, Rw, Ia, F) (n, cl, vs, lk, hd, nr, so, sz, it, oc, ow, (nm cl vs lk hd so sz it lim (d + 1) a b0).2.2.1, if (nm cl vs lk hd so sz it lim (d + 1) a b0).1 = 0 then dp else (nm cl vs lk hd so sz it lim (d + 1) a b0).2.2.2.1, td) (lim, if (nm cl vs lk hd so sz it lim (d + 1) a b0).1 = 0 then wou else (nm cl vs lk hd so sz it lim (d + 1) a b0).1, if (nm cl vs lk hd so sz it lim (d + 1) a b0).1 = 7 then (nm cl vs lk hd so sz it lim (d + 1) a b0).2.2.2.2 else th)) := by
  have K0 := K
  obtain ⟨Kn, Kr, Kc, Kl, Kh, Ks, Kz, Ki⟩ := K0
  intro zz
  refine wo_body (Qc := fun A => va_Qi _ (wo_B E A) A) (ret := (some .int)) (by decide) rfl (Nat.le_of_ble_eq_true rfl) ?_
  intro p_ e_ s_ m_ args_ below_ meth_ code_ A_ ls S hret hlk hnm G hl
  have hl : lv_has ls 5 [(0, .ref wk), (1, .ref (Rw r)), (2, .int uv)] := hl
  have hx := S.1
  have hb := S.2.1
  refine lv_aload_n hx hb dX3_firstOf_0 rfl (lv_at hl 1 rfl) ?_
  refine lv_iconst (v := 0) hx hb dX3_firstOf_1 (by decide) ?_
  refine lv_iconst (v := 3) hx hb dX3_firstOf_2 (by decide) ?_
  refine lv_iconst (v := 0) hx hb dX3_firstOf_3 (by decide) ?_
  by_cases hz0 : sz r = 0
  · skip
    refine g_SNi (n := 4) (rest := []) S G hl (c_X4_againstItem_y l R hr (sz_le (Kz r hr)) 0 3 0) gX3_firstOf_X4_againstItem_n77 G.1.2.1 (by decide +kernel) (by decide +kernel) rfl (by decide +kernel) rfl rfl (Nat.le_of_ble_eq_true rfl) ⟨by simp only [rmk]; omega, by simp only [rmk]; omega⟩ ⟨Nat.le_of_ble_eq_true rfl, Nat.le_of_ble_eq_true rfl⟩ dX3_firstOf_4 ?_
    clear G; intro r_ w1 H locs hp G
    obtain ⟨rfl, hq_⟩ := hp
    have q9 : tin (cn (sz r)) 0 = false := by rw [hz0]; decide
    rw [if_neg (so_in (Ks r hr)), q9] at hq_
    simp only [Bool.false_eq_true, ↓reduceIte] at hq_
    subst hq_
    refine lv_istore_n (lv' := [(3, .int 3), (0, .ref wk), (1, .ref (Rw r)), (2, .int uv)]) hx hb dX3_firstOf_7 rfl hl (by decide) rfl (fun ls hl => ?_)
    refine lv_iload_n hx hb dX3_firstOf_8 rfl (lv_at hl 0 rfl) ?_
    refine lv_if_eq (tgt := 19) hx hb dX3_firstOf_9 (by decide) (fun c1 => absurd c1 (by decide)) (fun c1 => ?_)
    refine lv_aload_n hx hb dX3_firstOf_12 rfl (lv_at hl 1 rfl) ?_
    refine lv_iload_n hx hb dX3_firstOf_13 rfl (lv_at hl 0 rfl) ?_
    refine lv_iload_n hx hb dX3_firstOf_14 rfl (lv_at hl 3 rfl) ?_
    refine g_Vi (n := 2) (rest := []) S G hl (c_X3_stop l R 3 uv) gX3_firstOf_X3_stop rfl (by decide +kernel) (Rc_wk R) rfl rfl rfl (Nat.le_of_ble_eq_true rfl) ⟨by simp only [rmk]; omega, by simp only [rmk]; omega⟩ ⟨Nat.le_of_ble_eq_true rfl, Nat.le_of_ble_eq_true rfl⟩ dX3_firstOf_15 ?_
    clear G; intro r_ w1 H locs hp G
    obtain ⟨rfl, R⟩ := hp
    refine r_int S hret hlk G rfl (Nat.le_of_ble_eq_true rfl) (Nat.le_of_ble_eq_true rfl) dX3_firstOf_18 ?_
    have e30 : uv = nI (30 - d) := by rw [eu, show 30 - d = u + 1 by omega]
    rw [e30, ebg] at R
    rw [nm_c6e hne (show r < 1000 by omega) ec e hz0]
    exact ⟨fun z => absurd z (by dsimp only; decide), R⟩
  · skip
    refine g_SNi (n := 4) (rest := []) S G hl (c_X4_againstItem_y l R hr (sz_le (Kz r hr)) 0 3 0) gX3_firstOf_X4_againstItem_n77 G.1.2.1 (by decide +kernel) (by decide +kernel) rfl (by decide +kernel) rfl rfl (Nat.le_of_ble_eq_true rfl) ⟨by simp only [rmk]; omega, by simp only [rmk]; omega⟩ ⟨Nat.le_of_ble_eq_true rfl, Nat.le_of_ble_eq_true rfl⟩ dX3_firstOf_4 ?_
    clear G; intro r_ w1 H locs hp G
    obtain ⟨rfl, hq_⟩ := hp
    have hz1 : 0 < cn (sz r) := sz_pos (Kz r hr) hz0
    have q9 : tin (cn (sz r)) 0 = true := tin_y (k := 0) hz1 (Nat.le_trans (sz_le (Kz r hr)) (by decide))
    rw [if_neg (so_in (Ks r hr)), if_pos q9] at hq_
    subst hq_
    refine lv_istore_n (lv' := [(3, .int 0), (0, .ref wk), (1, .ref (Rw r)), (2, .int uv)]) hx hb dX3_firstOf_7 rfl hl (by decide) rfl (fun ls hl => ?_)
    refine lv_iload_n hx hb dX3_firstOf_8 rfl (lv_at hl 0 rfl) ?_
    refine lv_if_eq (tgt := 19) hx hb dX3_firstOf_9 (by decide) (fun c2 => ?_) (fun c2 => absurd (by decide) c2)
    refine lv_aload_n hx hb dX3_firstOf_19 rfl (lv_at hl 2 rfl) ?_
    refine g_get S G (Rc_Rw R r hr) rfl (by decide +kernel) 1 (by decide) (by decide +kernel) rfl dX3_firstOf_20 ?_
    refine lv_iconst (v := 0) hx hb dX3_firstOf_23 (by decide) ?_
    refine g_lald S G (Rc_Ia R r hr) (vin_e (k := 0) rfl hz1 (Nat.le_trans (sz_le (Kz r hr)) (by decide))) dX3_firstOf_24 ?_
    rw [show Int32.toNatClampNeg 0 = 0 from rfl, Rc_F R r hr 0 hz1, Nat.add_zero]
    refine lv_l2i (v := (Int64.toInt32 (it (12 * r)))) hx hb dX3_firstOf_25 rfl ?_
    refine lv_istore (lv' := [(4, .int (Int64.toInt32 (it (12 * r)))), (3, .int 0), (0, .ref wk), (1, .ref (Rw r)), (2, .int uv)]) hx hb dX3_firstOf_26 hl (by decide) rfl (fun ls hl => ?_)
    refine lv_aload_n hx hb dX3_firstOf_28 rfl (lv_at hl 3 rfl) ?_
    refine g_Vi (n := 0) (rest := []) S G hl (c_X0_isOfThings l (Rc_Rw R r hr)) gX3_firstOf_X0_isOfThings rfl (by decide +kernel) (Rc_Rw R r hr) rfl rfl rfl (Nat.le_of_ble_eq_true rfl) ⟨by simp only [rmk]; omega, by simp only [rmk]; omega⟩ ⟨Nat.le_of_ble_eq_true rfl, Nat.le_of_ble_eq_true rfl⟩ dX3_firstOf_29 ?_
    clear G; intro r_ w1 H locs hp G
    obtain ⟨rfl, rfl⟩ := hp
    refine lv_if_eq (tgt := 52) hx hb dX3_firstOf_32 (by decide) (fun c3 => ?_) (fun c3 => ?_)
    · skip
      refine lv_iload hx hb dX3_firstOf_52 (lv_at hl 0 rfl) ?_
      refine r_int S hret hlk G rfl (Nat.le_of_ble_eq_true rfl) (Nat.le_of_ble_eq_true rfl) dX3_firstOf_54 ?_
      rw [ebg] at R
      rw [nm_c6i hne (show r < 1000 by omega) ec e hz0 (so_nums (Ks r hr) c3)]
      exact ⟨fun _ => rfl, R⟩
    · skip
      refine lv_aload_n hx hb dX3_firstOf_35 rfl (lv_at hl 2 rfl) ?_
      refine lv_aload_n hx hb dX3_firstOf_36 rfl (lv_at hl 2 rfl) ?_
      refine g_get S G (Rc_wk R) rfl (by decide +kernel) 0 (by decide) (by decide +kernel) rfl dX3_firstOf_37 ?_
      refine lv_iload hx hb dX3_firstOf_40 (lv_at hl 0 rfl) ?_
      have h2 : 2 ≤ so r := so_things (Ks r hr) c3
      have h3 : ¬ so r < 2 := Int32.not_lt.mpr h2
      rcases Ki r hr h2 0 hz1 with ei | ⟨j, hj, ei, -⟩
      · skip
        have ei2 : (it (12 * r)).toInt32 = -1 := by rw [Nat.add_zero] at ei; rw [ei]; decide
        refine g_Vq (n := 1) (rest := [.ref wk]) S G hl (c_X1_find_n l R Kn (Or.inl (by rw [ei2]; decide))) gX3_firstOf_X1_find rfl (by decide +kernel) (Rc_st R) rfl rfl rfl (Nat.le_of_ble_eq_true rfl) ⟨by simp only [rmk]; omega, by simp only [rmk]; omega⟩ ⟨Nat.le_of_ble_eq_true rfl, Nat.le_of_ble_eq_true rfl⟩ dX3_firstOf_42 ?_
        clear G; intro r_ w1 H locs hp G
        obtain ⟨rfl, rfl⟩ := hp
        refine W.eq (g2 := F0 m_ 45 ls [.null, .ref wk]) rfl ?_
        refine lv_iload_n hx hb dX3_firstOf_45 rfl (lv_at hl 4 rfl) ?_
        refine g_Vi (n := 2) (rest := []) S G hl (c_X3_begin_n l d R uv) gX3_firstOf_X3_begin rfl (by decide +kernel) (Rc_wk R) rfl rfl rfl (Nat.le_of_ble_eq_true rfl) ⟨by simp only [rmk]; omega, by simp only [rmk]; omega⟩ ⟨Nat.le_of_ble_eq_true rfl, Nat.le_of_ble_eq_true rfl⟩ dX3_firstOf_46 ?_
        clear G; intro r_ w1 H locs hp G
        obtain ⟨rfl, R⟩ := hp
        refine lv_goto (tgt := 54) hx hb dX3_firstOf_49 (by decide) ?_
        refine r_int S hret hlk G rfl (Nat.le_of_ble_eq_true rfl) (Nat.le_of_ble_eq_true rfl) dX3_firstOf_54 ?_
        have e30 : uv = nI (30 - d) := by rw [eu, show 30 - d = u + 1 by omega]
        rw [e30, ebg] at R
        rw [nm_c6m hne (show r < 1000 by omega) ec e hz0 h3 ei2]
        exact ⟨fun z => absurd z (by dsimp only; decide), R⟩
      · skip
        have ei2 : (it (12 * r)).toInt32 = nI j := by rw [Nat.add_zero] at ei; rw [ei]; exact lN_i j
        refine g_Vq (n := 1) (rest := [.ref wk]) S G hl (c_X1_find_y l R Kn ei2 hj) gX3_firstOf_X1_find rfl (by decide +kernel) (Rc_st R) rfl rfl rfl (Nat.le_of_ble_eq_true rfl) ⟨by simp only [rmk]; omega, by simp only [rmk]; omega⟩ ⟨Nat.le_of_ble_eq_true rfl, Nat.le_of_ble_eq_true rfl⟩ dX3_firstOf_42 ?_
        clear G; intro r_ w1 H locs hp G
        obtain ⟨rfl, rfl⟩ := hp
        refine W.eq (g2 := F0 m_ 45 ls [.ref (T j), .ref wk]) rfl ?_
        refine lv_iload_n hx hb dX3_firstOf_45 rfl (lv_at hl 4 rfl) ?_
        refine g_Vi (n := 2) (rest := []) S G hl (B R K hbl hj (show (u + 1) + d = 30 by omega) eu) gX3_firstOf_X3_begin rfl (by decide +kernel) (Rc_wk R) rfl rfl rfl (Nat.le_of_ble_eq_true rfl) ⟨by simp only [rmk]; omega, by simp only [rmk]; omega⟩ ⟨Nat.le_of_ble_eq_true rfl, Nat.le_of_ble_eq_true rfl⟩ dX3_firstOf_46 ?_
        clear G; intro v4 w1 H locs hp G
        obtain ⟨hv4, R⟩ := hp
        refine lv_goto (tgt := 54) hx hb dX3_firstOf_49 (by decide) ?_
        refine r_int S hret hlk G rfl (Nat.le_of_ble_eq_true rfl) (Nat.le_of_ble_eq_true rfl) dX3_firstOf_54 ?_
        rw [nm_c6 hne (show r < 1000 by omega) ec e (show j < 1000 by omega) hz0 h3 ei2, ← ebg]
        exact ⟨hv4, R⟩

theorem three (v : Int32) : 2 * v + v = 3 * v := by
  have h : (3 : Int32) = 2 + 1 := by decide
  rw [h, Int32.add_mul, Int32.one_mul]
set_option maxHeartbeats 4000000 in
set_option maxRecDepth 100000 in
theorem c_X3_workOut (l : Launch) {E : EV} {d : Nat} (B : WBG l E d) {w : wo} {x st wk tl ta : Nat} {tf : Nat → Option Nat} {T Rw Ia : Nat → Nat} {F : Nat → Nat → Int64} {n : Nat} {cl vs lk hd : Nat → Int32} {nr : Nat} {so sz : Nat → Int32} {it : Nat → Int64} {oc ow bg dp : Int32} {td : Nat → Int32} {lim wou th : Int32} (R : Rc E w (x, st, wk, tl, ta, tf, T, Rw, Ia, F) (n, cl, vs, lk, hd, nr, so, sz, it, oc, ow, bg, dp, td) (lim, wou, th)) (K : Gd (n, cl, vs, lk, hd, nr, so, sz, it, oc, ow, bg, dp, td)) (hbl : bg ≤ lim) {a u : Nat} (ha : a < n) {b0 : Int32} (hne : ¬ b0 = lim) (ebg : bg = b0 + 1) (hu : u + 1 + d = 30) {uv : Int32} (eu : uv = nI (u + 1)) : ct_i l E yX3_workOut wsX3_workOut (3 * d + 5) 0 0 [.ref wk, .ref (T a), .int uv] w (fun r w' => ((nm cl vs lk hd so sz it lim (d + 1) a b0).1 = 0 → r = (nm cl vs lk hd so sz it lim (d + 1) a b0).2.1) ∧ Rc E w' (x, st, wk, tl, ta, tf, T, Rw, Ia, F) (n, cl, vs, lk, hd, nr, so, sz, it, oc, ow, (nm cl vs lk hd so sz it lim (d + 1) a b0).2.2.1, if (nm cl vs lk hd so sz it lim (d + 1) a b0).1 = 0 then dp else (nm cl vs lk hd so sz it lim (d + 1) a b0).2.2.2.1, td) (lim, if (nm cl vs lk hd so sz it lim (d + 1) a b0).1 = 0 then wou else (nm cl vs lk hd so sz it lim (d + 1) a b0).1, if (nm cl vs lk hd so sz it lim (d + 1) a b0).1 = 7 then (nm cl vs lk hd so sz it lim (d + 1) a b0).2.2.2.2 else th)) := by
  have K0 := K
  obtain ⟨Kn, Kr, Kc, Kl, Kh, Ks, Kz, Ki⟩ := K0
  intro zz
  refine wo_body (Qc := fun A => va_Qi _ (wo_B E A) A) (ret := (some .int)) (by decide) rfl (Nat.le_of_ble_eq_true rfl) ?_
  intro p_ e_ s_ m_ args_ below_ meth_ code_ A_ ls S hret hlk hnm G hl
  have hl : lv_has ls 3 [(0, .ref wk), (1, .ref (T a)), (2, .int uv)] := hl
  have hx := S.1
  have hb := S.2.1
  refine lv_aload_n hx hb dX3_workOut_0 rfl (lv_at hl 1 rfl) ?_
  refine g_get S G (Rc_T R a ha) rfl (by decide +kernel) 0 (by decide) (by decide +kernel) rfl dX3_workOut_1 ?_
  obtain ⟨cc, hcc, ec⟩ := Kc a ha
  rcases (show cc = 0 ∨ cc = 1 ∨ cc = 2 ∨ cc = 3 ∨ cc = 4 ∨ cc = 5 ∨ cc = 6 ∨ cc = 7 by omega) with rfl | rfl | rfl | rfl | rfl | rfl | rfl | rfl
  · skip
    replace ec : cl a = 0 := ec
    refine lv_tableIn (off := 44) (tgt := 48) hx hb dX3_workOut_4 (by rw [ec]; decide) (by rw [ec]; decide) (by rw [ec]; rfl) (by decide) ?_
    refine lv_aload_n hx hb dX3_workOut_48 rfl (lv_at hl 1 rfl) ?_
    refine g_get S G (Rc_T R a ha) rfl (by decide +kernel) 1 (by decide) (by decide +kernel) rfl dX3_workOut_49 ?_
    refine r_int S hret hlk G rfl (Nat.le_of_ble_eq_true rfl) (Nat.le_of_ble_eq_true rfl) dX3_workOut_52 ?_
    rw [ebg] at R
    rw [nm_c0 hne ec]
    exact ⟨fun _ => rfl, R⟩
  · skip
    replace ec : cl a = 1 := ec
    refine lv_tableIn (off := 49) (tgt := 53) hx hb dX3_workOut_4 (by rw [ec]; decide) (by rw [ec]; decide) (by rw [ec]; rfl) (by decide) ?_
    refine lv_iconst (v := 2) hx hb dX3_workOut_53 (by decide) ?_
    refine lv_aload_n hx hb dX3_workOut_54 rfl (lv_at hl 1 rfl) ?_
    refine g_get S G (Rc_T R a ha) rfl (by decide +kernel) 1 (by decide) (by decide +kernel) rfl dX3_workOut_55 ?_
    refine lv_imul hx hb dX3_workOut_58 ?_
    refine lv_topi (fun a1 ea1 => ?_)
    refine r_int S hret hlk G rfl (Nat.le_of_ble_eq_true rfl) (Nat.le_of_ble_eq_true rfl) dX3_workOut_59 ?_
    rw [ebg] at R
    rw [nm_c1 hne ec]
    exact ⟨fun _ => ea1, R⟩
  · skip
    replace ec : cl a = 2 := ec
    refine lv_tableIn (off := 56) (tgt := 60) hx hb dX3_workOut_4 (by rw [ec]; decide) (by rw [ec]; decide) (by rw [ec]; rfl) (by decide) ?_
    refine lv_iconst (v := 2) hx hb dX3_workOut_60 (by decide) ?_
    refine lv_aload_n hx hb dX3_workOut_61 rfl (lv_at hl 1 rfl) ?_
    refine g_get S G (Rc_T R a ha) rfl (by decide +kernel) 1 (by decide) (by decide +kernel) rfl dX3_workOut_62 ?_
    refine lv_imul hx hb dX3_workOut_65 ?_
    refine lv_topi (fun a2 ea2 => ?_)
    refine lv_aload_n hx hb dX3_workOut_66 rfl (lv_at hl 1 rfl) ?_
    refine g_get S G (Rc_T R a ha) rfl (by decide +kernel) 1 (by decide) (by decide +kernel) rfl dX3_workOut_67 ?_
    refine lv_iadd hx hb dX3_workOut_70 ?_
    refine lv_topi (fun a3 ea3 => ?_)
    refine r_int S hret hlk G rfl (Nat.le_of_ble_eq_true rfl) (Nat.le_of_ble_eq_true rfl) dX3_workOut_71 ?_
    rw [ebg] at R
    rw [nm_c2 hne ec]
    exact ⟨fun _ => by rw [ea3, ea2]; exact three _, R⟩
  · skip
    replace ec : cl a = 3 := ec
    refine lv_tableIn (off := 68) (tgt := 72) hx hb dX3_workOut_4 (by rw [ec]; decide) (by rw [ec]; decide) (by rw [ec]; rfl) (by decide) ?_
    refine lv_aload_n hx hb dX3_workOut_72 rfl (lv_at hl 1 rfl) ?_
    refine g_get S G (Rc_T R a ha) rfl (by decide +kernel) 1 (by decide) (by decide +kernel) rfl dX3_workOut_73 ?_
    refine lv_if_ne (tgt := 89) hx hb dX3_workOut_76 (by decide) (fun c4 => ?_) (fun c4 => ?_)
    · skip
      refine lv_sipush (v := 1000) hx hb dX3_workOut_89 (by decide) ?_
      refine lv_aload_n hx hb dX3_workOut_92 rfl (lv_at hl 1 rfl) ?_
      refine g_get S G (Rc_T R a ha) rfl (by decide +kernel) 1 (by decide) (by decide +kernel) rfl dX3_workOut_93 ?_
      refine lv_idiv hx hb dX3_workOut_96 c4 ?_
      refine lv_topi (fun a5 ea5 => ?_)
      refine r_int S hret hlk G rfl (Nat.le_of_ble_eq_true rfl) (Nat.le_of_ble_eq_true rfl) dX3_workOut_97 ?_
      rw [ebg] at R
      rw [nm_c3 hne ec c4]
      exact ⟨fun _ => ea5, R⟩
    · skip
      refine lv_aload_n hx hb dX3_workOut_79 rfl (lv_at hl 0 rfl) ?_
      refine lv_bipush (v := 6) hx hb dX3_workOut_80 (by decide) ?_
      refine lv_iload_n hx hb dX3_workOut_82 rfl (lv_at hl 2 rfl) ?_
      refine g_Vi (n := 2) (rest := []) S G hl (c_X3_stop l R 6 uv) gX3_workOut_X3_stop rfl (by decide +kernel) (Rc_wk R) rfl rfl rfl (Nat.le_of_ble_eq_true rfl) ⟨by simp only [rmk]; omega, by simp only [rmk]; omega⟩ ⟨Nat.le_of_ble_eq_true rfl, Nat.le_of_ble_eq_true rfl⟩ dX3_workOut_83 ?_
      clear G; intro r_ w1 H locs hp G
      obtain ⟨rfl, R⟩ := hp
      refine lv_goto (tgt := 97) hx hb dX3_workOut_86 (by decide) ?_
      refine r_int S hret hlk G rfl (Nat.le_of_ble_eq_true rfl) (Nat.le_of_ble_eq_true rfl) dX3_workOut_97 ?_
      have e30 : uv = nI (30 - d) := by rw [eu, show 30 - d = u + 1 by omega]
      rw [e30, ebg] at R
      rw [nm_c3z hne ec c4]
      exact ⟨fun z => absurd z (by dsimp only; decide), R⟩
  · skip
    replace ec : cl a = 4 := ec
    refine lv_tableIn (off := 94) (tgt := 98) hx hb dX3_workOut_4 (by rw [ec]; decide) (by rw [ec]; decide) (by rw [ec]; rfl) (by decide) ?_
    refine lv_aload_n hx hb dX3_workOut_98 rfl (lv_at hl 0 rfl) ?_
    refine lv_aload_n hx hb dX3_workOut_99 rfl (lv_at hl 0 rfl) ?_
    refine g_get S G (Rc_wk R) rfl (by decide +kernel) 0 (by decide) (by decide +kernel) rfl dX3_workOut_100 ?_
    refine lv_aload_n hx hb dX3_workOut_103 rfl (lv_at hl 1 rfl) ?_
    refine g_get S G (Rc_T R a ha) rfl (by decide +kernel) 2 (by decide) (by decide +kernel) rfl dX3_workOut_104 ?_
    rcases Kl a ha with ek6 | ⟨k6, hk6, ek6⟩
    · skip
      refine g_Vq (n := 1) (rest := [.ref wk]) S G hl (c_X1_find_n l R Kn (Or.inl (by rw [ek6]; decide))) gX3_workOut_X1_find rfl (by decide +kernel) (Rc_st R) rfl rfl rfl (Nat.le_of_ble_eq_true rfl) ⟨by simp only [rmk]; omega, by simp only [rmk]; omega⟩ ⟨Nat.le_of_ble_eq_true rfl, Nat.le_of_ble_eq_true rfl⟩ dX3_workOut_107 ?_
      clear G; intro r_ w1 H locs hp G
      obtain ⟨rfl, rfl⟩ := hp
      refine W.eq (g2 := F0 m_ 110 ls [.null, .ref wk]) rfl ?_
      refine lv_iload_n hx hb dX3_workOut_110 rfl (lv_at hl 2 rfl) ?_
      refine g_Vi (n := 2) (rest := []) S G hl (c_X3_begin_n l d R uv) gX3_workOut_X3_begin rfl (by decide +kernel) (Rc_wk R) rfl rfl rfl (Nat.le_of_ble_eq_true rfl) ⟨by simp only [rmk]; omega, by simp only [rmk]; omega⟩ ⟨Nat.le_of_ble_eq_true rfl, Nat.le_of_ble_eq_true rfl⟩ dX3_workOut_111 ?_
      clear G; intro r_ w1 H locs hp G
      obtain ⟨rfl, R⟩ := hp
      refine lv_iconst (v := 1) hx hb dX3_workOut_114 (by decide) ?_
      refine lv_iadd hx hb dX3_workOut_115 ?_
      refine lv_topi (fun a7 ea7 => ?_)
      refine r_int S hret hlk G rfl (Nat.le_of_ble_eq_true rfl) (Nat.le_of_ble_eq_true rfl) dX3_workOut_116 ?_
      have e30 : uv = nI (30 - d) := by rw [eu, show 30 - d = u + 1 by omega]
      rw [e30, ebg] at R
      rw [nm_c4n hne ec ek6]
      exact ⟨fun z => absurd z (by dsimp only; decide), R⟩
    · skip
      refine g_Vq (n := 1) (rest := [.ref wk]) S G hl (c_X1_find_y l R Kn ek6 hk6) gX3_workOut_X1_find rfl (by decide +kernel) (Rc_st R) rfl rfl rfl (Nat.le_of_ble_eq_true rfl) ⟨by simp only [rmk]; omega, by simp only [rmk]; omega⟩ ⟨Nat.le_of_ble_eq_true rfl, Nat.le_of_ble_eq_true rfl⟩ dX3_workOut_107 ?_
      clear G; intro r_ w1 H locs hp G
      obtain ⟨rfl, rfl⟩ := hp
      refine W.eq (g2 := F0 m_ 110 ls [.ref (T k6), .ref wk]) rfl ?_
      refine lv_iload_n hx hb dX3_workOut_110 rfl (lv_at hl 2 rfl) ?_
      refine g_Vi (n := 2) (rest := []) S G hl (B R K hbl hk6 (show (u + 1) + d = 30 by omega) eu) gX3_workOut_X3_begin rfl (by decide +kernel) (Rc_wk R) rfl rfl rfl (Nat.le_of_ble_eq_true rfl) ⟨by simp only [rmk]; omega, by simp only [rmk]; omega⟩ ⟨Nat.le_of_ble_eq_true rfl, Nat.le_of_ble_eq_true rfl⟩ dX3_workOut_111 ?_
      clear G; intro v8 w1 H locs hp G
      obtain ⟨hv8, R⟩ := hp
      refine lv_iconst (v := 1) hx hb dX3_workOut_114 (by decide) ?_
      refine lv_iadd hx hb dX3_workOut_115 ?_
      refine lv_topi (fun a9 ea9 => ?_)
      refine r_int S hret hlk G rfl (Nat.le_of_ble_eq_true rfl) (Nat.le_of_ble_eq_true rfl) dX3_workOut_116 ?_
      rw [nm_c4 hne (show k6 < 1000 by omega) ec ek6, ← ebg]
      exact ⟨fun z => by rw [ea9, hv8 z], R⟩
  · skip
    replace ec : cl a = 5 := ec
    refine lv_tableIn (off := 113) (tgt := 117) hx hb dX3_workOut_4 (by rw [ec]; decide) (by rw [ec]; decide) (by rw [ec]; rfl) (by decide) ?_
    refine lv_aload_n hx hb dX3_workOut_117 rfl (lv_at hl 0 rfl) ?_
    refine lv_aload_n hx hb dX3_workOut_118 rfl (lv_at hl 1 rfl) ?_
    refine g_get S G (Rc_T R a ha) rfl (by decide +kernel) 1 (by decide) (by decide +kernel) rfl dX3_workOut_119 ?_
    refine lv_iload_n hx hb dX3_workOut_122 rfl (lv_at hl 2 rfl) ?_
    refine g_Vi (n := 2) (rest := []) S G hl (c_X3_throwOwn l R (vs a) uv) gX3_workOut_X3_throwOwn rfl (by decide +kernel) (Rc_wk R) rfl rfl rfl (Nat.le_of_ble_eq_true rfl) ⟨by simp only [rmk]; omega, by simp only [rmk]; omega⟩ ⟨Nat.le_of_ble_eq_true rfl, Nat.le_of_ble_eq_true rfl⟩ dX3_workOut_123 ?_
    clear G; intro r_ w1 H locs hp G
    obtain ⟨rfl, R⟩ := hp
    refine r_int S hret hlk G rfl (Nat.le_of_ble_eq_true rfl) (Nat.le_of_ble_eq_true rfl) dX3_workOut_126 ?_
    have e30 : uv = nI (30 - d) := by rw [eu, show 30 - d = u + 1 by omega]
    rw [e30, ebg] at R
    by_cases q : vs a = 0
    · rw [if_pos q, if_pos q] at R
      rw [nm_c5z hne ec q]
      exact ⟨fun z => absurd z (by dsimp only; decide), R⟩
    · rw [if_neg q, if_neg q] at R
      rw [nm_c5 hne ec q]
      exact ⟨fun z => absurd z (by dsimp only; decide), R⟩
  · skip
    replace ec : cl a = 6 := ec
    refine lv_tableIn (off := 123) (tgt := 127) hx hb dX3_workOut_4 (by rw [ec]; decide) (by rw [ec]; decide) (by rw [ec]; rfl) (by decide) ?_
    refine lv_aload_n hx hb dX3_workOut_127 rfl (lv_at hl 0 rfl) ?_
    refine lv_aload_n hx hb dX3_workOut_128 rfl (lv_at hl 1 rfl) ?_
    rcases Kh a ha with er10 | ⟨r10, hr10, er10⟩
    · skip
      refine g_get S G (Rc_Tn R ha er10) rfl (by decide +kernel) 3 (by decide) (by decide +kernel) rfl dX3_workOut_129 ?_
      refine lv_iload_n hx hb dX3_workOut_132 rfl (lv_at hl 2 rfl) ?_
      refine g_Vi (n := 2) (rest := []) S G hl (c_X3_firstOf_n l d R uv) gX3_workOut_X3_firstOf rfl (by decide +kernel) (Rc_wk R) rfl rfl rfl (Nat.le_of_ble_eq_true rfl) ⟨by simp only [rmk]; omega, by simp only [rmk]; omega⟩ ⟨Nat.le_of_ble_eq_true rfl, Nat.le_of_ble_eq_true rfl⟩ dX3_workOut_133 ?_
      clear G; intro r_ w1 H locs hp G
      obtain ⟨rfl, R⟩ := hp
      refine r_int S hret hlk G rfl (Nat.le_of_ble_eq_true rfl) (Nat.le_of_ble_eq_true rfl) dX3_workOut_136 ?_
      have e30 : uv = nI (30 - d) := by rw [eu, show 30 - d = u + 1 by omega]
      rw [e30, ebg] at R
      rw [nm_c6n hne ec er10]
      exact ⟨fun z => absurd z (by dsimp only; decide), R⟩
    · skip
      refine g_get S G (Rc_Ty R ha er10 hr10 Kr) rfl (by decide +kernel) 3 (by decide) (by decide +kernel) rfl dX3_workOut_129 ?_
      refine lv_iload_n hx hb dX3_workOut_132 rfl (lv_at hl 2 rfl) ?_
      refine g_Vi (n := 2) (rest := []) S G hl (c_X3_firstOf_y l B R K hbl ha hne ebg ec hr10 er10 hu eu) gX3_workOut_X3_firstOf rfl (by decide +kernel) (Rc_wk R) rfl rfl rfl (Nat.le_of_ble_eq_true rfl) ⟨by simp only [rmk]; omega, by simp only [rmk]; omega⟩ ⟨Nat.le_of_ble_eq_true rfl, Nat.le_of_ble_eq_true rfl⟩ dX3_workOut_133 ?_
      clear G; intro v11 w1 H locs hp G
      refine r_int S hret hlk G rfl (Nat.le_of_ble_eq_true rfl) (Nat.le_of_ble_eq_true rfl) dX3_workOut_136 ?_
      exact hp
  · skip
    replace ec : cl a = 7 := ec
    refine lv_tableOut (tgt := 137) hx hb dX3_workOut_4 (by rw [ec]; decide) (by decide) ?_
    refine lv_aload_n hx hb dX3_workOut_137 rfl (lv_at hl 0 rfl) ?_
    refine lv_aload_n hx hb dX3_workOut_138 rfl (lv_at hl 1 rfl) ?_
    rcases Kh a ha with er12 | ⟨r12, hr12, er12⟩
    · skip
      refine g_get S G (Rc_Tn R ha er12) rfl (by decide +kernel) 3 (by decide) (by decide +kernel) rfl dX3_workOut_139 ?_
      refine lv_iload_n hx hb dX3_workOut_142 rfl (lv_at hl 2 rfl) ?_
      refine g_Vi (n := 2) (rest := []) S G hl (c_X3_sumOf_n l R uv) gX3_workOut_X3_sumOf rfl (by decide +kernel) (Rc_wk R) rfl rfl rfl (Nat.le_of_ble_eq_true rfl) ⟨by simp only [rmk]; omega, by simp only [rmk]; omega⟩ ⟨Nat.le_of_ble_eq_true rfl, Nat.le_of_ble_eq_true rfl⟩ dX3_workOut_143 ?_
      clear G; intro r_ w1 H locs hp G
      obtain ⟨rfl, R⟩ := hp
      refine r_int S hret hlk G rfl (Nat.le_of_ble_eq_true rfl) (Nat.le_of_ble_eq_true rfl) dX3_workOut_146 ?_
      have e30 : uv = nI (30 - d) := by rw [eu, show 30 - d = u + 1 by omega]
      rw [e30, ebg] at R
      rw [nm_c7n hne ec er12]
      exact ⟨fun z => absurd z (by dsimp only; decide), R⟩
    · skip
      refine g_get S G (Rc_Ty R ha er12 hr12 Kr) rfl (by decide +kernel) 3 (by decide) (by decide +kernel) rfl dX3_workOut_139 ?_
      refine lv_iload_n hx hb dX3_workOut_142 rfl (lv_at hl 2 rfl) ?_
      refine g_Vi (n := 2) (rest := []) S G hl (c_X3_sumOf_y l R hr12 (sz_le (Kz r12 hr12)) uv) gX3_workOut_X3_sumOf rfl (by decide +kernel) (Rc_wk R) rfl rfl rfl (Nat.le_of_ble_eq_true rfl) ⟨by simp only [rmk]; omega, by simp only [rmk]; omega⟩ ⟨Nat.le_of_ble_eq_true rfl, Nat.le_of_ble_eq_true rfl⟩ dX3_workOut_143 ?_
      clear G; intro v13 w1 H locs hp G
      refine r_int S hret hlk G rfl (Nat.le_of_ble_eq_true rfl) (Nat.le_of_ble_eq_true rfl) dX3_workOut_146 ?_
      have e30 : uv = nI (30 - d) := by rw [eu, show 30 - d = u + 1 by omega]
      rcases hp with ⟨q1, q2, R⟩ | ⟨q1, q2, R⟩
      · rw [ebg] at R
        rw [nm_c7 hne (show r12 < 1000 by omega) ec er12 q1]
        exact ⟨fun _ => q2, R⟩
      · rw [e30, ebg] at R
        rw [nm_c7c hne (show r12 < 1000 by omega) ec er12 q1]
        exact ⟨fun z => absurd z (by dsimp only; decide), R⟩

set_option maxHeartbeats 4000000 in
set_option maxRecDepth 100000 in
theorem c_X3_begin_s (l : Launch) {E : EV} {d : Nat} (B : WBG l E d) {w : wo} {x st wk tl ta : Nat} {tf : Nat → Option Nat} {T Rw Ia : Nat → Nat} {F : Nat → Nat → Int64} {n : Nat} {cl vs lk hd : Nat → Int32} {nr : Nat} {so sz : Nat → Int32} {it : Nat → Int64} {oc ow bg dp : Int32} {td : Nat → Int32} {lim wou th : Int32} (R : Rc E w (x, st, wk, tl, ta, tf, T, Rw, Ia, F) (n, cl, vs, lk, hd, nr, so, sz, it, oc, ow, bg, dp, td) (lim, wou, th)) (K : Gd (n, cl, vs, lk, hd, nr, so, sz, it, oc, ow, bg, dp, td)) (hbl : bg ≤ lim) {a u : Nat} (ha : a < n) (hu : u + (d + 1) = 30) {uv : Int32} (eu : uv = nI u) : ct_i l E yX3_begin wsX3_begin (3 * (d + 1) + 3) 0 0 [.ref wk, .ref (T a), .int uv] w (fun r w' => ((nm cl vs lk hd so sz it lim (d + 1) a bg).1 = 0 → r = (nm cl vs lk hd so sz it lim (d + 1) a bg).2.1) ∧ Rc E w' (x, st, wk, tl, ta, tf, T, Rw, Ia, F) (n, cl, vs, lk, hd, nr, so, sz, it, oc, ow, (nm cl vs lk hd so sz it lim (d + 1) a bg).2.2.1, if (nm cl vs lk hd so sz it lim (d + 1) a bg).1 = 0 then dp else (nm cl vs lk hd so sz it lim (d + 1) a bg).2.2.2.1, td) (lim, if (nm cl vs lk hd so sz it lim (d + 1) a bg).1 = 0 then wou else (nm cl vs lk hd so sz it lim (d + 1) a bg).1, if (nm cl vs lk hd so sz it lim (d + 1) a bg).1 = 7 then (nm cl vs lk hd so sz it lim (d + 1) a bg).2.2.2.2 else th)) := by
  intro zz
  refine wo_body (Qc := fun A => va_Qi _ (wo_B E A) A) (ret := (some .int)) (by decide) rfl (Nat.le_of_ble_eq_true rfl) ?_
  intro p_ e_ s_ m_ args_ below_ meth_ code_ A_ ls S hret hlk hnm G hl
  have hl : lv_has ls 3 [(0, .ref wk), (1, .ref (T a)), (2, .int uv)] := hl
  have hx := S.1
  have hb := S.2.1
  refine lv_aload_n hx hb dX3_begin_0 rfl (lv_at hl 1 rfl) ?_
  refine lv_ifnonnull (tgt := 11) hx hb dX3_begin_1 (by decide) ?_
  refine lv_aload_n hx hb dX3_begin_11 rfl (lv_at hl 0 rfl) ?_
  refine g_get S G (Rc_wk R) rfl (by decide +kernel) 2 (by decide) (by decide +kernel) rfl dX3_begin_12 ?_
  refine lv_aload_n hx hb dX3_begin_15 rfl (lv_at hl 0 rfl) ?_
  refine g_get S G (Rc_wk R) rfl (by decide +kernel) 1 (by decide) (by decide +kernel) rfl dX3_begin_16 ?_
  refine lv_icmp_lt (tgt := 30) hx hb dX3_begin_19 (by decide) (fun c1 => ?_) (fun c1 => ?_)
  · skip
    refine lv_iload_n hx hb dX3_begin_30 rfl (lv_at hl 2 rfl) ?_
    refine lv_bipush (v := 30) hx hb dX3_begin_31 (by decide) ?_
    refine lv_icmp_lt (tgt := 44) hx hb dX3_begin_33 (by decide) (fun c2 => ?_) (fun c2 => absurd (by rw [eu]; exact nI_lt (b := 30) (by omega) (by omega)) c2)
    refine lv_aload_n hx hb dX3_begin_44 rfl (lv_at hl 0 rfl) ?_
    refine lv_dup hx hb dX3_begin_45 rfl ?_
    refine g_get S G (Rc_wk R) rfl (by decide +kernel) 2 (by decide) (by decide +kernel) rfl dX3_begin_46 ?_
    refine lv_iconst (v := 1) hx hb dX3_begin_49 (by decide) ?_
    refine lv_iadd hx hb dX3_begin_50 ?_
    refine lv_topi (fun a3 ea3 => ?_)
    refine g_put (fs' := [.ref st, .int lim, .int a3, .int wou, .int dp, .int th]) (ty := .int) (v := .int a3) S G (Rc_wk R) rfl tyX3 tyX3_ok nmX3 (by decide +kernel) 2 (by decide) (by decide +kernel) rfl (by decide +kernel) rfl rfl (Nat.le_of_ble_eq_true rfl) rfl dX3_begin_51 (fun H locs G => ?_)
    obtain ⟨w, R, G⟩ := Rc_ex (Rc_p_bg R a3) G
    refine lv_aload_n hx hb dX3_begin_54 rfl (lv_at hl 0 rfl) ?_
    refine lv_aload_n hx hb dX3_begin_55 rfl (lv_at hl 1 rfl) ?_
    refine lv_iload_n hx hb dX3_begin_56 rfl (lv_at hl 2 rfl) ?_
    refine lv_iconst (v := 1) hx hb dX3_begin_57 (by decide) ?_
    refine lv_iadd hx hb dX3_begin_58 ?_
    refine lv_topi (fun a4 ea4 => ?_)
    have q : ¬ bg = lim := fun z => by rw [z] at c1; exact Int32.lt_irrefl c1
    have q2 : a3 ≤ lim := by rw [ea3]; exact (bg_lt hbl q).1
    have q3 : a4 = nI (u + 1) := by rw [ea4, eu]; exact nI_1 u
    refine g_Vi (n := 2) (rest := []) S G hl (c_X3_workOut l B R K q2 ha q ea3 (show u + 1 + d = 30 by omega) q3) gX3_begin_X3_workOut rfl (by decide +kernel) (Rc_wk R) rfl rfl rfl (Nat.le_of_ble_eq_true rfl) ⟨by simp only [rmk]; omega, by simp only [rmk]; omega⟩ ⟨Nat.le_of_ble_eq_true rfl, Nat.le_of_ble_eq_true rfl⟩ dX3_begin_59 ?_
    clear G; intro v5 w1 H locs hp G
    refine r_int S hret hlk G rfl (Nat.le_of_ble_eq_true rfl) (Nat.le_of_ble_eq_true rfl) dX3_begin_62 ?_
    exact hp
  · skip
    refine lv_aload_n hx hb dX3_begin_22 rfl (lv_at hl 0 rfl) ?_
    refine lv_bipush (v := 9) hx hb dX3_begin_23 (by decide) ?_
    refine lv_iload_n hx hb dX3_begin_25 rfl (lv_at hl 2 rfl) ?_
    refine g_Vi (n := 2) (rest := []) S G hl (c_X3_stop l R 9 uv) gX3_begin_X3_stop rfl (by decide +kernel) (Rc_wk R) rfl rfl rfl (Nat.le_of_ble_eq_true rfl) ⟨by simp only [rmk]; omega, by simp only [rmk]; omega⟩ ⟨Nat.le_of_ble_eq_true rfl, Nat.le_of_ble_eq_true rfl⟩ dX3_begin_26 ?_
    clear G; intro r_ w1 H locs hp G
    obtain ⟨rfl, R⟩ := hp
    refine r_int S hret hlk G rfl (Nat.le_of_ble_eq_true rfl) (Nat.le_of_ble_eq_true rfl) dX3_begin_29 ?_
    have q : bg = lim := Int32.le_antisymm hbl (Int32.not_lt.mp c1)
    rw [nm_spent q]
    rw [eu, show u = 29 - d by omega] at R
    exact ⟨fun z => absurd z (by dsimp only; decide), R⟩

theorem c_X3_begin (l : Launch) (E : EV) : ∀ d : Nat, WBG l E d := by
  intro d
  induction d with
  | zero =>
    unfold WBG
    intros
    apply c_X3_begin_0 <;> assumption
  | succ d ih =>
    unfold WBG
    intros
    apply c_X3_begin_s <;> assumption
end
section
/-! THE CLASS: next, first, run, either, gather, keep -/
theorem nm_ok {cl vs lk hd so sz : Nat → Int32} {it : Nat → Int64} {lim : Int32} : ∀ (d a : Nat) (bg : Int32), (nm cl vs lk hd so sz it lim d a bg).1 = 0 → (nm cl vs lk hd so sz it lim d a bg).2.2.2.1 = 0 := by
  intro d
  induction d with
  | zero =>
    intro a bg
    by_cases h : bg = lim
    · simp [nm, h]
    · simp [nm, h]
  | succ d ih =>
    intro a bg
    rw [nm]
    split
    · simp
    · split
      · split
        · dsimp only
          intro z
          rw [if_pos z]
        · exact ih _ _
      · rename_i h1
        dsimp only
        intro z
        exact absurd z h1
theorem nm_bg {cl vs lk hd so sz : Nat → Int32} {it : Nat → Int64} {lim : Int32} : ∀ (d a : Nat) (bg : Int32), bg ≤ lim → (nm cl vs lk hd so sz it lim d a bg).2.2.1 ≤ lim := by
  intro d
  induction d with
  | zero => intro a bg h; exact h
  | succ d ih =>
    intro a bg h
    rw [nm]
    split
    · exact h
    · rename_i h0
      split
      · split
        · exact (bg_lt h h0).1
        · exact ih _ _ (bg_lt h h0).1
      · exact (bg_lt h h0).1
theorem pl_o {cl vs hd so sz : Nat → Int32} {it : Nat → Int64} {a : Nat} : ∃ j, j < 10 ∧ (pl cl vs hd so sz it a).1 = nI j := by
  unfold pl
  repeat' split
  all_goals first | exact ⟨0, by omega, rfl⟩ | exact ⟨1, by omega, rfl⟩ | exact ⟨2, by omega, rfl⟩ | exact ⟨6, by omega, rfl⟩ | exact ⟨7, by omega, rfl⟩
theorem tk_o {cl lk hd so sz : Nat → Int32} {it : Nat → Int64} {a : Nat} : ∃ j, j < 10 ∧ (tk cl lk hd so sz it a).1 = nI j := by
  unfold tk
  repeat' split
  all_goals first | exact ⟨0, by omega, rfl⟩ | exact ⟨1, by omega, rfl⟩ | exact ⟨3, by omega, rfl⟩ | (dsimp only; split <;> first | exact ⟨0, by omega, rfl⟩ | exact ⟨1, by omega, rfl⟩)
theorem nm_o {cl vs lk hd so sz : Nat → Int32} {it : Nat → Int64} {lim : Int32} : ∀ (d a : Nat) (bg : Int32), ∃ j, j < 10 ∧ (nm cl vs lk hd so sz it lim d a bg).1 = nI j := by
  intro d
  induction d with
  | zero =>
    intro a bg
    by_cases h : bg = lim
    · exact ⟨9, by omega, by simp [nm, h]; rfl⟩
    · exact ⟨8, by omega, by simp [nm, h]; rfl⟩
  | succ d ih =>
    intro a bg
    rw [nm]
    split
    · exact ⟨9, by omega, rfl⟩
    · split
      · split
        · exact pl_o
        · exact ih _ _
      · exact tk_o
theorem ow_eq (o t th ow : Int32) : (if o = 7 then (if o = 7 then t else th) else ow) = if o = 7 then t else ow := by
  by_cases h : o = 7 <;> simp [h]
theorem lin_pos {c : Int32} (h : lin c = true) : 0 ≤ c := by
  have h1 := ((linc c).mp h).1
  exact Int32.le_trans (by decide) (Int32.not_lt.mp h1)
set_option maxHeartbeats 4000000 in
set_option maxRecDepth 100000 in
theorem c_X3_next_n (l : Launch) {E : EV} {w : wo} {x st wk tl ta : Nat} {tf : Nat → Option Nat} {T Rw Ia : Nat → Nat} {F : Nat → Nat → Int64} {n : Nat} {cl vs lk hd : Nat → Int32} {nr : Nat} {so sz : Nat → Int32} {it : Nat → Int64} {oc ow bg dp : Int32} {td : Nat → Int32} {lim wou th : Int32} (R : Rc E w (x, st, wk, tl, ta, tf, T, Rw, Ia, F) (n, cl, vs, lk, hd, nr, so, sz, it, oc, ow, bg, dp, td) (lim, wou, th)) : ct_i l E yX3_next wsX3_next 94 0 0 [.ref wk, .null] w (fun r w' => r = 0 ∧ Rc E w' (x, st, wk, tl, ta, tf, T, Rw, Ia, F) (n, cl, vs, lk, hd, nr, so, sz, it, oc, ow, bg, 0, td) (lim, 1, th)) := by
  intro zz
  refine wo_body (Qc := fun A => va_Qi _ (wo_B E A) A) (ret := (some .int)) (by decide) rfl (Nat.le_of_ble_eq_true rfl) ?_
  intro p_ e_ s_ m_ args_ below_ meth_ code_ A_ ls S hret hlk hnm G hl
  have hl : lv_has ls 2 [(0, .ref wk), (1, .null)] := hl
  have hx := S.1
  have hb := S.2.1
  refine lv_aload_n hx hb dX3_next_0 rfl (lv_at hl 0 rfl) ?_
  refine lv_iconst (v := 0) hx hb dX3_next_1 (by decide) ?_
  refine g_put (fs' := [.ref st, .int lim, .int bg, .int 0, .int dp, .int th]) (ty := .int) (v := .int 0) S G (Rc_wk R) rfl tyX3 tyX3_ok nmX3 (by decide +kernel) 3 (by decide) (by decide +kernel) rfl (by decide +kernel) rfl rfl (Nat.le_of_ble_eq_true rfl) rfl dX3_next_2 (fun H locs G => ?_)
  obtain ⟨w, R, G⟩ := Rc_ex (Rc_p_wou R 0) G
  refine lv_aload_n hx hb dX3_next_5 rfl (lv_at hl 0 rfl) ?_
  refine lv_iconst (v := 0) hx hb dX3_next_6 (by decide) ?_
  refine g_put (fs' := [.ref st, .int lim, .int bg, .int 0, .int 0, .int th]) (ty := .int) (v := .int 0) S G (Rc_wk R) rfl tyX3 tyX3_ok nmX3 (by decide +kernel) 4 (by decide) (by decide +kernel) rfl (by decide +kernel) rfl rfl (Nat.le_of_ble_eq_true rfl) rfl dX3_next_7 (fun H locs G => ?_)
  obtain ⟨w, R, G⟩ := Rc_ex (Rc_p_dp R 0) G
  refine lv_aload_n hx hb dX3_next_10 rfl (lv_at hl 0 rfl) ?_
  refine lv_aload_nN hx hb dX3_next_11 rfl (lv_at hl 1 rfl) ?_
  refine lv_iconst (v := 0) hx hb dX3_next_12 (by decide) ?_
  refine g_Vi (n := 2) (rest := []) S G hl (c_X3_begin_n l 30 R 0) gX3_next_X3_begin rfl (by decide +kernel) (Rc_wk R) rfl rfl rfl (Nat.le_of_ble_eq_true rfl) ⟨Nat.le_of_ble_eq_true rfl, Nat.le_of_ble_eq_true rfl⟩ ⟨Nat.le_of_ble_eq_true rfl, Nat.le_of_ble_eq_true rfl⟩ dX3_next_13 ?_
  clear G; intro r_ w1 H locs hp G
  refine r_int S hret hlk G rfl (Nat.le_of_ble_eq_true rfl) (Nat.le_of_ble_eq_true rfl) dX3_next_16 ?_
  exact hp

set_option maxHeartbeats 4000000 in
set_option maxRecDepth 100000 in
theorem c_X3_next (l : Launch) {E : EV} {w : wo} {x st wk tl ta : Nat} {tf : Nat → Option Nat} {T Rw Ia : Nat → Nat} {F : Nat → Nat → Int64} {n : Nat} {cl vs lk hd : Nat → Int32} {nr : Nat} {so sz : Nat → Int32} {it : Nat → Int64} {oc ow bg dp : Int32} {td : Nat → Int32} {lim wou th : Int32} (R : Rc E w (x, st, wk, tl, ta, tf, T, Rw, Ia, F) (n, cl, vs, lk, hd, nr, so, sz, it, oc, ow, bg, dp, td) (lim, wou, th)) (K : Gd (n, cl, vs, lk, hd, nr, so, sz, it, oc, ow, bg, dp, td)) (hbl : bg ≤ lim) {a : Nat} (ha : a < n) : ct_i l E yX3_next wsX3_next 94 0 0 [.ref wk, .ref (T a)] w (fun r w' => ((nm cl vs lk hd so sz it lim 30 a bg).1 = 0 → r = (nm cl vs lk hd so sz it lim 30 a bg).2.1) ∧ Rc E w' (x, st, wk, tl, ta, tf, T, Rw, Ia, F) (n, cl, vs, lk, hd, nr, so, sz, it, oc, ow, (nm cl vs lk hd so sz it lim 30 a bg).2.2.1, (nm cl vs lk hd so sz it lim 30 a bg).2.2.2.1, td) (lim, (nm cl vs lk hd so sz it lim 30 a bg).1, if (nm cl vs lk hd so sz it lim 30 a bg).1 = 7 then (nm cl vs lk hd so sz it lim 30 a bg).2.2.2.2 else th)) := by
  intro zz
  refine wo_body (Qc := fun A => va_Qi _ (wo_B E A) A) (ret := (some .int)) (by decide) rfl (Nat.le_of_ble_eq_true rfl) ?_
  intro p_ e_ s_ m_ args_ below_ meth_ code_ A_ ls S hret hlk hnm G hl
  have hl : lv_has ls 2 [(0, .ref wk), (1, .ref (T a))] := hl
  have hx := S.1
  have hb := S.2.1
  refine lv_aload_n hx hb dX3_next_0 rfl (lv_at hl 0 rfl) ?_
  refine lv_iconst (v := 0) hx hb dX3_next_1 (by decide) ?_
  refine g_put (fs' := [.ref st, .int lim, .int bg, .int 0, .int dp, .int th]) (ty := .int) (v := .int 0) S G (Rc_wk R) rfl tyX3 tyX3_ok nmX3 (by decide +kernel) 3 (by decide) (by decide +kernel) rfl (by decide +kernel) rfl rfl (Nat.le_of_ble_eq_true rfl) rfl dX3_next_2 (fun H locs G => ?_)
  obtain ⟨w, R, G⟩ := Rc_ex (Rc_p_wou R 0) G
  refine lv_aload_n hx hb dX3_next_5 rfl (lv_at hl 0 rfl) ?_
  refine lv_iconst (v := 0) hx hb dX3_next_6 (by decide) ?_
  refine g_put (fs' := [.ref st, .int lim, .int bg, .int 0, .int 0, .int th]) (ty := .int) (v := .int 0) S G (Rc_wk R) rfl tyX3 tyX3_ok nmX3 (by decide +kernel) 4 (by decide) (by decide +kernel) rfl (by decide +kernel) rfl rfl (Nat.le_of_ble_eq_true rfl) rfl dX3_next_7 (fun H locs G => ?_)
  obtain ⟨w, R, G⟩ := Rc_ex (Rc_p_dp R 0) G
  refine lv_aload_n hx hb dX3_next_10 rfl (lv_at hl 0 rfl) ?_
  refine lv_aload_n hx hb dX3_next_11 rfl (lv_at hl 1 rfl) ?_
  refine lv_iconst (v := 0) hx hb dX3_next_12 (by decide) ?_
  refine g_Vi (n := 2) (rest := []) S G hl (c_X3_begin l E 30 R K hbl ha (show 0 + 30 = 30 by omega) (uv := 0) rfl) gX3_next_X3_begin rfl (by decide +kernel) (Rc_wk R) rfl rfl rfl (Nat.le_of_ble_eq_true rfl) ⟨Nat.le_of_ble_eq_true rfl, Nat.le_of_ble_eq_true rfl⟩ ⟨Nat.le_of_ble_eq_true rfl, Nat.le_of_ble_eq_true rfl⟩ dX3_next_13 ?_
  clear G; intro r_ w1 H locs hp G
  refine r_int S hret hlk G rfl (Nat.le_of_ble_eq_true rfl) (Nat.le_of_ble_eq_true rfl) dX3_next_16 ?_
  obtain ⟨h1, R⟩ := hp
  refine ⟨h1, ?_⟩
  by_cases q : (nm cl vs lk hd so sz it lim 30 a bg).1 = 0
  · have q2 := nm_ok 30 a bg q
    rw [if_pos q, if_pos q] at R
    rw [q2]
    rw [q] at R ⊢
    exact R
  · rw [if_neg q, if_neg q] at R
    exact R

set_option maxHeartbeats 4000000 in
set_option maxRecDepth 100000 in
theorem c_X3_first_n (l : Launch) {E : EV} {w : wo} {x st wk tl ta : Nat} {tf : Nat → Option Nat} {T Rw Ia : Nat → Nat} {F : Nat → Nat → Int64} {n : Nat} {cl vs lk hd : Nat → Int32} {nr : Nat} {so sz : Nat → Int32} {it : Nat → Int64} {oc ow bg dp : Int32} {td : Nat → Int32} {lim wou th : Int32} (R : Rc E w (x, st, wk, tl, ta, tf, T, Rw, Ia, F) (n, cl, vs, lk, hd, nr, so, sz, it, oc, ow, bg, dp, td) (lim, wou, th)) (mo : Int32) : ct_i l E yX3_first wsX3_first 95 0 0 [.ref wk, .null, .int mo] w (fun r w' => r = 0 ∧ Rc E w' (x, st, wk, tl, ta, tf, T, Rw, Ia, F) (n, cl, vs, lk, hd, nr, so, sz, it, oc, ow, 0, 0, td) (mo, 1, th)) := by
  intro zz
  refine wo_body (Qc := fun A => va_Qi _ (wo_B E A) A) (ret := (some .int)) (by decide) rfl (Nat.le_of_ble_eq_true rfl) ?_
  intro p_ e_ s_ m_ args_ below_ meth_ code_ A_ ls S hret hlk hnm G hl
  have hl : lv_has ls 3 [(0, .ref wk), (1, .null), (2, .int mo)] := hl
  have hx := S.1
  have hb := S.2.1
  refine lv_aload_n hx hb dX3_first_0 rfl (lv_at hl 0 rfl) ?_
  refine lv_iload_n hx hb dX3_first_1 rfl (lv_at hl 2 rfl) ?_
  refine g_put (fs' := [.ref st, .int mo, .int bg, .int wou, .int dp, .int th]) (ty := .int) (v := .int mo) S G (Rc_wk R) rfl tyX3 tyX3_ok nmX3 (by decide +kernel) 1 (by decide) (by decide +kernel) rfl (by decide +kernel) rfl rfl (Nat.le_of_ble_eq_true rfl) rfl dX3_first_2 (fun H locs G => ?_)
  obtain ⟨w, R, G⟩ := Rc_ex (Rc_p_lim R mo) G
  refine lv_aload_n hx hb dX3_first_5 rfl (lv_at hl 0 rfl) ?_
  refine lv_iconst (v := 0) hx hb dX3_first_6 (by decide) ?_
  refine g_put (fs' := [.ref st, .int mo, .int 0, .int wou, .int dp, .int th]) (ty := .int) (v := .int 0) S G (Rc_wk R) rfl tyX3 tyX3_ok nmX3 (by decide +kernel) 2 (by decide) (by decide +kernel) rfl (by decide +kernel) rfl rfl (Nat.le_of_ble_eq_true rfl) rfl dX3_first_7 (fun H locs G => ?_)
  obtain ⟨w, R, G⟩ := Rc_ex (Rc_p_bg R 0) G
  refine lv_aload_n hx hb dX3_first_10 rfl (lv_at hl 0 rfl) ?_
  refine lv_aload_nN hx hb dX3_first_11 rfl (lv_at hl 1 rfl) ?_
  refine g_Vi (n := 1) (rest := []) S G hl (c_X3_next_n l R) gX3_first_X3_next rfl (by decide +kernel) (Rc_wk R) rfl rfl rfl (Nat.le_of_ble_eq_true rfl) ⟨Nat.le_of_ble_eq_true rfl, Nat.le_of_ble_eq_true rfl⟩ ⟨Nat.le_of_ble_eq_true rfl, Nat.le_of_ble_eq_true rfl⟩ dX3_first_12 ?_
  clear G; intro r_ w1 H locs hp G
  refine r_int S hret hlk G rfl (Nat.le_of_ble_eq_true rfl) (Nat.le_of_ble_eq_true rfl) dX3_first_15 ?_
  exact hp

set_option maxHeartbeats 4000000 in
set_option maxRecDepth 100000 in
theorem c_X3_first (l : Launch) {E : EV} {w : wo} {x st wk tl ta : Nat} {tf : Nat → Option Nat} {T Rw Ia : Nat → Nat} {F : Nat → Nat → Int64} {n : Nat} {cl vs lk hd : Nat → Int32} {nr : Nat} {so sz : Nat → Int32} {it : Nat → Int64} {oc ow bg dp : Int32} {td : Nat → Int32} {lim wou th : Int32} (R : Rc E w (x, st, wk, tl, ta, tf, T, Rw, Ia, F) (n, cl, vs, lk, hd, nr, so, sz, it, oc, ow, bg, dp, td) (lim, wou, th)) (K : Gd (n, cl, vs, lk, hd, nr, so, sz, it, oc, ow, bg, dp, td)) {a : Nat} (ha : a < n) {mo : Int32} (hbl : 0 ≤ mo) : ct_i l E yX3_first wsX3_first 95 0 0 [.ref wk, .ref (T a), .int mo] w (fun r w' => ((nm cl vs lk hd so sz it mo 30 a 0).1 = 0 → r = (nm cl vs lk hd so sz it mo 30 a 0).2.1) ∧ Rc E w' (x, st, wk, tl, ta, tf, T, Rw, Ia, F) (n, cl, vs, lk, hd, nr, so, sz, it, oc, ow, (nm cl vs lk hd so sz it mo 30 a 0).2.2.1, (nm cl vs lk hd so sz it mo 30 a 0).2.2.2.1, td) (mo, (nm cl vs lk hd so sz it mo 30 a 0).1, if (nm cl vs lk hd so sz it mo 30 a 0).1 = 7 then (nm cl vs lk hd so sz it mo 30 a 0).2.2.2.2 else th)) := by
  intro zz
  refine wo_body (Qc := fun A => va_Qi _ (wo_B E A) A) (ret := (some .int)) (by decide) rfl (Nat.le_of_ble_eq_true rfl) ?_
  intro p_ e_ s_ m_ args_ below_ meth_ code_ A_ ls S hret hlk hnm G hl
  have hl : lv_has ls 3 [(0, .ref wk), (1, .ref (T a)), (2, .int mo)] := hl
  have hx := S.1
  have hb := S.2.1
  refine lv_aload_n hx hb dX3_first_0 rfl (lv_at hl 0 rfl) ?_
  refine lv_iload_n hx hb dX3_first_1 rfl (lv_at hl 2 rfl) ?_
  refine g_put (fs' := [.ref st, .int mo, .int bg, .int wou, .int dp, .int th]) (ty := .int) (v := .int mo) S G (Rc_wk R) rfl tyX3 tyX3_ok nmX3 (by decide +kernel) 1 (by decide) (by decide +kernel) rfl (by decide +kernel) rfl rfl (Nat.le_of_ble_eq_true rfl) rfl dX3_first_2 (fun H locs G => ?_)
  obtain ⟨w, R, G⟩ := Rc_ex (Rc_p_lim R mo) G
  refine lv_aload_n hx hb dX3_first_5 rfl (lv_at hl 0 rfl) ?_
  refine lv_iconst (v := 0) hx hb dX3_first_6 (by decide) ?_
  refine g_put (fs' := [.ref st, .int mo, .int 0, .int wou, .int dp, .int th]) (ty := .int) (v := .int 0) S G (Rc_wk R) rfl tyX3 tyX3_ok nmX3 (by decide +kernel) 2 (by decide) (by decide +kernel) rfl (by decide +kernel) rfl rfl (Nat.le_of_ble_eq_true rfl) rfl dX3_first_7 (fun H locs G => ?_)
  obtain ⟨w, R, G⟩ := Rc_ex (Rc_p_bg R 0) G
  refine lv_aload_n hx hb dX3_first_10 rfl (lv_at hl 0 rfl) ?_
  refine lv_aload_n hx hb dX3_first_11 rfl (lv_at hl 1 rfl) ?_
  refine g_Vi (n := 1) (rest := []) S G hl (c_X3_next l R K hbl ha) gX3_first_X3_next rfl (by decide +kernel) (Rc_wk R) rfl rfl rfl (Nat.le_of_ble_eq_true rfl) ⟨Nat.le_of_ble_eq_true rfl, Nat.le_of_ble_eq_true rfl⟩ ⟨Nat.le_of_ble_eq_true rfl, Nat.le_of_ble_eq_true rfl⟩ dX3_first_12 ?_
  clear G; intro r_ w1 H locs hp G
  refine r_int S hret hlk G rfl (Nat.le_of_ble_eq_true rfl) (Nat.le_of_ble_eq_true rfl) dX3_first_15 ?_
  exact hp

set_option maxHeartbeats 4000000 in
set_option maxRecDepth 100000 in
theorem C_run (l : Launch) {E : EV} {w : wo} {x : Nat} {σ : ST} (X : RcX E w x σ) (K : Gd σ) (t : Int32) (li : Int32) : ct_i l E yX4_run wsX4_run 96 0 0 [.ref x, .int t, .int li] w (fun r w' => r = (S_run t li σ).1 ∧ RcX E w' x (S_run t li σ).2) := by
  obtain ⟨st, wk, tl, ta, tf, T, Rw, Ia, F, ⟨lim, wou, th⟩, R⟩ := X
  obtain ⟨n, cl, vs, lk, hd, nr, so, sz, it, oc, ow, bg, dp, td⟩ := σ
  have K9 := K
  obtain ⟨Kn, Kr, Kc, Kl, Kh, Ks, Kz, Ki⟩ := K9
  intro zz
  refine wo_body (Qc := fun A => va_Qi _ (wo_B E A) A) (ret := (some .int)) (by decide) rfl (Nat.le_of_ble_eq_true rfl) ?_
  intro p_ e_ s_ m_ args_ below_ meth_ code_ A_ ls S hret hlk hnm G hl
  have hl : lv_has ls 5 [(0, .ref x), (1, .int t), (2, .int li)] := hl
  have hx := S.1
  have hb := S.2.1
  refine lv_aload_n hx hb dX4_run_0 rfl (lv_at hl 0 rfl) ?_
  refine g_get S G (Rc_x R) rfl (by decide +kernel) 0 (by decide) (by decide +kernel) rfl dX4_run_1 ?_
  refine lv_iload_n hx hb dX4_run_4 rfl (lv_at hl 1 rfl) ?_
  rcases tin_c n t (by omega) with ⟨tk1, ok1⟩ | ⟨k1, hk1, ek1⟩
  · skip
    refine g_Vq (n := 1) (rest := []) S G hl (c_X1_find_n l R Kn ok1) gX4_run_X1_find rfl (by decide +kernel) (Rc_st R) rfl rfl rfl (Nat.le_of_ble_eq_true rfl) ⟨Nat.le_of_ble_eq_true rfl, Nat.le_of_ble_eq_true rfl⟩ ⟨Nat.le_of_ble_eq_true rfl, Nat.le_of_ble_eq_true rfl⟩ dX4_run_5 ?_
    clear G; intro r_ w1 H locs hp G
    obtain ⟨rfl, rfl⟩ := hp
    refine W.eq (g2 := F0 m_ 8 ls [.null]) rfl ?_
    refine lv_astore_nN (lv' := [(3, .null), (0, .ref x), (1, .int t), (2, .int li)]) hx hb dX4_run_8 rfl hl (by decide) rfl (fun ls hl => ?_)
    refine lv_aload_nN hx hb dX4_run_9 rfl (lv_at hl 0 rfl) ?_
    refine lv_ifnullN (tgt := 20) hx hb dX4_run_10 (by decide) ?_
    refine lv_ldc hx hb S.2.2.2.1 (S.2.2.2.2 (.constant RX4 33 (-2000000001)) (by decide +kernel)) dX4_run_20 ?_
    refine r_int S hret hlk G rfl (Nat.le_of_ble_eq_true rfl) (Nat.le_of_ble_eq_true rfl) dX4_run_22 ?_
    refine ⟨by simp only [S_run, tk1, n_of, lk_of, vs_of, hd_of, nmS, s_end, put_vs, put_it, ↓reduceIte, Bool.false_eq_true, pk_us, and_self], ?_⟩
    simp only [S_run, tk1, n_of, lk_of, vs_of, hd_of, nmS, s_end, put_vs, put_it, ↓reduceIte, Bool.false_eq_true, pk_us, and_self]
    exact ⟨_, _, _, _, _, _, _, _, _, _, R⟩
  · skip
    refine g_Vq (n := 1) (rest := []) S G hl (c_X1_find_y l R Kn ek1 hk1) gX4_run_X1_find rfl (by decide +kernel) (Rc_st R) rfl rfl rfl (Nat.le_of_ble_eq_true rfl) ⟨Nat.le_of_ble_eq_true rfl, Nat.le_of_ble_eq_true rfl⟩ ⟨Nat.le_of_ble_eq_true rfl, Nat.le_of_ble_eq_true rfl⟩ dX4_run_5 ?_
    clear G; intro r_ w1 H locs hp G
    obtain ⟨rfl, rfl⟩ := hp
    refine W.eq (g2 := F0 m_ 8 ls [.ref (T k1)]) rfl ?_
    refine lv_astore_n (lv' := [(3, .ref (T k1)), (0, .ref x), (1, .int t), (2, .int li)]) hx hb dX4_run_8 rfl hl (by decide) rfl (fun ls hl => ?_)
    refine lv_aload_n hx hb dX4_run_9 rfl (lv_at hl 0 rfl) ?_
    refine lv_ifnull hx hb dX4_run_10 ?_
    refine lv_iload_n hx hb dX4_run_13 rfl (lv_at hl 3 rfl) ?_
    by_cases ql : lin li = true
    · skip
      refine g_Si (n := 1) (rest := []) S G hl (c_X4_isLimit l li) gX4_run_X4_isLimit rfl (by decide +kernel) rfl rfl (Nat.le_of_ble_eq_true rfl) ⟨Nat.le_of_ble_eq_true rfl, Nat.le_of_ble_eq_true rfl⟩ ⟨Nat.le_of_ble_eq_true rfl, Nat.le_of_ble_eq_true rfl⟩ dX4_run_14 ?_
      clear G; intro r_ w1 H locs hp G
      obtain ⟨rfl, hq_⟩ := hp
      rw [if_pos ql] at hq_
      subst hq_
      refine lv_if_ne (tgt := 23) hx hb dX4_run_17 (by decide) (fun c2 => ?_) (fun c2 => absurd c2 (by decide))
      refine lv_aload_n hx hb dX4_run_23 rfl (lv_at hl 1 rfl) ?_
      refine g_get S G (Rc_x R) rfl (by decide +kernel) 1 (by decide) (by decide +kernel) rfl dX4_run_24 ?_
      refine lv_aload_n hx hb dX4_run_27 rfl (lv_at hl 0 rfl) ?_
      refine lv_iload_n hx hb dX4_run_28 rfl (lv_at hl 3 rfl) ?_
      refine g_Vi (n := 2) (rest := []) S G hl (c_X3_first l R K hk1 (lin_pos ql)) gX4_run_X3_first rfl (by decide +kernel) (Rc_wk R) rfl rfl rfl (Nat.le_of_ble_eq_true rfl) ⟨Nat.le_of_ble_eq_true rfl, Nat.le_of_ble_eq_true rfl⟩ ⟨Nat.le_of_ble_eq_true rfl, Nat.le_of_ble_eq_true rfl⟩ dX4_run_29 ?_
      clear G; intro v3 w1 H locs hp G
      have hoq4 := nm_o (cl := cl) (vs := vs) (lk := lk) (hd := hd) (so := so) (sz := sz) (it := it) (lim := li) 30 k1 0
      have hbq4 := nm_bg (cl := cl) (vs := vs) (lk := lk) (hd := hd) (so := so) (sz := sz) (it := it) (lim := li) 30 k1 0 (lin_pos ql)
      generalize hQq4 : nm cl vs lk hd so sz it li 30 k1 0 = q4 at hp hoq4 hbq4
      obtain ⟨oq4, rq4, bq4, dq4, tq4⟩ := q4
      obtain ⟨hv3, R⟩ := hp
      dsimp only at hv3 R hoq4 hbq4
      obtain ⟨jq4, hjq4, ejq4⟩ := hoq4
      refine lv_istore (lv' := [(4, .int v3), (3, .ref (T k1)), (0, .ref x), (1, .int t), (2, .int li)]) hx hb dX4_run_32 hl (by decide) rfl (fun ls hl => ?_)
      refine lv_aload_n hx hb dX4_run_34 rfl (lv_at hl 2 rfl) ?_
      refine lv_aload_n hx hb dX4_run_35 rfl (lv_at hl 2 rfl) ?_
      refine g_get S G (Rc_x R) rfl (by decide +kernel) 1 (by decide) (by decide +kernel) rfl dX4_run_36 ?_
      refine g_get S G (Rc_wk R) rfl (by decide +kernel) 3 (by decide) (by decide +kernel) rfl dX4_run_39 ?_
      refine g_Vi (n := 1) (rest := []) S G hl (c_X4_tell l R (o := oq4) ejq4 hjq4) gX4_run_X4_tell rfl (by decide +kernel) (Rc_x R) rfl rfl rfl (Nat.le_of_ble_eq_true rfl) ⟨Nat.le_of_ble_eq_true rfl, Nat.le_of_ble_eq_true rfl⟩ ⟨Nat.le_of_ble_eq_true rfl, Nat.le_of_ble_eq_true rfl⟩ dX4_run_42 ?_
      clear G; intro r_ w1 H locs hp G
      obtain ⟨hr_, R⟩ := hp
      subst r_
      refine lv_if_ne (tgt := 53) hx hb dX4_run_45 (by decide) (fun c5 => ?_) (fun c5 => ?_)
      · skip
        refine lv_iconst (v := 0) hx hb dX4_run_53 (by decide) ?_
        refine r_int S hret hlk G rfl (Nat.le_of_ble_eq_true rfl) (Nat.le_of_ble_eq_true rfl) dX4_run_54 ?_
        have yk1 := tin_e ek1 hk1 (show n ≤ 1000 by omega)
        have zk1 := cn_e ek1 (show k1 < 1000 by omega)
        rw [ow_eq] at R
        refine ⟨by simp only [S_run, yk1, zk1, ql, hQq4, n_of, lk_of, vs_of, hd_of, nmS, s_end, put_vs, put_it, ↓reduceIte, Bool.false_eq_true, pk_us, and_self, c5], ?_⟩
        simp only [S_run, yk1, zk1, ql, hQq4, n_of, lk_of, vs_of, hd_of, nmS, s_end, put_vs, put_it, ↓reduceIte, Bool.false_eq_true, pk_us, and_self]
        exact ⟨_, _, _, _, _, _, _, _, _, _, R⟩
      · skip
        refine lv_iload hx hb dX4_run_48 (lv_at hl 0 rfl) ?_
        refine lv_goto (tgt := 54) hx hb dX4_run_50 (by decide) ?_
        refine r_int S hret hlk G rfl (Nat.le_of_ble_eq_true rfl) (Nat.le_of_ble_eq_true rfl) dX4_run_54 ?_
        have yk1 := tin_e ek1 hk1 (show n ≤ 1000 by omega)
        have zk1 := cn_e ek1 (show k1 < 1000 by omega)
        rw [ow_eq] at R
        refine ⟨by simp only [S_run, yk1, zk1, ql, hQq4, n_of, lk_of, vs_of, hd_of, nmS, s_end, put_vs, put_it, ↓reduceIte, Bool.false_eq_true, pk_us, and_self]; rw [if_pos c5]; exact hv3 c5, ?_⟩
        simp only [S_run, yk1, zk1, ql, hQq4, n_of, lk_of, vs_of, hd_of, nmS, s_end, put_vs, put_it, ↓reduceIte, Bool.false_eq_true, pk_us, and_self]
        exact ⟨_, _, _, _, _, _, _, _, _, _, R⟩
    · skip
      refine g_Si (n := 1) (rest := []) S G hl (c_X4_isLimit l li) gX4_run_X4_isLimit rfl (by decide +kernel) rfl rfl (Nat.le_of_ble_eq_true rfl) ⟨Nat.le_of_ble_eq_true rfl, Nat.le_of_ble_eq_true rfl⟩ ⟨Nat.le_of_ble_eq_true rfl, Nat.le_of_ble_eq_true rfl⟩ dX4_run_14 ?_
      clear G; intro r_ w1 H locs hp G
      obtain ⟨rfl, hq_⟩ := hp
      rw [if_neg ql] at hq_
      subst hq_
      refine lv_if_ne (tgt := 23) hx hb dX4_run_17 (by decide) (fun c6 => absurd (by decide) c6) (fun c6 => ?_)
      refine lv_ldc hx hb S.2.2.2.1 (S.2.2.2.2 (.constant RX4 33 (-2000000001)) (by decide +kernel)) dX4_run_20 ?_
      refine r_int S hret hlk G rfl (Nat.le_of_ble_eq_true rfl) (Nat.le_of_ble_eq_true rfl) dX4_run_22 ?_
      have yk1 := tin_e ek1 hk1 (show n ≤ 1000 by omega)
      have zk1 := cn_e ek1 (show k1 < 1000 by omega)
      refine ⟨by simp only [S_run, yk1, zk1, ql, n_of, lk_of, vs_of, hd_of, nmS, s_end, put_vs, put_it, ↓reduceIte, Bool.false_eq_true, pk_us, and_self], ?_⟩
      simp only [S_run, yk1, zk1, ql, n_of, lk_of, vs_of, hd_of, nmS, s_end, put_vs, put_it, ↓reduceIte, Bool.false_eq_true, pk_us, and_self]
      exact ⟨_, _, _, _, _, _, _, _, _, _, R⟩

set_option maxHeartbeats 4000000 in
set_option maxRecDepth 100000 in
theorem C_either (l : Launch) {E : EV} {w : wo} {x : Nat} {σ : ST} (X : RcX E w x σ) (K : Gd σ) (t : Int32) (o : Int32) (li : Int32) : ct_i l E yX4_either wsX4_either 96 0 0 [.ref x, .int t, .int o, .int li] w (fun r w' => r = (S_either t o li σ).1 ∧ RcX E w' x (S_either t o li σ).2) := by
  obtain ⟨st, wk, tl, ta, tf, T, Rw, Ia, F, ⟨lim, wou, th⟩, R⟩ := X
  obtain ⟨n, cl, vs, lk, hd, nr, so, sz, it, oc, ow, bg, dp, td⟩ := σ
  have K9 := K
  obtain ⟨Kn, Kr, Kc, Kl, Kh, Ks, Kz, Ki⟩ := K9
  intro zz
  refine wo_body (Qc := fun A => va_Qi _ (wo_B E A) A) (ret := (some .int)) (by decide) rfl (Nat.le_of_ble_eq_true rfl) ?_
  intro p_ e_ s_ m_ args_ below_ meth_ code_ A_ ls S hret hlk hnm G hl
  have hl : lv_has ls 7 [(0, .ref x), (1, .int t), (2, .int o), (3, .int li)] := hl
  have hx := S.1
  have hb := S.2.1
  refine lv_aload_n hx hb dX4_either_0 rfl (lv_at hl 0 rfl) ?_
  refine g_get S G (Rc_x R) rfl (by decide +kernel) 0 (by decide) (by decide +kernel) rfl dX4_either_1 ?_
  refine lv_iload_n hx hb dX4_either_4 rfl (lv_at hl 1 rfl) ?_
  rcases tin_c n t (by omega) with ⟨tk1, ok1⟩ | ⟨k1, hk1, ek1⟩
  · skip
    refine g_Vq (n := 1) (rest := []) S G hl (c_X1_find_n l R Kn ok1) gX4_either_X1_find rfl (by decide +kernel) (Rc_st R) rfl rfl rfl (Nat.le_of_ble_eq_true rfl) ⟨Nat.le_of_ble_eq_true rfl, Nat.le_of_ble_eq_true rfl⟩ ⟨Nat.le_of_ble_eq_true rfl, Nat.le_of_ble_eq_true rfl⟩ dX4_either_5 ?_
    clear G; intro r_ w1 H locs hp G
    obtain ⟨rfl, rfl⟩ := hp
    refine W.eq (g2 := F0 m_ 8 ls [.null]) rfl ?_
    refine lv_astoreN (lv' := [(4, .null), (0, .ref x), (1, .int t), (2, .int o), (3, .int li)]) hx hb dX4_either_8 hl (by decide) rfl (fun ls hl => ?_)
    refine lv_aload_n hx hb dX4_either_10 rfl (lv_at hl 1 rfl) ?_
    refine g_get S G (Rc_x R) rfl (by decide +kernel) 0 (by decide) (by decide +kernel) rfl dX4_either_11 ?_
    refine lv_iload_n hx hb dX4_either_14 rfl (lv_at hl 3 rfl) ?_
    rcases tin_c n o (by omega) with ⟨tk2, ok2⟩ | ⟨k2, hk2, ek2⟩
    · skip
      refine g_Vq (n := 1) (rest := []) S G hl (c_X1_find_n l R Kn ok2) gX4_either_X1_find rfl (by decide +kernel) (Rc_st R) rfl rfl rfl (Nat.le_of_ble_eq_true rfl) ⟨Nat.le_of_ble_eq_true rfl, Nat.le_of_ble_eq_true rfl⟩ ⟨Nat.le_of_ble_eq_true rfl, Nat.le_of_ble_eq_true rfl⟩ dX4_either_15 ?_
      clear G; intro r_ w1 H locs hp G
      obtain ⟨rfl, rfl⟩ := hp
      refine W.eq (g2 := F0 m_ 18 ls [.null]) rfl ?_
      refine lv_astoreN (lv' := [(5, .null), (4, .null), (0, .ref x), (1, .int t), (2, .int o), (3, .int li)]) hx hb dX4_either_18 hl (by decide) rfl (fun ls hl => ?_)
      refine lv_aloadN hx hb dX4_either_20 (lv_at hl 1 rfl) ?_
      refine lv_ifnullN (tgt := 37) hx hb dX4_either_22 (by decide) ?_
      refine lv_ldc hx hb S.2.2.2.1 (S.2.2.2.2 (.constant RX4 33 (-2000000001)) (by decide +kernel)) dX4_either_37 ?_
      refine r_int S hret hlk G rfl (Nat.le_of_ble_eq_true rfl) (Nat.le_of_ble_eq_true rfl) dX4_either_39 ?_
      refine ⟨by simp only [S_either, tk1, tk2, n_of, lk_of, vs_of, hd_of, nmS, s_end, put_vs, put_it, ↓reduceIte, Bool.false_eq_true, pk_us, and_self], ?_⟩
      simp only [S_either, tk1, tk2, n_of, lk_of, vs_of, hd_of, nmS, s_end, put_vs, put_it, ↓reduceIte, Bool.false_eq_true, pk_us, and_self]
      exact ⟨_, _, _, _, _, _, _, _, _, _, R⟩
    · skip
      refine g_Vq (n := 1) (rest := []) S G hl (c_X1_find_y l R Kn ek2 hk2) gX4_either_X1_find rfl (by decide +kernel) (Rc_st R) rfl rfl rfl (Nat.le_of_ble_eq_true rfl) ⟨Nat.le_of_ble_eq_true rfl, Nat.le_of_ble_eq_true rfl⟩ ⟨Nat.le_of_ble_eq_true rfl, Nat.le_of_ble_eq_true rfl⟩ dX4_either_15 ?_
      clear G; intro r_ w1 H locs hp G
      obtain ⟨rfl, rfl⟩ := hp
      refine W.eq (g2 := F0 m_ 18 ls [.ref (T k2)]) rfl ?_
      refine lv_astore (lv' := [(5, .ref (T k2)), (4, .null), (0, .ref x), (1, .int t), (2, .int o), (3, .int li)]) hx hb dX4_either_18 hl (by decide) rfl (fun ls hl => ?_)
      refine lv_aloadN hx hb dX4_either_20 (lv_at hl 1 rfl) ?_
      refine lv_ifnullN (tgt := 37) hx hb dX4_either_22 (by decide) ?_
      refine lv_ldc hx hb S.2.2.2.1 (S.2.2.2.2 (.constant RX4 33 (-2000000001)) (by decide +kernel)) dX4_either_37 ?_
      refine r_int S hret hlk G rfl (Nat.le_of_ble_eq_true rfl) (Nat.le_of_ble_eq_true rfl) dX4_either_39 ?_
      have yk2 := tin_e ek2 hk2 (show n ≤ 1000 by omega)
      have zk2 := cn_e ek2 (show k2 < 1000 by omega)
      refine ⟨by simp only [S_either, tk1, yk2, zk2, n_of, lk_of, vs_of, hd_of, nmS, s_end, put_vs, put_it, ↓reduceIte, Bool.false_eq_true, pk_us, and_self], ?_⟩
      simp only [S_either, tk1, yk2, zk2, n_of, lk_of, vs_of, hd_of, nmS, s_end, put_vs, put_it, ↓reduceIte, Bool.false_eq_true, pk_us, and_self]
      exact ⟨_, _, _, _, _, _, _, _, _, _, R⟩
  · skip
    refine g_Vq (n := 1) (rest := []) S G hl (c_X1_find_y l R Kn ek1 hk1) gX4_either_X1_find rfl (by decide +kernel) (Rc_st R) rfl rfl rfl (Nat.le_of_ble_eq_true rfl) ⟨Nat.le_of_ble_eq_true rfl, Nat.le_of_ble_eq_true rfl⟩ ⟨Nat.le_of_ble_eq_true rfl, Nat.le_of_ble_eq_true rfl⟩ dX4_either_5 ?_
    clear G; intro r_ w1 H locs hp G
    obtain ⟨rfl, rfl⟩ := hp
    refine W.eq (g2 := F0 m_ 8 ls [.ref (T k1)]) rfl ?_
    refine lv_astore (lv' := [(4, .ref (T k1)), (0, .ref x), (1, .int t), (2, .int o), (3, .int li)]) hx hb dX4_either_8 hl (by decide) rfl (fun ls hl => ?_)
    refine lv_aload_n hx hb dX4_either_10 rfl (lv_at hl 1 rfl) ?_
    refine g_get S G (Rc_x R) rfl (by decide +kernel) 0 (by decide) (by decide +kernel) rfl dX4_either_11 ?_
    refine lv_iload_n hx hb dX4_either_14 rfl (lv_at hl 3 rfl) ?_
    rcases tin_c n o (by omega) with ⟨tk3, ok3⟩ | ⟨k3, hk3, ek3⟩
    · skip
      refine g_Vq (n := 1) (rest := []) S G hl (c_X1_find_n l R Kn ok3) gX4_either_X1_find rfl (by decide +kernel) (Rc_st R) rfl rfl rfl (Nat.le_of_ble_eq_true rfl) ⟨Nat.le_of_ble_eq_true rfl, Nat.le_of_ble_eq_true rfl⟩ ⟨Nat.le_of_ble_eq_true rfl, Nat.le_of_ble_eq_true rfl⟩ dX4_either_15 ?_
      clear G; intro r_ w1 H locs hp G
      obtain ⟨rfl, rfl⟩ := hp
      refine W.eq (g2 := F0 m_ 18 ls [.null]) rfl ?_
      refine lv_astoreN (lv' := [(5, .null), (4, .ref (T k1)), (0, .ref x), (1, .int t), (2, .int o), (3, .int li)]) hx hb dX4_either_18 hl (by decide) rfl (fun ls hl => ?_)
      refine lv_aload hx hb dX4_either_20 (lv_at hl 1 rfl) ?_
      refine lv_ifnull hx hb dX4_either_22 ?_
      refine lv_aloadN hx hb dX4_either_25 (lv_at hl 0 rfl) ?_
      refine lv_ifnullN (tgt := 37) hx hb dX4_either_27 (by decide) ?_
      refine lv_ldc hx hb S.2.2.2.1 (S.2.2.2.2 (.constant RX4 33 (-2000000001)) (by decide +kernel)) dX4_either_37 ?_
      refine r_int S hret hlk G rfl (Nat.le_of_ble_eq_true rfl) (Nat.le_of_ble_eq_true rfl) dX4_either_39 ?_
      have yk1 := tin_e ek1 hk1 (show n ≤ 1000 by omega)
      have zk1 := cn_e ek1 (show k1 < 1000 by omega)
      refine ⟨by simp only [S_either, yk1, zk1, tk3, n_of, lk_of, vs_of, hd_of, nmS, s_end, put_vs, put_it, ↓reduceIte, Bool.false_eq_true, pk_us, and_self], ?_⟩
      simp only [S_either, yk1, zk1, tk3, n_of, lk_of, vs_of, hd_of, nmS, s_end, put_vs, put_it, ↓reduceIte, Bool.false_eq_true, pk_us, and_self]
      exact ⟨_, _, _, _, _, _, _, _, _, _, R⟩
    · skip
      refine g_Vq (n := 1) (rest := []) S G hl (c_X1_find_y l R Kn ek3 hk3) gX4_either_X1_find rfl (by decide +kernel) (Rc_st R) rfl rfl rfl (Nat.le_of_ble_eq_true rfl) ⟨Nat.le_of_ble_eq_true rfl, Nat.le_of_ble_eq_true rfl⟩ ⟨Nat.le_of_ble_eq_true rfl, Nat.le_of_ble_eq_true rfl⟩ dX4_either_15 ?_
      clear G; intro r_ w1 H locs hp G
      obtain ⟨rfl, rfl⟩ := hp
      refine W.eq (g2 := F0 m_ 18 ls [.ref (T k3)]) rfl ?_
      refine lv_astore (lv' := [(5, .ref (T k3)), (4, .ref (T k1)), (0, .ref x), (1, .int t), (2, .int o), (3, .int li)]) hx hb dX4_either_18 hl (by decide) rfl (fun ls hl => ?_)
      refine lv_aload hx hb dX4_either_20 (lv_at hl 1 rfl) ?_
      refine lv_ifnull hx hb dX4_either_22 ?_
      refine lv_aload hx hb dX4_either_25 (lv_at hl 0 rfl) ?_
      refine lv_ifnull hx hb dX4_either_27 ?_
      refine lv_iload_n hx hb dX4_either_30 rfl (lv_at hl 5 rfl) ?_
      by_cases ql : lin li = true
      · skip
        refine g_Si (n := 1) (rest := []) S G hl (c_X4_isLimit l li) gX4_either_X4_isLimit rfl (by decide +kernel) rfl rfl (Nat.le_of_ble_eq_true rfl) ⟨Nat.le_of_ble_eq_true rfl, Nat.le_of_ble_eq_true rfl⟩ ⟨Nat.le_of_ble_eq_true rfl, Nat.le_of_ble_eq_true rfl⟩ dX4_either_31 ?_
        clear G; intro r_ w1 H locs hp G
        obtain ⟨rfl, hq_⟩ := hp
        rw [if_pos ql] at hq_
        subst hq_
        refine lv_if_ne (tgt := 40) hx hb dX4_either_34 (by decide) (fun c4 => ?_) (fun c4 => absurd c4 (by decide))
        refine lv_aload_n hx hb dX4_either_40 rfl (lv_at hl 2 rfl) ?_
        refine g_get S G (Rc_x R) rfl (by decide +kernel) 1 (by decide) (by decide +kernel) rfl dX4_either_41 ?_
        refine lv_aload hx hb dX4_either_44 (lv_at hl 1 rfl) ?_
        refine lv_iload_n hx hb dX4_either_46 rfl (lv_at hl 5 rfl) ?_
        refine g_Vi (n := 2) (rest := []) S G hl (c_X3_first l R K hk1 (lin_pos ql)) gX4_either_X3_first rfl (by decide +kernel) (Rc_wk R) rfl rfl rfl (Nat.le_of_ble_eq_true rfl) ⟨Nat.le_of_ble_eq_true rfl, Nat.le_of_ble_eq_true rfl⟩ ⟨Nat.le_of_ble_eq_true rfl, Nat.le_of_ble_eq_true rfl⟩ dX4_either_47 ?_
        clear G; intro v5 w1 H locs hp G
        have hoq6 := nm_o (cl := cl) (vs := vs) (lk := lk) (hd := hd) (so := so) (sz := sz) (it := it) (lim := li) 30 k1 0
        have hbq6 := nm_bg (cl := cl) (vs := vs) (lk := lk) (hd := hd) (so := so) (sz := sz) (it := it) (lim := li) 30 k1 0 (lin_pos ql)
        generalize hQq6 : nm cl vs lk hd so sz it li 30 k1 0 = q6 at hp hoq6 hbq6
        obtain ⟨oq6, rq6, bq6, dq6, tq6⟩ := q6
        obtain ⟨hv5, R⟩ := hp
        dsimp only at hv5 R hoq6 hbq6
        obtain ⟨jq6, hjq6, ejq6⟩ := hoq6
        refine lv_istore (lv' := [(6, .int v5), (5, .ref (T k3)), (4, .ref (T k1)), (0, .ref x), (1, .int t), (2, .int o), (3, .int li)]) hx hb dX4_either_50 hl (by decide) rfl (fun ls hl => ?_)
        refine lv_aload_n hx hb dX4_either_52 rfl (lv_at hl 3 rfl) ?_
        refine g_get S G (Rc_x R) rfl (by decide +kernel) 1 (by decide) (by decide +kernel) rfl dX4_either_53 ?_
        refine g_get S G (Rc_wk R) rfl (by decide +kernel) 3 (by decide) (by decide +kernel) rfl dX4_either_56 ?_
        refine lv_iconst (v := 1) hx hb dX4_either_59 (by decide) ?_
        refine lv_icmp_lt (tgt := 86) hx hb dX4_either_60 (by decide) (fun c7 => ?_) (fun c7 => ?_)
        · skip
          refine lv_aload_n hx hb dX4_either_86 rfl (lv_at hl 3 rfl) ?_
          refine lv_aload_n hx hb dX4_either_87 rfl (lv_at hl 3 rfl) ?_
          refine g_get S G (Rc_x R) rfl (by decide +kernel) 1 (by decide) (by decide +kernel) rfl dX4_either_88 ?_
          refine g_get S G (Rc_wk R) rfl (by decide +kernel) 3 (by decide) (by decide +kernel) rfl dX4_either_91 ?_
          refine g_Vi (n := 1) (rest := []) S G hl (c_X4_tell l R (o := oq6) ejq6 hjq6) gX4_either_X4_tell rfl (by decide +kernel) (Rc_x R) rfl rfl rfl (Nat.le_of_ble_eq_true rfl) ⟨Nat.le_of_ble_eq_true rfl, Nat.le_of_ble_eq_true rfl⟩ ⟨Nat.le_of_ble_eq_true rfl, Nat.le_of_ble_eq_true rfl⟩ dX4_either_94 ?_
          clear G; intro r_ w1 H locs hp G
          obtain ⟨hr_, R⟩ := hp
          subst r_
          refine lv_if_ne (tgt := 105) hx hb dX4_either_97 (by decide) (fun c8 => ?_) (fun c8 => ?_)
          · skip
            refine lv_iconst (v := 0) hx hb dX4_either_105 (by decide) ?_
            refine r_int S hret hlk G rfl (Nat.le_of_ble_eq_true rfl) (Nat.le_of_ble_eq_true rfl) dX4_either_106 ?_
            have yk1 := tin_e ek1 hk1 (show n ≤ 1000 by omega)
            have zk1 := cn_e ek1 (show k1 < 1000 by omega)
            have yk3 := tin_e ek3 hk3 (show n ≤ 1000 by omega)
            have zk3 := cn_e ek3 (show k3 < 1000 by omega)
            have e9 : ¬ (1 ≤ oq6 ∧ oq6 ≤ 7) := fun z => Int32.not_lt.mpr z.1 c7
            rw [ow_eq] at R
            refine ⟨by simp only [S_either, yk1, zk1, yk3, zk3, ql, hQq6, e9, n_of, lk_of, vs_of, hd_of, nmS, s_end, put_vs, put_it, ↓reduceIte, Bool.false_eq_true, pk_us, and_self, c8], ?_⟩
            simp only [S_either, yk1, zk1, yk3, zk3, ql, hQq6, e9, n_of, lk_of, vs_of, hd_of, nmS, s_end, put_vs, put_it, ↓reduceIte, Bool.false_eq_true, pk_us, and_self]
            exact ⟨_, _, _, _, _, _, _, _, _, _, R⟩
          · skip
            refine lv_iload hx hb dX4_either_100 (lv_at hl 0 rfl) ?_
            refine lv_goto (tgt := 106) hx hb dX4_either_102 (by decide) ?_
            refine r_int S hret hlk G rfl (Nat.le_of_ble_eq_true rfl) (Nat.le_of_ble_eq_true rfl) dX4_either_106 ?_
            have yk1 := tin_e ek1 hk1 (show n ≤ 1000 by omega)
            have zk1 := cn_e ek1 (show k1 < 1000 by omega)
            have yk3 := tin_e ek3 hk3 (show n ≤ 1000 by omega)
            have zk3 := cn_e ek3 (show k3 < 1000 by omega)
            have e9 : ¬ (1 ≤ oq6 ∧ oq6 ≤ 7) := fun z => Int32.not_lt.mpr z.1 c7
            rw [ow_eq] at R
            refine ⟨by simp only [S_either, yk1, zk1, yk3, zk3, ql, hQq6, e9, n_of, lk_of, vs_of, hd_of, nmS, s_end, put_vs, put_it, ↓reduceIte, Bool.false_eq_true, pk_us, and_self]; rw [if_pos c8]; exact hv5 c8, ?_⟩
            simp only [S_either, yk1, zk1, yk3, zk3, ql, hQq6, e9, n_of, lk_of, vs_of, hd_of, nmS, s_end, put_vs, put_it, ↓reduceIte, Bool.false_eq_true, pk_us, and_self]
            exact ⟨_, _, _, _, _, _, _, _, _, _, R⟩
        · skip
          refine lv_aload_n hx hb dX4_either_63 rfl (lv_at hl 3 rfl) ?_
          refine g_get S G (Rc_x R) rfl (by decide +kernel) 1 (by decide) (by decide +kernel) rfl dX4_either_64 ?_
          refine g_get S G (Rc_wk R) rfl (by decide +kernel) 3 (by decide) (by decide +kernel) rfl dX4_either_67 ?_
          refine lv_bipush (v := 7) hx hb dX4_either_70 (by decide) ?_
          refine lv_icmp_gt (tgt := 86) hx hb dX4_either_72 (by decide) (fun c9 => ?_) (fun c9 => ?_)
          · skip
            refine lv_aload_n hx hb dX4_either_86 rfl (lv_at hl 3 rfl) ?_
            refine lv_aload_n hx hb dX4_either_87 rfl (lv_at hl 3 rfl) ?_
            refine g_get S G (Rc_x R) rfl (by decide +kernel) 1 (by decide) (by decide +kernel) rfl dX4_either_88 ?_
            refine g_get S G (Rc_wk R) rfl (by decide +kernel) 3 (by decide) (by decide +kernel) rfl dX4_either_91 ?_
            refine g_Vi (n := 1) (rest := []) S G hl (c_X4_tell l R (o := oq6) ejq6 hjq6) gX4_either_X4_tell rfl (by decide +kernel) (Rc_x R) rfl rfl rfl (Nat.le_of_ble_eq_true rfl) ⟨Nat.le_of_ble_eq_true rfl, Nat.le_of_ble_eq_true rfl⟩ ⟨Nat.le_of_ble_eq_true rfl, Nat.le_of_ble_eq_true rfl⟩ dX4_either_94 ?_
            clear G; intro r_ w1 H locs hp G
            obtain ⟨hr_, R⟩ := hp
            subst r_
            refine lv_if_ne (tgt := 105) hx hb dX4_either_97 (by decide) (fun c10 => ?_) (fun c10 => ?_)
            · skip
              refine lv_iconst (v := 0) hx hb dX4_either_105 (by decide) ?_
              refine r_int S hret hlk G rfl (Nat.le_of_ble_eq_true rfl) (Nat.le_of_ble_eq_true rfl) dX4_either_106 ?_
              have yk1 := tin_e ek1 hk1 (show n ≤ 1000 by omega)
              have zk1 := cn_e ek1 (show k1 < 1000 by omega)
              have yk3 := tin_e ek3 hk3 (show n ≤ 1000 by omega)
              have zk3 := cn_e ek3 (show k3 < 1000 by omega)
              have e9 : ¬ (1 ≤ oq6 ∧ oq6 ≤ 7) := fun z => Int32.not_lt.mpr z.2 c9
              rw [ow_eq] at R
              refine ⟨by simp only [S_either, yk1, zk1, yk3, zk3, ql, hQq6, e9, n_of, lk_of, vs_of, hd_of, nmS, s_end, put_vs, put_it, ↓reduceIte, Bool.false_eq_true, pk_us, and_self, c10], ?_⟩
              simp only [S_either, yk1, zk1, yk3, zk3, ql, hQq6, e9, n_of, lk_of, vs_of, hd_of, nmS, s_end, put_vs, put_it, ↓reduceIte, Bool.false_eq_true, pk_us, and_self]
              exact ⟨_, _, _, _, _, _, _, _, _, _, R⟩
            · skip
              refine lv_iload hx hb dX4_either_100 (lv_at hl 0 rfl) ?_
              refine lv_goto (tgt := 106) hx hb dX4_either_102 (by decide) ?_
              refine r_int S hret hlk G rfl (Nat.le_of_ble_eq_true rfl) (Nat.le_of_ble_eq_true rfl) dX4_either_106 ?_
              have yk1 := tin_e ek1 hk1 (show n ≤ 1000 by omega)
              have zk1 := cn_e ek1 (show k1 < 1000 by omega)
              have yk3 := tin_e ek3 hk3 (show n ≤ 1000 by omega)
              have zk3 := cn_e ek3 (show k3 < 1000 by omega)
              have e9 : ¬ (1 ≤ oq6 ∧ oq6 ≤ 7) := fun z => Int32.not_lt.mpr z.2 c9
              rw [ow_eq] at R
              refine ⟨by simp only [S_either, yk1, zk1, yk3, zk3, ql, hQq6, e9, n_of, lk_of, vs_of, hd_of, nmS, s_end, put_vs, put_it, ↓reduceIte, Bool.false_eq_true, pk_us, and_self]; rw [if_pos c10]; exact hv5 c10, ?_⟩
              simp only [S_either, yk1, zk1, yk3, zk3, ql, hQq6, e9, n_of, lk_of, vs_of, hd_of, nmS, s_end, put_vs, put_it, ↓reduceIte, Bool.false_eq_true, pk_us, and_self]
              exact ⟨_, _, _, _, _, _, _, _, _, _, R⟩
          · skip
            refine lv_aload_n hx hb dX4_either_75 rfl (lv_at hl 3 rfl) ?_
            refine g_get S G (Rc_x R) rfl (by decide +kernel) 1 (by decide) (by decide +kernel) rfl dX4_either_76 ?_
            refine lv_aload hx hb dX4_either_79 (lv_at hl 1 rfl) ?_
            refine g_Vi (n := 1) (rest := []) S G hl (c_X3_next l R K hbq6 hk3) gX4_either_X3_next rfl (by decide +kernel) (Rc_wk R) rfl rfl rfl (Nat.le_of_ble_eq_true rfl) ⟨Nat.le_of_ble_eq_true rfl, Nat.le_of_ble_eq_true rfl⟩ ⟨Nat.le_of_ble_eq_true rfl, Nat.le_of_ble_eq_true rfl⟩ dX4_either_81 ?_
            clear G; intro v11 w1 H locs hp G
            have hoq12 := nm_o (cl := cl) (vs := vs) (lk := lk) (hd := hd) (so := so) (sz := sz) (it := it) (lim := li) 30 k3 bq6
            have hbq12 := nm_bg (cl := cl) (vs := vs) (lk := lk) (hd := hd) (so := so) (sz := sz) (it := it) (lim := li) 30 k3 bq6 hbq6
            generalize hQq12 : nm cl vs lk hd so sz it li 30 k3 bq6 = q12 at hp hoq12 hbq12
            obtain ⟨oq12, rq12, bq12, dq12, tq12⟩ := q12
            obtain ⟨hv11, R⟩ := hp
            dsimp only at hv11 R hoq12 hbq12
            obtain ⟨jq12, hjq12, ejq12⟩ := hoq12
            refine lv_istore (lv' := [(6, .int v11), (5, .ref (T k3)), (4, .ref (T k1)), (0, .ref x), (1, .int t), (2, .int o), (3, .int li)]) hx hb dX4_either_84 hl (by decide) rfl (fun ls hl => ?_)
            refine lv_aload_n hx hb dX4_either_86 rfl (lv_at hl 3 rfl) ?_
            refine lv_aload_n hx hb dX4_either_87 rfl (lv_at hl 3 rfl) ?_
            refine g_get S G (Rc_x R) rfl (by decide +kernel) 1 (by decide) (by decide +kernel) rfl dX4_either_88 ?_
            refine g_get S G (Rc_wk R) rfl (by decide +kernel) 3 (by decide) (by decide +kernel) rfl dX4_either_91 ?_
            refine g_Vi (n := 1) (rest := []) S G hl (c_X4_tell l R (o := oq12) ejq12 hjq12) gX4_either_X4_tell rfl (by decide +kernel) (Rc_x R) rfl rfl rfl (Nat.le_of_ble_eq_true rfl) ⟨Nat.le_of_ble_eq_true rfl, Nat.le_of_ble_eq_true rfl⟩ ⟨Nat.le_of_ble_eq_true rfl, Nat.le_of_ble_eq_true rfl⟩ dX4_either_94 ?_
            clear G; intro r_ w1 H locs hp G
            obtain ⟨hr_, R⟩ := hp
            subst r_
            refine lv_if_ne (tgt := 105) hx hb dX4_either_97 (by decide) (fun c13 => ?_) (fun c13 => ?_)
            · skip
              refine lv_iconst (v := 0) hx hb dX4_either_105 (by decide) ?_
              refine r_int S hret hlk G rfl (Nat.le_of_ble_eq_true rfl) (Nat.le_of_ble_eq_true rfl) dX4_either_106 ?_
              have yk1 := tin_e ek1 hk1 (show n ≤ 1000 by omega)
              have zk1 := cn_e ek1 (show k1 < 1000 by omega)
              have yk3 := tin_e ek3 hk3 (show n ≤ 1000 by omega)
              have zk3 := cn_e ek3 (show k3 < 1000 by omega)
              have e9 : 1 ≤ oq6 ∧ oq6 ≤ 7 := ⟨Int32.not_lt.mp c7, Int32.not_lt.mp c9⟩
              rw [ow_eq] at R
              refine ⟨by simp only [S_either, yk1, zk1, yk3, zk3, ql, hQq6, hQq12, e9, n_of, lk_of, vs_of, hd_of, nmS, s_end, put_vs, put_it, ↓reduceIte, Bool.false_eq_true, pk_us, and_self, c13], ?_⟩
              simp only [S_either, yk1, zk1, yk3, zk3, ql, hQq6, hQq12, e9, n_of, lk_of, vs_of, hd_of, nmS, s_end, put_vs, put_it, ↓reduceIte, Bool.false_eq_true, pk_us, and_self]
              exact ⟨_, _, _, _, _, _, _, _, _, _, R⟩
            · skip
              refine lv_iload hx hb dX4_either_100 (lv_at hl 0 rfl) ?_
              refine lv_goto (tgt := 106) hx hb dX4_either_102 (by decide) ?_
              refine r_int S hret hlk G rfl (Nat.le_of_ble_eq_true rfl) (Nat.le_of_ble_eq_true rfl) dX4_either_106 ?_
              have yk1 := tin_e ek1 hk1 (show n ≤ 1000 by omega)
              have zk1 := cn_e ek1 (show k1 < 1000 by omega)
              have yk3 := tin_e ek3 hk3 (show n ≤ 1000 by omega)
              have zk3 := cn_e ek3 (show k3 < 1000 by omega)
              have e9 : 1 ≤ oq6 ∧ oq6 ≤ 7 := ⟨Int32.not_lt.mp c7, Int32.not_lt.mp c9⟩
              rw [ow_eq] at R
              refine ⟨by simp only [S_either, yk1, zk1, yk3, zk3, ql, hQq6, hQq12, e9, n_of, lk_of, vs_of, hd_of, nmS, s_end, put_vs, put_it, ↓reduceIte, Bool.false_eq_true, pk_us, and_self]; rw [if_pos c13]; exact hv11 c13, ?_⟩
              simp only [S_either, yk1, zk1, yk3, zk3, ql, hQq6, hQq12, e9, n_of, lk_of, vs_of, hd_of, nmS, s_end, put_vs, put_it, ↓reduceIte, Bool.false_eq_true, pk_us, and_self]
              exact ⟨_, _, _, _, _, _, _, _, _, _, R⟩
      · skip
        refine g_Si (n := 1) (rest := []) S G hl (c_X4_isLimit l li) gX4_either_X4_isLimit rfl (by decide +kernel) rfl rfl (Nat.le_of_ble_eq_true rfl) ⟨Nat.le_of_ble_eq_true rfl, Nat.le_of_ble_eq_true rfl⟩ ⟨Nat.le_of_ble_eq_true rfl, Nat.le_of_ble_eq_true rfl⟩ dX4_either_31 ?_
        clear G; intro r_ w1 H locs hp G
        obtain ⟨rfl, hq_⟩ := hp
        rw [if_neg ql] at hq_
        subst hq_
        refine lv_if_ne (tgt := 40) hx hb dX4_either_34 (by decide) (fun c14 => absurd (by decide) c14) (fun c14 => ?_)
        refine lv_ldc hx hb S.2.2.2.1 (S.2.2.2.2 (.constant RX4 33 (-2000000001)) (by decide +kernel)) dX4_either_37 ?_
        refine r_int S hret hlk G rfl (Nat.le_of_ble_eq_true rfl) (Nat.le_of_ble_eq_true rfl) dX4_either_39 ?_
        have yk1 := tin_e ek1 hk1 (show n ≤ 1000 by omega)
        have zk1 := cn_e ek1 (show k1 < 1000 by omega)
        have yk3 := tin_e ek3 hk3 (show n ≤ 1000 by omega)
        have zk3 := cn_e ek3 (show k3 < 1000 by omega)
        refine ⟨by simp only [S_either, yk1, zk1, yk3, zk3, ql, n_of, lk_of, vs_of, hd_of, nmS, s_end, put_vs, put_it, ↓reduceIte, Bool.false_eq_true, pk_us, and_self], ?_⟩
        simp only [S_either, yk1, zk1, yk3, zk3, ql, n_of, lk_of, vs_of, hd_of, nmS, s_end, put_vs, put_it, ↓reduceIte, Bool.false_eq_true, pk_us, and_self]
        exact ⟨_, _, _, _, _, _, _, _, _, _, R⟩

set_option maxHeartbeats 4000000 in
set_option maxRecDepth 100000 in
theorem C_gather (l : Launch) {E : EV} {w : wo} {x : Nat} {σ : ST} (X : RcX E w x σ) (K : Gd σ) (t : Int32) (li : Int32) : ct_i l E yX4_gather wsX4_gather 96 0 0 [.ref x, .int t, .int li] w (fun r w' => r = (S_gather t li σ).1 ∧ RcX E w' x (S_gather t li σ).2) := by
  obtain ⟨st, wk, tl, ta, tf, T, Rw, Ia, F, ⟨lim, wou, th⟩, R⟩ := X
  obtain ⟨n, cl, vs, lk, hd, nr, so, sz, it, oc, ow, bg, dp, td⟩ := σ
  have K9 := K
  obtain ⟨Kn, Kr, Kc, Kl, Kh, Ks, Kz, Ki⟩ := K9
  intro zz
  refine wo_body (Qc := fun A => va_Qi _ (wo_B E A) A) (ret := (some .int)) (by decide) rfl (Nat.le_of_ble_eq_true rfl) ?_
  intro p_ e_ s_ m_ args_ below_ meth_ code_ A_ ls S hret hlk hnm G hl
  have hl : lv_has ls 5 [(0, .ref x), (1, .int t), (2, .int li)] := hl
  have hx := S.1
  have hb := S.2.1
  refine lv_aload_n hx hb dX4_gather_0 rfl (lv_at hl 0 rfl) ?_
  refine g_get S G (Rc_x R) rfl (by decide +kernel) 0 (by decide) (by decide +kernel) rfl dX4_gather_1 ?_
  refine lv_iload_n hx hb dX4_gather_4 rfl (lv_at hl 1 rfl) ?_
  rcases tin_c n t (by omega) with ⟨tk1, ok1⟩ | ⟨k1, hk1, ek1⟩
  · skip
    refine g_Vq (n := 1) (rest := []) S G hl (c_X1_find_n l R Kn ok1) gX4_gather_X1_find rfl (by decide +kernel) (Rc_st R) rfl rfl rfl (Nat.le_of_ble_eq_true rfl) ⟨Nat.le_of_ble_eq_true rfl, Nat.le_of_ble_eq_true rfl⟩ ⟨Nat.le_of_ble_eq_true rfl, Nat.le_of_ble_eq_true rfl⟩ dX4_gather_5 ?_
    clear G; intro r_ w1 H locs hp G
    obtain ⟨rfl, rfl⟩ := hp
    refine W.eq (g2 := F0 m_ 8 ls [.null]) rfl ?_
    refine lv_astore_nN (lv' := [(3, .null), (0, .ref x), (1, .int t), (2, .int li)]) hx hb dX4_gather_8 rfl hl (by decide) rfl (fun ls hl => ?_)
    refine lv_aload_nN hx hb dX4_gather_9 rfl (lv_at hl 0 rfl) ?_
    refine lv_ifnullN (tgt := 20) hx hb dX4_gather_10 (by decide) ?_
    refine lv_ldc hx hb S.2.2.2.1 (S.2.2.2.2 (.constant RX4 33 (-2000000001)) (by decide +kernel)) dX4_gather_20 ?_
    refine r_int S hret hlk G rfl (Nat.le_of_ble_eq_true rfl) (Nat.le_of_ble_eq_true rfl) dX4_gather_22 ?_
    refine ⟨by simp only [S_gather, tk1, n_of, lk_of, vs_of, hd_of, nmS, s_end, put_vs, put_it, ↓reduceIte, Bool.false_eq_true, pk_us, and_self], ?_⟩
    simp only [S_gather, tk1, n_of, lk_of, vs_of, hd_of, nmS, s_end, put_vs, put_it, ↓reduceIte, Bool.false_eq_true, pk_us, and_self]
    exact ⟨_, _, _, _, _, _, _, _, _, _, R⟩
  · skip
    refine g_Vq (n := 1) (rest := []) S G hl (c_X1_find_y l R Kn ek1 hk1) gX4_gather_X1_find rfl (by decide +kernel) (Rc_st R) rfl rfl rfl (Nat.le_of_ble_eq_true rfl) ⟨Nat.le_of_ble_eq_true rfl, Nat.le_of_ble_eq_true rfl⟩ ⟨Nat.le_of_ble_eq_true rfl, Nat.le_of_ble_eq_true rfl⟩ dX4_gather_5 ?_
    clear G; intro r_ w1 H locs hp G
    obtain ⟨rfl, rfl⟩ := hp
    refine W.eq (g2 := F0 m_ 8 ls [.ref (T k1)]) rfl ?_
    refine lv_astore_n (lv' := [(3, .ref (T k1)), (0, .ref x), (1, .int t), (2, .int li)]) hx hb dX4_gather_8 rfl hl (by decide) rfl (fun ls hl => ?_)
    refine lv_aload_n hx hb dX4_gather_9 rfl (lv_at hl 0 rfl) ?_
    refine lv_ifnull hx hb dX4_gather_10 ?_
    refine lv_iload_n hx hb dX4_gather_13 rfl (lv_at hl 3 rfl) ?_
    by_cases ql : lin li = true
    · skip
      refine g_Si (n := 1) (rest := []) S G hl (c_X4_isLimit l li) gX4_gather_X4_isLimit rfl (by decide +kernel) rfl rfl (Nat.le_of_ble_eq_true rfl) ⟨Nat.le_of_ble_eq_true rfl, Nat.le_of_ble_eq_true rfl⟩ ⟨Nat.le_of_ble_eq_true rfl, Nat.le_of_ble_eq_true rfl⟩ dX4_gather_14 ?_
      clear G; intro r_ w1 H locs hp G
      obtain ⟨rfl, hq_⟩ := hp
      rw [if_pos ql] at hq_
      subst hq_
      refine lv_if_ne (tgt := 23) hx hb dX4_gather_17 (by decide) (fun c2 => ?_) (fun c2 => absurd c2 (by decide))
      refine lv_aload_n hx hb dX4_gather_23 rfl (lv_at hl 1 rfl) ?_
      refine g_get S G (Rc_x R) rfl (by decide +kernel) 1 (by decide) (by decide +kernel) rfl dX4_gather_24 ?_
      refine lv_aload_n hx hb dX4_gather_27 rfl (lv_at hl 1 rfl) ?_
      refine g_get S G (Rc_x R) rfl (by decide +kernel) 0 (by decide) (by decide +kernel) rfl dX4_gather_28 ?_
      refine lv_aload_n hx hb dX4_gather_31 rfl (lv_at hl 0 rfl) ?_
      refine g_get S G (Rc_T R k1 hk1) rfl (by decide +kernel) 2 (by decide) (by decide +kernel) rfl dX4_gather_32 ?_
      rcases Kl k1 hk1 with ek3 | ⟨k3, hk3, ek3⟩
      · skip
        refine g_Vq (n := 1) (rest := [.ref wk]) S G hl (c_X1_find_n l R Kn (Or.inl (by rw [ek3]; decide))) gX4_gather_X1_find rfl (by decide +kernel) (Rc_st R) rfl rfl rfl (Nat.le_of_ble_eq_true rfl) ⟨Nat.le_of_ble_eq_true rfl, Nat.le_of_ble_eq_true rfl⟩ ⟨Nat.le_of_ble_eq_true rfl, Nat.le_of_ble_eq_true rfl⟩ dX4_gather_35 ?_
        clear G; intro r_ w1 H locs hp G
        obtain ⟨rfl, rfl⟩ := hp
        refine W.eq (g2 := F0 m_ 38 ls [.null, .ref wk]) rfl ?_
        refine lv_iload_n hx hb dX4_gather_38 rfl (lv_at hl 3 rfl) ?_
        refine g_Vi (n := 2) (rest := []) S G hl (c_X3_first_n l R li) gX4_gather_X3_first rfl (by decide +kernel) (Rc_wk R) rfl rfl rfl (Nat.le_of_ble_eq_true rfl) ⟨Nat.le_of_ble_eq_true rfl, Nat.le_of_ble_eq_true rfl⟩ ⟨Nat.le_of_ble_eq_true rfl, Nat.le_of_ble_eq_true rfl⟩ dX4_gather_39 ?_
        clear G; intro r_ w1 H locs hp G
        obtain ⟨rfl, R⟩ := hp
        refine lv_istore (lv' := [(4, .int 0), (3, .ref (T k1)), (0, .ref x), (1, .int t), (2, .int li)]) hx hb dX4_gather_42 hl (by decide) rfl (fun ls hl => ?_)
        refine lv_aload_n hx hb dX4_gather_44 rfl (lv_at hl 2 rfl) ?_
        refine g_get S G (Rc_x R) rfl (by decide +kernel) 1 (by decide) (by decide +kernel) rfl dX4_gather_45 ?_
        refine g_get S G (Rc_wk R) rfl (by decide +kernel) 3 (by decide) (by decide +kernel) rfl dX4_gather_48 ?_
        refine lv_if_eq (tgt := 66) hx hb dX4_gather_51 (by decide) (fun c5 => absurd c5 (by decide)) (fun c5 => ?_)
        refine lv_aload_n hx hb dX4_gather_54 rfl (lv_at hl 2 rfl) ?_
        refine lv_aload_n hx hb dX4_gather_55 rfl (lv_at hl 2 rfl) ?_
        refine g_get S G (Rc_x R) rfl (by decide +kernel) 1 (by decide) (by decide +kernel) rfl dX4_gather_56 ?_
        refine g_get S G (Rc_wk R) rfl (by decide +kernel) 3 (by decide) (by decide +kernel) rfl dX4_gather_59 ?_
        refine g_Vi (n := 1) (rest := []) S G hl (c_X4_refuse l R (j := 1) (o := 1) rfl (by decide)) gX4_gather_X4_refuse rfl (by decide +kernel) (Rc_x R) rfl rfl rfl (Nat.le_of_ble_eq_true rfl) ⟨Nat.le_of_ble_eq_true rfl, Nat.le_of_ble_eq_true rfl⟩ ⟨Nat.le_of_ble_eq_true rfl, Nat.le_of_ble_eq_true rfl⟩ dX4_gather_62 ?_
        clear G; intro r_ w1 H locs hp G
        obtain ⟨hr_, R⟩ := hp
        subst r_
        rw [if_neg (show ¬ ((1 : Int32) = 7) by decide)] at R
        refine r_int S hret hlk G rfl (Nat.le_of_ble_eq_true rfl) (Nat.le_of_ble_eq_true rfl) dX4_gather_65 ?_
        have yk1 := tin_e ek1 hk1 (show n ≤ 1000 by omega)
        have zk1 := cn_e ek1 (show k1 < 1000 by omega)
        refine ⟨by simp only [S_gather, yk1, zk1, ek3, ql, n_of, lk_of, vs_of, hd_of, nmS, s_end, put_vs, put_it, ↓reduceIte, Bool.false_eq_true, pk_us, and_self, show ¬ ((1 : Int32) = 7) by decide], ?_⟩
        simp only [S_gather, yk1, zk1, ek3, ql, n_of, lk_of, vs_of, hd_of, nmS, s_end, put_vs, put_it, ↓reduceIte, Bool.false_eq_true, pk_us, and_self, show ¬ ((1 : Int32) = 7) by decide]
        exact ⟨_, _, _, _, _, _, _, _, _, _, R⟩
      · skip
        refine g_Vq (n := 1) (rest := [.ref wk]) S G hl (c_X1_find_y l R Kn ek3 hk3) gX4_gather_X1_find rfl (by decide +kernel) (Rc_st R) rfl rfl rfl (Nat.le_of_ble_eq_true rfl) ⟨Nat.le_of_ble_eq_true rfl, Nat.le_of_ble_eq_true rfl⟩ ⟨Nat.le_of_ble_eq_true rfl, Nat.le_of_ble_eq_true rfl⟩ dX4_gather_35 ?_
        clear G; intro r_ w1 H locs hp G
        obtain ⟨rfl, rfl⟩ := hp
        refine W.eq (g2 := F0 m_ 38 ls [.ref (T k3), .ref wk]) rfl ?_
        refine lv_iload_n hx hb dX4_gather_38 rfl (lv_at hl 3 rfl) ?_
        refine g_Vi (n := 2) (rest := []) S G hl (c_X3_first l R K hk3 (lin_pos ql)) gX4_gather_X3_first rfl (by decide +kernel) (Rc_wk R) rfl rfl rfl (Nat.le_of_ble_eq_true rfl) ⟨Nat.le_of_ble_eq_true rfl, Nat.le_of_ble_eq_true rfl⟩ ⟨Nat.le_of_ble_eq_true rfl, Nat.le_of_ble_eq_true rfl⟩ dX4_gather_39 ?_
        clear G; intro v6 w1 H locs hp G
        have hoq7 := nm_o (cl := cl) (vs := vs) (lk := lk) (hd := hd) (so := so) (sz := sz) (it := it) (lim := li) 30 k3 0
        have hbq7 := nm_bg (cl := cl) (vs := vs) (lk := lk) (hd := hd) (so := so) (sz := sz) (it := it) (lim := li) 30 k3 0 (lin_pos ql)
        generalize hQq7 : nm cl vs lk hd so sz it li 30 k3 0 = q7 at hp hoq7 hbq7
        obtain ⟨oq7, rq7, bq7, dq7, tq7⟩ := q7
        obtain ⟨hv6, R⟩ := hp
        dsimp only at hv6 R hoq7 hbq7
        obtain ⟨jq7, hjq7, ejq7⟩ := hoq7
        refine lv_istore (lv' := [(4, .int v6), (3, .ref (T k1)), (0, .ref x), (1, .int t), (2, .int li)]) hx hb dX4_gather_42 hl (by decide) rfl (fun ls hl => ?_)
        refine lv_aload_n hx hb dX4_gather_44 rfl (lv_at hl 2 rfl) ?_
        refine g_get S G (Rc_x R) rfl (by decide +kernel) 1 (by decide) (by decide +kernel) rfl dX4_gather_45 ?_
        refine g_get S G (Rc_wk R) rfl (by decide +kernel) 3 (by decide) (by decide +kernel) rfl dX4_gather_48 ?_
        refine lv_if_eq (tgt := 66) hx hb dX4_gather_51 (by decide) (fun c8 => ?_) (fun c8 => ?_)
        · skip
          refine lv_aload_n hx hb dX4_gather_66 rfl (lv_at hl 2 rfl) ?_
          refine lv_iconst (v := 0) hx hb dX4_gather_67 (by decide) ?_
          refine g_Vi (n := 1) (rest := []) S G hl (c_X4_tell l R (j := 0) (o := 0) rfl (by decide)) gX4_gather_X4_tell rfl (by decide +kernel) (Rc_x R) rfl rfl rfl (Nat.le_of_ble_eq_true rfl) ⟨Nat.le_of_ble_eq_true rfl, Nat.le_of_ble_eq_true rfl⟩ ⟨Nat.le_of_ble_eq_true rfl, Nat.le_of_ble_eq_true rfl⟩ dX4_gather_68 ?_
          clear G; intro r_ w1 H locs hp G
          obtain ⟨hr_, R⟩ := hp
          subst r_
          rw [if_neg (show ¬ ((0 : Int32) = 7) by decide)] at R
          refine lv_pop hx hb dX4_gather_71 rfl ?_
          refine lv_aload_n hx hb dX4_gather_72 rfl (lv_at hl 1 rfl) ?_
          refine lv_dup hx hb dX4_gather_73 rfl ?_
          refine g_get S G (Rc_T R k1 hk1) rfl (by decide +kernel) 1 (by decide) (by decide +kernel) rfl dX4_gather_74 ?_
          refine lv_iload hx hb dX4_gather_77 (lv_at hl 0 rfl) ?_
          refine lv_iadd hx hb dX4_gather_79 ?_
          refine lv_topi (fun a9 ea9 => ?_)
          refine g_put (fs' := [.int (cl k1), .int a9, .int (lk k1), va_rf (ro Rw (hd k1))]) (ty := .int) (v := .int a9) S G (Rc_T R k1 hk1) rfl tyX2 tyX2_ok nmX2 (by decide +kernel) 1 (by decide) (by decide +kernel) rfl (by decide +kernel) rfl rfl (Nat.le_of_ble_eq_true rfl) rfl dX4_gather_80 (fun H locs G => ?_)
          obtain ⟨w, R, G⟩ := Rc_ex (Rc_p_vs R hk1 a9) G
          refine lv_aload_n hx hb dX4_gather_83 rfl (lv_at hl 1 rfl) ?_
          refine g_get S G (Rc_T R k1 hk1) rfl (by decide +kernel) 1 (by decide) (by decide +kernel) rfl dX4_gather_84 ?_
          refine r_int S hret hlk G rfl (Nat.le_of_ble_eq_true rfl) (Nat.le_of_ble_eq_true rfl) dX4_gather_87 ?_
          have yk1 := tin_e ek1 hk1 (show n ≤ 1000 by omega)
          have zk1 := cn_e ek1 (show k1 < 1000 by omega)
          have qk3 := nm1 (show k3 < 100000 by omega)
          have hv := hv6 c8
          rw [ea9, hv] at R ⊢
          rw [c8] at hQq7
          refine ⟨by simp only [S_gather, yk1, zk1, ek3, qk3, cn_nI (show k3 < 2 ^ 31 by omega), ql, hQq7, n_of, lk_of, vs_of, hd_of, nmS, s_end, put_vs, put_it, ↓reduceIte, Bool.false_eq_true, pk_us, and_self, show ¬ ((0 : Int32) = 7) by decide], ?_⟩
          simp only [S_gather, yk1, zk1, ek3, qk3, cn_nI (show k3 < 2 ^ 31 by omega), ql, hQq7, n_of, lk_of, vs_of, hd_of, nmS, s_end, put_vs, put_it, ↓reduceIte, Bool.false_eq_true, pk_us, and_self, show ¬ ((0 : Int32) = 7) by decide]
          exact ⟨_, _, _, _, _, _, _, _, _, _, R⟩
        · skip
          refine lv_aload_n hx hb dX4_gather_54 rfl (lv_at hl 2 rfl) ?_
          refine lv_aload_n hx hb dX4_gather_55 rfl (lv_at hl 2 rfl) ?_
          refine g_get S G (Rc_x R) rfl (by decide +kernel) 1 (by decide) (by decide +kernel) rfl dX4_gather_56 ?_
          refine g_get S G (Rc_wk R) rfl (by decide +kernel) 3 (by decide) (by decide +kernel) rfl dX4_gather_59 ?_
          refine g_Vi (n := 1) (rest := []) S G hl (c_X4_refuse l R (o := oq7) ejq7 hjq7) gX4_gather_X4_refuse rfl (by decide +kernel) (Rc_x R) rfl rfl rfl (Nat.le_of_ble_eq_true rfl) ⟨Nat.le_of_ble_eq_true rfl, Nat.le_of_ble_eq_true rfl⟩ ⟨Nat.le_of_ble_eq_true rfl, Nat.le_of_ble_eq_true rfl⟩ dX4_gather_62 ?_
          clear G; intro r_ w1 H locs hp G
          obtain ⟨hr_, R⟩ := hp
          subst r_
          refine r_int S hret hlk G rfl (Nat.le_of_ble_eq_true rfl) (Nat.le_of_ble_eq_true rfl) dX4_gather_65 ?_
          have yk1 := tin_e ek1 hk1 (show n ≤ 1000 by omega)
          have zk1 := cn_e ek1 (show k1 < 1000 by omega)
          have qk3 := nm1 (show k3 < 100000 by omega)
          rw [ow_eq] at R
          refine ⟨by simp only [S_gather, yk1, zk1, ek3, qk3, cn_nI (show k3 < 2 ^ 31 by omega), ql, hQq7, n_of, lk_of, vs_of, hd_of, nmS, s_end, put_vs, put_it, ↓reduceIte, Bool.false_eq_true, pk_us, and_self, c8], ?_⟩
          simp only [S_gather, yk1, zk1, ek3, qk3, cn_nI (show k3 < 2 ^ 31 by omega), ql, hQq7, n_of, lk_of, vs_of, hd_of, nmS, s_end, put_vs, put_it, ↓reduceIte, Bool.false_eq_true, pk_us, and_self, c8]
          exact ⟨_, _, _, _, _, _, _, _, _, _, R⟩
    · skip
      refine g_Si (n := 1) (rest := []) S G hl (c_X4_isLimit l li) gX4_gather_X4_isLimit rfl (by decide +kernel) rfl rfl (Nat.le_of_ble_eq_true rfl) ⟨Nat.le_of_ble_eq_true rfl, Nat.le_of_ble_eq_true rfl⟩ ⟨Nat.le_of_ble_eq_true rfl, Nat.le_of_ble_eq_true rfl⟩ dX4_gather_14 ?_
      clear G; intro r_ w1 H locs hp G
      obtain ⟨rfl, hq_⟩ := hp
      rw [if_neg ql] at hq_
      subst hq_
      refine lv_if_ne (tgt := 23) hx hb dX4_gather_17 (by decide) (fun c10 => absurd (by decide) c10) (fun c10 => ?_)
      refine lv_ldc hx hb S.2.2.2.1 (S.2.2.2.2 (.constant RX4 33 (-2000000001)) (by decide +kernel)) dX4_gather_20 ?_
      refine r_int S hret hlk G rfl (Nat.le_of_ble_eq_true rfl) (Nat.le_of_ble_eq_true rfl) dX4_gather_22 ?_
      have yk1 := tin_e ek1 hk1 (show n ≤ 1000 by omega)
      have zk1 := cn_e ek1 (show k1 < 1000 by omega)
      refine ⟨by simp only [S_gather, yk1, zk1, ql, n_of, lk_of, vs_of, hd_of, nmS, s_end, put_vs, put_it, ↓reduceIte, Bool.false_eq_true, pk_us, and_self], ?_⟩
      simp only [S_gather, yk1, zk1, ql, n_of, lk_of, vs_of, hd_of, nmS, s_end, put_vs, put_it, ↓reduceIte, Bool.false_eq_true, pk_us, and_self]
      exact ⟨_, _, _, _, _, _, _, _, _, _, R⟩

set_option maxHeartbeats 4000000 in
set_option maxRecDepth 100000 in
theorem C_keep (l : Launch) {E : EV} {w : wo} {x : Nat} {σ : ST} (X : RcX E w x σ) (K : Gd σ) (t : Int32) (o : Int32) (k : Int32) (li : Int32) : ct_i l E yX4_keep wsX4_keep 96 0 0 [.ref x, .int t, .int o, .int k, .int li] w (fun r w' => r = (S_keep t o k li σ).1 ∧ RcX E w' x (S_keep t o k li σ).2) := by
  obtain ⟨st, wk, tl, ta, tf, T, Rw, Ia, F, ⟨lim, wou, th⟩, R⟩ := X
  obtain ⟨n, cl, vs, lk, hd, nr, so, sz, it, oc, ow, bg, dp, td⟩ := σ
  have K9 := K
  obtain ⟨Kn, Kr, Kc, Kl, Kh, Ks, Kz, Ki⟩ := K9
  intro zz
  refine wo_body (Qc := fun A => va_Qi _ (wo_B E A) A) (ret := (some .int)) (by decide) rfl (Nat.le_of_ble_eq_true rfl) ?_
  intro p_ e_ s_ m_ args_ below_ meth_ code_ A_ ls S hret hlk hnm G hl
  have hl : lv_has ls 10 [(0, .ref x), (1, .int t), (2, .int o), (3, .int k), (4, .int li)] := hl
  have hx := S.1
  have hb := S.2.1
  refine lv_aload_n hx hb dX4_keep_0 rfl (lv_at hl 0 rfl) ?_
  refine g_get S G (Rc_x R) rfl (by decide +kernel) 0 (by decide) (by decide +kernel) rfl dX4_keep_1 ?_
  refine lv_iload_n hx hb dX4_keep_4 rfl (lv_at hl 1 rfl) ?_
  rcases tin_c n t (by omega) with ⟨tk1, ok1⟩ | ⟨k1, hk1, ek1⟩
  · skip
    refine g_Vq (n := 1) (rest := []) S G hl (c_X1_find_n l R Kn ok1) gX4_keep_X1_find rfl (by decide +kernel) (Rc_st R) rfl rfl rfl (Nat.le_of_ble_eq_true rfl) ⟨Nat.le_of_ble_eq_true rfl, Nat.le_of_ble_eq_true rfl⟩ ⟨Nat.le_of_ble_eq_true rfl, Nat.le_of_ble_eq_true rfl⟩ dX4_keep_5 ?_
    clear G; intro r_ w1 H locs hp G
    obtain ⟨rfl, rfl⟩ := hp
    refine W.eq (g2 := F0 m_ 8 ls [.null]) rfl ?_
    refine lv_astoreN (lv' := [(5, .null), (0, .ref x), (1, .int t), (2, .int o), (3, .int k), (4, .int li)]) hx hb dX4_keep_8 hl (by decide) rfl (fun ls hl => ?_)
    refine lv_aload_n hx hb dX4_keep_10 rfl (lv_at hl 1 rfl) ?_
    refine g_get S G (Rc_x R) rfl (by decide +kernel) 0 (by decide) (by decide +kernel) rfl dX4_keep_11 ?_
    refine lv_iload_n hx hb dX4_keep_14 rfl (lv_at hl 3 rfl) ?_
    rcases tin_c n o (by omega) with ⟨tk2, ok2⟩ | ⟨k2, hk2, ek2⟩
    · skip
      refine g_Vq (n := 1) (rest := []) S G hl (c_X1_find_n l R Kn ok2) gX4_keep_X1_find rfl (by decide +kernel) (Rc_st R) rfl rfl rfl (Nat.le_of_ble_eq_true rfl) ⟨Nat.le_of_ble_eq_true rfl, Nat.le_of_ble_eq_true rfl⟩ ⟨Nat.le_of_ble_eq_true rfl, Nat.le_of_ble_eq_true rfl⟩ dX4_keep_15 ?_
      clear G; intro r_ w1 H locs hp G
      obtain ⟨rfl, rfl⟩ := hp
      refine W.eq (g2 := F0 m_ 18 ls [.null]) rfl ?_
      refine lv_astoreN (lv' := [(6, .null), (5, .null), (0, .ref x), (1, .int t), (2, .int o), (3, .int k), (4, .int li)]) hx hb dX4_keep_18 hl (by decide) rfl (fun ls hl => ?_)
      refine lv_aloadN hx hb dX4_keep_20 (lv_at hl 1 rfl) ?_
      refine lv_ifnullN (tgt := 38) hx hb dX4_keep_22 (by decide) ?_
      refine lv_ldc hx hb S.2.2.2.1 (S.2.2.2.2 (.constant RX4 33 (-2000000001)) (by decide +kernel)) dX4_keep_38 ?_
      refine r_int S hret hlk G rfl (Nat.le_of_ble_eq_true rfl) (Nat.le_of_ble_eq_true rfl) dX4_keep_40 ?_
      refine ⟨by simp only [S_keep, tk1, tk2, n_of, lk_of, vs_of, hd_of, nmS, s_end, put_vs, put_it, ↓reduceIte, Bool.false_eq_true, pk_us, and_self], ?_⟩
      simp only [S_keep, tk1, tk2, n_of, lk_of, vs_of, hd_of, nmS, s_end, put_vs, put_it, ↓reduceIte, Bool.false_eq_true, pk_us, and_self]
      exact ⟨_, _, _, _, _, _, _, _, _, _, R⟩
    · skip
      refine g_Vq (n := 1) (rest := []) S G hl (c_X1_find_y l R Kn ek2 hk2) gX4_keep_X1_find rfl (by decide +kernel) (Rc_st R) rfl rfl rfl (Nat.le_of_ble_eq_true rfl) ⟨Nat.le_of_ble_eq_true rfl, Nat.le_of_ble_eq_true rfl⟩ ⟨Nat.le_of_ble_eq_true rfl, Nat.le_of_ble_eq_true rfl⟩ dX4_keep_15 ?_
      clear G; intro r_ w1 H locs hp G
      obtain ⟨rfl, rfl⟩ := hp
      refine W.eq (g2 := F0 m_ 18 ls [.ref (T k2)]) rfl ?_
      refine lv_astore (lv' := [(6, .ref (T k2)), (5, .null), (0, .ref x), (1, .int t), (2, .int o), (3, .int k), (4, .int li)]) hx hb dX4_keep_18 hl (by decide) rfl (fun ls hl => ?_)
      refine lv_aloadN hx hb dX4_keep_20 (lv_at hl 1 rfl) ?_
      refine lv_ifnullN (tgt := 38) hx hb dX4_keep_22 (by decide) ?_
      refine lv_ldc hx hb S.2.2.2.1 (S.2.2.2.2 (.constant RX4 33 (-2000000001)) (by decide +kernel)) dX4_keep_38 ?_
      refine r_int S hret hlk G rfl (Nat.le_of_ble_eq_true rfl) (Nat.le_of_ble_eq_true rfl) dX4_keep_40 ?_
      have yk2 := tin_e ek2 hk2 (show n ≤ 1000 by omega)
      have zk2 := cn_e ek2 (show k2 < 1000 by omega)
      refine ⟨by simp only [S_keep, tk1, yk2, zk2, n_of, lk_of, vs_of, hd_of, nmS, s_end, put_vs, put_it, ↓reduceIte, Bool.false_eq_true, pk_us, and_self], ?_⟩
      simp only [S_keep, tk1, yk2, zk2, n_of, lk_of, vs_of, hd_of, nmS, s_end, put_vs, put_it, ↓reduceIte, Bool.false_eq_true, pk_us, and_self]
      exact ⟨_, _, _, _, _, _, _, _, _, _, R⟩
  · skip
    refine g_Vq (n := 1) (rest := []) S G hl (c_X1_find_y l R Kn ek1 hk1) gX4_keep_X1_find rfl (by decide +kernel) (Rc_st R) rfl rfl rfl (Nat.le_of_ble_eq_true rfl) ⟨Nat.le_of_ble_eq_true rfl, Nat.le_of_ble_eq_true rfl⟩ ⟨Nat.le_of_ble_eq_true rfl, Nat.le_of_ble_eq_true rfl⟩ dX4_keep_5 ?_
    clear G; intro r_ w1 H locs hp G
    obtain ⟨rfl, rfl⟩ := hp
    refine W.eq (g2 := F0 m_ 8 ls [.ref (T k1)]) rfl ?_
    refine lv_astore (lv' := [(5, .ref (T k1)), (0, .ref x), (1, .int t), (2, .int o), (3, .int k), (4, .int li)]) hx hb dX4_keep_8 hl (by decide) rfl (fun ls hl => ?_)
    refine lv_aload_n hx hb dX4_keep_10 rfl (lv_at hl 1 rfl) ?_
    refine g_get S G (Rc_x R) rfl (by decide +kernel) 0 (by decide) (by decide +kernel) rfl dX4_keep_11 ?_
    refine lv_iload_n hx hb dX4_keep_14 rfl (lv_at hl 3 rfl) ?_
    rcases tin_c n o (by omega) with ⟨tk3, ok3⟩ | ⟨k3, hk3, ek3⟩
    · skip
      refine g_Vq (n := 1) (rest := []) S G hl (c_X1_find_n l R Kn ok3) gX4_keep_X1_find rfl (by decide +kernel) (Rc_st R) rfl rfl rfl (Nat.le_of_ble_eq_true rfl) ⟨Nat.le_of_ble_eq_true rfl, Nat.le_of_ble_eq_true rfl⟩ ⟨Nat.le_of_ble_eq_true rfl, Nat.le_of_ble_eq_true rfl⟩ dX4_keep_15 ?_
      clear G; intro r_ w1 H locs hp G
      obtain ⟨rfl, rfl⟩ := hp
      refine W.eq (g2 := F0 m_ 18 ls [.null]) rfl ?_
      refine lv_astoreN (lv' := [(6, .null), (5, .ref (T k1)), (0, .ref x), (1, .int t), (2, .int o), (3, .int k), (4, .int li)]) hx hb dX4_keep_18 hl (by decide) rfl (fun ls hl => ?_)
      refine lv_aload hx hb dX4_keep_20 (lv_at hl 1 rfl) ?_
      refine lv_ifnull hx hb dX4_keep_22 ?_
      refine lv_aloadN hx hb dX4_keep_25 (lv_at hl 0 rfl) ?_
      refine lv_ifnullN (tgt := 38) hx hb dX4_keep_27 (by decide) ?_
      refine lv_ldc hx hb S.2.2.2.1 (S.2.2.2.2 (.constant RX4 33 (-2000000001)) (by decide +kernel)) dX4_keep_38 ?_
      refine r_int S hret hlk G rfl (Nat.le_of_ble_eq_true rfl) (Nat.le_of_ble_eq_true rfl) dX4_keep_40 ?_
      have yk1 := tin_e ek1 hk1 (show n ≤ 1000 by omega)
      have zk1 := cn_e ek1 (show k1 < 1000 by omega)
      refine ⟨by simp only [S_keep, yk1, zk1, tk3, n_of, lk_of, vs_of, hd_of, nmS, s_end, put_vs, put_it, ↓reduceIte, Bool.false_eq_true, pk_us, and_self], ?_⟩
      simp only [S_keep, yk1, zk1, tk3, n_of, lk_of, vs_of, hd_of, nmS, s_end, put_vs, put_it, ↓reduceIte, Bool.false_eq_true, pk_us, and_self]
      exact ⟨_, _, _, _, _, _, _, _, _, _, R⟩
    · skip
      refine g_Vq (n := 1) (rest := []) S G hl (c_X1_find_y l R Kn ek3 hk3) gX4_keep_X1_find rfl (by decide +kernel) (Rc_st R) rfl rfl rfl (Nat.le_of_ble_eq_true rfl) ⟨Nat.le_of_ble_eq_true rfl, Nat.le_of_ble_eq_true rfl⟩ ⟨Nat.le_of_ble_eq_true rfl, Nat.le_of_ble_eq_true rfl⟩ dX4_keep_15 ?_
      clear G; intro r_ w1 H locs hp G
      obtain ⟨rfl, rfl⟩ := hp
      refine W.eq (g2 := F0 m_ 18 ls [.ref (T k3)]) rfl ?_
      refine lv_astore (lv' := [(6, .ref (T k3)), (5, .ref (T k1)), (0, .ref x), (1, .int t), (2, .int o), (3, .int k), (4, .int li)]) hx hb dX4_keep_18 hl (by decide) rfl (fun ls hl => ?_)
      refine lv_aload hx hb dX4_keep_20 (lv_at hl 1 rfl) ?_
      refine lv_ifnull hx hb dX4_keep_22 ?_
      refine lv_aload hx hb dX4_keep_25 (lv_at hl 0 rfl) ?_
      refine lv_ifnull hx hb dX4_keep_27 ?_
      refine lv_iload hx hb dX4_keep_30 (lv_at hl 6 rfl) ?_
      by_cases ql : lin li = true
      · skip
        refine g_Si (n := 1) (rest := []) S G hl (c_X4_isLimit l li) gX4_keep_X4_isLimit rfl (by decide +kernel) rfl rfl (Nat.le_of_ble_eq_true rfl) ⟨Nat.le_of_ble_eq_true rfl, Nat.le_of_ble_eq_true rfl⟩ ⟨Nat.le_of_ble_eq_true rfl, Nat.le_of_ble_eq_true rfl⟩ dX4_keep_32 ?_
        clear G; intro r_ w1 H locs hp G
        obtain ⟨rfl, hq_⟩ := hp
        rw [if_pos ql] at hq_
        subst hq_
        refine lv_if_ne (tgt := 41) hx hb dX4_keep_35 (by decide) (fun c4 => ?_) (fun c4 => absurd c4 (by decide))
        refine lv_aload_n hx hb dX4_keep_41 rfl (lv_at hl 2 rfl) ?_
        refine g_get S G (Rc_x R) rfl (by decide +kernel) 1 (by decide) (by decide +kernel) rfl dX4_keep_42 ?_
        refine lv_aload hx hb dX4_keep_45 (lv_at hl 1 rfl) ?_
        refine lv_iload hx hb dX4_keep_47 (lv_at hl 6 rfl) ?_
        refine g_Vi (n := 2) (rest := []) S G hl (c_X3_first l R K hk1 (lin_pos ql)) gX4_keep_X3_first rfl (by decide +kernel) (Rc_wk R) rfl rfl rfl (Nat.le_of_ble_eq_true rfl) ⟨Nat.le_of_ble_eq_true rfl, Nat.le_of_ble_eq_true rfl⟩ ⟨Nat.le_of_ble_eq_true rfl, Nat.le_of_ble_eq_true rfl⟩ dX4_keep_49 ?_
        clear G; intro v5 w1 H locs hp G
        have hoq6 := nm_o (cl := cl) (vs := vs) (lk := lk) (hd := hd) (so := so) (sz := sz) (it := it) (lim := li) 30 k1 0
        have hbq6 := nm_bg (cl := cl) (vs := vs) (lk := lk) (hd := hd) (so := so) (sz := sz) (it := it) (lim := li) 30 k1 0 (lin_pos ql)
        generalize hQq6 : nm cl vs lk hd so sz it li 30 k1 0 = q6 at hp hoq6 hbq6
        obtain ⟨oq6, rq6, bq6, dq6, tq6⟩ := q6
        obtain ⟨hv5, R⟩ := hp
        dsimp only at hv5 R hoq6 hbq6
        obtain ⟨jq6, hjq6, ejq6⟩ := hoq6
        refine lv_istore (lv' := [(7, .int v5), (6, .ref (T k3)), (5, .ref (T k1)), (0, .ref x), (1, .int t), (2, .int o), (3, .int k), (4, .int li)]) hx hb dX4_keep_52 hl (by decide) rfl (fun ls hl => ?_)
        refine lv_aload_n hx hb dX4_keep_54 rfl (lv_at hl 3 rfl) ?_
        refine g_get S G (Rc_x R) rfl (by decide +kernel) 1 (by decide) (by decide +kernel) rfl dX4_keep_55 ?_
        refine g_get S G (Rc_wk R) rfl (by decide +kernel) 3 (by decide) (by decide +kernel) rfl dX4_keep_58 ?_
        refine lv_if_eq (tgt := 76) hx hb dX4_keep_61 (by decide) (fun c7 => ?_) (fun c7 => ?_)
        · skip
          refine lv_aload hx hb dX4_keep_76 (lv_at hl 1 rfl) ?_
          rcases Kh k3 hk3 with er8 | ⟨r8, hr8, er8⟩
          · skip
            refine g_get S G (Rc_Tn R hk3 er8) rfl (by decide +kernel) 3 (by decide) (by decide +kernel) rfl dX4_keep_78 ?_
            refine lv_astoreN (lv' := [(8, .null), (7, .int v5), (6, .ref (T k3)), (5, .ref (T k1)), (0, .ref x), (1, .int t), (2, .int o), (3, .int k), (4, .int li)]) hx hb dX4_keep_81 hl (by decide) rfl (fun ls hl => ?_)
            refine lv_aloadN hx hb dX4_keep_83 (lv_at hl 0 rfl) ?_
            refine lv_iconst (v := 0) hx hb dX4_keep_85 (by decide) ?_
            refine lv_iconst (v := 0) hx hb dX4_keep_86 (by decide) ?_
            refine lv_iload_n hx hb dX4_keep_87 rfl (lv_at hl 7 rfl) ?_
            refine g_Si (n := 4) (rest := []) S G hl (c_X4_againstItem_n l 0 0 k) gX4_keep_X4_againstItem rfl (by decide +kernel) rfl rfl (Nat.le_of_ble_eq_true rfl) ⟨Nat.le_of_ble_eq_true rfl, Nat.le_of_ble_eq_true rfl⟩ ⟨Nat.le_of_ble_eq_true rfl, Nat.le_of_ble_eq_true rfl⟩ dX4_keep_88 ?_
            clear G; intro r_ w1 H locs hp G
            obtain ⟨rfl, rfl⟩ := hp
            refine lv_istore (lv' := [(9, .int 1), (8, .null), (7, .int v5), (6, .ref (T k3)), (5, .ref (T k1)), (0, .ref x), (1, .int t), (2, .int o), (3, .int k), (4, .int li)]) hx hb dX4_keep_91 hl (by decide) rfl (fun ls hl => ?_)
            refine lv_iload hx hb dX4_keep_93 (lv_at hl 0 rfl) ?_
            refine lv_if_eq (tgt := 105) hx hb dX4_keep_95 (by decide) (fun c9 => absurd c9 (by decide)) (fun c9 => ?_)
            refine lv_aload_n hx hb dX4_keep_98 rfl (lv_at hl 5 rfl) ?_
            refine lv_iload hx hb dX4_keep_99 (lv_at hl 0 rfl) ?_
            refine g_Vi (n := 1) (rest := []) S G hl (c_X4_refuse l R (j := 1) (o := 1) rfl (by decide)) gX4_keep_X4_refuse rfl (by decide +kernel) (Rc_x R) rfl rfl rfl (Nat.le_of_ble_eq_true rfl) ⟨Nat.le_of_ble_eq_true rfl, Nat.le_of_ble_eq_true rfl⟩ ⟨Nat.le_of_ble_eq_true rfl, Nat.le_of_ble_eq_true rfl⟩ dX4_keep_101 ?_
            clear G; intro r_ w1 H locs hp G
            obtain ⟨hr_, R⟩ := hp
            subst r_
            rw [if_neg (show ¬ ((1 : Int32) = 7) by decide)] at R
            refine r_int S hret hlk G rfl (Nat.le_of_ble_eq_true rfl) (Nat.le_of_ble_eq_true rfl) dX4_keep_104 ?_
            have yk1 := tin_e ek1 hk1 (show n ≤ 1000 by omega)
            have zk1 := cn_e ek1 (show k1 < 1000 by omega)
            have yk3 := tin_e ek3 hk3 (show n ≤ 1000 by omega)
            have zk3 := cn_e ek3 (show k3 < 1000 by omega)
            have hv := hv5 c7
            rw [c7] at hQq6
            refine ⟨by simp only [S_keep, agi, yk1, zk1, yk3, zk3, er8, ql, hQq6, n_of, lk_of, vs_of, hd_of, nmS, s_end, put_vs, put_it, ↓reduceIte, Bool.false_eq_true, pk_us, and_self, show ¬ ((0 : Int32) = 7) by decide, show ¬ ((1 : Int32) = 7) by decide, show ¬ ((2 : Int32) = 7) by decide, show ¬ ((3 : Int32) = 7) by decide, show ¬ ((1 : Int32) = 0) by decide, show ¬ ((2 : Int32) = 0) by decide, show ¬ ((3 : Int32) = 0) by decide], ?_⟩
            simp only [S_keep, agi, yk1, zk1, yk3, zk3, er8, ql, hQq6, n_of, lk_of, vs_of, hd_of, nmS, s_end, put_vs, put_it, ↓reduceIte, Bool.false_eq_true, pk_us, and_self, show ¬ ((0 : Int32) = 7) by decide, show ¬ ((1 : Int32) = 7) by decide, show ¬ ((2 : Int32) = 7) by decide, show ¬ ((3 : Int32) = 7) by decide, show ¬ ((1 : Int32) = 0) by decide, show ¬ ((2 : Int32) = 0) by decide, show ¬ ((3 : Int32) = 0) by decide]
            exact ⟨_, _, _, _, _, _, _, _, _, _, R⟩
          · skip
            refine g_get S G (Rc_Ty R hk3 er8 hr8 Kr) rfl (by decide +kernel) 3 (by decide) (by decide +kernel) rfl dX4_keep_78 ?_
            refine lv_astore (lv' := [(8, .ref (Rw r8)), (7, .int v5), (6, .ref (T k3)), (5, .ref (T k1)), (0, .ref x), (1, .int t), (2, .int o), (3, .int k), (4, .int li)]) hx hb dX4_keep_81 hl (by decide) rfl (fun ls hl => ?_)
            refine lv_aload hx hb dX4_keep_83 (lv_at hl 0 rfl) ?_
            refine lv_iconst (v := 0) hx hb dX4_keep_85 (by decide) ?_
            refine lv_iconst (v := 0) hx hb dX4_keep_86 (by decide) ?_
            refine lv_iload_n hx hb dX4_keep_87 rfl (lv_at hl 7 rfl) ?_
            by_cases q10 : so r8 < 0 ∨ 0 < so r8
            · skip
              refine g_Si (n := 4) (rest := []) S G hl (c_X4_againstItem_y l R hr8 (sz_le (Kz r8 hr8)) 0 0 k) gX4_keep_X4_againstItem rfl (by decide +kernel) rfl rfl (Nat.le_of_ble_eq_true rfl) ⟨Nat.le_of_ble_eq_true rfl, Nat.le_of_ble_eq_true rfl⟩ ⟨Nat.le_of_ble_eq_true rfl, Nat.le_of_ble_eq_true rfl⟩ dX4_keep_88 ?_
              clear G; intro r_ w1 H locs hp G
              obtain ⟨rfl, hq_⟩ := hp
              simp only [q10, ↓reduceIte, Bool.false_eq_true] at hq_
              subst hq_
              refine lv_istore (lv' := [(9, .int 2), (8, .ref (Rw r8)), (7, .int v5), (6, .ref (T k3)), (5, .ref (T k1)), (0, .ref x), (1, .int t), (2, .int o), (3, .int k), (4, .int li)]) hx hb dX4_keep_91 hl (by decide) rfl (fun ls hl => ?_)
              refine lv_iload hx hb dX4_keep_93 (lv_at hl 0 rfl) ?_
              refine lv_if_eq (tgt := 105) hx hb dX4_keep_95 (by decide) (fun c12 => absurd c12 (by decide)) (fun c12 => ?_)
              refine lv_aload_n hx hb dX4_keep_98 rfl (lv_at hl 5 rfl) ?_
              refine lv_iload hx hb dX4_keep_99 (lv_at hl 0 rfl) ?_
              refine g_Vi (n := 1) (rest := []) S G hl (c_X4_refuse l R (j := 2) (o := 2) rfl (by decide)) gX4_keep_X4_refuse rfl (by decide +kernel) (Rc_x R) rfl rfl rfl (Nat.le_of_ble_eq_true rfl) ⟨Nat.le_of_ble_eq_true rfl, Nat.le_of_ble_eq_true rfl⟩ ⟨Nat.le_of_ble_eq_true rfl, Nat.le_of_ble_eq_true rfl⟩ dX4_keep_101 ?_
              clear G; intro r_ w1 H locs hp G
              obtain ⟨hr_, R⟩ := hp
              subst r_
              rw [if_neg (show ¬ ((2 : Int32) = 7) by decide)] at R
              refine r_int S hret hlk G rfl (Nat.le_of_ble_eq_true rfl) (Nat.le_of_ble_eq_true rfl) dX4_keep_104 ?_
              have yk1 := tin_e ek1 hk1 (show n ≤ 1000 by omega)
              have zk1 := cn_e ek1 (show k1 < 1000 by omega)
              have yk3 := tin_e ek3 hk3 (show n ≤ 1000 by omega)
              have zk3 := cn_e ek3 (show k3 < 1000 by omega)
              have qr8 := nm1 (show r8 < 100000 by omega)
              have hv := hv5 c7
              rw [c7] at hQq6
              have g9 : ¬ so r8 = 0 := fun z => q10.elim (fun y => by rw [z] at y; exact absurd y (by decide)) (fun y => by rw [z] at y; exact absurd y (by decide))
              refine ⟨by simp only [S_keep, agi, yk1, zk1, yk3, zk3, er8, qr8, cn_nI (show r8 < 2 ^ 31 by omega), ql, hQq6, g9, n_of, lk_of, vs_of, hd_of, nmS, s_end, put_vs, put_it, ↓reduceIte, Bool.false_eq_true, pk_us, and_self, show ¬ ((0 : Int32) = 7) by decide, show ¬ ((1 : Int32) = 7) by decide, show ¬ ((2 : Int32) = 7) by decide, show ¬ ((3 : Int32) = 7) by decide, show ¬ ((1 : Int32) = 0) by decide, show ¬ ((2 : Int32) = 0) by decide, show ¬ ((3 : Int32) = 0) by decide], ?_⟩
              simp only [S_keep, agi, yk1, zk1, yk3, zk3, er8, qr8, cn_nI (show r8 < 2 ^ 31 by omega), ql, hQq6, g9, n_of, lk_of, vs_of, hd_of, nmS, s_end, put_vs, put_it, ↓reduceIte, Bool.false_eq_true, pk_us, and_self, show ¬ ((0 : Int32) = 7) by decide, show ¬ ((1 : Int32) = 7) by decide, show ¬ ((2 : Int32) = 7) by decide, show ¬ ((3 : Int32) = 7) by decide, show ¬ ((1 : Int32) = 0) by decide, show ¬ ((2 : Int32) = 0) by decide, show ¬ ((3 : Int32) = 0) by decide]
              exact ⟨_, _, _, _, _, _, _, _, _, _, R⟩
            rcases tin_c (cn (sz r8)) k (Nat.le_trans (sz_le (Kz r8 hr8)) (by decide)) with ⟨tk11, ok11⟩ | ⟨k11, hk11, ek11⟩
            · skip
              refine g_Si (n := 4) (rest := []) S G hl (c_X4_againstItem_y l R hr8 (sz_le (Kz r8 hr8)) 0 0 k) gX4_keep_X4_againstItem rfl (by decide +kernel) rfl rfl (Nat.le_of_ble_eq_true rfl) ⟨Nat.le_of_ble_eq_true rfl, Nat.le_of_ble_eq_true rfl⟩ ⟨Nat.le_of_ble_eq_true rfl, Nat.le_of_ble_eq_true rfl⟩ dX4_keep_88 ?_
              clear G; intro r_ w1 H locs hp G
              obtain ⟨rfl, hq_⟩ := hp
              simp only [q10, tk11, ↓reduceIte, Bool.false_eq_true] at hq_
              subst hq_
              refine lv_istore (lv' := [(9, .int 3), (8, .ref (Rw r8)), (7, .int v5), (6, .ref (T k3)), (5, .ref (T k1)), (0, .ref x), (1, .int t), (2, .int o), (3, .int k), (4, .int li)]) hx hb dX4_keep_91 hl (by decide) rfl (fun ls hl => ?_)
              refine lv_iload hx hb dX4_keep_93 (lv_at hl 0 rfl) ?_
              refine lv_if_eq (tgt := 105) hx hb dX4_keep_95 (by decide) (fun c13 => absurd c13 (by decide)) (fun c13 => ?_)
              refine lv_aload_n hx hb dX4_keep_98 rfl (lv_at hl 5 rfl) ?_
              refine lv_iload hx hb dX4_keep_99 (lv_at hl 0 rfl) ?_
              refine g_Vi (n := 1) (rest := []) S G hl (c_X4_refuse l R (j := 3) (o := 3) rfl (by decide)) gX4_keep_X4_refuse rfl (by decide +kernel) (Rc_x R) rfl rfl rfl (Nat.le_of_ble_eq_true rfl) ⟨Nat.le_of_ble_eq_true rfl, Nat.le_of_ble_eq_true rfl⟩ ⟨Nat.le_of_ble_eq_true rfl, Nat.le_of_ble_eq_true rfl⟩ dX4_keep_101 ?_
              clear G; intro r_ w1 H locs hp G
              obtain ⟨hr_, R⟩ := hp
              subst r_
              rw [if_neg (show ¬ ((3 : Int32) = 7) by decide)] at R
              refine r_int S hret hlk G rfl (Nat.le_of_ble_eq_true rfl) (Nat.le_of_ble_eq_true rfl) dX4_keep_104 ?_
              have yk1 := tin_e ek1 hk1 (show n ≤ 1000 by omega)
              have zk1 := cn_e ek1 (show k1 < 1000 by omega)
              have yk3 := tin_e ek3 hk3 (show n ≤ 1000 by omega)
              have zk3 := cn_e ek3 (show k3 < 1000 by omega)
              have qr8 := nm1 (show r8 < 100000 by omega)
              have hv := hv5 c7
              rw [c7] at hQq6
              have g9 : so r8 = 0 := Int32.le_antisymm (Int32.not_lt.mp (fun z => q10 (Or.inr z))) (Int32.not_lt.mp (fun z => q10 (Or.inl z)))
              refine ⟨by simp only [S_keep, agi, yk1, zk1, yk3, zk3, er8, qr8, cn_nI (show r8 < 2 ^ 31 by omega), ql, tk11, hQq6, g9, n_of, lk_of, vs_of, hd_of, nmS, s_end, put_vs, put_it, ↓reduceIte, Bool.false_eq_true, pk_us, and_self, show ¬ ((0 : Int32) = 7) by decide, show ¬ ((1 : Int32) = 7) by decide, show ¬ ((2 : Int32) = 7) by decide, show ¬ ((3 : Int32) = 7) by decide, show ¬ ((1 : Int32) = 0) by decide, show ¬ ((2 : Int32) = 0) by decide, show ¬ ((3 : Int32) = 0) by decide], ?_⟩
              simp only [S_keep, agi, yk1, zk1, yk3, zk3, er8, qr8, cn_nI (show r8 < 2 ^ 31 by omega), ql, tk11, hQq6, g9, n_of, lk_of, vs_of, hd_of, nmS, s_end, put_vs, put_it, ↓reduceIte, Bool.false_eq_true, pk_us, and_self, show ¬ ((0 : Int32) = 7) by decide, show ¬ ((1 : Int32) = 7) by decide, show ¬ ((2 : Int32) = 7) by decide, show ¬ ((3 : Int32) = 7) by decide, show ¬ ((1 : Int32) = 0) by decide, show ¬ ((2 : Int32) = 0) by decide, show ¬ ((3 : Int32) = 0) by decide]
              exact ⟨_, _, _, _, _, _, _, _, _, _, R⟩
            · skip
              refine g_Si (n := 4) (rest := []) S G hl (c_X4_againstItem_y l R hr8 (sz_le (Kz r8 hr8)) 0 0 k) gX4_keep_X4_againstItem rfl (by decide +kernel) rfl rfl (Nat.le_of_ble_eq_true rfl) ⟨Nat.le_of_ble_eq_true rfl, Nat.le_of_ble_eq_true rfl⟩ ⟨Nat.le_of_ble_eq_true rfl, Nat.le_of_ble_eq_true rfl⟩ dX4_keep_88 ?_
              clear G; intro r_ w1 H locs hp G
              obtain ⟨rfl, hq_⟩ := hp
              have yk11 := tin_e ek11 hk11 (Nat.le_trans (sz_le (Kz r8 hr8)) (by decide))
              have zk11 := cn_e ek11 (Nat.lt_of_lt_of_le hk11 (Nat.le_trans (sz_le (Kz r8 hr8)) (by decide)))
              simp only [q10, yk11, ↓reduceIte, Bool.false_eq_true] at hq_
              subst hq_
              refine lv_istore (lv' := [(9, .int 0), (8, .ref (Rw r8)), (7, .int v5), (6, .ref (T k3)), (5, .ref (T k1)), (0, .ref x), (1, .int t), (2, .int o), (3, .int k), (4, .int li)]) hx hb dX4_keep_91 hl (by decide) rfl (fun ls hl => ?_)
              refine lv_iload hx hb dX4_keep_93 (lv_at hl 0 rfl) ?_
              refine lv_if_eq (tgt := 105) hx hb dX4_keep_95 (by decide) (fun c14 => ?_) (fun c14 => absurd (by decide) c14)
              refine lv_aload_n hx hb dX4_keep_105 rfl (lv_at hl 5 rfl) ?_
              refine lv_iconst (v := 0) hx hb dX4_keep_106 (by decide) ?_
              refine g_Vi (n := 1) (rest := []) S G hl (c_X4_tell l R (j := 0) (o := 0) rfl (by decide)) gX4_keep_X4_tell rfl (by decide +kernel) (Rc_x R) rfl rfl rfl (Nat.le_of_ble_eq_true rfl) ⟨Nat.le_of_ble_eq_true rfl, Nat.le_of_ble_eq_true rfl⟩ ⟨Nat.le_of_ble_eq_true rfl, Nat.le_of_ble_eq_true rfl⟩ dX4_keep_107 ?_
              clear G; intro r_ w1 H locs hp G
              obtain ⟨hr_, R⟩ := hp
              subst r_
              rw [if_neg (show ¬ ((0 : Int32) = 7) by decide)] at R
              refine lv_pop hx hb dX4_keep_110 rfl ?_
              refine lv_aload hx hb dX4_keep_111 (lv_at hl 1 rfl) ?_
              refine lv_iload_n hx hb dX4_keep_113 rfl (lv_at hl 8 rfl) ?_
              refine lv_iload hx hb dX4_keep_114 (lv_at hl 2 rfl) ?_
              refine lv_i2l (v := (Int32.toInt64 v5)) hx hb dX4_keep_116 rfl ?_
              refine g_Vl (n := 2) (rest := []) S G hl (c_X0_put l (Rc_Rw R r8 hr8) (Rc_Ia R r8 hr8) ek11 hk11 (Nat.le_trans (sz_le (Kz r8 hr8)) (by decide)) (Int32.toInt64 v5)) gX4_keep_X0_put rfl (by decide +kernel) (Rc_Rw R r8 hr8) rfl rfl rfl (Nat.le_of_ble_eq_true rfl) ⟨Nat.le_of_ble_eq_true rfl, Nat.le_of_ble_eq_true rfl⟩ ⟨Nat.le_of_ble_eq_true rfl, Nat.le_of_ble_eq_true rfl⟩ dX4_keep_117 ?_
              clear G; intro r_ w1 H locs hp G
              obtain ⟨rfl, rfl⟩ := hp
              have fj := Rc_F R r8 hr8 k11 hk11
              obtain ⟨w, R, G⟩ := Rc_ex (Rc_p_put R hr8 Kz hk11 (Int32.toInt64 v5)) G
              refine lv_pop2_2 hx hb dX4_keep_120 rfl ?_
              refine lv_iload hx hb dX4_keep_121 (lv_at hl 2 rfl) ?_
              refine r_int S hret hlk G rfl (Nat.le_of_ble_eq_true rfl) (Nat.le_of_ble_eq_true rfl) dX4_keep_123 ?_
              have yk1 := tin_e ek1 hk1 (show n ≤ 1000 by omega)
              have zk1 := cn_e ek1 (show k1 < 1000 by omega)
              have yk3 := tin_e ek3 hk3 (show n ≤ 1000 by omega)
              have zk3 := cn_e ek3 (show k3 < 1000 by omega)
              have qr8 := nm1 (show r8 < 100000 by omega)
              have hv := hv5 c7
              rw [c7] at hQq6
              have g9 : so r8 = 0 := Int32.le_antisymm (Int32.not_lt.mp (fun z => q10 (Or.inr z))) (Int32.not_lt.mp (fun z => q10 (Or.inl z)))
              rw [hv] at R ⊢
              refine ⟨by simp only [S_keep, agi, yk1, zk1, yk3, zk3, er8, qr8, cn_nI (show r8 < 2 ^ 31 by omega), ql, yk11, zk11, fj, hQq6, g9, n_of, lk_of, vs_of, hd_of, nmS, s_end, put_vs, put_it, ↓reduceIte, Bool.false_eq_true, pk_us, and_self, show ¬ ((0 : Int32) = 7) by decide, show ¬ ((1 : Int32) = 7) by decide, show ¬ ((2 : Int32) = 7) by decide, show ¬ ((3 : Int32) = 7) by decide, show ¬ ((1 : Int32) = 0) by decide, show ¬ ((2 : Int32) = 0) by decide, show ¬ ((3 : Int32) = 0) by decide], ?_⟩
              simp only [S_keep, agi, yk1, zk1, yk3, zk3, er8, qr8, cn_nI (show r8 < 2 ^ 31 by omega), ql, yk11, zk11, fj, hQq6, g9, n_of, lk_of, vs_of, hd_of, nmS, s_end, put_vs, put_it, ↓reduceIte, Bool.false_eq_true, pk_us, and_self, show ¬ ((0 : Int32) = 7) by decide, show ¬ ((1 : Int32) = 7) by decide, show ¬ ((2 : Int32) = 7) by decide, show ¬ ((3 : Int32) = 7) by decide, show ¬ ((1 : Int32) = 0) by decide, show ¬ ((2 : Int32) = 0) by decide, show ¬ ((3 : Int32) = 0) by decide]
              exact ⟨_, _, _, _, _, _, _, _, _, _, R⟩
        · skip
          refine lv_aload_n hx hb dX4_keep_64 rfl (lv_at hl 3 rfl) ?_
          refine lv_aload_n hx hb dX4_keep_65 rfl (lv_at hl 3 rfl) ?_
          refine g_get S G (Rc_x R) rfl (by decide +kernel) 1 (by decide) (by decide +kernel) rfl dX4_keep_66 ?_
          refine g_get S G (Rc_wk R) rfl (by decide +kernel) 3 (by decide) (by decide +kernel) rfl dX4_keep_69 ?_
          refine g_Vi (n := 1) (rest := []) S G hl (c_X4_refuse l R (o := oq6) ejq6 hjq6) gX4_keep_X4_refuse rfl (by decide +kernel) (Rc_x R) rfl rfl rfl (Nat.le_of_ble_eq_true rfl) ⟨Nat.le_of_ble_eq_true rfl, Nat.le_of_ble_eq_true rfl⟩ ⟨Nat.le_of_ble_eq_true rfl, Nat.le_of_ble_eq_true rfl⟩ dX4_keep_72 ?_
          clear G; intro r_ w1 H locs hp G
          obtain ⟨hr_, R⟩ := hp
          subst r_
          refine r_int S hret hlk G rfl (Nat.le_of_ble_eq_true rfl) (Nat.le_of_ble_eq_true rfl) dX4_keep_75 ?_
          have yk1 := tin_e ek1 hk1 (show n ≤ 1000 by omega)
          have zk1 := cn_e ek1 (show k1 < 1000 by omega)
          have yk3 := tin_e ek3 hk3 (show n ≤ 1000 by omega)
          have zk3 := cn_e ek3 (show k3 < 1000 by omega)
          rw [ow_eq] at R
          refine ⟨by simp only [S_keep, yk1, zk1, yk3, zk3, ql, hQq6, n_of, lk_of, vs_of, hd_of, nmS, s_end, put_vs, put_it, ↓reduceIte, Bool.false_eq_true, pk_us, and_self, c7], ?_⟩
          simp only [S_keep, yk1, zk1, yk3, zk3, ql, hQq6, n_of, lk_of, vs_of, hd_of, nmS, s_end, put_vs, put_it, ↓reduceIte, Bool.false_eq_true, pk_us, and_self, c7]
          exact ⟨_, _, _, _, _, _, _, _, _, _, R⟩
      · skip
        refine g_Si (n := 1) (rest := []) S G hl (c_X4_isLimit l li) gX4_keep_X4_isLimit rfl (by decide +kernel) rfl rfl (Nat.le_of_ble_eq_true rfl) ⟨Nat.le_of_ble_eq_true rfl, Nat.le_of_ble_eq_true rfl⟩ ⟨Nat.le_of_ble_eq_true rfl, Nat.le_of_ble_eq_true rfl⟩ dX4_keep_32 ?_
        clear G; intro r_ w1 H locs hp G
        obtain ⟨rfl, hq_⟩ := hp
        rw [if_neg ql] at hq_
        subst hq_
        refine lv_if_ne (tgt := 41) hx hb dX4_keep_35 (by decide) (fun c15 => absurd (by decide) c15) (fun c15 => ?_)
        refine lv_ldc hx hb S.2.2.2.1 (S.2.2.2.2 (.constant RX4 33 (-2000000001)) (by decide +kernel)) dX4_keep_38 ?_
        refine r_int S hret hlk G rfl (Nat.le_of_ble_eq_true rfl) (Nat.le_of_ble_eq_true rfl) dX4_keep_40 ?_
        have yk1 := tin_e ek1 hk1 (show n ≤ 1000 by omega)
        have zk1 := cn_e ek1 (show k1 < 1000 by omega)
        have yk3 := tin_e ek3 hk3 (show n ≤ 1000 by omega)
        have zk3 := cn_e ek3 (show k3 < 1000 by omega)
        refine ⟨by simp only [S_keep, yk1, zk1, yk3, zk3, ql, n_of, lk_of, vs_of, hd_of, nmS, s_end, put_vs, put_it, ↓reduceIte, Bool.false_eq_true, pk_us, and_self], ?_⟩
        simp only [S_keep, yk1, zk1, yk3, zk3, ql, n_of, lk_of, vs_of, hd_of, nmS, s_end, put_vs, put_it, ↓reduceIte, Bool.false_eq_true, pk_us, and_self]
        exact ⟨_, _, _, _, _, _, _, _, _, _, R⟩
end
section
/-! THE CLASS: what makes objects: Thing, Row, Store, Work, ClassRunner; thing, hold -/
theorem wo_uu {w : wo} {a : Nat} {x y : va_E} : wo_up (wo_up w a x) a y = wo_up w a y := by
  funext q
  by_cases h : q = a <;> simp [wo_up, h]
theorem wo_cm {w : wo} {a b : Nat} {x y : va_E} (h : a ≠ b) : wo_up (wo_up w a x) b y = wo_up (wo_up w b y) a x := by
  funext q
  by_cases h1 : q = a
  · subst h1; simp [wo_up, h]
  · simp [wo_up, h1]
theorem wo_self {w : wo} {a : Nat} {x : va_E} (h : w a = some x) : wo_up w a x = w := by
  funext q
  by_cases h1 : q = a
  · subst h1; simp [wo_up, h]
  · simp [wo_up, h1]
set_option maxHeartbeats 4000000 in
set_option maxRecDepth 100000 in
theorem c_X2_init (l : Launch) {E : EV} {w : wo} {q : Nat} (hw : w q = some (.inr (2, [.int 0, .int 0, .int 0, .null]))) (cx v : Int32) : ct_v l E yX2_init wsX2_init 1 0 0 [.ref q, .int cx, .int v] w (fun w' => w' = wo_up w q (.inr (2, [.int cx, .int v, .int (-1), .null]))) := by
  intro zz
  refine wo_body (Qc := fun A => va_Qv _ (wo_B E A) A) (ret := none) (by decide) rfl (Nat.le_of_ble_eq_true rfl) ?_
  intro p_ e_ s_ m_ args_ below_ meth_ code_ A_ ls S hret hlk hnm G hl
  have hl : lv_has ls 3 [(0, .ref q), (1, .int cx), (2, .int v)] := hl
  have hx := S.1
  have hb := S.2.1
  refine lv_aload_n hx hb dX2_init_0 rfl (lv_at hl 0 rfl) ?_
  refine g_obj S hl (by decide +kernel) (by decide +kernel) (by decide +kernel) (Nat.le_of_ble_eq_true rfl) ⟨Nat.le_of_ble_eq_true rfl, Nat.le_of_ble_eq_true rfl⟩ dX2_init_1 ?_
  refine lv_aload_n hx hb dX2_init_4 rfl (lv_at hl 0 rfl) ?_
  refine lv_iload_n hx hb dX2_init_5 rfl (lv_at hl 1 rfl) ?_
  refine g_putF (fs' := [.int cx, .int 0, .int 0, .null]) (ty := .int) (v := .int cx) S G hw rfl tyX2 tyX2_ok nmX2 (by decide +kernel) 0 (by decide) (by decide +kernel) rfl hnm rfl (by decide +kernel) rfl rfl (Nat.le_of_ble_eq_true rfl) rfl dX2_init_6 (fun H locs G => ?_)
  have hw := wo_up_s (w := w) (a := q) (e := .inr (2, [.int cx, .int 0, .int 0, .null]))
  refine lv_aload_n hx hb dX2_init_9 rfl (lv_at hl 0 rfl) ?_
  refine lv_iload_n hx hb dX2_init_10 rfl (lv_at hl 2 rfl) ?_
  refine g_put (fs' := [.int cx, .int v, .int 0, .null]) (ty := .int) (v := .int v) S G hw rfl tyX2 tyX2_ok nmX2 (by decide +kernel) 1 (by decide) (by decide +kernel) rfl (by decide +kernel) rfl rfl (Nat.le_of_ble_eq_true rfl) rfl dX2_init_11 (fun H locs G => ?_)
  have hw := wo_up_s (w := (wo_up w q (.inr (2, [.int cx, .int 0, .int 0, .null])))) (a := q) (e := .inr (2, [.int cx, .int v, .int 0, .null]))
  refine lv_aload_n hx hb dX2_init_14 rfl (lv_at hl 0 rfl) ?_
  refine lv_iconst (v := (-1)) hx hb dX2_init_15 (by decide) ?_
  refine g_put (fs' := [.int cx, .int v, .int (-1), .null]) (ty := .int) (v := .int (-1)) S G hw rfl tyX2 tyX2_ok nmX2 (by decide +kernel) 2 (by decide) (by decide +kernel) rfl (by decide +kernel) rfl rfl (Nat.le_of_ble_eq_true rfl) rfl dX2_init_16 (fun H locs G => ?_)
  have hw := wo_up_s (w := (wo_up (wo_up w q (.inr (2, [.int cx, .int 0, .int 0, .null]))) q (.inr (2, [.int cx, .int v, .int 0, .null])))) (a := q) (e := .inr (2, [.int cx, .int v, .int (-1), .null]))
  refine r_void S hret hlk G (Nat.le_of_ble_eq_true rfl) (Nat.le_of_ble_eq_true rfl) dX2_init_19 ?_
  rw [wo_uu, wo_uu]

set_option maxHeartbeats 4000000 in
set_option maxRecDepth 100000 in
theorem c_X1_add (l : Launch) {E : EV} {w : wo} {x st wk tl ta : Nat} {tf : Nat → Option Nat} {T Rw Ia : Nat → Nat} {F : Nat → Nat → Int64} {n : Nat} {cl vs lk hd : Nat → Int32} {nr : Nat} {so sz : Nat → Int32} {it : Nat → Int64} {oc ow bg dp : Int32} {td : Nat → Int32} {lim wou th : Int32} (R : Rc E w (x, st, wk, tl, ta, tf, T, Rw, Ia, F) (n, cl, vs, lk, hd, nr, so, sz, it, oc, ow, bg, dp, td) (lim, wou, th)) (hn : n < 40) (cx v : Int32) : ct_i l E yX1_add wsX1_add 2 1 4 [.ref st, .int cx, .int v] w (fun r w' => r = nI n ∧ ∃ q : Nat, Rc E w' (x, st, wk, tl, ta, va_up tf n (some q), va_up T n q, Rw, Ia, F) (n + 1, upd cl n cx, upd vs n v, upd lk n (-1), upd hd n (-1), nr, so, sz, it, oc, ow, bg, dp, td) (lim, wou, th)) := by
  intro zz
  refine wo_body (Qc := fun A => va_Qi _ (wo_B E A) A) (ret := (some .int)) (by decide) rfl (Nat.le_of_ble_eq_true rfl) ?_
  intro p_ e_ s_ m_ args_ below_ meth_ code_ A_ ls S hret hlk hnm G hl
  have hl : lv_has ls 3 [(0, .ref st), (1, .int cx), (2, .int v)] := hl
  have hx := S.1
  have hb := S.2.1
  refine lv_aload_n hx hb dX1_add_0 rfl (lv_at hl 0 rfl) ?_
  refine g_get S G (Rc_st R) rfl (by decide +kernel) 1 (by decide) (by decide +kernel) rfl dX1_add_1 ?_
  refine lv_bipush (v := 40) hx hb dX1_add_4 (by decide) ?_
  refine lv_icmp_lt (tgt := 12) hx hb dX1_add_6 (by decide) (fun c1 => ?_) (fun c1 => absurd (nI_lt (b := 40) hn (by omega)) c1)
  refine lv_aload_n hx hb dX1_add_12 rfl (lv_at hl 0 rfl) ?_
  refine g_get S G (Rc_st R) rfl (by decide +kernel) 0 (by decide) (by decide +kernel) rfl dX1_add_13 ?_
  refine lv_aload_n hx hb dX1_add_16 rfl (lv_at hl 0 rfl) ?_
  refine g_get S G (Rc_st R) rfl (by decide +kernel) 1 (by decide) (by decide +kernel) rfl dX1_add_17 ?_
  refine g_new (fs := [.int 0, .int 0, .int 0, .null]) S G (ci := 2) rfl tyX2 tyX2_ok (by decide +kernel) (by decide +kernel) (by decide +kernel) (by decide +kernel) (fun j hj => by rcases (show j = 0 ∨ j = 1 ∨ j = 2 ∨ j = 3 by omega) with rfl | rfl | rfl | rfl <;> rfl) (Nat.le_of_ble_eq_true rfl) (Nat.le_of_ble_eq_true rfl) dX1_add_20 (fun q H hq G => ?_)
  refine lv_dup hx hb dX1_add_23 rfl ?_
  refine lv_iload_n hx hb dX1_add_24 rfl (lv_at hl 1 rfl) ?_
  refine lv_iload_n hx hb dX1_add_25 rfl (lv_at hl 2 rfl) ?_
  refine g_Iv (n := 2) (rest := [.ref q, .int (nI n), .ref ta]) S G hl (c_X2_init l wo_up_s cx v) gX1_add_X2_init (by decide +kernel) (by decide +kernel) (by decide +kernel) rfl rfl (by decide +kernel) rfl rfl (Nat.le_of_ble_eq_true rfl) ⟨Nat.le_of_ble_eq_true rfl, Nat.le_of_ble_eq_true rfl⟩ ⟨Nat.le_of_ble_eq_true rfl, Nat.le_of_ble_eq_true rfl⟩ dX1_add_26 ?_
  clear G; intro w1 H locs hp G
  subst hp
  rw [wo_uu] at G
  have nq : ∀ {a : Nat} {y : va_E}, w a = some y → a ≠ q := fun {a y} h e => by rw [e, hq] at h; cases h
  refine g_aast S G (by rw [wo_up_n (nq (Rc_ta R))]; exact Rc_ta R) wo_up_s (vin_e rfl (show n < 40 by omega) (by omega)) dX1_add_29 (fun H locs G => ?_)
  rw [show Int32.toNatClampNeg (nI n) = n from cn_nI (by omega)] at G
  have tast : st ≠ ta := wo_ap (Rc_st R) (Rc_ta R) (by simp)
  have hst : wo_up (wo_up w q (.inr (2, [.int cx, .int v, .int (-1), .null]))) ta (.inl (E.2.2.2, 40, .inr (.inr (.inr (.inr (va_up tf n (some q))))))) st = some (.inr (1, [.ref ta, .int (nI n)])) := by rw [wo_up_n tast, wo_up_n (nq (Rc_st R))]; exact Rc_st R
  refine lv_aload_n hx hb dX1_add_30 rfl (lv_at hl 0 rfl) ?_
  refine lv_dup hx hb dX1_add_31 rfl ?_
  refine g_get S G hst rfl (by decide +kernel) 1 (by decide) (by decide +kernel) rfl dX1_add_32 ?_
  refine lv_dup_x1 hx hb dX1_add_35 rfl rfl ?_
  refine lv_iconst (v := 1) hx hb dX1_add_36 (by decide) ?_
  refine lv_iadd hx hb dX1_add_37 ?_
  refine lv_topi (fun a2 ea2 => ?_)
  refine g_put (fs' := [.ref ta, .int a2]) (ty := .int) (v := .int a2) S G hst rfl tyX1 tyX1_ok nmX1 (by decide +kernel) 1 (by decide) (by decide +kernel) rfl (by decide +kernel) rfl rfl (Nat.le_of_ble_eq_true rfl) rfl dX1_add_38 (fun H locs G => ?_)
  rw [show a2 = nI (n + 1) by rw [ea2]; exact nI_1 n] at G
  have R := Rc_addT R hq cx v (-1)
  refine r_int S hret hlk G rfl (Nat.le_of_ble_eq_true rfl) (Nat.le_of_ble_eq_true rfl) dX1_add_41 ?_
  exact ⟨rfl, q, R⟩

set_option maxHeartbeats 4000000 in
set_option maxRecDepth 100000 in
theorem c_X1_add_full (l : Launch) {E : EV} {w : wo} {x st wk tl ta : Nat} {tf : Nat → Option Nat} {T Rw Ia : Nat → Nat} {F : Nat → Nat → Int64} {n : Nat} {cl vs lk hd : Nat → Int32} {nr : Nat} {so sz : Nat → Int32} {it : Nat → Int64} {oc ow bg dp : Int32} {td : Nat → Int32} {lim wou th : Int32} (R : Rc E w (x, st, wk, tl, ta, tf, T, Rw, Ia, F) (n, cl, vs, lk, hd, nr, so, sz, it, oc, ow, bg, dp, td) (lim, wou, th)) (hn : n = 40) (cx v : Int32) : ct_i l E yX1_add wsX1_add 2 1 4 [.ref st, .int cx, .int v] w (fun r w' => r = -2 ∧ w' = w) := by
  intro zz
  refine wo_body (Qc := fun A => va_Qi _ (wo_B E A) A) (ret := (some .int)) (by decide) rfl (Nat.le_of_ble_eq_true rfl) ?_
  intro p_ e_ s_ m_ args_ below_ meth_ code_ A_ ls S hret hlk hnm G hl
  have hl : lv_has ls 3 [(0, .ref st), (1, .int cx), (2, .int v)] := hl
  have hx := S.1
  have hb := S.2.1
  refine lv_aload_n hx hb dX1_add_0 rfl (lv_at hl 0 rfl) ?_
  refine g_get S G (Rc_st R) rfl (by decide +kernel) 1 (by decide) (by decide +kernel) rfl dX1_add_1 ?_
  refine lv_bipush (v := 40) hx hb dX1_add_4 (by decide) ?_
  refine lv_icmp_lt (tgt := 12) hx hb dX1_add_6 (by decide) (fun c1 => absurd c1 (by rw [hn]; decide)) (fun c1 => ?_)
  refine lv_bipush (v := (-2)) hx hb dX1_add_9 (by decide) ?_
  refine r_int S hret hlk G rfl (Nat.le_of_ble_eq_true rfl) (Nat.le_of_ble_eq_true rfl) dX1_add_11 ?_
  exact ⟨rfl, rfl⟩

set_option maxHeartbeats 4000000 in
set_option maxRecDepth 100000 in
theorem C_thing (l : Launch) {E : EV} {w : wo} {x : Nat} {σ : ST} (X : RcX E w x σ) (K : Gd σ) (c : Int32) (v : Int32) : ct_i l E yX4_thing wsX4_thing 3 1 4 [.ref x, .int c, .int v] w (fun r w' => r = (S_thing c v σ).1 ∧ RcX E w' x (S_thing c v σ).2) := by
  obtain ⟨st, wk, tl, ta, tf, T, Rw, Ia, F, ⟨lim, wou, th⟩, R⟩ := X
  obtain ⟨n, cl, vs, lk, hd, nr, so, sz, it, oc, ow, bg, dp, td⟩ := σ
  obtain ⟨Kn, Kr, Kc, Kl, Kh, Ks, Kz, Ki⟩ := K
  intro zz
  refine wo_body (Qc := fun A => va_Qi _ (wo_B E A) A) (ret := (some .int)) (by decide) rfl (Nat.le_of_ble_eq_true rfl) ?_
  intro p_ e_ s_ m_ args_ below_ meth_ code_ A_ ls S hret hlk hnm G hl
  have hl : lv_has ls 3 [(0, .ref x), (1, .int c), (2, .int v)] := hl
  have hx := S.1
  have hb := S.2.1
  refine lv_iload_n hx hb dX4_thing_0 rfl (lv_at hl 1 rfl) ?_
  refine g_Si (n := 1) (rest := []) S G hl (c_X4_isClass l c) gX4_thing_X4_isClass rfl (by decide +kernel) rfl rfl (Nat.le_of_ble_eq_true rfl) ⟨Nat.le_of_ble_eq_true rfl, Nat.le_of_ble_eq_true rfl⟩ ⟨Nat.le_of_ble_eq_true rfl, Nat.le_of_ble_eq_true rfl⟩ dX4_thing_1 ?_
  clear G; intro r_ w1 H locs hp G
  obtain ⟨rfl, rfl⟩ := hp
  refine lv_if_ne (tgt := 10) hx hb dX4_thing_4 (by decide) (fun c1 => ?_) (fun c1 => ?_)
  · skip
    refine lv_aload_n hx hb dX4_thing_10 rfl (lv_at hl 0 rfl) ?_
    refine g_get S G (Rc_x R) rfl (by decide +kernel) 0 (by decide) (by decide +kernel) rfl dX4_thing_11 ?_
    refine lv_iload_n hx hb dX4_thing_14 rfl (lv_at hl 1 rfl) ?_
    refine lv_iload_n hx hb dX4_thing_15 rfl (lv_at hl 2 rfl) ?_
    by_cases hf : n = 40
    · skip
      refine g_Vi (n := 2) (rest := []) S G hl (c_X1_add_full l R hf c v) gX4_thing_X1_add rfl (by decide +kernel) (Rc_st R) rfl rfl rfl (Nat.le_of_ble_eq_true rfl) ⟨Nat.le_of_ble_eq_true rfl, Nat.le_of_ble_eq_true rfl⟩ ⟨Nat.le_of_ble_eq_true rfl, Nat.le_of_ble_eq_true rfl⟩ dX4_thing_16 ?_
      clear G; intro r_ w1 H locs hp G
      obtain ⟨rfl, rfl⟩ := hp
      refine r_int S hret hlk G rfl (Nat.le_of_ble_eq_true rfl) (Nat.le_of_ble_eq_true rfl) dX4_thing_19 ?_
      by_cases qc : tin 8 c = true
      · refine ⟨by simp only [S_thing, qc, hf, ↓reduceIte], ?_⟩
        simp only [S_thing, qc, hf, ↓reduceIte]
        exact ⟨_, _, _, _, _, _, _, _, _, _, by rw [← hf]; exact R⟩
      · rw [if_neg qc] at c1
        exact absurd rfl c1
    · skip
      refine g_Vi (n := 2) (rest := []) S G hl (c_X1_add l R (by omega) c v) gX4_thing_X1_add rfl (by decide +kernel) (Rc_st R) rfl rfl rfl (Nat.le_of_ble_eq_true rfl) ⟨Nat.le_of_ble_eq_true rfl, Nat.le_of_ble_eq_true rfl⟩ ⟨Nat.le_of_ble_eq_true rfl, Nat.le_of_ble_eq_true rfl⟩ dX4_thing_16 ?_
      clear G; intro r_ w1 H locs hp G
      obtain ⟨rfl, q, R⟩ := hp
      refine r_int S hret hlk G rfl (Nat.le_of_ble_eq_true rfl) (Nat.le_of_ble_eq_true rfl) dX4_thing_19 ?_
      by_cases qc : tin 8 c = true
      · refine ⟨by simp only [S_thing, qc, hf, ↓reduceIte], ?_⟩
        simp only [S_thing, qc, hf, ↓reduceIte]
        exact ⟨_, _, _, _, _, _, _, _, _, _, R⟩
      · rw [if_neg qc] at c1
        exact absurd rfl c1
  · skip
    refine lv_ldc hx hb S.2.2.2.1 (S.2.2.2.2 (.constant RX4 33 (-2000000001)) (by decide +kernel)) dX4_thing_7 ?_
    refine r_int S hret hlk G rfl (Nat.le_of_ble_eq_true rfl) (Nat.le_of_ble_eq_true rfl) dX4_thing_9 ?_
    by_cases qc : tin 8 c = true
    · rw [if_pos qc] at c1
      exact absurd c1 (by decide)
    · refine ⟨by simp only [S_thing, qc, ↓reduceIte, Bool.false_eq_true], ?_⟩
      simp only [S_thing, qc, ↓reduceIte, Bool.false_eq_true]
      exact ⟨_, _, _, _, _, _, _, _, _, _, R⟩

set_option maxHeartbeats 4000000 in
set_option maxRecDepth 100000 in
theorem lp_fill {p_ : Program} {l : Launch} {e_ : Env} {R_ : Room} {s_ : State} {m_ : MethodId} {args_ : Array Value} {below_ : List Frame} {meth_ : Method} {code_ : Code} {cells slots : Nat} {Q_ : State → Prop} {E : EV} {A_ : Nat → Prop} (S : CallFix p_ m_ code_ cJ7_fill_d0a16 5 s_ args_ wsJ7_fill_d0a16 yJ7_fill_d0a16.cls) {b N : Nat} {v : Int64} {w : wo} (hN : N ≤ 1000) (kx : ∀ (g : Nat → Int64) (H : Heap) (locs : List Loc) (ls : Array Slot), (∀ i, i < N → g i = v) → wo_G E A_ s_ (wo_up w b (.inl (E.2.2.1, N, .inr (.inl g)))) H locs → W p_ l e_ R_ s_ m_ args_ below_ meth_ code_ H locs cells slots Q_ (F0 m_ 22 ls [])) : ∀ (mm j : Nat) (jv : Int32) (g : Nat → Int64) (H : Heap) (locs : List Loc), j + mm = N → (∀ i, i < j → g i = v) → jv = nI j → wo_G E A_ s_ (wo_up w b (.inl (E.2.2.1, N, .inr (.inl g)))) H locs → ∀ ls : Array Slot, lv_has ls 5 [(0, .ref b), (1, .long v), (3, .int jv), (4, .int (nI N))] → W p_ l e_ R_ s_ m_ args_ below_ meth_ code_ H locs cells slots Q_ (F0 m_ 6 ls []) := by
  have hx := S.1
  have hb := S.2.1
  intro mm
  induction mm with
  | zero =>
    intro j jv g H locs hj eg ej G ls hl
    refine lv_iload_n hx hb dJ7_fill_d0a16_6 rfl (lv_at hl 2 rfl) ?_
    refine lv_iload hx hb dJ7_fill_d0a16_7 (lv_at hl 3 rfl) ?_
    refine lv_icmp_ge (tgt := 22) hx hb dJ7_fill_d0a16_9 (by decide) (fun c1 => ?_) (fun c1 => absurd (by rw [ej]; exact nI_le (by omega) (by omega)) c1)
    exact kx g H locs ls (fun i hi => eg i (by omega)) G
  | succ mm ih =>
    intro j jv g H locs hj eg ej G ls hl
    refine lv_iload_n hx hb dJ7_fill_d0a16_6 rfl (lv_at hl 2 rfl) ?_
    refine lv_iload hx hb dJ7_fill_d0a16_7 (lv_at hl 3 rfl) ?_
    refine lv_icmp_ge (tgt := 22) hx hb dJ7_fill_d0a16_9 (by decide) (fun c1 => absurd c1 (by rw [ej]; exact nI_ge (by omega) (by omega))) (fun c1 => ?_)
    refine lv_aload_n hx hb dJ7_fill_d0a16_12 rfl (lv_at hl 0 rfl) ?_
    refine lv_iload_n hx hb dJ7_fill_d0a16_13 rfl (lv_at hl 2 rfl) ?_
    refine lv_lload_n hx hb dJ7_fill_d0a16_14 rfl (lv_at hl 1 rfl) ?_
    refine g_last S G wo_up_s (vin_e ej (show j < N by omega) (by omega)) dJ7_fill_d0a16_15 (fun H locs G => ?_)
    rw [wo_uu, show Int32.toNatClampNeg jv = j from cn_e ej (by omega)] at G
    obtain ⟨a2, ea2⟩ : ∃ y : Int32, y = jv + 1 := ⟨_, rfl⟩
    refine lv_iinc (v := a2) (lv' := [(3, .int a2), (0, .ref b), (1, .long v), (4, .int (nI N))]) hx hb dJ7_fill_d0a16_16 hl (k := 2) rfl (by rw [ea2]; rfl) (by decide) rfl (fun ls hl => ?_)
    refine lv_goto (tgt := 6) hx hb dJ7_fill_d0a16_19 (by decide) ?_
    exact ih (j + 1) a2 (vp_updL g j v) H locs (by omega) (fun i hi => by
      by_cases q : i = j
      · rw [q, pk_uLs]
      · rw [pk_uLn q]; exact eg i (by omega)) (by rw [ea2, ej]; exact nI_1 j) G ls (lv_sub hl [1, 2, 0, 3] rfl)
set_option maxHeartbeats 4000000 in
set_option maxRecDepth 100000 in
theorem c_fill (l : Launch) {E : EV} {w : wo} {b N : Nat} {f : Nat → Int64} (ha : w b = some (.inl (E.2.2.1, N, .inr (.inl f)))) (hN : N ≤ 1000) (v : Int64) : ct_v l E yJ7_fill_d0a16 wsJ7_fill_d0a16 0 0 0 [.ref b, .long v] w (fun w' => ∃ g : Nat → Int64, w' = wo_up w b (.inl (E.2.2.1, N, .inr (.inl g))) ∧ ∀ j, j < N → g j = v) := by
  intro zz
  refine wo_body (Qc := fun A => va_Qv _ (wo_B E A) A) (ret := none) (by decide) rfl (Nat.le_of_ble_eq_true rfl) ?_
  intro p_ e_ s_ m_ args_ below_ meth_ code_ A_ ls S hret hlk hnm G hl
  have hl : lv_has ls 5 [(0, .ref b), (1, .long v)] := hl
  have hx := S.1
  have hb := S.2.1
  refine lv_iconst (v := 0) hx hb dJ7_fill_d0a16_0 (by decide) ?_
  refine lv_istore_n (lv' := [(3, .int 0), (0, .ref b), (1, .long v)]) hx hb dJ7_fill_d0a16_1 rfl hl (by decide) rfl (fun ls hl => ?_)
  refine lv_aload_n hx hb dJ7_fill_d0a16_2 rfl (lv_at hl 1 rfl) ?_
  refine g_llen S G ha dJ7_fill_d0a16_3 ?_
  refine lv_istore (lv' := [(4, .int (nI N)), (3, .int 0), (0, .ref b), (1, .long v)]) hx hb dJ7_fill_d0a16_4 hl (by decide) rfl (fun ls hl => ?_)
  rw [← wo_self ha] at G
  refine lp_fill S hN (fun g H locs ls hg G => ?_) N 0 0 f _ _ (by omega) (fun i hi => absurd hi (by omega)) rfl G ls (lv_sub hl [2, 3, 1, 0] rfl)
  refine r_void S hret hlk G (Nat.le_of_ble_eq_true rfl) (Nat.le_of_ble_eq_true rfl) dJ7_fill_d0a16_22 ?_
  exact ⟨g, rfl, hg⟩
end
section
/-! THE CLASS: Row(), hold; Store(), Work(), ClassRunner() -/
set_option maxHeartbeats 4000000 in
set_option maxRecDepth 100000 in
theorem c_X0_init (l : Launch) {E : EV} {w : wo} {b N : Nat} (hw : w b = some (.inr (0, [.int 0, .null]))) (s : Int32) {z : Int32} (ez : z = nI N) (hN : N < 13) : ct_v l E yX0_init wsX0_init 1 1 12 [.ref b, .int s, .int z] w (fun w' => ∃ (q2 : Nat) (f : Nat → Int64), w' = wo_up (wo_up w b (.inr (0, [.int s, .ref q2]))) q2 (.inl (E.2.2.1, N, .inr (.inl f))) ∧ w q2 = none ∧ q2 ≠ b ∧ ∀ j, j < N → f j = if s = 2 ∨ s = 3 then -1 else 0) := by
  intro zz
  refine wo_body (Qc := fun A => va_Qv _ (wo_B E A) A) (ret := none) (by decide) rfl (Nat.le_of_ble_eq_true rfl) ?_
  intro p_ e_ s_ m_ args_ below_ meth_ code_ A_ ls S hret hlk hnm G hl
  have hl : lv_has ls 3 [(0, .ref b), (1, .int s), (2, .int z)] := hl
  have hx := S.1
  have hb := S.2.1
  refine lv_aload_n hx hb dX0_init_0 rfl (lv_at hl 0 rfl) ?_
  refine g_obj S hl (by decide +kernel) (by decide +kernel) (by decide +kernel) (Nat.le_of_ble_eq_true rfl) ⟨Nat.le_of_ble_eq_true rfl, Nat.le_of_ble_eq_true rfl⟩ dX0_init_1 ?_
  refine lv_aload_n hx hb dX0_init_4 rfl (lv_at hl 0 rfl) ?_
  refine lv_iload_n hx hb dX0_init_5 rfl (lv_at hl 1 rfl) ?_
  refine g_putF (fs' := [.int s, .null]) (ty := .int) (v := .int s) S G hw rfl tyX0 tyX0_ok nmX0 (by decide +kernel) 0 (by decide) (by decide +kernel) rfl hnm rfl (by decide +kernel) rfl rfl (Nat.le_of_ble_eq_true rfl) rfl dX0_init_6 (fun H locs G => ?_)
  have hw := wo_up_s (w := w) (a := b) (e := .inr (0, [.int s, .null]))
  refine lv_aload_n hx hb dX0_init_9 rfl (lv_at hl 0 rfl) ?_
  refine lv_iload_n hx hb dX0_init_10 rfl (lv_at hl 2 rfl) ?_
  refine g_newl S G (by decide +kernel) (by rw [ez]; exact nI_pos (by omega)) (show Int32.toNatClampNeg z = N from cn_e ez (by omega)) (by omega) (Nat.le_of_ble_eq_true rfl) (show 0 + N ≤ 12 by omega) dX0_init_11 (fun q2 H hq2 G => ?_)
  have hne : q2 ≠ b := fun e => by rw [e, wo_up_s] at hq2; cases hq2
  have hwq : w q2 = none := by rw [wo_up_n hne] at hq2; exact hq2
  have hw := (wo_up_n (w := wo_up w b (.inr (0, [.int s, .null]))) (e := .inl (E.2.2.1, N, .inr (.inl (fun _ => 0)))) (Ne.symm hne)).trans hw
  refine W.widen (k := 1) (n := 12) (by omega) (by omega) ?_
  refine g_putF (fs' := [.int s, .ref q2]) (ty := .array .long) (v := .ref q2) S G hw rfl tyX0 tyX0_ok nmX0 (by decide +kernel) 1 (by decide) (by decide +kernel) rfl hnm rfl (by decide +kernel) rfl rfl (Nat.le_of_ble_eq_true rfl) rfl dX0_init_13 (fun H locs G => ?_)
  rw [wo_cm hne, wo_uu] at G
  have hw : wo_up (wo_up w b (.inr (0, [.int s, .ref q2]))) q2 (.inl (E.2.2.1, N, .inr (.inl (fun _ => 0)))) b = some (.inr (0, [.int s, .ref q2])) := by rw [wo_up_n (Ne.symm hne)]; exact wo_up_s
  refine lv_iload_n hx hb dX0_init_16 rfl (lv_at hl 1 rfl) ?_
  refine lv_iconst (v := 2) hx hb dX0_init_17 (by decide) ?_
  refine lv_icmp_eq (tgt := 26) hx hb dX0_init_18 (by decide) (fun c1 => ?_) (fun c1 => ?_)
  · skip
    refine lv_aload_n hx hb dX0_init_26 rfl (lv_at hl 0 rfl) ?_
    refine g_get S G hw rfl (by decide +kernel) 1 (by decide) (by decide +kernel) rfl dX0_init_27 ?_
    refine lv_ldc2 hx hb S.2.2.2.1 (S.2.2.2.2 (.constantLong RX0 19 (-1)) (by decide +kernel)) dX0_init_30 ?_
    refine g_Sv (n := 2) (rest := []) S G hl (c_fill l wo_up_s (by omega) (-1)) gX0_init_J7_fill_d0a16 rfl (by decide +kernel) rfl rfl (Nat.le_of_ble_eq_true rfl) ⟨Nat.le_of_ble_eq_true rfl, Nat.le_of_ble_eq_true rfl⟩ ⟨Nat.le_of_ble_eq_true rfl, Nat.le_of_ble_eq_true rfl⟩ dX0_init_33 ?_
    clear G; intro w1 H locs hp G
    obtain ⟨g, rfl, hg⟩ := hp
    rw [wo_uu] at G
    refine r_void S hret hlk G (Nat.le_of_ble_eq_true rfl) (Nat.le_of_ble_eq_true rfl) dX0_init_36 ?_
    exact ⟨q2, g, rfl, hwq, hne, fun j hj => by rw [if_pos (Or.inl c1)]; exact hg j hj⟩
  · skip
    refine lv_iload_n hx hb dX0_init_21 rfl (lv_at hl 1 rfl) ?_
    refine lv_iconst (v := 3) hx hb dX0_init_22 (by decide) ?_
    refine lv_icmp_ne (tgt := 36) hx hb dX0_init_23 (by decide) (fun c2 => ?_) (fun c2 => ?_)
    · skip
      refine r_void S hret hlk G (Nat.le_of_ble_eq_true rfl) (Nat.le_of_ble_eq_true rfl) dX0_init_36 ?_
      exact ⟨q2, _, rfl, hwq, hne, fun j hj => by rw [if_neg (fun z => z.elim c1 c2)]⟩
    · skip
      refine lv_aload_n hx hb dX0_init_26 rfl (lv_at hl 0 rfl) ?_
      refine g_get S G hw rfl (by decide +kernel) 1 (by decide) (by decide +kernel) rfl dX0_init_27 ?_
      refine lv_ldc2 hx hb S.2.2.2.1 (S.2.2.2.2 (.constantLong RX0 19 (-1)) (by decide +kernel)) dX0_init_30 ?_
      refine g_Sv (n := 2) (rest := []) S G hl (c_fill l wo_up_s (by omega) (-1)) gX0_init_J7_fill_d0a16 rfl (by decide +kernel) rfl rfl (Nat.le_of_ble_eq_true rfl) ⟨Nat.le_of_ble_eq_true rfl, Nat.le_of_ble_eq_true rfl⟩ ⟨Nat.le_of_ble_eq_true rfl, Nat.le_of_ble_eq_true rfl⟩ dX0_init_33 ?_
      clear G; intro w1 H locs hp G
      obtain ⟨g, rfl, hg⟩ := hp
      rw [wo_uu] at G
      refine r_void S hret hlk G (Nat.le_of_ble_eq_true rfl) (Nat.le_of_ble_eq_true rfl) dX0_init_36 ?_
      exact ⟨q2, g, rfl, hwq, hne, fun j hj => by rw [if_pos (Or.inr c2)]; exact hg j hj⟩

theorem fil_in {it : Nat → Int64} {r : Nat} {v : Int64} {m k : Nat} (h : k < m) : fil it r v m (12 * r + k) = v := by
  unfold fil
  rw [if_pos ⟨by omega, by omega⟩]
theorem fil_out {it : Nat → Int64} {r r2 : Nat} {v : Int64} {k : Nat} (h : r2 < r) (hk : k < 12) : fil it r v 12 (12 * r2 + k) = it (12 * r2 + k) := by
  unfold fil
  rw [if_neg (by omega)]
theorem s23 {s : Int32} (h : tin 4 s = true) : (if s = 2 ∨ s = 3 then (-1 : Int64) else 0) = if s < 2 then 0 else -1 := by
  rcases tin_c 4 s (by omega) with ⟨h1, -⟩ | ⟨k, hk, rfl⟩
  · rw [h1] at h; cases h
  · rcases (show k = 0 ∨ k = 1 ∨ k = 2 ∨ k = 3 by omega) with rfl | rfl | rfl | rfl <;> decide
theorem s_in {s : Int32} (h1 : ¬ s < -1) (h2 : ¬ 3 < s) (h3 : ¬ s = -1) : tin 4 s = true := by
  rcases tin_c 4 s (by omega) with ⟨h, q | q⟩ | ⟨k, hk, e⟩
  · have a1 := Int32.le_iff_toInt_le.mp (Int32.not_lt.mp h1)
    have a2 := Int32.lt_iff_toInt_lt.mp q
    have a3 : (-1 : Int32).toInt = -1 := by decide
    have a4 : (0 : Int32).toInt = 0 := by decide
    exact absurd (Int32.toInt_inj.mp (show s.toInt = (-1 : Int32).toInt by omega)) h3
  · exact absurd (Int32.lt_of_lt_of_le (show (3 : Int32) < nI 4 by decide) q) h2
  · exact tin_e e hk (by omega)
theorem s_out {s : Int32} (h : s < -1 ∨ 3 < s) : ¬ (s = -1 ∨ tin 4 s = true) := by
  rintro (q | q)
  · subst q
    revert h; decide
  · rcases tin_c 4 s (by omega) with ⟨h1, -⟩ | ⟨k, hk, rfl⟩
    · rw [h1] at q; cases q
    · rcases h with h | h
      · exact nI_pos (show k < 2 ^ 31 by omega) (Int32.lt_trans h (by decide))
      · exact nI_nlt (a := 3) (b := k) (by omega) (by omega) h
def nr_of : ST → Nat
  | (_, _, _, _, _, nr, _) => nr
set_option maxHeartbeats 4000000 in
set_option maxRecDepth 100000 in
theorem C_hold (l : Launch) {E : EV} {w : wo} {x : Nat} {σ : ST} (X : RcX E w x σ) (K : Gd σ) (hnr : nr_of σ < 512) (t s z : Int32) : ct_i l E yX4_hold wsX4_hold 2 2 14 [.ref x, .int t, .int s, .int z] w (fun r w' => r = (S_hold t s z σ).1 ∧ RcX E w' x (S_hold t s z σ).2) := by
  obtain ⟨st, wk, tl, ta, tf, T, Rw, Ia, F, ⟨lim, wou, th⟩, R⟩ := X
  obtain ⟨n, cl, vs, lk, hd, nr, so, sz, it, oc, ow, bg, dp, td⟩ := σ
  obtain ⟨Kn, Kr, Kc, Kl, Kh, Ks, Kz, Ki⟩ := K
  replace hnr : nr < 512 := hnr
  intro zz
  refine wo_body (Qc := fun A => va_Qi _ (wo_B E A) A) (ret := (some .int)) (by decide) rfl (Nat.le_of_ble_eq_true rfl) ?_
  intro p_ e_ s_ m_ args_ below_ meth_ code_ A_ ls S hret hlk hnm G hl
  have hl : lv_has ls 5 [(0, .ref x), (1, .int t), (2, .int s), (3, .int z)] := hl
  have hx := S.1
  have hb := S.2.1
  refine lv_aload_n hx hb dX4_hold_0 rfl (lv_at hl 0 rfl) ?_
  refine g_get S G (Rc_x R) rfl (by decide +kernel) 0 (by decide) (by decide +kernel) rfl dX4_hold_1 ?_
  refine lv_iload_n hx hb dX4_hold_4 rfl (lv_at hl 1 rfl) ?_
  rcases tin_c n t (by omega) with ⟨tk1, ok1⟩ | ⟨k1, hk1, ek1⟩
  · skip
    refine g_Vq (n := 1) (rest := []) S G hl (c_X1_find_n l R Kn ok1) gX4_hold_X1_find rfl (by decide +kernel) (Rc_st R) rfl rfl rfl (Nat.le_of_ble_eq_true rfl) ⟨Nat.le_of_ble_eq_true rfl, Nat.le_of_ble_eq_true rfl⟩ ⟨Nat.le_of_ble_eq_true rfl, Nat.le_of_ble_eq_true rfl⟩ dX4_hold_5 ?_
    clear G; intro r_ w1 H locs hp G
    obtain ⟨rfl, rfl⟩ := hp
    refine W.eq (g2 := F0 m_ 8 ls [.null]) rfl ?_
    refine lv_astoreN (lv' := [(4, .null), (0, .ref x), (1, .int t), (2, .int s), (3, .int z)]) hx hb dX4_hold_8 hl (by decide) rfl (fun ls hl => ?_)
    refine lv_aloadN hx hb dX4_hold_10 (lv_at hl 0 rfl) ?_
    refine lv_ifnullN (tgt := 31) hx hb dX4_hold_12 (by decide) ?_
    refine lv_ldc hx hb S.2.2.2.1 (S.2.2.2.2 (.constant RX4 33 (-2000000001)) (by decide +kernel)) dX4_hold_31 ?_
    refine r_int S hret hlk G rfl (Nat.le_of_ble_eq_true rfl) (Nat.le_of_ble_eq_true rfl) dX4_hold_33 ?_
    refine ⟨by simp only [S_hold, tk1, s_tell, put_hd, add_row, ↓reduceIte, Bool.false_eq_true], ?_⟩
    simp only [S_hold, tk1, s_tell, put_hd, add_row, ↓reduceIte, Bool.false_eq_true]
    exact ⟨_, _, _, _, _, _, _, _, _, _, R⟩
  · skip
    refine g_Vq (n := 1) (rest := []) S G hl (c_X1_find_y l R Kn ek1 hk1) gX4_hold_X1_find rfl (by decide +kernel) (Rc_st R) rfl rfl rfl (Nat.le_of_ble_eq_true rfl) ⟨Nat.le_of_ble_eq_true rfl, Nat.le_of_ble_eq_true rfl⟩ ⟨Nat.le_of_ble_eq_true rfl, Nat.le_of_ble_eq_true rfl⟩ dX4_hold_5 ?_
    clear G; intro r_ w1 H locs hp G
    obtain ⟨rfl, rfl⟩ := hp
    refine W.eq (g2 := F0 m_ 8 ls [.ref (T k1)]) rfl ?_
    refine lv_astore (lv' := [(4, .ref (T k1)), (0, .ref x), (1, .int t), (2, .int s), (3, .int z)]) hx hb dX4_hold_8 hl (by decide) rfl (fun ls hl => ?_)
    refine lv_aload hx hb dX4_hold_10 (lv_at hl 0 rfl) ?_
    refine lv_ifnull hx hb dX4_hold_12 ?_
    refine lv_iload_n hx hb dX4_hold_15 rfl (lv_at hl 3 rfl) ?_
    refine lv_iconst (v := (-1)) hx hb dX4_hold_16 (by decide) ?_
    refine lv_icmp_lt (tgt := 31) hx hb dX4_hold_17 (by decide) (fun c2 => ?_) (fun c2 => ?_)
    · skip
      refine lv_ldc hx hb S.2.2.2.1 (S.2.2.2.2 (.constant RX4 33 (-2000000001)) (by decide +kernel)) dX4_hold_31 ?_
      refine r_int S hret hlk G rfl (Nat.le_of_ble_eq_true rfl) (Nat.le_of_ble_eq_true rfl) dX4_hold_33 ?_
      have yk1 := tin_e ek1 hk1 (show n ≤ 1000 by omega)
      have zk1 := cn_e ek1 (show k1 < 1000 by omega)
      have d8 := s_out (Or.inl c2)
      refine ⟨by simp only [S_hold, yk1, zk1, d8, s_tell, put_hd, add_row, ↓reduceIte, Bool.false_eq_true], ?_⟩
      simp only [S_hold, yk1, zk1, d8, s_tell, put_hd, add_row, ↓reduceIte, Bool.false_eq_true]
      exact ⟨_, _, _, _, _, _, _, _, _, _, R⟩
    · skip
      refine lv_iload_n hx hb dX4_hold_20 rfl (lv_at hl 3 rfl) ?_
      refine lv_iconst (v := 3) hx hb dX4_hold_21 (by decide) ?_
      refine lv_icmp_gt (tgt := 31) hx hb dX4_hold_22 (by decide) (fun c3 => ?_) (fun c3 => ?_)
      · skip
        refine lv_ldc hx hb S.2.2.2.1 (S.2.2.2.2 (.constant RX4 33 (-2000000001)) (by decide +kernel)) dX4_hold_31 ?_
        refine r_int S hret hlk G rfl (Nat.le_of_ble_eq_true rfl) (Nat.le_of_ble_eq_true rfl) dX4_hold_33 ?_
        have yk1 := tin_e ek1 hk1 (show n ≤ 1000 by omega)
        have zk1 := cn_e ek1 (show k1 < 1000 by omega)
        have d8 := s_out (Or.inr c3)
        refine ⟨by simp only [S_hold, yk1, zk1, d8, s_tell, put_hd, add_row, ↓reduceIte, Bool.false_eq_true], ?_⟩
        simp only [S_hold, yk1, zk1, d8, s_tell, put_hd, add_row, ↓reduceIte, Bool.false_eq_true]
        exact ⟨_, _, _, _, _, _, _, _, _, _, R⟩
      · skip
        refine lv_iload_n hx hb dX4_hold_25 rfl (lv_at hl 4 rfl) ?_
        refine lv_bipush (v := 12) hx hb dX4_hold_26 (by decide) ?_
        refine lv_icmp_le (tgt := 34) hx hb dX4_hold_28 (by decide) (fun c4 => ?_) (fun c4 => ?_)
        · skip
          refine lv_iload_n hx hb dX4_hold_34 rfl (lv_at hl 3 rfl) ?_
          refine lv_iconst (v := (-1)) hx hb dX4_hold_35 (by decide) ?_
          refine lv_icmp_ne (tgt := 53) hx hb dX4_hold_36 (by decide) (fun c5 => ?_) (fun c5 => ?_)
          · skip
            refine lv_iload_n hx hb dX4_hold_53 rfl (lv_at hl 4 rfl) ?_
            refine lv_if_ge (tgt := 63) hx hb dX4_hold_54 (by decide) (fun c6 => ?_) (fun c6 => ?_)
            · skip
              refine lv_aload_n hx hb dX4_hold_63 rfl (lv_at hl 1 rfl) ?_
              refine lv_iconst (v := 0) hx hb dX4_hold_64 (by decide) ?_
              refine g_Vi (n := 1) (rest := []) S G hl (c_X4_tell l R (j := 0) (o := 0) rfl (by decide)) gX4_hold_X4_tell rfl (by decide +kernel) (Rc_x R) rfl rfl rfl (Nat.le_of_ble_eq_true rfl) ⟨Nat.le_of_ble_eq_true rfl, Nat.le_of_ble_eq_true rfl⟩ ⟨Nat.le_of_ble_eq_true rfl, Nat.le_of_ble_eq_true rfl⟩ dX4_hold_65 ?_
              clear G; intro r_ w1 H locs hp G
              obtain ⟨hr_, R⟩ := hp
              subst r_
              rw [if_neg (show ¬ ((0 : Int32) = 7) by decide)] at R
              refine lv_pop hx hb dX4_hold_68 rfl ?_
              refine lv_aload hx hb dX4_hold_69 (lv_at hl 0 rfl) ?_
              refine g_new (fs := [.int 0, .null]) S G (ci := 0) rfl tyX0 tyX0_ok (by decide +kernel) (by decide +kernel) (by decide +kernel) (by decide +kernel) (fun j hj => by rcases (show j = 0 ∨ j = 1 by omega) with rfl | rfl <;> rfl) (Nat.le_of_ble_eq_true rfl) (Nat.le_of_ble_eq_true rfl) dX4_hold_71 (fun q H hq G => ?_)
              refine lv_dup hx hb dX4_hold_74 rfl ?_
              refine lv_iload_n hx hb dX4_hold_75 rfl (lv_at hl 3 rfl) ?_
              refine lv_iload_n hx hb dX4_hold_76 rfl (lv_at hl 4 rfl) ?_
              obtain ⟨N, hN, ez⟩ := nI_of2 (x := z) (M := 12) (n := 12) (by decide) (Int32.not_lt.mpr c6) c4
              refine g_Iv (n := 2) (rest := [.ref q, .ref (T k1)]) S G hl (c_X0_init l wo_up_s s ez (by omega)) gX4_hold_X0_init (by decide +kernel) (by decide +kernel) (by decide +kernel) rfl rfl (by decide +kernel) rfl rfl (Nat.le_of_ble_eq_true rfl) ⟨Nat.le_of_ble_eq_true rfl, Nat.le_of_ble_eq_true rfl⟩ ⟨Nat.le_of_ble_eq_true rfl, Nat.le_of_ble_eq_true rfl⟩ dX4_hold_77 ?_
              clear G; intro w1 H locs hp G
              obtain ⟨q2, f, rfl, hq2, hqq, hf⟩ := hp
              rw [wo_uu] at G
              rw [wo_up_n hqq] at hq2
              have cz : cn z = N := cn_e ez (by omega)
              have t4 : tin 4 s = true := s_in c2 c3 c5
              have R := Rc_addR R hq hq2 hqq Kh (by omega) s z f (fil it nr (if s < 2 then 0 else -1) 12) (fun k hk => by rw [fil_in (by omega), hf k (by omega)]; exact s23 t4) (fun r hr k hk => fil_out hr (Nat.lt_of_lt_of_le hk (sz_le (Kz r hr)))) (by rw [cz])
              obtain ⟨w, R, G⟩ := Rc_ex R G
              refine g_put (fs' := [.int (cl k1), .int (vs k1), .int (lk k1), .ref q]) (ty := .object "ClassRunner$Row") (v := .ref q) S G (Rc_T R k1 hk1) rfl tyX2 tyX2_ok nmX2 (by decide +kernel) 3 (by decide) (by decide +kernel) rfl (by decide +kernel) rfl rfl (Nat.le_of_ble_eq_true rfl) rfl dX4_hold_80 (fun H locs G => ?_)
              have R := Rc_p_hdy (r := nr) R hk1 (by omega) (by omega)
              rw [show va_up Rw nr q nr = q by simp [va_up]] at R
              refine lv_iload_n hx hb dX4_hold_83 rfl (lv_at hl 4 rfl) ?_
              refine r_int S hret hlk G rfl (Nat.le_of_ble_eq_true rfl) (Nat.le_of_ble_eq_true rfl) dX4_hold_84 ?_
              have yk1 := tin_e ek1 hk1 (show n ≤ 1000 by omega)
              have zk1 := cn_e ek1 (show k1 < 1000 by omega)
              have d8 : s = -1 ∨ tin 4 s = true := Or.inr (s_in c2 c3 c5)
              refine ⟨by simp only [S_hold, yk1, zk1, d8, c4, if_neg c5, if_neg (Int32.not_lt.mpr c6), s_tell, put_hd, add_row, ↓reduceIte, Bool.false_eq_true], ?_⟩
              simp only [S_hold, yk1, zk1, d8, c4, if_neg c5, if_neg (Int32.not_lt.mpr c6), s_tell, put_hd, add_row, ↓reduceIte, Bool.false_eq_true]
              exact ⟨_, _, _, _, _, _, _, _, _, _, R⟩
            · skip
              refine lv_aload_n hx hb dX4_hold_57 rfl (lv_at hl 1 rfl) ?_
              refine lv_iconst (v := 4) hx hb dX4_hold_58 (by decide) ?_
              refine g_Vi (n := 1) (rest := []) S G hl (c_X4_refuse l R (j := 4) (o := 4) rfl (by decide)) gX4_hold_X4_refuse rfl (by decide +kernel) (Rc_x R) rfl rfl rfl (Nat.le_of_ble_eq_true rfl) ⟨Nat.le_of_ble_eq_true rfl, Nat.le_of_ble_eq_true rfl⟩ ⟨Nat.le_of_ble_eq_true rfl, Nat.le_of_ble_eq_true rfl⟩ dX4_hold_59 ?_
              clear G; intro r_ w1 H locs hp G
              obtain ⟨hr_, R⟩ := hp
              subst r_
              rw [if_neg (show ¬ ((4 : Int32) = 7) by decide)] at R
              refine r_int S hret hlk G rfl (Nat.le_of_ble_eq_true rfl) (Nat.le_of_ble_eq_true rfl) dX4_hold_62 ?_
              have yk1 := tin_e ek1 hk1 (show n ≤ 1000 by omega)
              have zk1 := cn_e ek1 (show k1 < 1000 by omega)
              have d8 : s = -1 ∨ tin 4 s = true := Or.inr (s_in c2 c3 c5)
              refine ⟨by simp only [S_hold, yk1, zk1, d8, c4, if_neg c5, if_pos (Int32.not_le.mp c6), s_tell, put_hd, add_row, ↓reduceIte, Bool.false_eq_true], ?_⟩
              simp only [S_hold, yk1, zk1, d8, c4, if_neg c5, if_pos (Int32.not_le.mp c6), s_tell, put_hd, add_row, ↓reduceIte, Bool.false_eq_true]
              exact ⟨_, _, _, _, _, _, _, _, _, _, R⟩
          · skip
            refine lv_aload_n hx hb dX4_hold_39 rfl (lv_at hl 1 rfl) ?_
            refine lv_iconst (v := 0) hx hb dX4_hold_40 (by decide) ?_
            refine g_Vi (n := 1) (rest := []) S G hl (c_X4_tell l R (j := 0) (o := 0) rfl (by decide)) gX4_hold_X4_tell rfl (by decide +kernel) (Rc_x R) rfl rfl rfl (Nat.le_of_ble_eq_true rfl) ⟨Nat.le_of_ble_eq_true rfl, Nat.le_of_ble_eq_true rfl⟩ ⟨Nat.le_of_ble_eq_true rfl, Nat.le_of_ble_eq_true rfl⟩ dX4_hold_41 ?_
            clear G; intro r_ w1 H locs hp G
            obtain ⟨hr_, R⟩ := hp
            subst r_
            rw [if_neg (show ¬ ((0 : Int32) = 7) by decide)] at R
            refine lv_pop hx hb dX4_hold_44 rfl ?_
            refine lv_aload hx hb dX4_hold_45 (lv_at hl 0 rfl) ?_
            refine lv_null hx hb dX4_hold_47 ?_
            refine g_put (fs' := [.int (cl k1), .int (vs k1), .int (lk k1), .null]) (ty := .object "ClassRunner$Row") (v := .null) S G (Rc_T R k1 hk1) rfl tyX2 tyX2_ok nmX2 (by decide +kernel) 3 (by decide) (by decide +kernel) rfl (by decide +kernel) rfl rfl (Nat.le_of_ble_eq_true rfl) rfl dX4_hold_48 (fun H locs G => ?_)
            obtain ⟨w, R, G⟩ := Rc_ex (Rc_p_hdn R hk1) G
            refine lv_iconst (v := 0) hx hb dX4_hold_51 (by decide) ?_
            refine r_int S hret hlk G rfl (Nat.le_of_ble_eq_true rfl) (Nat.le_of_ble_eq_true rfl) dX4_hold_52 ?_
            have yk1 := tin_e ek1 hk1 (show n ≤ 1000 by omega)
            have zk1 := cn_e ek1 (show k1 < 1000 by omega)
            have d8 : s = -1 ∨ tin 4 s = true := Or.inl c5
            refine ⟨by simp only [S_hold, yk1, zk1, d8, c4, if_pos c5, s_tell, put_hd, add_row, ↓reduceIte, Bool.false_eq_true], ?_⟩
            simp only [S_hold, yk1, zk1, d8, c4, if_pos c5, s_tell, put_hd, add_row, ↓reduceIte, Bool.false_eq_true]
            exact ⟨_, _, _, _, _, _, _, _, _, _, R⟩
        · skip
          refine lv_ldc hx hb S.2.2.2.1 (S.2.2.2.2 (.constant RX4 33 (-2000000001)) (by decide +kernel)) dX4_hold_31 ?_
          refine r_int S hret hlk G rfl (Nat.le_of_ble_eq_true rfl) (Nat.le_of_ble_eq_true rfl) dX4_hold_33 ?_
          have yk1 := tin_e ek1 hk1 (show n ≤ 1000 by omega)
          have zk1 := cn_e ek1 (show k1 < 1000 by omega)
          have d9 : ¬ z ≤ 12 := c4
          by_cases d8 : s = -1 ∨ tin 4 s = true
          · refine ⟨by simp only [S_hold, yk1, zk1, d8, d9, ↓reduceIte, Bool.false_eq_true], ?_⟩
            simp only [S_hold, yk1, zk1, d8, d9, ↓reduceIte, Bool.false_eq_true]
            exact ⟨_, _, _, _, _, _, _, _, _, _, R⟩
          · refine ⟨by simp only [S_hold, yk1, zk1, d8, d9, ↓reduceIte, Bool.false_eq_true], ?_⟩
            simp only [S_hold, yk1, zk1, d8, d9, ↓reduceIte, Bool.false_eq_true]
            exact ⟨_, _, _, _, _, _, _, _, _, _, R⟩
end
section
/-! THE CLASS: Store(), Work(), ClassRunner() -/
theorem wo_kn {w : wo} {a q : Nat} {y e : va_E} (h : w a = some y) (hq : w q = none) : wo_up w q e a = some y := by
  rw [wo_up_n (fun z => by rw [z, hq] at h; cases h)]; exact h
set_option maxHeartbeats 4000000 in
set_option maxRecDepth 100000 in
theorem c_X1_init (l : Launch) {E : EV} {w : wo} {b : Nat} (hw : w b = some (.inr (1, [.null, .int 0]))) : ct_v l E yX1_init wsX1_init 1 1 40 [.ref b] w (fun w' => ∃ q2 : Nat, w' = wo_up (wo_up w b (.inr (1, [.ref q2, .int 0]))) q2 (.inl (E.2.2.2, 40, .inr (.inr (.inr (.inr (fun _ => none)))))) ∧ w q2 = none ∧ q2 ≠ b) := by
  intro zz
  refine wo_body (Qc := fun A => va_Qv _ (wo_B E A) A) (ret := none) (by decide) rfl (Nat.le_of_ble_eq_true rfl) ?_
  intro p_ e_ s_ m_ args_ below_ meth_ code_ A_ ls S hret hlk hnm G hl
  have hl : lv_has ls 1 [(0, .ref b)] := hl
  have hx := S.1
  have hb := S.2.1
  refine lv_aload_n hx hb dX1_init_0 rfl (lv_at hl 0 rfl) ?_
  refine g_obj S hl (by decide +kernel) (by decide +kernel) (by decide +kernel) (Nat.le_of_ble_eq_true rfl) ⟨Nat.le_of_ble_eq_true rfl, Nat.le_of_ble_eq_true rfl⟩ dX1_init_1 ?_
  refine lv_aload_n hx hb dX1_init_4 rfl (lv_at hl 0 rfl) ?_
  refine lv_bipush (v := 40) hx hb dX1_init_5 (by decide) ?_
  refine g_newq (N' := 40) S G (by decide +kernel) (by decide) rfl (by omega) (Nat.le_of_ble_eq_true rfl) (Nat.le_of_ble_eq_true rfl) dX1_init_7 (fun q2 H hq2 G => ?_)
  have hne : q2 ≠ b := fun e => by rw [e, hw] at hq2; cases hq2
  have hw := wo_kn (e := (.inl (E.2.2.2, 40, .inr (.inr (.inr (.inr (fun _ => none))))))) hw hq2
  refine g_putF (fs' := [.ref q2, .int 0]) (ty := .array (.object "ClassRunner$Thing")) (v := .ref q2) S G hw rfl tyX1 tyX1_ok nmX1 (by decide +kernel) 0 (by decide) (by decide +kernel) rfl hnm rfl (by decide +kernel) rfl rfl (Nat.le_of_ble_eq_true rfl) rfl dX1_init_10 (fun H locs G => ?_)
  rw [wo_cm hne] at G
  refine r_void S hret hlk G (Nat.le_of_ble_eq_true rfl) (Nat.le_of_ble_eq_true rfl) dX1_init_13 ?_
  exact ⟨q2, rfl, hq2, hne⟩

set_option maxHeartbeats 4000000 in
set_option maxRecDepth 100000 in
theorem c_X3_init (l : Launch) {E : EV} {w : wo} {b st : Nat} (hw : w b = some (.inr (3, [.null, .int 0, .int 0, .int 0, .int 0, .int 0]))) : ct_v l E yX3_init wsX3_init 1 0 0 [.ref b, .ref st] w (fun w' => w' = wo_up w b (.inr (3, [.ref st, .int 0, .int 0, .int 0, .int 0, .int 0]))) := by
  intro zz
  refine wo_body (Qc := fun A => va_Qv _ (wo_B E A) A) (ret := none) (by decide) rfl (Nat.le_of_ble_eq_true rfl) ?_
  intro p_ e_ s_ m_ args_ below_ meth_ code_ A_ ls S hret hlk hnm G hl
  have hl : lv_has ls 2 [(0, .ref b), (1, .ref st)] := hl
  have hx := S.1
  have hb := S.2.1
  refine lv_aload_n hx hb dX3_init_0 rfl (lv_at hl 0 rfl) ?_
  refine g_obj S hl (by decide +kernel) (by decide +kernel) (by decide +kernel) (Nat.le_of_ble_eq_true rfl) ⟨Nat.le_of_ble_eq_true rfl, Nat.le_of_ble_eq_true rfl⟩ dX3_init_1 ?_
  refine lv_aload_n hx hb dX3_init_4 rfl (lv_at hl 0 rfl) ?_
  refine lv_aload_n hx hb dX3_init_5 rfl (lv_at hl 1 rfl) ?_
  refine g_putF (fs' := [.ref st, .int 0, .int 0, .int 0, .int 0, .int 0]) (ty := .object "ClassRunner$Store") (v := .ref st) S G hw rfl tyX3 tyX3_ok nmX3 (by decide +kernel) 0 (by decide) (by decide +kernel) rfl hnm rfl (by decide +kernel) rfl rfl (Nat.le_of_ble_eq_true rfl) rfl dX3_init_6 (fun H locs G => ?_)
  have hw := wo_up_s (w := w) (a := b) (e := .inr (3, [.ref st, .int 0, .int 0, .int 0, .int 0, .int 0]))
  refine r_void S hret hlk G (Nat.le_of_ble_eq_true rfl) (Nat.le_of_ble_eq_true rfl) dX3_init_9 ?_
  rfl

def st0 : ST := (0, fun _ => 0, fun _ => 0, fun _ => 0, fun _ => 0, 0, fun _ => 0, fun _ => 0, fun _ => 0, 0, 0, 0, 0, fun _ => 0)
set_option maxHeartbeats 4000000 in
set_option maxRecDepth 100000 in
theorem C_init (l : Launch) {E : EV} {w : wo} {x : Nat} (hw : w x = some (.inr (4, [.null, .null, .null, .int 0, .int 0]))) : ct_v l E yX4_init wsX4_init 2 4 58 [.ref x] w (fun w' => RcX E w' x st0) := by
  intro zz
  refine wo_body (Qc := fun A => va_Qv _ (wo_B E A) A) (ret := none) (by decide) rfl (Nat.le_of_ble_eq_true rfl) ?_
  intro p_ e_ s_ m_ args_ below_ meth_ code_ A_ ls S hret hlk hnm G hl
  have hl : lv_has ls 1 [(0, .ref x)] := hl
  have hx := S.1
  have hb := S.2.1
  refine lv_aload_n hx hb dX4_init_0 rfl (lv_at hl 0 rfl) ?_
  refine g_obj S hl (by decide +kernel) (by decide +kernel) (by decide +kernel) (Nat.le_of_ble_eq_true rfl) ⟨Nat.le_of_ble_eq_true rfl, Nat.le_of_ble_eq_true rfl⟩ dX4_init_1 ?_
  refine lv_aload_n hx hb dX4_init_4 rfl (lv_at hl 0 rfl) ?_
  refine g_new (fs := [.null, .int 0]) S G (ci := 1) rfl tyX1 tyX1_ok (by decide +kernel) (by decide +kernel) (by decide +kernel) (by decide +kernel) (fun j hj => by rcases (show j = 0 ∨ j = 1 by omega) with rfl | rfl <;> rfl) (Nat.le_of_ble_eq_true rfl) (Nat.le_of_ble_eq_true rfl) dX4_init_5 (fun st H hq G => ?_)
  have hw := wo_kn (e := .inr (1, [.null, .int 0])) hw hq
  have h_st := wo_up_s (w := w) (a := st) (e := .inr (1, [.null, .int 0]))
  generalize wo_up w st (.inr (1, [.null, .int 0])) = w1 at G hw h_st
  refine lv_dup hx hb dX4_init_8 rfl ?_
  refine g_Iv (n := 0) (rest := [.ref st, .ref x]) S G hl (c_X1_init l h_st) gX4_init_X1_init (by decide +kernel) (by decide +kernel) (by decide +kernel) rfl rfl (by decide +kernel) rfl rfl (Nat.le_of_ble_eq_true rfl) ⟨Nat.le_of_ble_eq_true rfl, Nat.le_of_ble_eq_true rfl⟩ ⟨Nat.le_of_ble_eq_true rfl, Nat.le_of_ble_eq_true rfl⟩ dX4_init_9 ?_
  clear G; intro w1 H locs hp G
  obtain ⟨ta, rfl, hq2, hne⟩ := hp
  have hne2 : ta ≠ x := fun e => by rw [e, hw] at hq2; cases hq2
  have hw := (wo_up_n (w := wo_up w1 st (.inr (1, [.ref ta, .int 0]))) (e := (.inl (E.2.2.2, 40, .inr (.inr (.inr (.inr (fun _ => none))))))) (Ne.symm hne2)).trans (wo_kp (e := .inr (1, [.ref ta, .int 0])) hw h_st (by simp))
  have h_st := (wo_up_n (w := wo_up w1 st (.inr (1, [.ref ta, .int 0]))) (e := (.inl (E.2.2.2, 40, .inr (.inr (.inr (.inr (fun _ => none))))))) (Ne.symm hne)).trans wo_up_s
  have h_ta := wo_up_s (w := wo_up w1 st (.inr (1, [.ref ta, .int 0]))) (a := ta) (e := (.inl (E.2.2.2, 40, .inr (.inr (.inr (.inr (fun _ => none)))))))
  generalize wo_up (wo_up w1 st (.inr (1, [.ref ta, .int 0]))) ta (.inl (E.2.2.2, 40, .inr (.inr (.inr (.inr (fun _ => none)))))) = w2 at G hw h_st h_ta
  refine g_putF (fs' := [.ref st, .null, .null, .int 0, .int 0]) (ty := .object "ClassRunner$Store") (v := .ref st) S G hw rfl tyX4 tyX4_ok nmX4 (by decide +kernel) 0 (by decide) (by decide +kernel) rfl hnm rfl (by decide +kernel) rfl rfl (Nat.le_of_ble_eq_true rfl) rfl dX4_init_12 (fun H locs G => ?_)
  have h_st := wo_kp (e := .inr (4, [.ref st, .null, .null, .int 0, .int 0])) h_st hw (by simp)
  have h_ta := wo_kp (e := .inr (4, [.ref st, .null, .null, .int 0, .int 0])) h_ta hw (by simp)
  have h_x := wo_up_s (w := w2) (a := x) (e := .inr (4, [.ref st, .null, .null, .int 0, .int 0]))
  generalize wo_up w2 x (.inr (4, [.ref st, .null, .null, .int 0, .int 0])) = w3 at G h_st h_ta h_x
  refine lv_aload_n hx hb dX4_init_15 rfl (lv_at hl 0 rfl) ?_
  refine g_new (fs := [.null, .int 0, .int 0, .int 0, .int 0, .int 0]) S G (ci := 3) rfl tyX3 tyX3_ok (by decide +kernel) (by decide +kernel) (by decide +kernel) (by decide +kernel) (fun j hj => by rcases (show j = 0 ∨ j = 1 ∨ j = 2 ∨ j = 3 ∨ j = 4 ∨ j = 5 by omega) with rfl | rfl | rfl | rfl | rfl | rfl <;> rfl) (Nat.le_of_ble_eq_true rfl) (Nat.le_of_ble_eq_true rfl) dX4_init_16 (fun wk H hq G => ?_)
  have h_x := wo_kn (e := .inr (3, [.null, .int 0, .int 0, .int 0, .int 0, .int 0])) h_x hq
  have h_st := wo_kn (e := .inr (3, [.null, .int 0, .int 0, .int 0, .int 0, .int 0])) h_st hq
  have h_ta := wo_kn (e := .inr (3, [.null, .int 0, .int 0, .int 0, .int 0, .int 0])) h_ta hq
  have h_wk := wo_up_s (w := w3) (a := wk) (e := .inr (3, [.null, .int 0, .int 0, .int 0, .int 0, .int 0]))
  generalize wo_up w3 wk (.inr (3, [.null, .int 0, .int 0, .int 0, .int 0, .int 0])) = w4 at G h_x h_st h_ta h_wk
  refine lv_dup hx hb dX4_init_19 rfl ?_
  refine lv_aload_n hx hb dX4_init_20 rfl (lv_at hl 0 rfl) ?_
  refine g_get S G h_x rfl (by decide +kernel) 0 (by decide) (by decide +kernel) rfl dX4_init_21 ?_
  refine g_Iv (n := 1) (rest := [.ref wk, .ref x]) S G hl (c_X3_init l h_wk) gX4_init_X3_init (by decide +kernel) (by decide +kernel) (by decide +kernel) rfl rfl (by decide +kernel) rfl rfl (Nat.le_of_ble_eq_true rfl) ⟨Nat.le_of_ble_eq_true rfl, Nat.le_of_ble_eq_true rfl⟩ ⟨Nat.le_of_ble_eq_true rfl, Nat.le_of_ble_eq_true rfl⟩ dX4_init_24 ?_
  clear G; intro w1 H locs hp G
  subst hp
  have h_x := wo_kp (e := .inr (3, [.ref st, .int 0, .int 0, .int 0, .int 0, .int 0])) h_x h_wk (by simp)
  have h_st := wo_kp (e := .inr (3, [.ref st, .int 0, .int 0, .int 0, .int 0, .int 0])) h_st h_wk (by simp)
  have h_ta := wo_kp (e := .inr (3, [.ref st, .int 0, .int 0, .int 0, .int 0, .int 0])) h_ta h_wk (by simp)
  have h_wk := wo_up_s (w := w4) (a := wk) (e := .inr (3, [.ref st, .int 0, .int 0, .int 0, .int 0, .int 0]))
  generalize wo_up w4 wk (.inr (3, [.ref st, .int 0, .int 0, .int 0, .int 0, .int 0])) = w5 at G h_x h_st h_ta h_wk
  refine g_putF (fs' := [.ref st, .ref wk, .null, .int 0, .int 0]) (ty := .object "ClassRunner$Work") (v := .ref wk) S G h_x rfl tyX4 tyX4_ok nmX4 (by decide +kernel) 1 (by decide) (by decide +kernel) rfl hnm rfl (by decide +kernel) rfl rfl (Nat.le_of_ble_eq_true rfl) rfl dX4_init_27 (fun H locs G => ?_)
  have h_st := wo_kp (e := .inr (4, [.ref st, .ref wk, .null, .int 0, .int 0])) h_st h_x (by simp)
  have h_wk := wo_kp (e := .inr (4, [.ref st, .ref wk, .null, .int 0, .int 0])) h_wk h_x (by simp)
  have h_ta := wo_kp (e := .inr (4, [.ref st, .ref wk, .null, .int 0, .int 0])) h_ta h_x (by simp)
  have h_x := wo_up_s (w := w5) (a := x) (e := .inr (4, [.ref st, .ref wk, .null, .int 0, .int 0]))
  generalize wo_up w5 x (.inr (4, [.ref st, .ref wk, .null, .int 0, .int 0])) = w6 at G h_st h_wk h_ta h_x
  refine lv_aload_n hx hb dX4_init_30 rfl (lv_at hl 0 rfl) ?_
  refine lv_bipush (v := 10) hx hb dX4_init_31 (by decide) ?_
  refine g_newi (N' := 10) S G (by decide +kernel) (by decide) rfl (by omega) (Nat.le_of_ble_eq_true rfl) (Nat.le_of_ble_eq_true rfl) dX4_init_33 (fun tl H hq G => ?_)
  have h_x := wo_kn (e := .inl (E.2.1, 10, .inl (fun _ => 0))) h_x hq
  have h_st := wo_kn (e := .inl (E.2.1, 10, .inl (fun _ => 0))) h_st hq
  have h_wk := wo_kn (e := .inl (E.2.1, 10, .inl (fun _ => 0))) h_wk hq
  have h_ta := wo_kn (e := .inl (E.2.1, 10, .inl (fun _ => 0))) h_ta hq
  have h_tl := wo_up_s (w := w6) (a := tl) (e := .inl (E.2.1, 10, .inl (fun _ => 0)))
  generalize wo_up w6 tl (.inl (E.2.1, 10, .inl (fun _ => 0))) = w7 at G h_x h_st h_wk h_ta h_tl
  refine g_putF (fs' := [.ref st, .ref wk, .ref tl, .int 0, .int 0]) (ty := .array .int) (v := .ref tl) S G h_x rfl tyX4 tyX4_ok nmX4 (by decide +kernel) 2 (by decide) (by decide +kernel) rfl hnm rfl (by decide +kernel) rfl rfl (Nat.le_of_ble_eq_true rfl) rfl dX4_init_35 (fun H locs G => ?_)
  have h_st := wo_kp (e := .inr (4, [.ref st, .ref wk, .ref tl, .int 0, .int 0])) h_st h_x (by simp)
  have h_wk := wo_kp (e := .inr (4, [.ref st, .ref wk, .ref tl, .int 0, .int 0])) h_wk h_x (by simp)
  have h_ta := wo_kp (e := .inr (4, [.ref st, .ref wk, .ref tl, .int 0, .int 0])) h_ta h_x (by simp)
  have h_tl := wo_kp (e := .inr (4, [.ref st, .ref wk, .ref tl, .int 0, .int 0])) h_tl h_x (by simp)
  have h_x := wo_up_s (w := w7) (a := x) (e := .inr (4, [.ref st, .ref wk, .ref tl, .int 0, .int 0]))
  generalize wo_up w7 x (.inr (4, [.ref st, .ref wk, .ref tl, .int 0, .int 0])) = w8 at G h_st h_wk h_ta h_tl h_x
  refine r_void S hret hlk G (Nat.le_of_ble_eq_true rfl) (Nat.le_of_ble_eq_true rfl) dX4_init_38 ?_
  exact ⟨st, wk, tl, ta, (fun _ => none), (fun _ => 0), (fun _ => 0), (fun _ => 0), (fun _ _ => 0), (0, 0, 0), h_x, h_st, h_wk, h_tl, h_ta, fun k hk => absurd hk (Nat.not_lt_zero k), fun k hk => absurd hk (Nat.not_lt_zero k), fun k hk => absurd hk (Nat.not_lt_zero k), fun k hk => absurd hk (Nat.not_lt_zero k), fun k hk => absurd hk (Nat.not_lt_zero k), fun k _ hk => absurd hk (Nat.not_lt_zero k), fun k _ hk => absurd hk (Nat.not_lt_zero k), fun k _ hk => absurd hk (Nat.not_lt_zero k)⟩
end
