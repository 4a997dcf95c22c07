section
-- ===== PART A: goes FIRST, ahead of the names: the tables' words, and 'selects' of the private methods out of them =====
/-- a private method of a class that the tables say can be made, by its rows of tables_1 -/
def lw_okq (q : MethodName × Nat) : Prop := (q.1.cls ≠ "java/lang/invoke/MethodHandle" ∧ q.1.cls ≠ "java/lang/invoke/VarHandle") ∧ Cond.instantiable q.1.cls q.2 ∈ tables_1 ∧ Cond.privateMethod q.1 ∈ tables_1 ∧ Cond.instanceMethod q.1 ∈ tables_1
theorem lw_p0 : lw_okq (⟨"java/lang/Throwable", "fillInStackTrace", "(I)Ljava/lang/Throwable;"⟩, 6) := ⟨⟨by decide +kernel, by decide +kernel⟩, List.mem_of_getElem? (i := 65) (by decide +kernel), List.mem_of_getElem? (i := 63) (by decide +kernel), List.mem_of_getElem? (i := 64) (by decide +kernel)⟩
theorem lw_p1 : lw_okq (⟨"Barnacle", "requirePlace", "(II)LBarnacle$Tree;"⟩, 9) := ⟨⟨by decide +kernel, by decide +kernel⟩, List.mem_of_getElem? (i := 101) (by decide +kernel), List.mem_of_getElem? (i := 99) (by decide +kernel), List.mem_of_getElem? (i := 100) (by decide +kernel)⟩
theorem lw_p2 : lw_okq (⟨"Barnacle", "requireTree", "(I)LBarnacle$Tree;"⟩, 9) := ⟨⟨by decide +kernel, by decide +kernel⟩, List.mem_of_getElem? (i := 101) (by decide +kernel), List.mem_of_getElem? (i := 104) (by decide +kernel), List.mem_of_getElem? (i := 105) (by decide +kernel)⟩
theorem lw_p3 : lw_okq (⟨"Barnacle$Grove", "treeOf", "([LBarnacle$Tree;I)LBarnacle$Tree;"⟩, 7) := ⟨⟨by decide +kernel, by decide +kernel⟩, List.mem_of_getElem? (i := 130) (by decide +kernel), List.mem_of_getElem? (i := 128) (by decide +kernel), List.mem_of_getElem? (i := 129) (by decide +kernel)⟩
theorem lw_p4 : lw_okq (⟨"Barnacle$Tree", "appendFrom", "(LBarnacle$Tree;II)V"⟩, 6) := ⟨⟨by decide +kernel, by decide +kernel⟩, List.mem_of_getElem? (i := 151) (by decide +kernel), List.mem_of_getElem? (i := 149) (by decide +kernel), List.mem_of_getElem? (i := 150) (by decide +kernel)⟩
theorem lw_p5 : lw_okq (⟨"Barnacle$Tree", "measure", "()V"⟩, 6) := ⟨⟨by decide +kernel, by decide +kernel⟩, List.mem_of_getElem? (i := 151) (by decide +kernel), List.mem_of_getElem? (i := 161) (by decide +kernel), List.mem_of_getElem? (i := 162) (by decide +kernel)⟩
theorem lw_p6 : lw_okq (⟨"Barnacle$Tree", "closeGap", "(II)V"⟩, 6) := ⟨⟨by decide +kernel, by decide +kernel⟩, List.mem_of_getElem? (i := 151) (by decide +kernel), List.mem_of_getElem? (i := 195) (by decide +kernel), List.mem_of_getElem? (i := 196) (by decide +kernel)⟩
theorem lw_p7 : lw_okq (⟨"Barnacle$Simplifier", "changeAt", "(LBarnacle$Tree;I)Z"⟩, 1) := ⟨⟨by decide +kernel, by decide +kernel⟩, List.mem_of_getElem? (i := 218) (by decide +kernel), List.mem_of_getElem? (i := 216) (by decide +kernel), List.mem_of_getElem? (i := 217) (by decide +kernel)⟩
theorem lw_p8 : lw_okq (⟨"Barnacle", "requireBreeding", "(I)V"⟩, 9) := ⟨⟨by decide +kernel, by decide +kernel⟩, List.mem_of_getElem? (i := 101) (by decide +kernel), List.mem_of_getElem? (i := 274) (by decide +kernel), List.mem_of_getElem? (i := 275) (by decide +kernel)⟩
theorem lw_p9 : lw_okq (⟨"Barnacle$Ranking", "insert", "(I)V"⟩, 3) := ⟨⟨by decide +kernel, by decide +kernel⟩, List.mem_of_getElem? (i := 321) (by decide +kernel), List.mem_of_getElem? (i := 319) (by decide +kernel), List.mem_of_getElem? (i := 320) (by decide +kernel)⟩
theorem lw_p10 : lw_okq (⟨"Barnacle$Breeder", "makeYoung", "(LBarnacle$Grove;LBarnacle$Tree;)V"⟩, 6) := ⟨⟨by decide +kernel, by decide +kernel⟩, List.mem_of_getElem? (i := 344) (by decide +kernel), List.mem_of_getElem? (i := 342) (by decide +kernel), List.mem_of_getElem? (i := 343) (by decide +kernel)⟩
theorem lw_p11 : lw_okq (⟨"Barnacle$Draws", "takeFirst", "()I"⟩, 3) := ⟨⟨by decide +kernel, by decide +kernel⟩, List.mem_of_getElem? (i := 353) (by decide +kernel), List.mem_of_getElem? (i := 351) (by decide +kernel), List.mem_of_getElem? (i := 352) (by decide +kernel)⟩
theorem lw_p12 : lw_okq (⟨"Barnacle$Breeder", "choose", "(LBarnacle$Grove;)LBarnacle$Tree;"⟩, 6) := ⟨⟨by decide +kernel, by decide +kernel⟩, List.mem_of_getElem? (i := 344) (by decide +kernel), List.mem_of_getElem? (i := 358) (by decide +kernel), List.mem_of_getElem? (i := 359) (by decide +kernel)⟩
theorem lw_p13 : lw_okq (⟨"Barnacle", "digestWith", "(JLBarnacle$Tree;)J"⟩, 9) := ⟨⟨by decide +kernel, by decide +kernel⟩, List.mem_of_getElem? (i := 101) (by decide +kernel), List.mem_of_getElem? (i := 506) (by decide +kernel), List.mem_of_getElem? (i := 507) (by decide +kernel)⟩
theorem lw_p14 : lw_okq (⟨"Barnacle$Sketch", "miss", "(ZI)V"⟩, 5) := ⟨⟨by decide +kernel, by decide +kernel⟩, List.mem_of_getElem? (i := 525) (by decide +kernel), List.mem_of_getElem? (i := 571) (by decide +kernel), List.mem_of_getElem? (i := 572) (by decide +kernel)⟩
def lw_privs_1 : List (MethodName × Nat) := [(⟨"java/lang/Throwable", "fillInStackTrace", "(I)Ljava/lang/Throwable;"⟩, 6), (⟨"Barnacle", "requirePlace", "(II)LBarnacle$Tree;"⟩, 9), (⟨"Barnacle", "requireTree", "(I)LBarnacle$Tree;"⟩, 9), (⟨"Barnacle$Grove", "treeOf", "([LBarnacle$Tree;I)LBarnacle$Tree;"⟩, 7), (⟨"Barnacle$Tree", "appendFrom", "(LBarnacle$Tree;II)V"⟩, 6), (⟨"Barnacle$Tree", "measure", "()V"⟩, 6), (⟨"Barnacle$Tree", "closeGap", "(II)V"⟩, 6), (⟨"Barnacle$Simplifier", "changeAt", "(LBarnacle$Tree;I)Z"⟩, 1), (⟨"Barnacle", "requireBreeding", "(I)V"⟩, 9), (⟨"Barnacle$Ranking", "insert", "(I)V"⟩, 3), (⟨"Barnacle$Breeder", "makeYoung", "(LBarnacle$Grove;LBarnacle$Tree;)V"⟩, 6), (⟨"Barnacle$Draws", "takeFirst", "()I"⟩, 3), (⟨"Barnacle$Breeder", "choose", "(LBarnacle$Grove;)LBarnacle$Tree;"⟩, 6), (⟨"Barnacle", "digestWith", "(JLBarnacle$Tree;)J"⟩, 9), (⟨"Barnacle$Sketch", "miss", "(ZI)V"⟩, 5)]
theorem lw_r1 : ∀ q ∈ lw_privs_1, lw_okq q := List.forall_mem_cons.mpr ⟨lw_p0, List.forall_mem_cons.mpr ⟨lw_p1, List.forall_mem_cons.mpr ⟨lw_p2, List.forall_mem_cons.mpr ⟨lw_p3, List.forall_mem_cons.mpr ⟨lw_p4, List.forall_mem_cons.mpr ⟨lw_p5, List.forall_mem_cons.mpr ⟨lw_p6, List.forall_mem_cons.mpr ⟨lw_p7, List.forall_mem_cons.mpr ⟨lw_p8, List.forall_mem_cons.mpr ⟨lw_p9, List.forall_mem_cons.mpr ⟨lw_p10, List.forall_mem_cons.mpr ⟨lw_p11, List.forall_mem_cons.mpr ⟨lw_p12, List.forall_mem_cons.mpr ⟨lw_p13, List.forall_mem_cons.mpr ⟨lw_p14, fun _ h => absurd h List.not_mem_nil⟩⟩⟩⟩⟩⟩⟩⟩⟩⟩⟩⟩⟩⟩⟩
def lw_privs : List (MethodName × Nat) := lw_privs_1
def lw_tbl : List Cond := k2_sels lw_privs ++ tables_1
theorem lw_privs_ok : ∀ q ∈ lw_privs, lw_okq q := lw_r1
-- ===== end of PART A; then your names; then what follows =====
def RX0 : String := "Barnacle$Breeder"
def TX0 : u_T := fun k => match k with
  | 0 => ("Barnacle$Breeder", "ranking", "LBarnacle$Ranking;", true)
  | 1 => ("Barnacle$Breeder", "crossing", "I", false)
  | 2 => ("Barnacle$Breeder", "changing", "I", false)
  | 3 => ("Barnacle$Breeder", "hoisting", "I", false)
  | 4 => ("Barnacle$Breeder", "tournament", "I", false)
  | _ => ("Barnacle$Breeder", "elite", "I", false)
def tyX0 : Nat → FieldType := fun k => match k with
  | 0 => .object "Barnacle$Ranking"
  | 1 => .int
  | 2 => .int
  | 3 => .int
  | 4 => .int
  | _ => .int
abbrev wsX00 : List Cond := u_ws RX0 TX0 6
theorem nmX0 : ∀ a, a < 6 → ∀ b, b < 6 → a ≠ b → (TX0 a).2.1 ≠ (TX0 b).2.1 := by decide +kernel
theorem tyX0_ok : ∀ k, k < 6 → parseFieldDescriptor (TX0 k).2.2.1 = some (tyX0 k) := by decide +kernel
abbrev cX0_init : ByteArray := prog_2_method_1_code
def yX0_init : MethodName := ⟨RX0, "<init>", "()V"⟩
abbrev cX0_errorAfter : ByteArray := prog_2_method_2_code
def yX0_errorAfter : MethodName := ⟨RX0, "errorAfter", "(ILBarnacle$Grove;LBarnacle$Judge;)I"⟩
abbrev cX0_makeYoung : ByteArray := prog_2_method_3_code
def yX0_makeYoung : MethodName := ⟨RX0, "makeYoung", "(LBarnacle$Grove;LBarnacle$Tree;)V"⟩
abbrev cX0_choose : ByteArray := prog_2_method_4_code
def yX0_choose : MethodName := ⟨RX0, "choose", "(LBarnacle$Grove;)LBarnacle$Tree;"⟩
abbrev cX0_crossYoung : ByteArray := prog_2_method_5_code
def yX0_crossYoung : MethodName := ⟨RX0, "crossYoung", "(LBarnacle$Grove;LBarnacle$Tree;LBarnacle$Tree;LBarnacle$Tree;)V"⟩
abbrev cX0_changeYoung : ByteArray := prog_2_method_6_code
def yX0_changeYoung : MethodName := ⟨RX0, "changeYoung", "(LBarnacle$Draws;LBarnacle$Tree;)V"⟩
abbrev cX0_hoistYoung : ByteArray := prog_2_method_7_code
def yX0_hoistYoung : MethodName := ⟨RX0, "hoistYoung", "(LBarnacle$Draws;LBarnacle$Tree;)V"⟩
def RX1 : String := "Barnacle$Draws"
def TX1 : u_T := fun k => match k with
  | 0 => ("Barnacle$Draws", "told", "[I", true)
  | 1 => ("Barnacle$Draws", "waiting", "I", false)
  | _ => ("Barnacle$Draws", "luck", "I", false)
def tyX1 : Nat → FieldType := fun k => match k with
  | 0 => .array .int
  | 1 => .int
  | _ => .int
abbrev wsX10 : List Cond := u_ws RX1 TX1 3
theorem nmX1 : ∀ a, a < 3 → ∀ b, b < 3 → a ≠ b → (TX1 a).2.1 ≠ (TX1 b).2.1 := by decide +kernel
theorem tyX1_ok : ∀ k, k < 3 → parseFieldDescriptor (TX1 k).2.2.1 = some (tyX1 k) := by decide +kernel
abbrev cX1_init : ByteArray := prog_3_method_1_code
def yX1_init : MethodName := ⟨RX1, "<init>", "()V"⟩
abbrev cX1_below : ByteArray := prog_3_method_3_code
def yX1_below : MethodName := ⟨RX1, "below", "(I)I"⟩
abbrev cX1_copyFrom : ByteArray := prog_3_method_4_code
def yX1_copyFrom : MethodName := ⟨RX1, "copyFrom", "(LBarnacle$Draws;)V"⟩
abbrev cX1_takeFirst : ByteArray := prog_3_method_5_code
def yX1_takeFirst : MethodName := ⟨RX1, "takeFirst", "()I"⟩
def RX2 : String := "Barnacle$Grove"
def TX2 : u_T := fun k => match k with
  | 0 => ("Barnacle$Grove", "draws", "LBarnacle$Draws;", true)
  | 1 => ("Barnacle$Grove", "nothing", "LBarnacle$Tree;", true)
  | 2 => ("Barnacle$Grove", "trees", "[LBarnacle$Tree;", false)
  | 3 => ("Barnacle$Grove", "youngTrees", "[LBarnacle$Tree;", false)
  | 4 => ("Barnacle$Grove", "count", "I", false)
  | 5 => ("Barnacle$Grove", "generations", "I", false)
  | _ => ("Barnacle$Grove", "misses", "I", false)
def tyX2 : Nat → FieldType := fun k => match k with
  | 0 => .object "Barnacle$Draws"
  | 1 => .object "Barnacle$Tree"
  | 2 => .array (.object "Barnacle$Tree")
  | 3 => .array (.object "Barnacle$Tree")
  | 4 => .int
  | 5 => .int
  | _ => .int
abbrev wsX20 : List Cond := u_ws RX2 TX2 7
theorem nmX2 : ∀ a, a < 7 → ∀ b, b < 7 → a ≠ b → (TX2 a).2.1 ≠ (TX2 b).2.1 := by decide +kernel
theorem tyX2_ok : ∀ k, k < 7 → parseFieldDescriptor (TX2 k).2.2.1 = some (tyX2 k) := by decide +kernel
abbrev cX2_init : ByteArray := prog_4_method_1_code
def yX2_init : MethodName := ⟨RX2, "<init>", "()V"⟩
abbrev cX2_tree : ByteArray := prog_4_method_2_code
def yX2_tree : MethodName := ⟨RX2, "tree", "(I)LBarnacle$Tree;"⟩
abbrev cX2_youngTree : ByteArray := prog_4_method_3_code
def yX2_youngTree : MethodName := ⟨RX2, "youngTree", "(I)LBarnacle$Tree;"⟩
abbrev cX2_add : ByteArray := prog_4_method_4_code
def yX2_add : MethodName := ⟨RX2, "add", "(LBarnacle$Tree;)V"⟩
abbrev cX2_hasEarlierTwin : ByteArray := prog_4_method_6_code
def yX2_hasEarlierTwin : MethodName := ⟨RX2, "hasEarlierTwin", "(I)Z"⟩
abbrev cX2_replaceByYoung : ByteArray := prog_4_method_7_code
def yX2_replaceByYoung : MethodName := ⟨RX2, "replaceByYoung", "()V"⟩
abbrev cX2_copyFrom : ByteArray := prog_4_method_8_code
def yX2_copyFrom : MethodName := ⟨RX2, "copyFrom", "(LBarnacle$Grove;)V"⟩
abbrev cX2_treeOf : ByteArray := prog_4_method_9_code
def yX2_treeOf : MethodName := ⟨RX2, "treeOf", "([LBarnacle$Tree;I)LBarnacle$Tree;"⟩
def RX3 : String := "Barnacle$Judge"
def TX3 : u_T := fun k => match k with
  | 0 => ("Barnacle$Judge", "reckoner", "LBarnacle$Reckoner;", true)
  | 1 => ("Barnacle$Judge", "firsts", "[I", true)
  | 2 => ("Barnacle$Judge", "seconds", "[I", true)
  | 3 => ("Barnacle$Judge", "thirds", "[I", true)
  | 4 => ("Barnacle$Judge", "dues", "[I", true)
  | 5 => ("Barnacle$Judge", "cases", "I", false)
  | 6 => ("Barnacle$Judge", "way", "I", false)
  | _ => ("Barnacle$Judge", "weight", "I", false)
def tyX3 : Nat → FieldType := fun k => match k with
  | 0 => .object "Barnacle$Reckoner"
  | 1 => .array .int
  | 2 => .array .int
  | 3 => .array .int
  | 4 => .array .int
  | 5 => .int
  | 6 => .int
  | _ => .int
abbrev wsX30 : List Cond := u_ws RX3 TX3 8
theorem nmX3 : ∀ a, a < 8 → ∀ b, b < 8 → a ≠ b → (TX3 a).2.1 ≠ (TX3 b).2.1 := by decide +kernel
theorem tyX3_ok : ∀ k, k < 8 → parseFieldDescriptor (TX3 k).2.2.1 = some (tyX3 k) := by decide +kernel
abbrev cX3_init : ByteArray := prog_5_method_1_code
def yX3_init : MethodName := ⟨RX3, "<init>", "()V"⟩
abbrev cX3_add : ByteArray := prog_5_method_2_code
def yX3_add : MethodName := ⟨RX3, "add", "(IIII)V"⟩
abbrev cX3_errorOf : ByteArray := prog_5_method_3_code
def yX3_errorOf : MethodName := ⟨RX3, "errorOf", "(LBarnacle$Tree;I)I"⟩
abbrev cX3_meritOf : ByteArray := prog_5_method_4_code
def yX3_meritOf : MethodName := ⟨RX3, "meritOf", "(LBarnacle$Tree;)I"⟩
abbrev cX3_hitsOf : ByteArray := prog_5_method_5_code
def yX3_hitsOf : MethodName := ⟨RX3, "hitsOf", "(LBarnacle$Tree;)I"⟩
def RX4 : String := "Barnacle$Ranking"
def TX4 : u_T := fun k => match k with
  | 0 => ("Barnacle$Ranking", "merits", "[I", true)
  | 1 => ("Barnacle$Ranking", "sizes", "[I", true)
  | _ => ("Barnacle$Ranking", "order", "[I", true)
def tyX4 : Nat → FieldType := fun k => match k with
  | 0 => .array .int
  | 1 => .array .int
  | _ => .array .int
abbrev wsX40 : List Cond := u_ws RX4 TX4 3
theorem nmX4 : ∀ a, a < 3 → ∀ b, b < 3 → a ≠ b → (TX4 a).2.1 ≠ (TX4 b).2.1 := by decide +kernel
theorem tyX4_ok : ∀ k, k < 3 → parseFieldDescriptor (TX4 k).2.2.1 = some (tyX4 k) := by decide +kernel
abbrev cX4_init : ByteArray := prog_6_method_1_code
def yX4_init : MethodName := ⟨RX4, "<init>", "()V"⟩
abbrev cX4_rank : ByteArray := prog_6_method_2_code
def yX4_rank : MethodName := ⟨RX4, "rank", "(LBarnacle$Grove;LBarnacle$Judge;)V"⟩
abbrev cX4_withRank : ByteArray := prog_6_method_3_code
def yX4_withRank : MethodName := ⟨RX4, "withRank", "(I)I"⟩
abbrev cX4_isBetter : ByteArray := prog_6_method_4_code
def yX4_isBetter : MethodName := ⟨RX4, "isBetter", "(II)Z"⟩
abbrev cX4_insert : ByteArray := prog_6_method_5_code
def yX4_insert : MethodName := ⟨RX4, "insert", "(I)V"⟩
def RX5 : String := "Barnacle$Reckoner"
def TX5 : u_T := fun k => match k with
  | 0 => ("Barnacle$Reckoner", "inputs", "[I", true)
  | _ => ("Barnacle$Reckoner", "results", "[I", true)
def tyX5 : Nat → FieldType := fun k => match k with
  | 0 => .array .int
  | _ => .array .int
abbrev wsX50 : List Cond := u_ws RX5 TX5 2
theorem nmX5 : ∀ a, a < 2 → ∀ b, b < 2 → a ≠ b → (TX5 a).2.1 ≠ (TX5 b).2.1 := by decide +kernel
theorem tyX5_ok : ∀ k, k < 2 → parseFieldDescriptor (TX5 k).2.2.1 = some (tyX5 k) := by decide +kernel
abbrev cX5_init : ByteArray := prog_7_method_1_code
def yX5_init : MethodName := ⟨RX5, "<init>", "()V"⟩
abbrev cX5_setInputs : ByteArray := prog_7_method_2_code
def yX5_setInputs : MethodName := ⟨RX5, "setInputs", "(III)V"⟩
abbrev cX5_resultOf : ByteArray := prog_7_method_3_code
def yX5_resultOf : MethodName := ⟨RX5, "resultOf", "(LBarnacle$Tree;I)I"⟩
abbrev cX5_pairResult : ByteArray := prog_7_method_4_code
def yX5_pairResult : MethodName := ⟨RX5, "pairResult", "(III)I"⟩
abbrev cX5_limited : ByteArray := prog_7_method_5_code
def yX5_limited : MethodName := ⟨RX5, "limited", "(I)I"⟩
def RX6 : String := "Barnacle$Simplifier"
def TX6 : u_T := fun k => match k with
  | _ => ("Barnacle$Simplifier", "reckoner", "LBarnacle$Reckoner;", true)
def tyX6 : Nat → FieldType := fun k => match k with
  | _ => .object "Barnacle$Reckoner"
abbrev wsX60 : List Cond := u_ws RX6 TX6 1
theorem nmX6 : ∀ a, a < 1 → ∀ b, b < 1 → a ≠ b → (TX6 a).2.1 ≠ (TX6 b).2.1 := by decide +kernel
theorem tyX6_ok : ∀ k, k < 1 → parseFieldDescriptor (TX6 k).2.2.1 = some (tyX6 k) := by decide +kernel
abbrev cX6_init : ByteArray := prog_8_method_1_code
def yX6_init : MethodName := ⟨RX6, "<init>", "()V"⟩
abbrev cX6_finish : ByteArray := prog_8_method_2_code
def yX6_finish : MethodName := ⟨RX6, "finish", "(LBarnacle$Tree;)V"⟩
abbrev cX6_changeAt : ByteArray := prog_8_method_3_code
def yX6_changeAt : MethodName := ⟨RX6, "changeAt", "(LBarnacle$Tree;I)Z"⟩
abbrev cX6_isFoldable : ByteArray := prog_8_method_4_code
def yX6_isFoldable : MethodName := ⟨RX6, "isFoldable", "(LBarnacle$Tree;I)Z"⟩
abbrev cX6_partThatStays : ByteArray := prog_8_method_5_code
def yX6_partThatStays : MethodName := ⟨RX6, "partThatStays", "(LBarnacle$Tree;I)I"⟩
abbrev cX6_isNothing : ByteArray := prog_8_method_6_code
def yX6_isNothing : MethodName := ⟨RX6, "isNothing", "(LBarnacle$Tree;I)Z"⟩
def RX7 : String := "Barnacle$Sketch"
def TX7 : u_T := fun k => match k with
  | 0 => ("Barnacle$Sketch", "row", "LBarnacle$Tree;", true)
  | 1 => ("Barnacle$Sketch", "needs", "[I", true)
  | 2 => ("Barnacle$Sketch", "levels", "[I", true)
  | 3 => ("Barnacle$Sketch", "missing", "I", false)
  | _ => ("Barnacle$Sketch", "least", "I", false)
def tyX7 : Nat → FieldType := fun k => match k with
  | 0 => .object "Barnacle$Tree"
  | 1 => .array .int
  | 2 => .array .int
  | 3 => .int
  | _ => .int
abbrev wsX70 : List Cond := u_ws RX7 TX7 5
theorem nmX7 : ∀ a, a < 5 → ∀ b, b < 5 → a ≠ b → (TX7 a).2.1 ≠ (TX7 b).2.1 := by decide +kernel
theorem tyX7_ok : ∀ k, k < 5 → parseFieldDescriptor (TX7 k).2.2.1 = some (tyX7 k) := by decide +kernel
abbrev cX7_init : ByteArray := prog_9_method_1_code
def yX7_init : MethodName := ⟨RX7, "<init>", "()V"⟩
abbrev cX7_clear : ByteArray := prog_9_method_2_code
def yX7_clear : MethodName := ⟨RX7, "clear", "()V"⟩
abbrev cX7_accepts : ByteArray := prog_9_method_3_code
def yX7_accepts : MethodName := ⟨RX7, "accepts", "(I)Z"⟩
abbrev cX7_take : ByteArray := prog_9_method_4_code
def yX7_take : MethodName := ⟨RX7, "take", "(II)V"⟩
abbrev cX7_miss : ByteArray := prog_9_method_5_code
def yX7_miss : MethodName := ⟨RX7, "miss", "(ZI)V"⟩
abbrev cX7_needOf : ByteArray := prog_9_method_6_code
def yX7_needOf : MethodName := ⟨RX7, "needOf", "(Z)I"⟩
def RX8 : String := "Barnacle$Tree"
def TX8 : u_T := fun k => match k with
  | 0 => ("Barnacle$Tree", "codes", "[I", true)
  | 1 => ("Barnacle$Tree", "values", "[I", true)
  | 2 => ("Barnacle$Tree", "spans", "[I", true)
  | 3 => ("Barnacle$Tree", "heights", "[I", true)
  | 4 => ("Barnacle$Tree", "nodes", "I", false)
  | _ => ("Barnacle$Tree", "levels", "I", false)
def tyX8 : Nat → FieldType := fun k => match k with
  | 0 => .array .int
  | 1 => .array .int
  | 2 => .array .int
  | 3 => .array .int
  | 4 => .int
  | _ => .int
abbrev wsX80 : List Cond := u_ws RX8 TX8 6
theorem nmX8 : ∀ a, a < 6 → ∀ b, b < 6 → a ≠ b → (TX8 a).2.1 ≠ (TX8 b).2.1 := by decide +kernel
theorem tyX8_ok : ∀ k, k < 6 → parseFieldDescriptor (TX8 k).2.2.1 = some (tyX8 k) := by decide +kernel
abbrev cX8_init : ByteArray := prog_10_method_1_code
def yX8_init : MethodName := ⟨RX8, "<init>", "()V"⟩
abbrev cX8_code : ByteArray := prog_10_method_2_code
def yX8_code : MethodName := ⟨RX8, "code", "(I)I"⟩
abbrev cX8_value : ByteArray := prog_10_method_3_code
def yX8_value : MethodName := ⟨RX8, "value", "(I)I"⟩
abbrev cX8_span : ByteArray := prog_10_method_4_code
def yX8_span : MethodName := ⟨RX8, "span", "(I)I"⟩
abbrev cX8_isNumber : ByteArray := prog_10_method_5_code
def yX8_isNumber : MethodName := ⟨RX8, "isNumber", "(I)Z"⟩
abbrev cX8_isConstant : ByteArray := prog_10_method_6_code
def yX8_isConstant : MethodName := ⟨RX8, "isConstant", "(II)Z"⟩
abbrev cX8_behind : ByteArray := prog_10_method_7_code
def yX8_behind : MethodName := ⟨RX8, "behind", "(I)I"⟩
abbrev cX8_placeAbove : ByteArray := prog_10_method_8_code
def yX8_placeAbove : MethodName := ⟨RX8, "placeAbove", "(I)I"⟩
abbrev cX8_hasInput : ByteArray := prog_10_method_9_code
def yX8_hasInput : MethodName := ⟨RX8, "hasInput", "(I)Z"⟩
abbrev cX8_sameParts : ByteArray := prog_10_method_10_code
def yX8_sameParts : MethodName := ⟨RX8, "sameParts", "(II)Z"⟩
abbrev cX8_sameNodes : ByteArray := prog_10_method_11_code
def yX8_sameNodes : MethodName := ⟨RX8, "sameNodes", "(LBarnacle$Tree;)I"⟩
abbrev cX8_countOfType : ByteArray := prog_10_method_12_code
def yX8_countOfType : MethodName := ⟨RX8, "countOfType", "(Z)I"⟩
abbrev cX8_placeOfType : ByteArray := prog_10_method_13_code
def yX8_placeOfType : MethodName := ⟨RX8, "placeOfType", "(ZI)I"⟩
abbrev cX8_write : ByteArray := prog_10_method_14_code
def yX8_write : MethodName := ⟨RX8, "write", "(III)V"⟩
abbrev cX8_append : ByteArray := prog_10_method_15_code
def yX8_append : MethodName := ⟨RX8, "append", "(II)V"⟩
abbrev cX8_copyFrom : ByteArray := prog_10_method_16_code
def yX8_copyFrom : MethodName := ⟨RX8, "copyFrom", "(LBarnacle$Tree;)V"⟩
abbrev cX8_makeConstant : ByteArray := prog_10_method_17_code
def yX8_makeConstant : MethodName := ⟨RX8, "makeConstant", "(II)V"⟩
abbrev cX8_keepPart : ByteArray := prog_10_method_18_code
def yX8_keepPart : MethodName := ⟨RX8, "keepPart", "(II)V"⟩
abbrev cX8_becomeCrossed : ByteArray := prog_10_method_19_code
def yX8_becomeCrossed : MethodName := ⟨RX8, "becomeCrossed", "(LBarnacle$Tree;ILBarnacle$Tree;I)Z"⟩
abbrev cX8_appendFrom : ByteArray := prog_10_method_20_code
def yX8_appendFrom : MethodName := ⟨RX8, "appendFrom", "(LBarnacle$Tree;II)V"⟩
abbrev cX8_closeGap : ByteArray := prog_10_method_21_code
def yX8_closeGap : MethodName := ⟨RX8, "closeGap", "(II)V"⟩
abbrev cX8_measure : ByteArray := prog_10_method_22_code
def yX8_measure : MethodName := ⟨RX8, "measure", "()V"⟩
def RX9 : String := "Barnacle"
def TX9 : u_T := fun k => match k with
  | 0 => ("Barnacle", "sketch", "LBarnacle$Sketch;", true)
  | 1 => ("Barnacle", "judge", "LBarnacle$Judge;", true)
  | 2 => ("Barnacle", "ranking", "LBarnacle$Ranking;", true)
  | 3 => ("Barnacle", "breeder", "LBarnacle$Breeder;", true)
  | 4 => ("Barnacle", "simplifier", "LBarnacle$Simplifier;", true)
  | 5 => ("Barnacle", "reckoner", "LBarnacle$Reckoner;", true)
  | 6 => ("Barnacle", "grove", "LBarnacle$Grove;", true)
  | 7 => ("Barnacle", "trialGrove", "LBarnacle$Grove;", true)
  | _ => ("Barnacle", "trialTree", "LBarnacle$Tree;", true)
def tyX9 : Nat → FieldType := fun k => match k with
  | 0 => .object "Barnacle$Sketch"
  | 1 => .object "Barnacle$Judge"
  | 2 => .object "Barnacle$Ranking"
  | 3 => .object "Barnacle$Breeder"
  | 4 => .object "Barnacle$Simplifier"
  | 5 => .object "Barnacle$Reckoner"
  | 6 => .object "Barnacle$Grove"
  | 7 => .object "Barnacle$Grove"
  | _ => .object "Barnacle$Tree"
abbrev wsX90 : List Cond := u_ws RX9 TX9 9
theorem nmX9 : ∀ a, a < 9 → ∀ b, b < 9 → a ≠ b → (TX9 a).2.1 ≠ (TX9 b).2.1 := by decide +kernel
theorem tyX9_ok : ∀ k, k < 9 → parseFieldDescriptor (TX9 k).2.2.1 = some (tyX9 k) := by decide +kernel
abbrev cX9_init : ByteArray := prog_1_method_1_code
def yX9_init : MethodName := ⟨RX9, "<init>", "()V"⟩
abbrev cX9_sketch : ByteArray := prog_1_method_2_code
def yX9_sketch : MethodName := ⟨RX9, "sketch", "(II)I"⟩
abbrev cX9_plant : ByteArray := prog_1_method_4_code
def yX9_plant : MethodName := ⟨RX9, "plant", "()I"⟩
abbrev cX9_addCase : ByteArray := prog_1_method_6_code
def yX9_addCase : MethodName := ⟨RX9, "addCase", "(IIII)I"⟩
abbrev cX9_setWay : ByteArray := prog_1_method_7_code
def yX9_setWay : MethodName := ⟨RX9, "setWay", "(II)I"⟩
abbrev cX9_cross : ByteArray := prog_1_method_8_code
def yX9_cross : MethodName := ⟨RX9, "cross", "(IIII)I"⟩
abbrev cX9_hoist : ByteArray := prog_1_method_9_code
def yX9_hoist : MethodName := ⟨RX9, "hoist", "(II)I"⟩
abbrev cX9_wither : ByteArray := prog_1_method_11_code
def yX9_wither : MethodName := ⟨RX9, "wither", "(III)I"⟩
abbrev cX9_simplify : ByteArray := prog_1_method_12_code
def yX9_simplify : MethodName := ⟨RX9, "simplify", "(I)I"⟩
abbrev cX9_setChoosing : ByteArray := prog_1_method_14_code
def yX9_setChoosing : MethodName := ⟨RX9, "setChoosing", "(II)I"⟩
abbrev cX9_setLuck : ByteArray := prog_1_method_15_code
def yX9_setLuck : MethodName := ⟨RX9, "setLuck", "(I)I"⟩
abbrev cX9_breed : ByteArray := prog_1_method_17_code
def yX9_breed : MethodName := ⟨RX9, "breed", "(I)I"⟩
abbrev cX9_sketched : ByteArray := prog_1_method_18_code
def yX9_sketched : MethodName := ⟨RX9, "sketched", "()I"⟩
abbrev cX9_trees : ByteArray := prog_1_method_19_code
def yX9_trees : MethodName := ⟨RX9, "trees", "()I"⟩
abbrev cX9_size : ByteArray := prog_1_method_21_code
def yX9_size : MethodName := ⟨RX9, "size", "(I)I"⟩
abbrev cX9_depth : ByteArray := prog_1_method_22_code
def yX9_depth : MethodName := ⟨RX9, "depth", "(I)I"⟩
abbrev cX9_codeAt : ByteArray := prog_1_method_23_code
def yX9_codeAt : MethodName := ⟨RX9, "codeAt", "(II)I"⟩
abbrev cX9_valueAt : ByteArray := prog_1_method_24_code
def yX9_valueAt : MethodName := ⟨RX9, "valueAt", "(II)I"⟩
abbrev cX9_sizeAt : ByteArray := prog_1_method_25_code
def yX9_sizeAt : MethodName := ⟨RX9, "sizeAt", "(II)I"⟩
abbrev cX9_above : ByteArray := prog_1_method_26_code
def yX9_above : MethodName := ⟨RX9, "above", "(II)I"⟩
abbrev cX9_gives : ByteArray := prog_1_method_27_code
def yX9_gives : MethodName := ⟨RX9, "gives", "(IIII)I"⟩
abbrev cX9_error : ByteArray := prog_1_method_28_code
def yX9_error : MethodName := ⟨RX9, "error", "(I)I"⟩
abbrev cX9_merit : ByteArray := prog_1_method_29_code
def yX9_merit : MethodName := ⟨RX9, "merit", "(I)I"⟩
abbrev cX9_ranked : ByteArray := prog_1_method_31_code
def yX9_ranked : MethodName := ⟨RX9, "ranked", "(I)I"⟩
abbrev cX9_different : ByteArray := prog_1_method_32_code
def yX9_different : MethodName := ⟨RX9, "different", "()I"⟩
abbrev cX9_alike : ByteArray := prog_1_method_33_code
def yX9_alike : MethodName := ⟨RX9, "alike", "(II)I"⟩
abbrev cX9_errorCrossed : ByteArray := prog_1_method_39_code
def yX9_errorCrossed : MethodName := ⟨RX9, "errorCrossed", "(IIII)I"⟩
abbrev cX9_bestHoist : ByteArray := prog_1_method_40_code
def yX9_bestHoist : MethodName := ⟨RX9, "bestHoist", "(I)I"⟩
abbrev cX9_errorBred : ByteArray := prog_1_method_41_code
def yX9_errorBred : MethodName := ⟨RX9, "errorBred", "(I)I"⟩
abbrev cX9_digest : ByteArray := prog_1_method_42_code
def yX9_digest : MethodName := ⟨RX9, "digest", "()J"⟩
abbrev cX9_digestWith : ByteArray := prog_1_method_43_code
def yX9_digestWith : MethodName := ⟨RX9, "digestWith", "(JLBarnacle$Tree;)J"⟩
abbrev cX9_requireTree : ByteArray := prog_1_method_44_code
def yX9_requireTree : MethodName := ⟨RX9, "requireTree", "(I)LBarnacle$Tree;"⟩
abbrev cX9_requirePlace : ByteArray := prog_1_method_45_code
def yX9_requirePlace : MethodName := ⟨RX9, "requirePlace", "(II)LBarnacle$Tree;"⟩
abbrev cX9_requireBreeding : ByteArray := prog_1_method_46_code
def yX9_requireBreeding : MethodName := ⟨RX9, "requireBreeding", "(I)V"⟩
abbrev cX9_requireNode : ByteArray := prog_1_method_47_code
def yX9_requireNode : MethodName := ⟨RX9, "requireNode", "(II)V"⟩
abbrev cX9_requireInputs : ByteArray := prog_1_method_48_code
def yX9_requireInputs : MethodName := ⟨RX9, "requireInputs", "(III)V"⟩
abbrev cX9_isInput : ByteArray := prog_1_method_49_code
def yX9_isInput : MethodName := ⟨RX9, "isInput", "(I)Z"⟩
abbrev cX9_isNumberPart : ByteArray := prog_1_method_51_code
def yX9_isNumberPart : MethodName := ⟨RX9, "isNumberPart", "(II)Z"⟩
abbrev cX9_at : ByteArray := prog_1_method_52_code
def yX9_at : MethodName := ⟨RX9, "at", "([II)I"⟩
abbrev cX9_put : ByteArray := prog_1_method_53_code
def yX9_put : MethodName := ⟨RX9, "put", "([III)V"⟩
def RX10 : String := "BarnacleLaw$Grove"
def TX10 : u_T := fun k => match k with
  | 0 => ("BarnacleLaw$Grove", "m", "LBarnacle;", true)
  | 1 => ("BarnacleLaw$Grove", "s", "[I", true)
  | 2 => ("BarnacleLaw$Grove", "draws", "I", false)
  | 3 => ("BarnacleLaw$Grove", "trees", "I", false)
  | 4 => ("BarnacleLaw$Grove", "tree", "[[I", false)
  | 5 => ("BarnacleLaw$Grove", "cases", "I", false)
  | _ => ("BarnacleLaw$Grove", "its", "[[I", true)
def tyX10 : Nat → FieldType := fun k => match k with
  | 0 => .object "Barnacle"
  | 1 => .array .int
  | 2 => .int
  | 3 => .int
  | 4 => .array (.array .int)
  | 5 => .int
  | _ => .array (.array .int)
abbrev wsX100 : List Cond := u_ws RX10 TX10 7
theorem nmX10 : ∀ a, a < 7 → ∀ b, b < 7 → a ≠ b → (TX10 a).2.1 ≠ (TX10 b).2.1 := by decide +kernel
theorem tyX10_ok : ∀ k, k < 7 → parseFieldDescriptor (TX10 k).2.2.1 = some (tyX10 k) := by decide +kernel
abbrev cX10_init : ByteArray := prog_12_method_1_code
def yX10_init : MethodName := ⟨RX10, "<init>", "([II)V"⟩
abbrev cX10_draw : ByteArray := prog_12_method_2_code
def yX10_draw : MethodName := ⟨RX10, "draw", "(I)I"⟩
abbrev cX10_many : ByteArray := prog_12_method_3_code
def yX10_many : MethodName := ⟨RX10, "many", "(I)I"⟩
abbrev cX10_isNumber : ByteArray := prog_12_method_4_code
def yX10_isNumber : MethodName := ⟨RX10, "isNumber", "(II)Z"⟩
abbrev cX10_joined : ByteArray := prog_12_method_5_code
def yX10_joined : MethodName := ⟨RX10, "joined", "([I[I)[I"⟩
abbrev cX10_grown : ByteArray := prog_12_method_6_code
def yX10_grown : MethodName := ⟨RX10, "grown", "(ZI)[I"⟩
abbrev cX10_plant : ByteArray := prog_12_method_7_code
def yX10_plant : MethodName := ⟨RX10, "plant", "()Z"⟩
abbrev cX10_addCase : ByteArray := prog_12_method_8_code
def yX10_addCase : MethodName := ⟨RX10, "addCase", "()Z"⟩
def RX11 : String := "BarnacleModel"
def TX11 : u_T := fun k => match k with
  | _ => ("", "", "", false)
def tyX11 : Nat → FieldType := fun k => match k with
  | _ => .int
abbrev wsX110 : List Cond := u_ws RX11 TX11 0
theorem nmX11 : ∀ a, a < 0 → ∀ b, b < 0 → a ≠ b → (TX11 a).2.1 ≠ (TX11 b).2.1 := by decide +kernel
theorem tyX11_ok : ∀ k, k < 0 → parseFieldDescriptor (TX11 k).2.2.1 = some (tyX11 k) := by decide +kernel
def RJ9 : String := "java/lang/Math"
def TJ9 : u_T := fun k => match k with
  | _ => ("", "", "", false)
def tyJ9 : Nat → FieldType := fun k => match k with
  | _ => .int
abbrev cJ9_max_7cf53 : ByteArray := prog_18_method_65_code
def yJ9_max_7cf53 : MethodName := ⟨RJ9, "max", "(II)I"⟩
abbrev cJ9_min_7cf53 : ByteArray := prog_18_method_69_code
def yJ9_min_7cf53 : MethodName := ⟨RJ9, "min", "(II)I"⟩
def RJ0 : String := "java/lang/String"
def TJ0 : u_T := fun k => match k with
  | _ => ("", "", "", false)
def tyJ0 : Nat → FieldType := fun k => match k with
  | _ => .int
def RJ10 : String := "java/lang/System"
def TJ10 : u_T := fun k => match k with
  | _ => ("", "", "", false)
def tyJ10 : Nat → FieldType := fun k => match k with
  | _ => .int
def RL : String := "BarnacleLaw"
abbrev cL_below : ByteArray := method_2_code
def yL_below : MethodName := ⟨RL, "below", "(II)I"⟩
abbrev cL_cell : ByteArray := method_3_code
def yL_cell : MethodName := ⟨RL, "cell", "([II)I"⟩
abbrev cL_law : ByteArray := code
def yL_law : MethodName := ⟨RL, "law", "([I)Z"⟩
abbrev vwCl : List vw_C := [(RX0, TX0, 6), (RX1, TX1, 3), (RX2, TX2, 7), (RX3, TX3, 8), (RX4, TX4, 3), (RX5, TX5, 2), (RX6, TX6, 1), (RX7, TX7, 5), (RX8, TX8, 6), (RX9, TX9, 9), (RX10, TX10, 7)]
/-- the words of the tables that stay when entries are resolved -/
def fwOk : Cond → Bool
  | .fieldLinkNest _ _ _ _ _ _ => true
  | .methodLinkNest _ _ _ _ => true
  | .arrayOver _ => true
  | .declares _ => true
  | .castable _ _ => true
  | w => goodWord w
def fwT : List Cond := lw_tbl.filter fwOk
theorem fw_mem {i : Nat} {w : Cond} (h : lw_tbl[i]? = some w) (h2 : fwOk w = true) : w ∈ fwT := List.mem_filter.mpr ⟨List.mem_of_getElem? h, h2⟩
/-- the String constants: class, entry, text -/
def fwStr : List (String × Nat × String) := [(RX9, 133, "way is not 0 to 2, or weight is not 0 to 99"), (RX9, 301, "there is no such TREE"), (RX9, 303, "there is no such PLACE"), (RX9, 173, "value is not -99 to 99"), (RX9, 195, "tournament is not 1 to 5, or elite is not 0 to 4"), (RX9, 203, "luck is not 0 to 9999"), (RX9, 305, "generations is not 1 to 10"), (RX9, 307, "the GROVE is empty"), (RX9, 318, "an input is not -99 to 99"), (RX9, 261, "there is no such rank"), (RX9, 309, "code is not 0 to 13"), (RX9, 311, "the value of a CONSTANT is not -99 to 99"), (RX9, 313, "the value of an INPUT is not 0 to 2"), (RX9, 78, "the NODE cannot come to the SKETCH"), (RX9, 102, "the SKETCH is no TREE, or the GROVE is full"), (RX9, 122, "what is due is not -9999 to 9999"), (RX9, 128, "there are 12 CASES")]
theorem qu_RX0 : ∀ w ∈ wsX00, w ∈ fwT := by decide +kernel
theorem qu_RX1 : ∀ w ∈ wsX10, w ∈ fwT := by decide +kernel
theorem qu_RX2 : ∀ w ∈ wsX20, w ∈ fwT := by decide +kernel
theorem qu_RX3 : ∀ w ∈ wsX30, w ∈ fwT := by decide +kernel
theorem qu_RX4 : ∀ w ∈ wsX40, w ∈ fwT := by decide +kernel
theorem qu_RX5 : ∀ w ∈ wsX50, w ∈ fwT := by decide +kernel
theorem qu_RX6 : ∀ w ∈ wsX60, w ∈ fwT := by decide +kernel
theorem qu_RX7 : ∀ w ∈ wsX70, w ∈ fwT := by decide +kernel
theorem qu_RX8 : ∀ w ∈ wsX80, w ∈ fwT := by decide +kernel
theorem qu_RX9 : ∀ w ∈ wsX90, w ∈ fwT := by decide +kernel
theorem qu_RX10 : ∀ w ∈ wsX100, w ∈ fwT := by decide +kernel
theorem qv_yX9_requirePlace : Cond.selects RX9 yX9_requirePlace yX9_requirePlace ∈ fwT := fw_mem (i := 1) (by decide +kernel) (by decide +kernel)
theorem qv_yX9_requireTree : Cond.selects RX9 yX9_requireTree yX9_requireTree ∈ fwT := fw_mem (i := 2) (by decide +kernel) (by decide +kernel)
theorem qv_yX2_treeOf : Cond.selects RX2 yX2_treeOf yX2_treeOf ∈ fwT := fw_mem (i := 3) (by decide +kernel) (by decide +kernel)
theorem qv_yX8_appendFrom : Cond.selects RX8 yX8_appendFrom yX8_appendFrom ∈ fwT := fw_mem (i := 4) (by decide +kernel) (by decide +kernel)
theorem qv_yX8_measure : Cond.selects RX8 yX8_measure yX8_measure ∈ fwT := fw_mem (i := 5) (by decide +kernel) (by decide +kernel)
theorem qv_yX8_closeGap : Cond.selects RX8 yX8_closeGap yX8_closeGap ∈ fwT := fw_mem (i := 6) (by decide +kernel) (by decide +kernel)
theorem qv_yX6_changeAt : Cond.selects RX6 yX6_changeAt yX6_changeAt ∈ fwT := fw_mem (i := 7) (by decide +kernel) (by decide +kernel)
theorem qv_yX9_requireBreeding : Cond.selects RX9 yX9_requireBreeding yX9_requireBreeding ∈ fwT := fw_mem (i := 8) (by decide +kernel) (by decide +kernel)
theorem qv_yX4_insert : Cond.selects RX4 yX4_insert yX4_insert ∈ fwT := fw_mem (i := 9) (by decide +kernel) (by decide +kernel)
theorem qv_yX0_makeYoung : Cond.selects RX0 yX0_makeYoung yX0_makeYoung ∈ fwT := fw_mem (i := 10) (by decide +kernel) (by decide +kernel)
theorem qv_yX1_takeFirst : Cond.selects RX1 yX1_takeFirst yX1_takeFirst ∈ fwT := fw_mem (i := 11) (by decide +kernel) (by decide +kernel)
theorem qv_yX0_choose : Cond.selects RX0 yX0_choose yX0_choose ∈ fwT := fw_mem (i := 12) (by decide +kernel) (by decide +kernel)
theorem qv_yX9_digestWith : Cond.selects RX9 yX9_digestWith yX9_digestWith ∈ fwT := fw_mem (i := 13) (by decide +kernel) (by decide +kernel)
theorem qv_yX7_miss : Cond.selects RX7 yX7_miss yX7_miss ∈ fwT := fw_mem (i := 14) (by decide +kernel) (by decide +kernel)
theorem qn_RL : Cond.initialized RL ∈ fwT := fw_mem (i := 15) (by decide +kernel) (by decide +kernel)
theorem qn_RX10 : Cond.initialized RX10 ∈ fwT := fw_mem (i := 16) (by decide +kernel) (by decide +kernel)
theorem qn_RX9 : Cond.initialized RX9 ∈ fwT := fw_mem (i := 17) (by decide +kernel) (by decide +kernel)
theorem qn_RX7 : Cond.initialized RX7 ∈ fwT := fw_mem (i := 18) (by decide +kernel) (by decide +kernel)
theorem qn_RX8 : Cond.initialized RX8 ∈ fwT := fw_mem (i := 19) (by decide +kernel) (by decide +kernel)
theorem qn_RX3 : Cond.initialized RX3 ∈ fwT := fw_mem (i := 20) (by decide +kernel) (by decide +kernel)
theorem qn_RX5 : Cond.initialized RX5 ∈ fwT := fw_mem (i := 21) (by decide +kernel) (by decide +kernel)
theorem qn_RX4 : Cond.initialized RX4 ∈ fwT := fw_mem (i := 22) (by decide +kernel) (by decide +kernel)
theorem qn_RX0 : Cond.initialized RX0 ∈ fwT := fw_mem (i := 23) (by decide +kernel) (by decide +kernel)
theorem qn_RX6 : Cond.initialized RX6 ∈ fwT := fw_mem (i := 24) (by decide +kernel) (by decide +kernel)
theorem qn_RX2 : Cond.initialized RX2 ∈ fwT := fw_mem (i := 25) (by decide +kernel) (by decide +kernel)
theorem qn_RX1 : Cond.initialized RX1 ∈ fwT := fw_mem (i := 26) (by decide +kernel) (by decide +kernel)
theorem qn_RJ10 : Cond.initialized RJ10 ∈ fwT := fw_mem (i := 27) (by decide +kernel) (by decide +kernel)
theorem qn_J9 : Cond.initialized "java/lang/Math" ∈ fwT := fw_mem (i := 33) (by decide +kernel) (by decide +kernel)
theorem ql_RL_38 : Cond.methodLink RL 38 yX9_setWay ∈ fwT := fw_mem (i := 35) (by decide +kernel) (by decide +kernel)
theorem qi_yX9_setWay : Cond.instanceMethod yX9_setWay ∈ fwT := fw_mem (i := 36) (by decide +kernel) (by decide +kernel)
theorem qv_yX9_setWay : Cond.selects RX9 yX9_setWay yX9_setWay ∈ fwT := fw_mem (i := 37) (by decide +kernel) (by decide +kernel)
theorem qc_yX9_setWay : Cond.code yX9_setWay cX9_setWay 4 (Option.some Jvm.ClassFile.FieldType.int) ∈ fwT := fw_mem (i := 38) (by decide +kernel) (by decide +kernel)
theorem ql_RX9_120 : Cond.classLink RX9 120 "java/lang/IllegalArgumentException" ∈ fwT := fw_mem (i := 39) (by decide +kernel) (by decide +kernel)
theorem qk_IAE_IAE : Cond.castable "java/lang/IllegalArgumentException" "java/lang/IllegalArgumentException" ∈ fwT := fw_mem (i := 41) (by decide +kernel) (by decide +kernel)
theorem qi_obj : Cond.instanceMethod objectInit ∈ fwT := fw_mem (i := 65) (by decide +kernel) (by decide +kernel)
theorem qc_obj : Cond.code objectInit ⟨#[0xb1]⟩ 1 none ∈ fwT := fw_mem (i := 66) (by decide +kernel) (by decide +kernel)
theorem qa_byte : Cond.arrayClass Jvm.ClassFile.FieldType.byte ∈ fwT := fw_mem (i := 108) (by decide +kernel) (by decide +kernel)
theorem ql_RL_71 : Cond.methodLink RL 71 yX9_cross ∈ fwT := fw_mem (i := 109) (by decide +kernel) (by decide +kernel)
theorem qi_yX9_cross : Cond.instanceMethod yX9_cross ∈ fwT := fw_mem (i := 110) (by decide +kernel) (by decide +kernel)
theorem qv_yX9_cross : Cond.selects RX9 yX9_cross yX9_cross ∈ fwT := fw_mem (i := 111) (by decide +kernel) (by decide +kernel)
theorem qc_yX9_cross : Cond.code yX9_cross cX9_cross 7 (Option.some Jvm.ClassFile.FieldType.int) ∈ fwT := fw_mem (i := 112) (by decide +kernel) (by decide +kernel)
theorem ql_RX9_141 : Cond.methodLink RX9 141 yX9_requirePlace ∈ fwT := fw_mem (i := 113) (by decide +kernel) (by decide +kernel)
theorem qi_yX9_requirePlace : Cond.instanceMethod yX9_requirePlace ∈ fwT := fw_mem (i := 115) (by decide +kernel) (by decide +kernel)
theorem qt_RX9 : Cond.instantiable RX9 9 ∈ fwT := fw_mem (i := 116) (by decide +kernel) (by decide +kernel)
theorem qc_yX9_requirePlace : Cond.code yX9_requirePlace cX9_requirePlace 4 (Option.some (Jvm.ClassFile.FieldType.object "Barnacle$Tree")) ∈ fwT := fw_mem (i := 117) (by decide +kernel) (by decide +kernel)
theorem ql_RX9_108 : Cond.methodLink RX9 108 yX9_requireTree ∈ fwT := fw_mem (i := 118) (by decide +kernel) (by decide +kernel)
theorem qi_yX9_requireTree : Cond.instanceMethod yX9_requireTree ∈ fwT := fw_mem (i := 120) (by decide +kernel) (by decide +kernel)
theorem qc_yX9_requireTree : Cond.code yX9_requireTree cX9_requireTree 2 (Option.some (Jvm.ClassFile.FieldType.object "Barnacle$Tree")) ∈ fwT := fw_mem (i := 121) (by decide +kernel) (by decide +kernel)
theorem ql_RX9_259 : Cond.classLink RX9 259 "java/lang/IndexOutOfBoundsException" ∈ fwT := fw_mem (i := 122) (by decide +kernel) (by decide +kernel)
theorem qk_IOB_IOB : Cond.castable "java/lang/IndexOutOfBoundsException" "java/lang/IndexOutOfBoundsException" ∈ fwT := fw_mem (i := 124) (by decide +kernel) (by decide +kernel)
theorem ql_RX9_277 : Cond.methodLink RX9 277 yX2_tree ∈ fwT := fw_mem (i := 138) (by decide +kernel) (by decide +kernel)
theorem qi_yX2_tree : Cond.instanceMethod yX2_tree ∈ fwT := fw_mem (i := 139) (by decide +kernel) (by decide +kernel)
theorem qv_yX2_tree : Cond.selects RX2 yX2_tree yX2_tree ∈ fwT := fw_mem (i := 140) (by decide +kernel) (by decide +kernel)
theorem qc_yX2_tree : Cond.code yX2_tree cX2_tree 2 (Option.some (Jvm.ClassFile.FieldType.object "Barnacle$Tree")) ∈ fwT := fw_mem (i := 141) (by decide +kernel) (by decide +kernel)
theorem ql_RX2_32 : Cond.methodLink RX2 32 yX2_treeOf ∈ fwT := fw_mem (i := 142) (by decide +kernel) (by decide +kernel)
theorem qi_yX2_treeOf : Cond.instanceMethod yX2_treeOf ∈ fwT := fw_mem (i := 144) (by decide +kernel) (by decide +kernel)
theorem qt_RX2 : Cond.instantiable RX2 7 ∈ fwT := fw_mem (i := 145) (by decide +kernel) (by decide +kernel)
theorem qc_yX2_treeOf : Cond.code yX2_treeOf cX2_treeOf 4 (Option.some (Jvm.ClassFile.FieldType.object "Barnacle$Tree")) ∈ fwT := fw_mem (i := 146) (by decide +kernel) (by decide +kernel)
theorem ql_RX9_145 : Cond.methodLink RX9 145 yX8_becomeCrossed ∈ fwT := fw_mem (i := 148) (by decide +kernel) (by decide +kernel)
theorem qi_yX8_becomeCrossed : Cond.instanceMethod yX8_becomeCrossed ∈ fwT := fw_mem (i := 149) (by decide +kernel) (by decide +kernel)
theorem qv_yX8_becomeCrossed : Cond.selects RX8 yX8_becomeCrossed yX8_becomeCrossed ∈ fwT := fw_mem (i := 150) (by decide +kernel) (by decide +kernel)
theorem qc_yX8_becomeCrossed : Cond.code yX8_becomeCrossed cX8_becomeCrossed 6 (Option.some Jvm.ClassFile.FieldType.boolean) ∈ fwT := fw_mem (i := 151) (by decide +kernel) (by decide +kernel)
theorem ql_RX8_38 : Cond.methodLink RX8 38 yX8_span ∈ fwT := fw_mem (i := 152) (by decide +kernel) (by decide +kernel)
theorem qi_yX8_span : Cond.instanceMethod yX8_span ∈ fwT := fw_mem (i := 153) (by decide +kernel) (by decide +kernel)
theorem qv_yX8_span : Cond.selects RX8 yX8_span yX8_span ∈ fwT := fw_mem (i := 154) (by decide +kernel) (by decide +kernel)
theorem qc_yX8_span : Cond.code yX8_span cX8_span 2 (Option.some Jvm.ClassFile.FieldType.int) ∈ fwT := fw_mem (i := 155) (by decide +kernel) (by decide +kernel)
theorem ql_RX8_24 : Cond.methodLinkNest RX8 24 yX9_at "Barnacle" ∈ fwT := fw_mem (i := 156) (by decide +kernel) (by decide +kernel)
theorem qs_yX9_at : Cond.static yX9_at ∈ fwT := fw_mem (i := 157) (by decide +kernel) (by decide +kernel)
theorem qc_yX9_at : Cond.code yX9_at cX9_at 2 (Option.some Jvm.ClassFile.FieldType.int) ∈ fwT := fw_mem (i := 158) (by decide +kernel) (by decide +kernel)
theorem ql_RX8_51 : Cond.methodLink RX8 51 yX8_isNumber ∈ fwT := fw_mem (i := 159) (by decide +kernel) (by decide +kernel)
theorem qi_yX8_isNumber : Cond.instanceMethod yX8_isNumber ∈ fwT := fw_mem (i := 160) (by decide +kernel) (by decide +kernel)
theorem qv_yX8_isNumber : Cond.selects RX8 yX8_isNumber yX8_isNumber ∈ fwT := fw_mem (i := 161) (by decide +kernel) (by decide +kernel)
theorem qc_yX8_isNumber : Cond.code yX8_isNumber cX8_isNumber 2 (Option.some Jvm.ClassFile.FieldType.boolean) ∈ fwT := fw_mem (i := 162) (by decide +kernel) (by decide +kernel)
theorem ql_RX8_63 : Cond.methodLink RX8 63 yX8_appendFrom ∈ fwT := fw_mem (i := 163) (by decide +kernel) (by decide +kernel)
theorem qi_yX8_appendFrom : Cond.instanceMethod yX8_appendFrom ∈ fwT := fw_mem (i := 165) (by decide +kernel) (by decide +kernel)
theorem qt_RX8 : Cond.instantiable RX8 6 ∈ fwT := fw_mem (i := 166) (by decide +kernel) (by decide +kernel)
theorem qc_yX8_appendFrom : Cond.code yX8_appendFrom cX8_appendFrom 5 (Option.none : Option Jvm.ClassFile.FieldType) ∈ fwT := fw_mem (i := 167) (by decide +kernel) (by decide +kernel)
theorem ql_RX8_55 : Cond.methodLinkNest RX8 55 yX9_put "Barnacle" ∈ fwT := fw_mem (i := 168) (by decide +kernel) (by decide +kernel)
theorem qs_yX9_put : Cond.static yX9_put ∈ fwT := fw_mem (i := 169) (by decide +kernel) (by decide +kernel)
theorem qc_yX9_put : Cond.code yX9_put cX9_put 3 (Option.none : Option Jvm.ClassFile.FieldType) ∈ fwT := fw_mem (i := 170) (by decide +kernel) (by decide +kernel)
theorem ql_RX8_35 : Cond.methodLink RX8 35 yX8_behind ∈ fwT := fw_mem (i := 171) (by decide +kernel) (by decide +kernel)
theorem qi_yX8_behind : Cond.instanceMethod yX8_behind ∈ fwT := fw_mem (i := 172) (by decide +kernel) (by decide +kernel)
theorem qv_yX8_behind : Cond.selects RX8 yX8_behind yX8_behind ∈ fwT := fw_mem (i := 173) (by decide +kernel) (by decide +kernel)
theorem qc_yX8_behind : Cond.code yX8_behind cX8_behind 2 (Option.some Jvm.ClassFile.FieldType.int) ∈ fwT := fw_mem (i := 174) (by decide +kernel) (by decide +kernel)
theorem ql_RX8_67 : Cond.methodLink RX8 67 yX8_measure ∈ fwT := fw_mem (i := 175) (by decide +kernel) (by decide +kernel)
theorem qi_yX8_measure : Cond.instanceMethod yX8_measure ∈ fwT := fw_mem (i := 177) (by decide +kernel) (by decide +kernel)
theorem qc_yX8_measure : Cond.code yX8_measure cX8_measure 6 (Option.none : Option Jvm.ClassFile.FieldType) ∈ fwT := fw_mem (i := 178) (by decide +kernel) (by decide +kernel)
theorem ql_RX8_77 : Cond.fieldLinkNest RX8 77 "Barnacle" "PARTS" "[I" "Barnacle" ∈ fwT := fw_mem (i := 179) (by decide +kernel) (by decide +kernel)
theorem ql_RX8_80 : Cond.methodLink RX8 80 Lib.Math.max.name ∈ fwT := fw_mem (i := 181) (by decide +kernel) (by decide +kernel)
theorem qs_J9_max : Cond.static Lib.Math.max.name ∈ fwT := fw_mem (i := 182) (by decide +kernel) (by decide +kernel)
theorem qc_J9_max : Cond.code Lib.Math.max.name Lib.Math.max.code 2 (some .int) ∈ fwT := fw_mem (i := 183) (by decide +kernel) (by decide +kernel)
theorem ql_RX9_149 : Cond.methodLink RX9 149 yX8_copyFrom ∈ fwT := fw_mem (i := 184) (by decide +kernel) (by decide +kernel)
theorem qi_yX8_copyFrom : Cond.instanceMethod yX8_copyFrom ∈ fwT := fw_mem (i := 185) (by decide +kernel) (by decide +kernel)
theorem qv_yX8_copyFrom : Cond.selects RX8 yX8_copyFrom yX8_copyFrom ∈ fwT := fw_mem (i := 186) (by decide +kernel) (by decide +kernel)
theorem qc_yX8_copyFrom : Cond.code yX8_copyFrom cX8_copyFrom 2 (Option.none : Option Jvm.ClassFile.FieldType) ∈ fwT := fw_mem (i := 187) (by decide +kernel) (by decide +kernel)
theorem ql_RL_74 : Cond.methodLink RL 74 yX9_hoist ∈ fwT := fw_mem (i := 188) (by decide +kernel) (by decide +kernel)
theorem qi_yX9_hoist : Cond.instanceMethod yX9_hoist ∈ fwT := fw_mem (i := 189) (by decide +kernel) (by decide +kernel)
theorem qv_yX9_hoist : Cond.selects RX9 yX9_hoist yX9_hoist ∈ fwT := fw_mem (i := 190) (by decide +kernel) (by decide +kernel)
theorem qc_yX9_hoist : Cond.code yX9_hoist cX9_hoist 4 (Option.some Jvm.ClassFile.FieldType.int) ∈ fwT := fw_mem (i := 191) (by decide +kernel) (by decide +kernel)
theorem ql_RX9_152 : Cond.methodLink RX9 152 yX8_isNumber ∈ fwT := fw_mem (i := 192) (by decide +kernel) (by decide +kernel)
theorem ql_RX9_155 : Cond.methodLink RX9 155 yX8_keepPart ∈ fwT := fw_mem (i := 193) (by decide +kernel) (by decide +kernel)
theorem qi_yX8_keepPart : Cond.instanceMethod yX8_keepPart ∈ fwT := fw_mem (i := 194) (by decide +kernel) (by decide +kernel)
theorem qv_yX8_keepPart : Cond.selects RX8 yX8_keepPart yX8_keepPart ∈ fwT := fw_mem (i := 195) (by decide +kernel) (by decide +kernel)
theorem qc_yX8_keepPart : Cond.code yX8_keepPart cX8_keepPart 6 (Option.none : Option Jvm.ClassFile.FieldType) ∈ fwT := fw_mem (i := 196) (by decide +kernel) (by decide +kernel)
theorem ql_RX8_28 : Cond.methodLink RX8 28 yX8_code ∈ fwT := fw_mem (i := 197) (by decide +kernel) (by decide +kernel)
theorem qi_yX8_code : Cond.instanceMethod yX8_code ∈ fwT := fw_mem (i := 198) (by decide +kernel) (by decide +kernel)
theorem qv_yX8_code : Cond.selects RX8 yX8_code yX8_code ∈ fwT := fw_mem (i := 199) (by decide +kernel) (by decide +kernel)
theorem qc_yX8_code : Cond.code yX8_code cX8_code 2 (Option.some Jvm.ClassFile.FieldType.int) ∈ fwT := fw_mem (i := 200) (by decide +kernel) (by decide +kernel)
theorem ql_RX8_32 : Cond.methodLink RX8 32 yX8_value ∈ fwT := fw_mem (i := 201) (by decide +kernel) (by decide +kernel)
theorem qi_yX8_value : Cond.instanceMethod yX8_value ∈ fwT := fw_mem (i := 202) (by decide +kernel) (by decide +kernel)
theorem qv_yX8_value : Cond.selects RX8 yX8_value yX8_value ∈ fwT := fw_mem (i := 203) (by decide +kernel) (by decide +kernel)
theorem qc_yX8_value : Cond.code yX8_value cX8_value 2 (Option.some Jvm.ClassFile.FieldType.int) ∈ fwT := fw_mem (i := 204) (by decide +kernel) (by decide +kernel)
theorem ql_RX8_59 : Cond.methodLink RX8 59 yX8_write ∈ fwT := fw_mem (i := 205) (by decide +kernel) (by decide +kernel)
theorem qi_yX8_write : Cond.instanceMethod yX8_write ∈ fwT := fw_mem (i := 206) (by decide +kernel) (by decide +kernel)
theorem qv_yX8_write : Cond.selects RX8 yX8_write yX8_write ∈ fwT := fw_mem (i := 207) (by decide +kernel) (by decide +kernel)
theorem qc_yX8_write : Cond.code yX8_write cX8_write 4 (Option.none : Option Jvm.ClassFile.FieldType) ∈ fwT := fw_mem (i := 208) (by decide +kernel) (by decide +kernel)
theorem ql_RX8_70 : Cond.methodLink RX8 70 yX8_closeGap ∈ fwT := fw_mem (i := 209) (by decide +kernel) (by decide +kernel)
theorem qi_yX8_closeGap : Cond.instanceMethod yX8_closeGap ∈ fwT := fw_mem (i := 211) (by decide +kernel) (by decide +kernel)
theorem qc_yX8_closeGap : Cond.code yX8_closeGap cX8_closeGap 5 (Option.none : Option Jvm.ClassFile.FieldType) ∈ fwT := fw_mem (i := 212) (by decide +kernel) (by decide +kernel)
theorem ql_RL_83 : Cond.methodLink RL 83 yX9_wither ∈ fwT := fw_mem (i := 213) (by decide +kernel) (by decide +kernel)
theorem qi_yX9_wither : Cond.instanceMethod yX9_wither ∈ fwT := fw_mem (i := 214) (by decide +kernel) (by decide +kernel)
theorem qv_yX9_wither : Cond.selects RX9 yX9_wither yX9_wither ∈ fwT := fw_mem (i := 215) (by decide +kernel) (by decide +kernel)
theorem qc_yX9_wither : Cond.code yX9_wither cX9_wither 5 (Option.some Jvm.ClassFile.FieldType.int) ∈ fwT := fw_mem (i := 216) (by decide +kernel) (by decide +kernel)
theorem ql_RX9_175 : Cond.methodLink RX9 175 yX8_makeConstant ∈ fwT := fw_mem (i := 218) (by decide +kernel) (by decide +kernel)
theorem qi_yX8_makeConstant : Cond.instanceMethod yX8_makeConstant ∈ fwT := fw_mem (i := 219) (by decide +kernel) (by decide +kernel)
theorem qv_yX8_makeConstant : Cond.selects RX8 yX8_makeConstant yX8_makeConstant ∈ fwT := fw_mem (i := 220) (by decide +kernel) (by decide +kernel)
theorem qc_yX8_makeConstant : Cond.code yX8_makeConstant cX8_makeConstant 4 (Option.none : Option Jvm.ClassFile.FieldType) ∈ fwT := fw_mem (i := 221) (by decide +kernel) (by decide +kernel)
theorem ql_RL_80 : Cond.methodLink RL 80 yX9_simplify ∈ fwT := fw_mem (i := 222) (by decide +kernel) (by decide +kernel)
theorem qi_yX9_simplify : Cond.instanceMethod yX9_simplify ∈ fwT := fw_mem (i := 223) (by decide +kernel) (by decide +kernel)
theorem qv_yX9_simplify : Cond.selects RX9 yX9_simplify yX9_simplify ∈ fwT := fw_mem (i := 224) (by decide +kernel) (by decide +kernel)
theorem qc_yX9_simplify : Cond.code yX9_simplify cX9_simplify 4 (Option.some Jvm.ClassFile.FieldType.int) ∈ fwT := fw_mem (i := 225) (by decide +kernel) (by decide +kernel)
theorem ql_RX9_178 : Cond.methodLink RX9 178 yX6_finish ∈ fwT := fw_mem (i := 226) (by decide +kernel) (by decide +kernel)
theorem qi_yX6_finish : Cond.instanceMethod yX6_finish ∈ fwT := fw_mem (i := 227) (by decide +kernel) (by decide +kernel)
theorem qv_yX6_finish : Cond.selects RX6 yX6_finish yX6_finish ∈ fwT := fw_mem (i := 228) (by decide +kernel) (by decide +kernel)
theorem qc_yX6_finish : Cond.code yX6_finish cX6_finish 4 (Option.none : Option Jvm.ClassFile.FieldType) ∈ fwT := fw_mem (i := 229) (by decide +kernel) (by decide +kernel)
theorem ql_RX6_24 : Cond.methodLink RX6 24 yX6_changeAt ∈ fwT := fw_mem (i := 230) (by decide +kernel) (by decide +kernel)
theorem qi_yX6_changeAt : Cond.instanceMethod yX6_changeAt ∈ fwT := fw_mem (i := 232) (by decide +kernel) (by decide +kernel)
theorem qt_RX6 : Cond.instantiable RX6 1 ∈ fwT := fw_mem (i := 233) (by decide +kernel) (by decide +kernel)
theorem qc_yX6_changeAt : Cond.code yX6_changeAt cX6_changeAt 4 (Option.some Jvm.ClassFile.FieldType.boolean) ∈ fwT := fw_mem (i := 234) (by decide +kernel) (by decide +kernel)
theorem ql_RX6_28 : Cond.methodLink RX6 28 yX6_isFoldable ∈ fwT := fw_mem (i := 235) (by decide +kernel) (by decide +kernel)
theorem qs_yX6_isFoldable : Cond.static yX6_isFoldable ∈ fwT := fw_mem (i := 236) (by decide +kernel) (by decide +kernel)
theorem qc_yX6_isFoldable : Cond.code yX6_isFoldable cX6_isFoldable 2 (Option.some Jvm.ClassFile.FieldType.boolean) ∈ fwT := fw_mem (i := 237) (by decide +kernel) (by decide +kernel)
theorem ql_RX6_48 : Cond.methodLink RX6 48 yX8_isNumber ∈ fwT := fw_mem (i := 238) (by decide +kernel) (by decide +kernel)
theorem ql_RX6_52 : Cond.methodLink RX6 52 yX8_span ∈ fwT := fw_mem (i := 239) (by decide +kernel) (by decide +kernel)
theorem ql_RX6_56 : Cond.methodLink RX6 56 yX8_hasInput ∈ fwT := fw_mem (i := 240) (by decide +kernel) (by decide +kernel)
theorem qi_yX8_hasInput : Cond.instanceMethod yX8_hasInput ∈ fwT := fw_mem (i := 241) (by decide +kernel) (by decide +kernel)
theorem qv_yX8_hasInput : Cond.selects RX8 yX8_hasInput yX8_hasInput ∈ fwT := fw_mem (i := 242) (by decide +kernel) (by decide +kernel)
theorem qc_yX8_hasInput : Cond.code yX8_hasInput cX8_hasInput 4 (Option.some Jvm.ClassFile.FieldType.boolean) ∈ fwT := fw_mem (i := 243) (by decide +kernel) (by decide +kernel)
theorem ql_RX6_31 : Cond.methodLink RX6 31 yX5_resultOf ∈ fwT := fw_mem (i := 244) (by decide +kernel) (by decide +kernel)
theorem qi_yX5_resultOf : Cond.instanceMethod yX5_resultOf ∈ fwT := fw_mem (i := 245) (by decide +kernel) (by decide +kernel)
theorem qv_yX5_resultOf : Cond.selects RX5 yX5_resultOf yX5_resultOf ∈ fwT := fw_mem (i := 246) (by decide +kernel) (by decide +kernel)
theorem qc_yX5_resultOf : Cond.code yX5_resultOf cX5_resultOf 10 (Option.some Jvm.ClassFile.FieldType.int) ∈ fwT := fw_mem (i := 247) (by decide +kernel) (by decide +kernel)
theorem ql_RX5_27 : Cond.methodLinkNest RX5 27 yX9_at "Barnacle" ∈ fwT := fw_mem (i := 248) (by decide +kernel) (by decide +kernel)
theorem ql_RX5_37 : Cond.methodLink RX5 37 yX5_pairResult ∈ fwT := fw_mem (i := 249) (by decide +kernel) (by decide +kernel)
theorem qs_yX5_pairResult : Cond.static yX5_pairResult ∈ fwT := fw_mem (i := 250) (by decide +kernel) (by decide +kernel)
theorem qc_yX5_pairResult : Cond.code yX5_pairResult cX5_pairResult 3 (Option.some Jvm.ClassFile.FieldType.int) ∈ fwT := fw_mem (i := 251) (by decide +kernel) (by decide +kernel)
theorem ql_RX5_41 : Cond.methodLink RX5 41 yX5_limited ∈ fwT := fw_mem (i := 252) (by decide +kernel) (by decide +kernel)
theorem qs_yX5_limited : Cond.static yX5_limited ∈ fwT := fw_mem (i := 253) (by decide +kernel) (by decide +kernel)
theorem qc_yX5_limited : Cond.code yX5_limited cX5_limited 1 (Option.some Jvm.ClassFile.FieldType.int) ∈ fwT := fw_mem (i := 254) (by decide +kernel) (by decide +kernel)
theorem ql_RX5_18 : Cond.methodLinkNest RX5 18 yX9_put "Barnacle" ∈ fwT := fw_mem (i := 255) (by decide +kernel) (by decide +kernel)
theorem ql_RX6_35 : Cond.methodLink RX6 35 yX8_makeConstant ∈ fwT := fw_mem (i := 256) (by decide +kernel) (by decide +kernel)
theorem ql_RX6_39 : Cond.methodLink RX6 39 yX6_partThatStays ∈ fwT := fw_mem (i := 257) (by decide +kernel) (by decide +kernel)
theorem qs_yX6_partThatStays : Cond.static yX6_partThatStays ∈ fwT := fw_mem (i := 258) (by decide +kernel) (by decide +kernel)
theorem qc_yX6_partThatStays : Cond.code yX6_partThatStays cX6_partThatStays 4 (Option.some Jvm.ClassFile.FieldType.int) ∈ fwT := fw_mem (i := 259) (by decide +kernel) (by decide +kernel)
theorem ql_RX6_59 : Cond.methodLink RX6 59 yX8_behind ∈ fwT := fw_mem (i := 260) (by decide +kernel) (by decide +kernel)
theorem ql_RX6_62 : Cond.methodLink RX6 62 yX8_code ∈ fwT := fw_mem (i := 261) (by decide +kernel) (by decide +kernel)
theorem ql_RX6_65 : Cond.methodLink RX6 65 yX8_isConstant ∈ fwT := fw_mem (i := 262) (by decide +kernel) (by decide +kernel)
theorem qi_yX8_isConstant : Cond.instanceMethod yX8_isConstant ∈ fwT := fw_mem (i := 263) (by decide +kernel) (by decide +kernel)
theorem qv_yX8_isConstant : Cond.selects RX8 yX8_isConstant yX8_isConstant ∈ fwT := fw_mem (i := 264) (by decide +kernel) (by decide +kernel)
theorem qc_yX8_isConstant : Cond.code yX8_isConstant cX8_isConstant 3 (Option.some Jvm.ClassFile.FieldType.boolean) ∈ fwT := fw_mem (i := 265) (by decide +kernel) (by decide +kernel)
theorem ql_RX6_69 : Cond.methodLink RX6 69 yX8_sameParts ∈ fwT := fw_mem (i := 266) (by decide +kernel) (by decide +kernel)
theorem qi_yX8_sameParts : Cond.instanceMethod yX8_sameParts ∈ fwT := fw_mem (i := 267) (by decide +kernel) (by decide +kernel)
theorem qv_yX8_sameParts : Cond.selects RX8 yX8_sameParts yX8_sameParts ∈ fwT := fw_mem (i := 268) (by decide +kernel) (by decide +kernel)
theorem qc_yX8_sameParts : Cond.code yX8_sameParts cX8_sameParts 5 (Option.some Jvm.ClassFile.FieldType.boolean) ∈ fwT := fw_mem (i := 269) (by decide +kernel) (by decide +kernel)
theorem ql_RX6_42 : Cond.methodLink RX6 42 yX8_keepPart ∈ fwT := fw_mem (i := 270) (by decide +kernel) (by decide +kernel)
theorem ql_RX6_45 : Cond.methodLink RX6 45 yX6_isNothing ∈ fwT := fw_mem (i := 271) (by decide +kernel) (by decide +kernel)
theorem qs_yX6_isNothing : Cond.static yX6_isNothing ∈ fwT := fw_mem (i := 272) (by decide +kernel) (by decide +kernel)
theorem qc_yX6_isNothing : Cond.code yX6_isNothing cX6_isNothing 5 (Option.some Jvm.ClassFile.FieldType.boolean) ∈ fwT := fw_mem (i := 273) (by decide +kernel) (by decide +kernel)
theorem ql_RL_34 : Cond.methodLink RL 34 yX9_setChoosing ∈ fwT := fw_mem (i := 274) (by decide +kernel) (by decide +kernel)
theorem qi_yX9_setChoosing : Cond.instanceMethod yX9_setChoosing ∈ fwT := fw_mem (i := 275) (by decide +kernel) (by decide +kernel)
theorem qv_yX9_setChoosing : Cond.selects RX9 yX9_setChoosing yX9_setChoosing ∈ fwT := fw_mem (i := 276) (by decide +kernel) (by decide +kernel)
theorem qc_yX9_setChoosing : Cond.code yX9_setChoosing cX9_setChoosing 4 (Option.some Jvm.ClassFile.FieldType.int) ∈ fwT := fw_mem (i := 277) (by decide +kernel) (by decide +kernel)
theorem ql_RL_29 : Cond.methodLink RL 29 yX9_setLuck ∈ fwT := fw_mem (i := 279) (by decide +kernel) (by decide +kernel)
theorem qi_yX9_setLuck : Cond.instanceMethod yX9_setLuck ∈ fwT := fw_mem (i := 280) (by decide +kernel) (by decide +kernel)
theorem qv_yX9_setLuck : Cond.selects RX9 yX9_setLuck yX9_setLuck ∈ fwT := fw_mem (i := 281) (by decide +kernel) (by decide +kernel)
theorem qc_yX9_setLuck : Cond.code yX9_setLuck cX9_setLuck 3 (Option.some Jvm.ClassFile.FieldType.int) ∈ fwT := fw_mem (i := 282) (by decide +kernel) (by decide +kernel)
theorem ql_RL_93 : Cond.methodLink RL 93 yX9_breed ∈ fwT := fw_mem (i := 284) (by decide +kernel) (by decide +kernel)
theorem qi_yX9_breed : Cond.instanceMethod yX9_breed ∈ fwT := fw_mem (i := 285) (by decide +kernel) (by decide +kernel)
theorem qv_yX9_breed : Cond.selects RX9 yX9_breed yX9_breed ∈ fwT := fw_mem (i := 286) (by decide +kernel) (by decide +kernel)
theorem qc_yX9_breed : Cond.code yX9_breed cX9_breed 2 (Option.some Jvm.ClassFile.FieldType.int) ∈ fwT := fw_mem (i := 287) (by decide +kernel) (by decide +kernel)
theorem ql_RX9_223 : Cond.methodLink RX9 223 yX9_requireBreeding ∈ fwT := fw_mem (i := 288) (by decide +kernel) (by decide +kernel)
theorem qi_yX9_requireBreeding : Cond.instanceMethod yX9_requireBreeding ∈ fwT := fw_mem (i := 290) (by decide +kernel) (by decide +kernel)
theorem qc_yX9_requireBreeding : Cond.code yX9_requireBreeding cX9_requireBreeding 2 (Option.none : Option Jvm.ClassFile.FieldType) ∈ fwT := fw_mem (i := 291) (by decide +kernel) (by decide +kernel)
theorem ql_RX9_76 : Cond.classLink RX9 76 "java/lang/IllegalStateException" ∈ fwT := fw_mem (i := 293) (by decide +kernel) (by decide +kernel)
theorem qk_ISE_ISE : Cond.castable "java/lang/IllegalStateException" "java/lang/IllegalStateException" ∈ fwT := fw_mem (i := 295) (by decide +kernel) (by decide +kernel)
theorem ql_RX9_226 : Cond.methodLink RX9 226 yX0_errorAfter ∈ fwT := fw_mem (i := 309) (by decide +kernel) (by decide +kernel)
theorem qi_yX0_errorAfter : Cond.instanceMethod yX0_errorAfter ∈ fwT := fw_mem (i := 310) (by decide +kernel) (by decide +kernel)
theorem qv_yX0_errorAfter : Cond.selects RX0 yX0_errorAfter yX0_errorAfter ∈ fwT := fw_mem (i := 311) (by decide +kernel) (by decide +kernel)
theorem qc_yX0_errorAfter : Cond.code yX0_errorAfter cX0_errorAfter 7 (Option.some Jvm.ClassFile.FieldType.int) ∈ fwT := fw_mem (i := 312) (by decide +kernel) (by decide +kernel)
theorem ql_RX0_34 : Cond.methodLink RX0 34 yX4_rank ∈ fwT := fw_mem (i := 313) (by decide +kernel) (by decide +kernel)
theorem qi_yX4_rank : Cond.instanceMethod yX4_rank ∈ fwT := fw_mem (i := 314) (by decide +kernel) (by decide +kernel)
theorem qv_yX4_rank : Cond.selects RX4 yX4_rank yX4_rank ∈ fwT := fw_mem (i := 315) (by decide +kernel) (by decide +kernel)
theorem qc_yX4_rank : Cond.code yX4_rank cX4_rank 5 (Option.none : Option Jvm.ClassFile.FieldType) ∈ fwT := fw_mem (i := 316) (by decide +kernel) (by decide +kernel)
theorem ql_RX4_27 : Cond.methodLink RX4 27 yX2_tree ∈ fwT := fw_mem (i := 317) (by decide +kernel) (by decide +kernel)
theorem ql_RX4_31 : Cond.methodLink RX4 31 yX3_meritOf ∈ fwT := fw_mem (i := 318) (by decide +kernel) (by decide +kernel)
theorem qi_yX3_meritOf : Cond.instanceMethod yX3_meritOf ∈ fwT := fw_mem (i := 319) (by decide +kernel) (by decide +kernel)
theorem qv_yX3_meritOf : Cond.selects RX3 yX3_meritOf yX3_meritOf ∈ fwT := fw_mem (i := 320) (by decide +kernel) (by decide +kernel)
theorem qc_yX3_meritOf : Cond.code yX3_meritOf cX3_meritOf 3 (Option.some Jvm.ClassFile.FieldType.int) ∈ fwT := fw_mem (i := 321) (by decide +kernel) (by decide +kernel)
theorem ql_RX3_54 : Cond.methodLink RX3 54 yX3_errorOf ∈ fwT := fw_mem (i := 322) (by decide +kernel) (by decide +kernel)
theorem qi_yX3_errorOf : Cond.instanceMethod yX3_errorOf ∈ fwT := fw_mem (i := 323) (by decide +kernel) (by decide +kernel)
theorem qv_yX3_errorOf : Cond.selects RX3 yX3_errorOf yX3_errorOf ∈ fwT := fw_mem (i := 324) (by decide +kernel) (by decide +kernel)
theorem qc_yX3_errorOf : Cond.code yX3_errorOf cX3_errorOf 6 (Option.some Jvm.ClassFile.FieldType.int) ∈ fwT := fw_mem (i := 325) (by decide +kernel) (by decide +kernel)
theorem ql_RX3_42 : Cond.methodLinkNest RX3 42 yX9_at "Barnacle" ∈ fwT := fw_mem (i := 326) (by decide +kernel) (by decide +kernel)
theorem ql_RX3_46 : Cond.methodLink RX3 46 yX5_setInputs ∈ fwT := fw_mem (i := 327) (by decide +kernel) (by decide +kernel)
theorem qi_yX5_setInputs : Cond.instanceMethod yX5_setInputs ∈ fwT := fw_mem (i := 328) (by decide +kernel) (by decide +kernel)
theorem qv_yX5_setInputs : Cond.selects RX5 yX5_setInputs yX5_setInputs ∈ fwT := fw_mem (i := 329) (by decide +kernel) (by decide +kernel)
theorem qc_yX5_setInputs : Cond.code yX5_setInputs cX5_setInputs 4 (Option.none : Option Jvm.ClassFile.FieldType) ∈ fwT := fw_mem (i := 330) (by decide +kernel) (by decide +kernel)
theorem ql_RX3_50 : Cond.methodLink RX3 50 yX5_resultOf ∈ fwT := fw_mem (i := 331) (by decide +kernel) (by decide +kernel)
theorem ql_RX4_37 : Cond.methodLinkNest RX4 37 yX9_put "Barnacle" ∈ fwT := fw_mem (i := 332) (by decide +kernel) (by decide +kernel)
theorem ql_RX4_49 : Cond.methodLink RX4 49 yX4_insert ∈ fwT := fw_mem (i := 333) (by decide +kernel) (by decide +kernel)
theorem qi_yX4_insert : Cond.instanceMethod yX4_insert ∈ fwT := fw_mem (i := 335) (by decide +kernel) (by decide +kernel)
theorem qt_RX4 : Cond.instantiable RX4 3 ∈ fwT := fw_mem (i := 336) (by decide +kernel) (by decide +kernel)
theorem qc_yX4_insert : Cond.code yX4_insert cX4_insert 3 (Option.none : Option Jvm.ClassFile.FieldType) ∈ fwT := fw_mem (i := 337) (by decide +kernel) (by decide +kernel)
theorem ql_RX4_53 : Cond.methodLinkNest RX4 53 yX9_at "Barnacle" ∈ fwT := fw_mem (i := 338) (by decide +kernel) (by decide +kernel)
theorem ql_RX4_57 : Cond.methodLink RX4 57 yX4_isBetter ∈ fwT := fw_mem (i := 339) (by decide +kernel) (by decide +kernel)
theorem qi_yX4_isBetter : Cond.instanceMethod yX4_isBetter ∈ fwT := fw_mem (i := 340) (by decide +kernel) (by decide +kernel)
theorem qv_yX4_isBetter : Cond.selects RX4 yX4_isBetter yX4_isBetter ∈ fwT := fw_mem (i := 341) (by decide +kernel) (by decide +kernel)
theorem qc_yX4_isBetter : Cond.code yX4_isBetter cX4_isBetter 3 (Option.some Jvm.ClassFile.FieldType.boolean) ∈ fwT := fw_mem (i := 342) (by decide +kernel) (by decide +kernel)
theorem ql_RX0_43 : Cond.methodLink RX0 43 Lib.Math.min.name ∈ fwT := fw_mem (i := 343) (by decide +kernel) (by decide +kernel)
theorem qs_J9_min : Cond.static Lib.Math.min.name ∈ fwT := fw_mem (i := 344) (by decide +kernel) (by decide +kernel)
theorem qc_J9_min : Cond.code Lib.Math.min.name Lib.Math.min.code 2 (some .int) ∈ fwT := fw_mem (i := 345) (by decide +kernel) (by decide +kernel)
theorem ql_RX0_49 : Cond.methodLink RX0 49 yX2_youngTree ∈ fwT := fw_mem (i := 346) (by decide +kernel) (by decide +kernel)
theorem qi_yX2_youngTree : Cond.instanceMethod yX2_youngTree ∈ fwT := fw_mem (i := 347) (by decide +kernel) (by decide +kernel)
theorem qv_yX2_youngTree : Cond.selects RX2 yX2_youngTree yX2_youngTree ∈ fwT := fw_mem (i := 348) (by decide +kernel) (by decide +kernel)
theorem qc_yX2_youngTree : Cond.code yX2_youngTree cX2_youngTree 2 (Option.some (Jvm.ClassFile.FieldType.object "Barnacle$Tree")) ∈ fwT := fw_mem (i := 349) (by decide +kernel) (by decide +kernel)
theorem ql_RX0_53 : Cond.methodLink RX0 53 yX4_withRank ∈ fwT := fw_mem (i := 350) (by decide +kernel) (by decide +kernel)
theorem qi_yX4_withRank : Cond.instanceMethod yX4_withRank ∈ fwT := fw_mem (i := 351) (by decide +kernel) (by decide +kernel)
theorem qv_yX4_withRank : Cond.selects RX4 yX4_withRank yX4_withRank ∈ fwT := fw_mem (i := 352) (by decide +kernel) (by decide +kernel)
theorem qc_yX4_withRank : Cond.code yX4_withRank cX4_withRank 2 (Option.some Jvm.ClassFile.FieldType.int) ∈ fwT := fw_mem (i := 353) (by decide +kernel) (by decide +kernel)
theorem ql_RX0_57 : Cond.methodLink RX0 57 yX2_tree ∈ fwT := fw_mem (i := 354) (by decide +kernel) (by decide +kernel)
theorem ql_RX0_60 : Cond.methodLink RX0 60 yX8_copyFrom ∈ fwT := fw_mem (i := 355) (by decide +kernel) (by decide +kernel)
theorem ql_RX0_66 : Cond.methodLink RX0 66 yX0_makeYoung ∈ fwT := fw_mem (i := 356) (by decide +kernel) (by decide +kernel)
theorem qi_yX0_makeYoung : Cond.instanceMethod yX0_makeYoung ∈ fwT := fw_mem (i := 358) (by decide +kernel) (by decide +kernel)
theorem qt_RX0 : Cond.instantiable RX0 6 ∈ fwT := fw_mem (i := 359) (by decide +kernel) (by decide +kernel)
theorem qc_yX0_makeYoung : Cond.code yX0_makeYoung cX0_makeYoung 5 (Option.none : Option Jvm.ClassFile.FieldType) ∈ fwT := fw_mem (i := 360) (by decide +kernel) (by decide +kernel)
theorem ql_RX0_83 : Cond.methodLink RX0 83 yX1_below ∈ fwT := fw_mem (i := 361) (by decide +kernel) (by decide +kernel)
theorem qi_yX1_below : Cond.instanceMethod yX1_below ∈ fwT := fw_mem (i := 362) (by decide +kernel) (by decide +kernel)
theorem qv_yX1_below : Cond.selects RX1 yX1_below yX1_below ∈ fwT := fw_mem (i := 363) (by decide +kernel) (by decide +kernel)
theorem qc_yX1_below : Cond.code yX1_below cX1_below 2 (Option.some Jvm.ClassFile.FieldType.int) ∈ fwT := fw_mem (i := 364) (by decide +kernel) (by decide +kernel)
theorem ql_RX1_23 : Cond.methodLink RX1 23 yX1_takeFirst ∈ fwT := fw_mem (i := 365) (by decide +kernel) (by decide +kernel)
theorem qi_yX1_takeFirst : Cond.instanceMethod yX1_takeFirst ∈ fwT := fw_mem (i := 367) (by decide +kernel) (by decide +kernel)
theorem qt_RX1 : Cond.instantiable RX1 3 ∈ fwT := fw_mem (i := 368) (by decide +kernel) (by decide +kernel)
theorem qc_yX1_takeFirst : Cond.code yX1_takeFirst cX1_takeFirst 3 (Option.some Jvm.ClassFile.FieldType.int) ∈ fwT := fw_mem (i := 369) (by decide +kernel) (by decide +kernel)
theorem ql_RX1_30 : Cond.methodLinkNest RX1 30 yX9_at "Barnacle" ∈ fwT := fw_mem (i := 370) (by decide +kernel) (by decide +kernel)
theorem ql_RX1_19 : Cond.methodLinkNest RX1 19 yX9_put "Barnacle" ∈ fwT := fw_mem (i := 371) (by decide +kernel) (by decide +kernel)
theorem ql_RX0_88 : Cond.methodLink RX0 88 yX0_choose ∈ fwT := fw_mem (i := 372) (by decide +kernel) (by decide +kernel)
theorem qi_yX0_choose : Cond.instanceMethod yX0_choose ∈ fwT := fw_mem (i := 374) (by decide +kernel) (by decide +kernel)
theorem qc_yX0_choose : Cond.code yX0_choose cX0_choose 5 (Option.some (Jvm.ClassFile.FieldType.object "Barnacle$Tree")) ∈ fwT := fw_mem (i := 375) (by decide +kernel) (by decide +kernel)
theorem ql_RX0_103 : Cond.methodLink RX0 103 yX4_isBetter ∈ fwT := fw_mem (i := 376) (by decide +kernel) (by decide +kernel)
theorem ql_RX0_92 : Cond.methodLink RX0 92 yX0_crossYoung ∈ fwT := fw_mem (i := 377) (by decide +kernel) (by decide +kernel)
theorem qs_yX0_crossYoung : Cond.static yX0_crossYoung ∈ fwT := fw_mem (i := 378) (by decide +kernel) (by decide +kernel)
theorem qc_yX0_crossYoung : Cond.code yX0_crossYoung cX0_crossYoung 8 (Option.none : Option Jvm.ClassFile.FieldType) ∈ fwT := fw_mem (i := 379) (by decide +kernel) (by decide +kernel)
theorem ql_RX0_110 : Cond.methodLink RX0 110 yX8_isNumber ∈ fwT := fw_mem (i := 380) (by decide +kernel) (by decide +kernel)
theorem ql_RX0_114 : Cond.methodLink RX0 114 yX8_countOfType ∈ fwT := fw_mem (i := 381) (by decide +kernel) (by decide +kernel)
theorem qi_yX8_countOfType : Cond.instanceMethod yX8_countOfType ∈ fwT := fw_mem (i := 382) (by decide +kernel) (by decide +kernel)
theorem qv_yX8_countOfType : Cond.selects RX8 yX8_countOfType yX8_countOfType ∈ fwT := fw_mem (i := 383) (by decide +kernel) (by decide +kernel)
theorem qc_yX8_countOfType : Cond.code yX8_countOfType cX8_countOfType 4 (Option.some Jvm.ClassFile.FieldType.int) ∈ fwT := fw_mem (i := 384) (by decide +kernel) (by decide +kernel)
theorem ql_RX0_121 : Cond.methodLink RX0 121 yX8_placeOfType ∈ fwT := fw_mem (i := 385) (by decide +kernel) (by decide +kernel)
theorem qi_yX8_placeOfType : Cond.instanceMethod yX8_placeOfType ∈ fwT := fw_mem (i := 386) (by decide +kernel) (by decide +kernel)
theorem qv_yX8_placeOfType : Cond.selects RX8 yX8_placeOfType yX8_placeOfType ∈ fwT := fw_mem (i := 387) (by decide +kernel) (by decide +kernel)
theorem qc_yX8_placeOfType : Cond.code yX8_placeOfType cX8_placeOfType 5 (Option.some Jvm.ClassFile.FieldType.int) ∈ fwT := fw_mem (i := 388) (by decide +kernel) (by decide +kernel)
theorem ql_RX0_125 : Cond.methodLink RX0 125 yX8_becomeCrossed ∈ fwT := fw_mem (i := 389) (by decide +kernel) (by decide +kernel)
theorem ql_RX0_96 : Cond.methodLink RX0 96 yX0_changeYoung ∈ fwT := fw_mem (i := 390) (by decide +kernel) (by decide +kernel)
theorem qs_yX0_changeYoung : Cond.static yX0_changeYoung ∈ fwT := fw_mem (i := 391) (by decide +kernel) (by decide +kernel)
theorem qc_yX0_changeYoung : Cond.code yX0_changeYoung cX0_changeYoung 4 (Option.none : Option Jvm.ClassFile.FieldType) ∈ fwT := fw_mem (i := 392) (by decide +kernel) (by decide +kernel)
theorem ql_RX0_129 : Cond.methodLink RX0 129 yX8_code ∈ fwT := fw_mem (i := 393) (by decide +kernel) (by decide +kernel)
theorem ql_RX0_132 : Cond.methodLink RX0 132 yX8_write ∈ fwT := fw_mem (i := 394) (by decide +kernel) (by decide +kernel)
theorem ql_RX0_136 : Cond.fieldLinkNest RX0 136 "Barnacle" "KIN_STARTS" "[I" "Barnacle" ∈ fwT := fw_mem (i := 395) (by decide +kernel) (by decide +kernel)
theorem ql_RX0_140 : Cond.methodLinkNest RX0 140 yX9_at "Barnacle" ∈ fwT := fw_mem (i := 397) (by decide +kernel) (by decide +kernel)
theorem ql_RX0_144 : Cond.fieldLinkNest RX0 144 "Barnacle" "KIN_COUNTS" "[I" "Barnacle" ∈ fwT := fw_mem (i := 398) (by decide +kernel) (by decide +kernel)
theorem ql_RX0_100 : Cond.methodLink RX0 100 yX0_hoistYoung ∈ fwT := fw_mem (i := 400) (by decide +kernel) (by decide +kernel)
theorem qs_yX0_hoistYoung : Cond.static yX0_hoistYoung ∈ fwT := fw_mem (i := 401) (by decide +kernel) (by decide +kernel)
theorem qc_yX0_hoistYoung : Cond.code yX0_hoistYoung cX0_hoistYoung 3 (Option.none : Option Jvm.ClassFile.FieldType) ∈ fwT := fw_mem (i := 402) (by decide +kernel) (by decide +kernel)
theorem ql_RX0_147 : Cond.methodLink RX0 147 yX8_keepPart ∈ fwT := fw_mem (i := 403) (by decide +kernel) (by decide +kernel)
theorem ql_RX0_70 : Cond.methodLink RX0 70 yX2_replaceByYoung ∈ fwT := fw_mem (i := 404) (by decide +kernel) (by decide +kernel)
theorem qi_yX2_replaceByYoung : Cond.instanceMethod yX2_replaceByYoung ∈ fwT := fw_mem (i := 405) (by decide +kernel) (by decide +kernel)
theorem qv_yX2_replaceByYoung : Cond.selects RX2 yX2_replaceByYoung yX2_replaceByYoung ∈ fwT := fw_mem (i := 406) (by decide +kernel) (by decide +kernel)
theorem qc_yX2_replaceByYoung : Cond.code yX2_replaceByYoung cX2_replaceByYoung 2 (Option.none : Option Jvm.ClassFile.FieldType) ∈ fwT := fw_mem (i := 407) (by decide +kernel) (by decide +kernel)
theorem ql_RX0_73 : Cond.methodLink RX0 73 yX3_errorOf ∈ fwT := fw_mem (i := 408) (by decide +kernel) (by decide +kernel)
theorem ql_RL_41 : Cond.methodLink RL 41 yX9_trees ∈ fwT := fw_mem (i := 409) (by decide +kernel) (by decide +kernel)
theorem qi_yX9_trees : Cond.instanceMethod yX9_trees ∈ fwT := fw_mem (i := 410) (by decide +kernel) (by decide +kernel)
theorem qv_yX9_trees : Cond.selects RX9 yX9_trees yX9_trees ∈ fwT := fw_mem (i := 411) (by decide +kernel) (by decide +kernel)
theorem qc_yX9_trees : Cond.code yX9_trees cX9_trees 1 (Option.some Jvm.ClassFile.FieldType.int) ∈ fwT := fw_mem (i := 412) (by decide +kernel) (by decide +kernel)
theorem ql_RL_45 : Cond.methodLink RL 45 yX9_size ∈ fwT := fw_mem (i := 413) (by decide +kernel) (by decide +kernel)
theorem qi_yX9_size : Cond.instanceMethod yX9_size ∈ fwT := fw_mem (i := 414) (by decide +kernel) (by decide +kernel)
theorem qv_yX9_size : Cond.selects RX9 yX9_size yX9_size ∈ fwT := fw_mem (i := 415) (by decide +kernel) (by decide +kernel)
theorem qc_yX9_size : Cond.code yX9_size cX9_size 2 (Option.some Jvm.ClassFile.FieldType.int) ∈ fwT := fw_mem (i := 416) (by decide +kernel) (by decide +kernel)
theorem ql_RL_96 : Cond.methodLink RL 96 yX9_depth ∈ fwT := fw_mem (i := 417) (by decide +kernel) (by decide +kernel)
theorem qi_yX9_depth : Cond.instanceMethod yX9_depth ∈ fwT := fw_mem (i := 418) (by decide +kernel) (by decide +kernel)
theorem qv_yX9_depth : Cond.selects RX9 yX9_depth yX9_depth ∈ fwT := fw_mem (i := 419) (by decide +kernel) (by decide +kernel)
theorem qc_yX9_depth : Cond.code yX9_depth cX9_depth 2 (Option.some Jvm.ClassFile.FieldType.int) ∈ fwT := fw_mem (i := 420) (by decide +kernel) (by decide +kernel)
theorem ql_RL_87 : Cond.methodLink RL 87 yX9_codeAt ∈ fwT := fw_mem (i := 421) (by decide +kernel) (by decide +kernel)
theorem qi_yX9_codeAt : Cond.instanceMethod yX9_codeAt ∈ fwT := fw_mem (i := 422) (by decide +kernel) (by decide +kernel)
theorem qv_yX9_codeAt : Cond.selects RX9 yX9_codeAt yX9_codeAt ∈ fwT := fw_mem (i := 423) (by decide +kernel) (by decide +kernel)
theorem qc_yX9_codeAt : Cond.code yX9_codeAt cX9_codeAt 3 (Option.some Jvm.ClassFile.FieldType.int) ∈ fwT := fw_mem (i := 424) (by decide +kernel) (by decide +kernel)
theorem ql_RX9_158 : Cond.methodLink RX9 158 yX8_code ∈ fwT := fw_mem (i := 425) (by decide +kernel) (by decide +kernel)
theorem ql_RL_90 : Cond.methodLink RL 90 yX9_valueAt ∈ fwT := fw_mem (i := 426) (by decide +kernel) (by decide +kernel)
theorem qi_yX9_valueAt : Cond.instanceMethod yX9_valueAt ∈ fwT := fw_mem (i := 427) (by decide +kernel) (by decide +kernel)
theorem qv_yX9_valueAt : Cond.selects RX9 yX9_valueAt yX9_valueAt ∈ fwT := fw_mem (i := 428) (by decide +kernel) (by decide +kernel)
theorem qc_yX9_valueAt : Cond.code yX9_valueAt cX9_valueAt 3 (Option.some Jvm.ClassFile.FieldType.int) ∈ fwT := fw_mem (i := 429) (by decide +kernel) (by decide +kernel)
theorem ql_RX9_233 : Cond.methodLink RX9 233 yX8_value ∈ fwT := fw_mem (i := 430) (by decide +kernel) (by decide +kernel)
theorem ql_RL_99 : Cond.methodLink RL 99 yX9_sizeAt ∈ fwT := fw_mem (i := 431) (by decide +kernel) (by decide +kernel)
theorem qi_yX9_sizeAt : Cond.instanceMethod yX9_sizeAt ∈ fwT := fw_mem (i := 432) (by decide +kernel) (by decide +kernel)
theorem qv_yX9_sizeAt : Cond.selects RX9 yX9_sizeAt yX9_sizeAt ∈ fwT := fw_mem (i := 433) (by decide +kernel) (by decide +kernel)
theorem qc_yX9_sizeAt : Cond.code yX9_sizeAt cX9_sizeAt 3 (Option.some Jvm.ClassFile.FieldType.int) ∈ fwT := fw_mem (i := 434) (by decide +kernel) (by decide +kernel)
theorem ql_RX9_236 : Cond.methodLink RX9 236 yX8_span ∈ fwT := fw_mem (i := 435) (by decide +kernel) (by decide +kernel)
theorem ql_RL_105 : Cond.methodLink RL 105 yX9_above ∈ fwT := fw_mem (i := 436) (by decide +kernel) (by decide +kernel)
theorem qi_yX9_above : Cond.instanceMethod yX9_above ∈ fwT := fw_mem (i := 437) (by decide +kernel) (by decide +kernel)
theorem qv_yX9_above : Cond.selects RX9 yX9_above yX9_above ∈ fwT := fw_mem (i := 438) (by decide +kernel) (by decide +kernel)
theorem qc_yX9_above : Cond.code yX9_above cX9_above 3 (Option.some Jvm.ClassFile.FieldType.int) ∈ fwT := fw_mem (i := 439) (by decide +kernel) (by decide +kernel)
theorem ql_RX9_239 : Cond.methodLink RX9 239 yX8_placeAbove ∈ fwT := fw_mem (i := 440) (by decide +kernel) (by decide +kernel)
theorem qi_yX8_placeAbove : Cond.instanceMethod yX8_placeAbove ∈ fwT := fw_mem (i := 441) (by decide +kernel) (by decide +kernel)
theorem qv_yX8_placeAbove : Cond.selects RX8 yX8_placeAbove yX8_placeAbove ∈ fwT := fw_mem (i := 442) (by decide +kernel) (by decide +kernel)
theorem qc_yX8_placeAbove : Cond.code yX8_placeAbove cX8_placeAbove 3 (Option.some Jvm.ClassFile.FieldType.int) ∈ fwT := fw_mem (i := 443) (by decide +kernel) (by decide +kernel)
theorem ql_RL_77 : Cond.methodLink RL 77 yX9_gives ∈ fwT := fw_mem (i := 444) (by decide +kernel) (by decide +kernel)
theorem qi_yX9_gives : Cond.instanceMethod yX9_gives ∈ fwT := fw_mem (i := 445) (by decide +kernel) (by decide +kernel)
theorem qv_yX9_gives : Cond.selects RX9 yX9_gives yX9_gives ∈ fwT := fw_mem (i := 446) (by decide +kernel) (by decide +kernel)
theorem qc_yX9_gives : Cond.code yX9_gives cX9_gives 6 (Option.some Jvm.ClassFile.FieldType.int) ∈ fwT := fw_mem (i := 447) (by decide +kernel) (by decide +kernel)
theorem ql_RX9_116 : Cond.methodLink RX9 116 yX9_requireInputs ∈ fwT := fw_mem (i := 448) (by decide +kernel) (by decide +kernel)
theorem qs_yX9_requireInputs : Cond.static yX9_requireInputs ∈ fwT := fw_mem (i := 449) (by decide +kernel) (by decide +kernel)
theorem qc_yX9_requireInputs : Cond.code yX9_requireInputs cX9_requireInputs 3 (Option.none : Option Jvm.ClassFile.FieldType) ∈ fwT := fw_mem (i := 450) (by decide +kernel) (by decide +kernel)
theorem ql_RX9_315 : Cond.methodLink RX9 315 yX9_isInput ∈ fwT := fw_mem (i := 451) (by decide +kernel) (by decide +kernel)
theorem qs_yX9_isInput : Cond.static yX9_isInput ∈ fwT := fw_mem (i := 452) (by decide +kernel) (by decide +kernel)
theorem qc_yX9_isInput : Cond.code yX9_isInput cX9_isInput 1 (Option.some Jvm.ClassFile.FieldType.boolean) ∈ fwT := fw_mem (i := 453) (by decide +kernel) (by decide +kernel)
theorem ql_RX9_242 : Cond.methodLink RX9 242 yX5_setInputs ∈ fwT := fw_mem (i := 455) (by decide +kernel) (by decide +kernel)
theorem ql_RX9_245 : Cond.methodLink RX9 245 yX5_resultOf ∈ fwT := fw_mem (i := 456) (by decide +kernel) (by decide +kernel)
theorem ql_RL_59 : Cond.methodLink RL 59 yX9_error ∈ fwT := fw_mem (i := 457) (by decide +kernel) (by decide +kernel)
theorem qi_yX9_error : Cond.instanceMethod yX9_error ∈ fwT := fw_mem (i := 458) (by decide +kernel) (by decide +kernel)
theorem qv_yX9_error : Cond.selects RX9 yX9_error yX9_error ∈ fwT := fw_mem (i := 459) (by decide +kernel) (by decide +kernel)
theorem qc_yX9_error : Cond.code yX9_error cX9_error 2 (Option.some Jvm.ClassFile.FieldType.int) ∈ fwT := fw_mem (i := 460) (by decide +kernel) (by decide +kernel)
theorem ql_RX9_249 : Cond.methodLink RX9 249 yX3_errorOf ∈ fwT := fw_mem (i := 461) (by decide +kernel) (by decide +kernel)
theorem ql_RL_68 : Cond.methodLink RL 68 yX9_merit ∈ fwT := fw_mem (i := 462) (by decide +kernel) (by decide +kernel)
theorem qi_yX9_merit : Cond.instanceMethod yX9_merit ∈ fwT := fw_mem (i := 463) (by decide +kernel) (by decide +kernel)
theorem qv_yX9_merit : Cond.selects RX9 yX9_merit yX9_merit ∈ fwT := fw_mem (i := 464) (by decide +kernel) (by decide +kernel)
theorem qc_yX9_merit : Cond.code yX9_merit cX9_merit 2 (Option.some Jvm.ClassFile.FieldType.int) ∈ fwT := fw_mem (i := 465) (by decide +kernel) (by decide +kernel)
theorem ql_RX9_252 : Cond.methodLink RX9 252 yX3_meritOf ∈ fwT := fw_mem (i := 466) (by decide +kernel) (by decide +kernel)
theorem ql_RL_65 : Cond.methodLink RL 65 yX9_ranked ∈ fwT := fw_mem (i := 467) (by decide +kernel) (by decide +kernel)
theorem qi_yX9_ranked : Cond.instanceMethod yX9_ranked ∈ fwT := fw_mem (i := 468) (by decide +kernel) (by decide +kernel)
theorem qv_yX9_ranked : Cond.selects RX9 yX9_ranked yX9_ranked ∈ fwT := fw_mem (i := 469) (by decide +kernel) (by decide +kernel)
theorem qc_yX9_ranked : Cond.code yX9_ranked cX9_ranked 2 (Option.some Jvm.ClassFile.FieldType.int) ∈ fwT := fw_mem (i := 470) (by decide +kernel) (by decide +kernel)
theorem ql_RX9_264 : Cond.methodLink RX9 264 yX4_rank ∈ fwT := fw_mem (i := 472) (by decide +kernel) (by decide +kernel)
theorem ql_RX9_268 : Cond.methodLink RX9 268 yX4_withRank ∈ fwT := fw_mem (i := 473) (by decide +kernel) (by decide +kernel)
theorem ql_RL_102 : Cond.methodLink RL 102 yX9_alike ∈ fwT := fw_mem (i := 474) (by decide +kernel) (by decide +kernel)
theorem qi_yX9_alike : Cond.instanceMethod yX9_alike ∈ fwT := fw_mem (i := 475) (by decide +kernel) (by decide +kernel)
theorem qv_yX9_alike : Cond.selects RX9 yX9_alike yX9_alike ∈ fwT := fw_mem (i := 476) (by decide +kernel) (by decide +kernel)
theorem qc_yX9_alike : Cond.code yX9_alike cX9_alike 3 (Option.some Jvm.ClassFile.FieldType.int) ∈ fwT := fw_mem (i := 477) (by decide +kernel) (by decide +kernel)
theorem ql_RX9_274 : Cond.methodLink RX9 274 yX8_sameNodes ∈ fwT := fw_mem (i := 478) (by decide +kernel) (by decide +kernel)
theorem qi_yX8_sameNodes : Cond.instanceMethod yX8_sameNodes ∈ fwT := fw_mem (i := 479) (by decide +kernel) (by decide +kernel)
theorem qv_yX8_sameNodes : Cond.selects RX8 yX8_sameNodes yX8_sameNodes ∈ fwT := fw_mem (i := 480) (by decide +kernel) (by decide +kernel)
theorem qc_yX8_sameNodes : Cond.code yX8_sameNodes cX8_sameNodes 4 (Option.some Jvm.ClassFile.FieldType.int) ∈ fwT := fw_mem (i := 481) (by decide +kernel) (by decide +kernel)
theorem ql_RX8_45 : Cond.methodLink RX8 45 Lib.Math.min.name ∈ fwT := fw_mem (i := 482) (by decide +kernel) (by decide +kernel)
theorem ql_RL_52 : Cond.methodLink RL 52 yX9_errorCrossed ∈ fwT := fw_mem (i := 483) (by decide +kernel) (by decide +kernel)
theorem qi_yX9_errorCrossed : Cond.instanceMethod yX9_errorCrossed ∈ fwT := fw_mem (i := 484) (by decide +kernel) (by decide +kernel)
theorem qv_yX9_errorCrossed : Cond.selects RX9 yX9_errorCrossed yX9_errorCrossed ∈ fwT := fw_mem (i := 485) (by decide +kernel) (by decide +kernel)
theorem qc_yX9_errorCrossed : Cond.code yX9_errorCrossed cX9_errorCrossed 7 (Option.some Jvm.ClassFile.FieldType.int) ∈ fwT := fw_mem (i := 486) (by decide +kernel) (by decide +kernel)
theorem ql_RL_56 : Cond.methodLink RL 56 yX9_bestHoist ∈ fwT := fw_mem (i := 487) (by decide +kernel) (by decide +kernel)
theorem qi_yX9_bestHoist : Cond.instanceMethod yX9_bestHoist ∈ fwT := fw_mem (i := 488) (by decide +kernel) (by decide +kernel)
theorem qv_yX9_bestHoist : Cond.selects RX9 yX9_bestHoist yX9_bestHoist ∈ fwT := fw_mem (i := 489) (by decide +kernel) (by decide +kernel)
theorem qc_yX9_bestHoist : Cond.code yX9_bestHoist cX9_bestHoist 7 (Option.some Jvm.ClassFile.FieldType.int) ∈ fwT := fw_mem (i := 490) (by decide +kernel) (by decide +kernel)
theorem ql_RL_62 : Cond.methodLink RL 62 yX9_errorBred ∈ fwT := fw_mem (i := 491) (by decide +kernel) (by decide +kernel)
theorem qi_yX9_errorBred : Cond.instanceMethod yX9_errorBred ∈ fwT := fw_mem (i := 492) (by decide +kernel) (by decide +kernel)
theorem qv_yX9_errorBred : Cond.selects RX9 yX9_errorBred yX9_errorBred ∈ fwT := fw_mem (i := 493) (by decide +kernel) (by decide +kernel)
theorem qc_yX9_errorBred : Cond.code yX9_errorBred cX9_errorBred 2 (Option.some Jvm.ClassFile.FieldType.int) ∈ fwT := fw_mem (i := 494) (by decide +kernel) (by decide +kernel)
theorem ql_RX9_286 : Cond.methodLink RX9 286 yX2_copyFrom ∈ fwT := fw_mem (i := 495) (by decide +kernel) (by decide +kernel)
theorem qi_yX2_copyFrom : Cond.instanceMethod yX2_copyFrom ∈ fwT := fw_mem (i := 496) (by decide +kernel) (by decide +kernel)
theorem qv_yX2_copyFrom : Cond.selects RX2 yX2_copyFrom yX2_copyFrom ∈ fwT := fw_mem (i := 497) (by decide +kernel) (by decide +kernel)
theorem qc_yX2_copyFrom : Cond.code yX2_copyFrom cX2_copyFrom 3 (Option.none : Option Jvm.ClassFile.FieldType) ∈ fwT := fw_mem (i := 498) (by decide +kernel) (by decide +kernel)
theorem ql_RX2_58 : Cond.methodLink RX2 58 yX1_copyFrom ∈ fwT := fw_mem (i := 499) (by decide +kernel) (by decide +kernel)
theorem qi_yX1_copyFrom : Cond.instanceMethod yX1_copyFrom ∈ fwT := fw_mem (i := 500) (by decide +kernel) (by decide +kernel)
theorem qv_yX1_copyFrom : Cond.selects RX1 yX1_copyFrom yX1_copyFrom ∈ fwT := fw_mem (i := 501) (by decide +kernel) (by decide +kernel)
theorem qc_yX1_copyFrom : Cond.code yX1_copyFrom cX1_copyFrom 3 (Option.none : Option Jvm.ClassFile.FieldType) ∈ fwT := fw_mem (i := 502) (by decide +kernel) (by decide +kernel)
theorem ql_RX2_40 : Cond.methodLink RX2 40 yX2_tree ∈ fwT := fw_mem (i := 503) (by decide +kernel) (by decide +kernel)
theorem ql_RX2_44 : Cond.methodLink RX2 44 yX8_copyFrom ∈ fwT := fw_mem (i := 504) (by decide +kernel) (by decide +kernel)
theorem ql_RL_48 : Cond.methodLink RL 48 yX9_digest ∈ fwT := fw_mem (i := 505) (by decide +kernel) (by decide +kernel)
theorem qi_yX9_digest : Cond.instanceMethod yX9_digest ∈ fwT := fw_mem (i := 506) (by decide +kernel) (by decide +kernel)
theorem qv_yX9_digest : Cond.selects RX9 yX9_digest yX9_digest ∈ fwT := fw_mem (i := 507) (by decide +kernel) (by decide +kernel)
theorem qc_yX9_digest : Cond.code yX9_digest cX9_digest 4 (Option.some Jvm.ClassFile.FieldType.long) ∈ fwT := fw_mem (i := 508) (by decide +kernel) (by decide +kernel)
theorem ql_RX9_289 : Cond.constantLong RX9 289 (58042) ∈ fwT := fw_mem (i := 509) (by decide +kernel) (by decide +kernel)
theorem ql_RX9_291 : Cond.constantLong RX9 291 (31) ∈ fwT := fw_mem (i := 510) (by decide +kernel) (by decide +kernel)
theorem ql_RX9_293 : Cond.methodLink RX9 293 yX9_different ∈ fwT := fw_mem (i := 511) (by decide +kernel) (by decide +kernel)
theorem qi_yX9_different : Cond.instanceMethod yX9_different ∈ fwT := fw_mem (i := 512) (by decide +kernel) (by decide +kernel)
theorem qv_yX9_different : Cond.selects RX9 yX9_different yX9_different ∈ fwT := fw_mem (i := 513) (by decide +kernel) (by decide +kernel)
theorem qc_yX9_different : Cond.code yX9_different cX9_different 3 (Option.some Jvm.ClassFile.FieldType.int) ∈ fwT := fw_mem (i := 514) (by decide +kernel) (by decide +kernel)
theorem ql_RX9_271 : Cond.methodLink RX9 271 yX2_hasEarlierTwin ∈ fwT := fw_mem (i := 515) (by decide +kernel) (by decide +kernel)
theorem qi_yX2_hasEarlierTwin : Cond.instanceMethod yX2_hasEarlierTwin ∈ fwT := fw_mem (i := 516) (by decide +kernel) (by decide +kernel)
theorem qv_yX2_hasEarlierTwin : Cond.selects RX2 yX2_hasEarlierTwin yX2_hasEarlierTwin ∈ fwT := fw_mem (i := 517) (by decide +kernel) (by decide +kernel)
theorem qc_yX2_hasEarlierTwin : Cond.code yX2_hasEarlierTwin cX2_hasEarlierTwin 5 (Option.some Jvm.ClassFile.FieldType.boolean) ∈ fwT := fw_mem (i := 518) (by decide +kernel) (by decide +kernel)
theorem ql_RX2_51 : Cond.methodLink RX2 51 yX8_sameNodes ∈ fwT := fw_mem (i := 519) (by decide +kernel) (by decide +kernel)
theorem ql_RX9_297 : Cond.methodLink RX9 297 yX9_digestWith ∈ fwT := fw_mem (i := 520) (by decide +kernel) (by decide +kernel)
theorem qi_yX9_digestWith : Cond.instanceMethod yX9_digestWith ∈ fwT := fw_mem (i := 522) (by decide +kernel) (by decide +kernel)
theorem qc_yX9_digestWith : Cond.code yX9_digestWith cX9_digestWith 7 (Option.some Jvm.ClassFile.FieldType.long) ∈ fwT := fw_mem (i := 523) (by decide +kernel) (by decide +kernel)
theorem ql_RX9_256 : Cond.methodLink RX9 256 yX3_hitsOf ∈ fwT := fw_mem (i := 524) (by decide +kernel) (by decide +kernel)
theorem qi_yX3_hitsOf : Cond.instanceMethod yX3_hitsOf ∈ fwT := fw_mem (i := 525) (by decide +kernel) (by decide +kernel)
theorem qv_yX3_hitsOf : Cond.selects RX3 yX3_hitsOf yX3_hitsOf ∈ fwT := fw_mem (i := 526) (by decide +kernel) (by decide +kernel)
theorem qc_yX3_hitsOf : Cond.code yX3_hitsOf cX3_hitsOf 4 (Option.some Jvm.ClassFile.FieldType.int) ∈ fwT := fw_mem (i := 527) (by decide +kernel) (by decide +kernel)
theorem ql_RL_9 : Cond.classLink RL 9 RX10 ∈ fwT := fw_mem (i := 528) (by decide +kernel) (by decide +kernel)
theorem qt_RX10 : Cond.instantiable RX10 7 ∈ fwT := fw_mem (i := 529) (by decide +kernel) (by decide +kernel)
theorem ql_RL_11 : Cond.methodLink RL 11 yX10_init ∈ fwT := fw_mem (i := 530) (by decide +kernel) (by decide +kernel)
theorem qi_yX10_init : Cond.instanceMethod yX10_init ∈ fwT := fw_mem (i := 531) (by decide +kernel) (by decide +kernel)
theorem qc_yX10_init : Cond.code yX10_init cX10_init 3 (Option.none : Option Jvm.ClassFile.FieldType) ∈ fwT := fw_mem (i := 532) (by decide +kernel) (by decide +kernel)
theorem ql_RX10_1 : Cond.methodLink RX10 1 objectInit ∈ fwT := fw_mem (i := 533) (by decide +kernel) (by decide +kernel)
theorem ql_RX10_7 : Cond.classLink RX10 7 RX9 ∈ fwT := fw_mem (i := 534) (by decide +kernel) (by decide +kernel)
theorem ql_RX10_9 : Cond.methodLink RX10 9 yX9_init ∈ fwT := fw_mem (i := 535) (by decide +kernel) (by decide +kernel)
theorem qi_yX9_init : Cond.instanceMethod yX9_init ∈ fwT := fw_mem (i := 536) (by decide +kernel) (by decide +kernel)
theorem qc_yX9_init : Cond.code yX9_init cX9_init 1 (Option.none : Option Jvm.ClassFile.FieldType) ∈ fwT := fw_mem (i := 537) (by decide +kernel) (by decide +kernel)
theorem ql_RX9_1 : Cond.methodLink RX9 1 objectInit ∈ fwT := fw_mem (i := 538) (by decide +kernel) (by decide +kernel)
theorem ql_RX9_7 : Cond.classLink RX9 7 RX7 ∈ fwT := fw_mem (i := 539) (by decide +kernel) (by decide +kernel)
theorem qt_RX7 : Cond.instantiable RX7 5 ∈ fwT := fw_mem (i := 540) (by decide +kernel) (by decide +kernel)
theorem ql_RX9_9 : Cond.methodLink RX9 9 yX7_init ∈ fwT := fw_mem (i := 541) (by decide +kernel) (by decide +kernel)
theorem qi_yX7_init : Cond.instanceMethod yX7_init ∈ fwT := fw_mem (i := 542) (by decide +kernel) (by decide +kernel)
theorem qc_yX7_init : Cond.code yX7_init cX7_init 1 (Option.none : Option Jvm.ClassFile.FieldType) ∈ fwT := fw_mem (i := 543) (by decide +kernel) (by decide +kernel)
theorem ql_RX7_3 : Cond.methodLink RX7 3 objectInit ∈ fwT := fw_mem (i := 544) (by decide +kernel) (by decide +kernel)
theorem ql_RX7_9 : Cond.classLink RX7 9 RX8 ∈ fwT := fw_mem (i := 545) (by decide +kernel) (by decide +kernel)
theorem ql_RX7_11 : Cond.methodLinkNest RX7 11 yX8_init "Barnacle" ∈ fwT := fw_mem (i := 546) (by decide +kernel) (by decide +kernel)
theorem qi_yX8_init : Cond.instanceMethod yX8_init ∈ fwT := fw_mem (i := 547) (by decide +kernel) (by decide +kernel)
theorem qc_yX8_init : Cond.code yX8_init cX8_init 1 (Option.none : Option Jvm.ClassFile.FieldType) ∈ fwT := fw_mem (i := 548) (by decide +kernel) (by decide +kernel)
theorem ql_RX8_3 : Cond.methodLink RX8 3 objectInit ∈ fwT := fw_mem (i := 549) (by decide +kernel) (by decide +kernel)
theorem ql_RX8_9 : Cond.fieldLink RX8 9 "Barnacle$Tree" "codes" "[I" ∈ fwT := fw_mem (i := 550) (by decide +kernel) (by decide +kernel)
theorem ql_RX5_31 : Cond.fieldLinkNest RX5 31 "Barnacle$Tree" "codes" "[I" "Barnacle" ∈ fwT := fw_mem (i := 551) (by decide +kernel) (by decide +kernel)
theorem ql_RX8_15 : Cond.fieldLink RX8 15 "Barnacle$Tree" "values" "[I" ∈ fwT := fw_mem (i := 552) (by decide +kernel) (by decide +kernel)
theorem ql_RX5_34 : Cond.fieldLinkNest RX5 34 "Barnacle$Tree" "values" "[I" "Barnacle" ∈ fwT := fw_mem (i := 553) (by decide +kernel) (by decide +kernel)
theorem ql_RX8_18 : Cond.fieldLink RX8 18 "Barnacle$Tree" "spans" "[I" ∈ fwT := fw_mem (i := 554) (by decide +kernel) (by decide +kernel)
theorem ql_RX5_22 : Cond.fieldLinkNest RX5 22 "Barnacle$Tree" "spans" "[I" "Barnacle" ∈ fwT := fw_mem (i := 555) (by decide +kernel) (by decide +kernel)
theorem ql_RX8_21 : Cond.fieldLink RX8 21 "Barnacle$Tree" "heights" "[I" ∈ fwT := fw_mem (i := 556) (by decide +kernel) (by decide +kernel)
theorem ql_RX7_28 : Cond.fieldLinkNest RX7 28 "Barnacle$Tree" "nodes" "I" "Barnacle" ∈ fwT := fw_mem (i := 557) (by decide +kernel) (by decide +kernel)
theorem ql_RX6_18 : Cond.fieldLinkNest RX6 18 "Barnacle$Tree" "nodes" "I" "Barnacle" ∈ fwT := fw_mem (i := 558) (by decide +kernel) (by decide +kernel)
theorem ql_RX4_44 : Cond.fieldLinkNest RX4 44 "Barnacle$Tree" "nodes" "I" "Barnacle" ∈ fwT := fw_mem (i := 559) (by decide +kernel) (by decide +kernel)
theorem ql_RX3_60 : Cond.fieldLinkNest RX3 60 "Barnacle$Tree" "nodes" "I" "Barnacle" ∈ fwT := fw_mem (i := 560) (by decide +kernel) (by decide +kernel)
theorem ql_RX0_107 : Cond.fieldLinkNest RX0 107 "Barnacle$Tree" "nodes" "I" "Barnacle" ∈ fwT := fw_mem (i := 561) (by decide +kernel) (by decide +kernel)
theorem ql_RX2_48 : Cond.fieldLinkNest RX2 48 "Barnacle$Tree" "nodes" "I" "Barnacle" ∈ fwT := fw_mem (i := 562) (by decide +kernel) (by decide +kernel)
theorem ql_RX9_93 : Cond.fieldLinkNest RX9 93 "Barnacle$Tree" "nodes" "I" "Barnacle" ∈ fwT := fw_mem (i := 563) (by decide +kernel) (by decide +kernel)
theorem ql_RX8_41 : Cond.fieldLink RX8 41 "Barnacle$Tree" "nodes" "I" ∈ fwT := fw_mem (i := 564) (by decide +kernel) (by decide +kernel)
theorem ql_RX8_74 : Cond.fieldLink RX8 74 "Barnacle$Tree" "levels" "I" ∈ fwT := fw_mem (i := 565) (by decide +kernel) (by decide +kernel)
theorem ql_RX9_230 : Cond.fieldLinkNest RX9 230 "Barnacle$Tree" "levels" "I" "Barnacle" ∈ fwT := fw_mem (i := 566) (by decide +kernel) (by decide +kernel)
theorem qa_int : Cond.arrayClass Jvm.ClassFile.FieldType.int ∈ fwT := fw_mem (i := 580) (by decide +kernel) (by decide +kernel)
theorem ql_RX7_25 : Cond.methodLink RX7 25 yX7_clear ∈ fwT := fw_mem (i := 581) (by decide +kernel) (by decide +kernel)
theorem qi_yX7_clear : Cond.instanceMethod yX7_clear ∈ fwT := fw_mem (i := 582) (by decide +kernel) (by decide +kernel)
theorem qv_yX7_clear : Cond.selects RX7 yX7_clear yX7_clear ∈ fwT := fw_mem (i := 583) (by decide +kernel) (by decide +kernel)
theorem qc_yX7_clear : Cond.code yX7_clear cX7_clear 1 (Option.none : Option Jvm.ClassFile.FieldType) ∈ fwT := fw_mem (i := 584) (by decide +kernel) (by decide +kernel)
theorem ql_RX7_38 : Cond.methodLink RX7 38 yX7_miss ∈ fwT := fw_mem (i := 585) (by decide +kernel) (by decide +kernel)
theorem qi_yX7_miss : Cond.instanceMethod yX7_miss ∈ fwT := fw_mem (i := 587) (by decide +kernel) (by decide +kernel)
theorem qc_yX7_miss : Cond.code yX7_miss cX7_miss 3 (Option.none : Option Jvm.ClassFile.FieldType) ∈ fwT := fw_mem (i := 588) (by decide +kernel) (by decide +kernel)
theorem ql_RX7_46 : Cond.methodLink RX7 46 yX7_needOf ∈ fwT := fw_mem (i := 589) (by decide +kernel) (by decide +kernel)
theorem qs_yX7_needOf : Cond.static yX7_needOf ∈ fwT := fw_mem (i := 590) (by decide +kernel) (by decide +kernel)
theorem qc_yX7_needOf : Cond.code yX7_needOf cX7_needOf 1 (Option.some Jvm.ClassFile.FieldType.int) ∈ fwT := fw_mem (i := 591) (by decide +kernel) (by decide +kernel)
theorem ql_RX7_61 : Cond.methodLinkNest RX7 61 yX9_put "Barnacle" ∈ fwT := fw_mem (i := 592) (by decide +kernel) (by decide +kernel)
theorem ql_RX7_12 : Cond.fieldLink RX7 12 "Barnacle$Sketch" "row" "LBarnacle$Tree;" ∈ fwT := fw_mem (i := 593) (by decide +kernel) (by decide +kernel)
theorem ql_RX9_90 : Cond.fieldLinkNest RX9 90 "Barnacle$Sketch" "row" "LBarnacle$Tree;" "Barnacle" ∈ fwT := fw_mem (i := 594) (by decide +kernel) (by decide +kernel)
theorem ql_RX7_18 : Cond.fieldLink RX7 18 "Barnacle$Sketch" "needs" "[I" ∈ fwT := fw_mem (i := 595) (by decide +kernel) (by decide +kernel)
theorem ql_RX7_22 : Cond.fieldLink RX7 22 "Barnacle$Sketch" "levels" "[I" ∈ fwT := fw_mem (i := 596) (by decide +kernel) (by decide +kernel)
theorem ql_RX7_32 : Cond.fieldLink RX7 32 "Barnacle$Sketch" "missing" "I" ∈ fwT := fw_mem (i := 597) (by decide +kernel) (by decide +kernel)
theorem ql_RX9_86 : Cond.fieldLinkNest RX9 86 "Barnacle$Sketch" "missing" "I" "Barnacle" ∈ fwT := fw_mem (i := 598) (by decide +kernel) (by decide +kernel)
theorem ql_RX7_35 : Cond.fieldLink RX7 35 "Barnacle$Sketch" "least" "I" ∈ fwT := fw_mem (i := 599) (by decide +kernel) (by decide +kernel)
theorem ql_RX9_16 : Cond.classLink RX9 16 RX3 ∈ fwT := fw_mem (i := 611) (by decide +kernel) (by decide +kernel)
theorem qt_RX3 : Cond.instantiable RX3 8 ∈ fwT := fw_mem (i := 612) (by decide +kernel) (by decide +kernel)
theorem ql_RX9_18 : Cond.methodLinkNest RX9 18 yX3_init "Barnacle" ∈ fwT := fw_mem (i := 613) (by decide +kernel) (by decide +kernel)
theorem qi_yX3_init : Cond.instanceMethod yX3_init ∈ fwT := fw_mem (i := 614) (by decide +kernel) (by decide +kernel)
theorem qc_yX3_init : Cond.code yX3_init cX3_init 1 (Option.none : Option Jvm.ClassFile.FieldType) ∈ fwT := fw_mem (i := 615) (by decide +kernel) (by decide +kernel)
theorem ql_RX3_3 : Cond.methodLink RX3 3 objectInit ∈ fwT := fw_mem (i := 616) (by decide +kernel) (by decide +kernel)
theorem ql_RX3_9 : Cond.classLink RX3 9 RX5 ∈ fwT := fw_mem (i := 617) (by decide +kernel) (by decide +kernel)
theorem qt_RX5 : Cond.instantiable RX5 2 ∈ fwT := fw_mem (i := 618) (by decide +kernel) (by decide +kernel)
theorem ql_RX3_11 : Cond.methodLinkNest RX3 11 yX5_init "Barnacle" ∈ fwT := fw_mem (i := 619) (by decide +kernel) (by decide +kernel)
theorem qi_yX5_init : Cond.instanceMethod yX5_init ∈ fwT := fw_mem (i := 620) (by decide +kernel) (by decide +kernel)
theorem qc_yX5_init : Cond.code yX5_init cX5_init 1 (Option.none : Option Jvm.ClassFile.FieldType) ∈ fwT := fw_mem (i := 621) (by decide +kernel) (by decide +kernel)
theorem ql_RX5_3 : Cond.methodLink RX5 3 objectInit ∈ fwT := fw_mem (i := 622) (by decide +kernel) (by decide +kernel)
theorem ql_RX5_9 : Cond.fieldLink RX5 9 "Barnacle$Reckoner" "inputs" "[I" ∈ fwT := fw_mem (i := 623) (by decide +kernel) (by decide +kernel)
theorem ql_RX5_15 : Cond.fieldLink RX5 15 "Barnacle$Reckoner" "results" "[I" ∈ fwT := fw_mem (i := 624) (by decide +kernel) (by decide +kernel)
theorem ql_RX3_12 : Cond.fieldLink RX3 12 "Barnacle$Judge" "reckoner" "LBarnacle$Reckoner;" ∈ fwT := fw_mem (i := 630) (by decide +kernel) (by decide +kernel)
theorem ql_RX3_18 : Cond.fieldLink RX3 18 "Barnacle$Judge" "firsts" "[I" ∈ fwT := fw_mem (i := 631) (by decide +kernel) (by decide +kernel)
theorem ql_RX3_22 : Cond.fieldLink RX3 22 "Barnacle$Judge" "seconds" "[I" ∈ fwT := fw_mem (i := 632) (by decide +kernel) (by decide +kernel)
theorem ql_RX3_25 : Cond.fieldLink RX3 25 "Barnacle$Judge" "thirds" "[I" ∈ fwT := fw_mem (i := 633) (by decide +kernel) (by decide +kernel)
theorem ql_RX3_28 : Cond.fieldLink RX3 28 "Barnacle$Judge" "dues" "[I" ∈ fwT := fw_mem (i := 634) (by decide +kernel) (by decide +kernel)
theorem ql_RX3_35 : Cond.fieldLink RX3 35 "Barnacle$Judge" "cases" "I" ∈ fwT := fw_mem (i := 635) (by decide +kernel) (by decide +kernel)
theorem ql_RX9_125 : Cond.fieldLinkNest RX9 125 "Barnacle$Judge" "cases" "I" "Barnacle" ∈ fwT := fw_mem (i := 636) (by decide +kernel) (by decide +kernel)
theorem ql_RX4_41 : Cond.fieldLinkNest RX4 41 "Barnacle$Judge" "way" "I" "Barnacle" ∈ fwT := fw_mem (i := 637) (by decide +kernel) (by decide +kernel)
theorem ql_RX3_57 : Cond.fieldLink RX3 57 "Barnacle$Judge" "way" "I" ∈ fwT := fw_mem (i := 638) (by decide +kernel) (by decide +kernel)
theorem ql_RX9_135 : Cond.fieldLinkNest RX9 135 "Barnacle$Judge" "way" "I" "Barnacle" ∈ fwT := fw_mem (i := 639) (by decide +kernel) (by decide +kernel)
theorem ql_RX3_31 : Cond.fieldLink RX3 31 "Barnacle$Judge" "weight" "I" ∈ fwT := fw_mem (i := 640) (by decide +kernel) (by decide +kernel)
theorem ql_RX9_138 : Cond.fieldLinkNest RX9 138 "Barnacle$Judge" "weight" "I" "Barnacle" ∈ fwT := fw_mem (i := 641) (by decide +kernel) (by decide +kernel)
theorem ql_RX9_23 : Cond.classLink RX9 23 RX4 ∈ fwT := fw_mem (i := 659) (by decide +kernel) (by decide +kernel)
theorem ql_RX9_25 : Cond.methodLinkNest RX9 25 yX4_init "Barnacle" ∈ fwT := fw_mem (i := 660) (by decide +kernel) (by decide +kernel)
theorem qi_yX4_init : Cond.instanceMethod yX4_init ∈ fwT := fw_mem (i := 661) (by decide +kernel) (by decide +kernel)
theorem qc_yX4_init : Cond.code yX4_init cX4_init 1 (Option.none : Option Jvm.ClassFile.FieldType) ∈ fwT := fw_mem (i := 662) (by decide +kernel) (by decide +kernel)
theorem ql_RX4_3 : Cond.methodLink RX4 3 objectInit ∈ fwT := fw_mem (i := 663) (by decide +kernel) (by decide +kernel)
theorem ql_RX4_9 : Cond.fieldLink RX4 9 "Barnacle$Ranking" "merits" "[I" ∈ fwT := fw_mem (i := 664) (by decide +kernel) (by decide +kernel)
theorem ql_RX4_15 : Cond.fieldLink RX4 15 "Barnacle$Ranking" "sizes" "[I" ∈ fwT := fw_mem (i := 665) (by decide +kernel) (by decide +kernel)
theorem ql_RX4_18 : Cond.fieldLink RX4 18 "Barnacle$Ranking" "order" "[I" ∈ fwT := fw_mem (i := 666) (by decide +kernel) (by decide +kernel)
theorem ql_RX9_30 : Cond.classLink RX9 30 RX0 ∈ fwT := fw_mem (i := 674) (by decide +kernel) (by decide +kernel)
theorem ql_RX9_32 : Cond.methodLinkNest RX9 32 yX0_init "Barnacle" ∈ fwT := fw_mem (i := 675) (by decide +kernel) (by decide +kernel)
theorem qi_yX0_init : Cond.instanceMethod yX0_init ∈ fwT := fw_mem (i := 676) (by decide +kernel) (by decide +kernel)
theorem qc_yX0_init : Cond.code yX0_init cX0_init 1 (Option.none : Option Jvm.ClassFile.FieldType) ∈ fwT := fw_mem (i := 677) (by decide +kernel) (by decide +kernel)
theorem ql_RX0_3 : Cond.methodLink RX0 3 objectInit ∈ fwT := fw_mem (i := 678) (by decide +kernel) (by decide +kernel)
theorem ql_RX0_9 : Cond.classLink RX0 9 RX4 ∈ fwT := fw_mem (i := 679) (by decide +kernel) (by decide +kernel)
theorem ql_RX0_11 : Cond.methodLinkNest RX0 11 yX4_init "Barnacle" ∈ fwT := fw_mem (i := 680) (by decide +kernel) (by decide +kernel)
theorem ql_RX0_12 : Cond.fieldLink RX0 12 "Barnacle$Breeder" "ranking" "LBarnacle$Ranking;" ∈ fwT := fw_mem (i := 681) (by decide +kernel) (by decide +kernel)
theorem ql_RX0_18 : Cond.fieldLink RX0 18 "Barnacle$Breeder" "crossing" "I" ∈ fwT := fw_mem (i := 682) (by decide +kernel) (by decide +kernel)
theorem ql_RX0_22 : Cond.fieldLink RX0 22 "Barnacle$Breeder" "changing" "I" ∈ fwT := fw_mem (i := 683) (by decide +kernel) (by decide +kernel)
theorem ql_RX0_25 : Cond.fieldLink RX0 25 "Barnacle$Breeder" "hoisting" "I" ∈ fwT := fw_mem (i := 684) (by decide +kernel) (by decide +kernel)
theorem ql_RX0_28 : Cond.fieldLink RX0 28 "Barnacle$Breeder" "tournament" "I" ∈ fwT := fw_mem (i := 685) (by decide +kernel) (by decide +kernel)
theorem ql_RX9_197 : Cond.fieldLinkNest RX9 197 "Barnacle$Breeder" "tournament" "I" "Barnacle" ∈ fwT := fw_mem (i := 686) (by decide +kernel) (by decide +kernel)
theorem ql_RX0_31 : Cond.fieldLink RX0 31 "Barnacle$Breeder" "elite" "I" ∈ fwT := fw_mem (i := 687) (by decide +kernel) (by decide +kernel)
theorem ql_RX9_200 : Cond.fieldLinkNest RX9 200 "Barnacle$Breeder" "elite" "I" "Barnacle" ∈ fwT := fw_mem (i := 688) (by decide +kernel) (by decide +kernel)
theorem ql_RX9_37 : Cond.classLink RX9 37 RX6 ∈ fwT := fw_mem (i := 702) (by decide +kernel) (by decide +kernel)
theorem ql_RX9_39 : Cond.methodLinkNest RX9 39 yX6_init "Barnacle" ∈ fwT := fw_mem (i := 703) (by decide +kernel) (by decide +kernel)
theorem qi_yX6_init : Cond.instanceMethod yX6_init ∈ fwT := fw_mem (i := 704) (by decide +kernel) (by decide +kernel)
theorem qc_yX6_init : Cond.code yX6_init cX6_init 1 (Option.none : Option Jvm.ClassFile.FieldType) ∈ fwT := fw_mem (i := 705) (by decide +kernel) (by decide +kernel)
theorem ql_RX6_3 : Cond.methodLink RX6 3 objectInit ∈ fwT := fw_mem (i := 706) (by decide +kernel) (by decide +kernel)
theorem ql_RX6_9 : Cond.classLink RX6 9 RX5 ∈ fwT := fw_mem (i := 707) (by decide +kernel) (by decide +kernel)
theorem ql_RX6_11 : Cond.methodLinkNest RX6 11 yX5_init "Barnacle" ∈ fwT := fw_mem (i := 708) (by decide +kernel) (by decide +kernel)
theorem ql_RX6_12 : Cond.fieldLink RX6 12 "Barnacle$Simplifier" "reckoner" "LBarnacle$Reckoner;" ∈ fwT := fw_mem (i := 709) (by decide +kernel) (by decide +kernel)
theorem ql_RX9_44 : Cond.classLink RX9 44 RX5 ∈ fwT := fw_mem (i := 713) (by decide +kernel) (by decide +kernel)
theorem ql_RX9_46 : Cond.methodLinkNest RX9 46 yX5_init "Barnacle" ∈ fwT := fw_mem (i := 714) (by decide +kernel) (by decide +kernel)
theorem ql_RX9_51 : Cond.classLink RX9 51 RX2 ∈ fwT := fw_mem (i := 715) (by decide +kernel) (by decide +kernel)
theorem ql_RX9_53 : Cond.methodLink RX9 53 yX2_init ∈ fwT := fw_mem (i := 716) (by decide +kernel) (by decide +kernel)
theorem qi_yX2_init : Cond.instanceMethod yX2_init ∈ fwT := fw_mem (i := 717) (by decide +kernel) (by decide +kernel)
theorem qc_yX2_init : Cond.code yX2_init cX2_init 2 (Option.none : Option Jvm.ClassFile.FieldType) ∈ fwT := fw_mem (i := 718) (by decide +kernel) (by decide +kernel)
theorem ql_RX2_3 : Cond.methodLink RX2 3 objectInit ∈ fwT := fw_mem (i := 719) (by decide +kernel) (by decide +kernel)
theorem ql_RX2_9 : Cond.classLink RX2 9 RX1 ∈ fwT := fw_mem (i := 720) (by decide +kernel) (by decide +kernel)
theorem ql_RX2_11 : Cond.methodLinkNest RX2 11 yX1_init "Barnacle" ∈ fwT := fw_mem (i := 721) (by decide +kernel) (by decide +kernel)
theorem qi_yX1_init : Cond.instanceMethod yX1_init ∈ fwT := fw_mem (i := 722) (by decide +kernel) (by decide +kernel)
theorem qc_yX1_init : Cond.code yX1_init cX1_init 1 (Option.none : Option Jvm.ClassFile.FieldType) ∈ fwT := fw_mem (i := 723) (by decide +kernel) (by decide +kernel)
theorem ql_RX1_3 : Cond.methodLink RX1 3 objectInit ∈ fwT := fw_mem (i := 724) (by decide +kernel) (by decide +kernel)
theorem ql_RX1_9 : Cond.fieldLink RX1 9 "Barnacle$Draws" "told" "[I" ∈ fwT := fw_mem (i := 725) (by decide +kernel) (by decide +kernel)
theorem ql_RX1_15 : Cond.fieldLink RX1 15 "Barnacle$Draws" "waiting" "I" ∈ fwT := fw_mem (i := 726) (by decide +kernel) (by decide +kernel)
theorem ql_RX9_216 : Cond.fieldLinkNest RX9 216 "Barnacle$Draws" "waiting" "I" "Barnacle" ∈ fwT := fw_mem (i := 727) (by decide +kernel) (by decide +kernel)
theorem ql_RX1_27 : Cond.fieldLink RX1 27 "Barnacle$Draws" "luck" "I" ∈ fwT := fw_mem (i := 728) (by decide +kernel) (by decide +kernel)
theorem ql_RX9_209 : Cond.fieldLinkNest RX9 209 "Barnacle$Draws" "luck" "I" "Barnacle" ∈ fwT := fw_mem (i := 729) (by decide +kernel) (by decide +kernel)
theorem ql_RX2_18 : Cond.classLink RX2 18 RX8 ∈ fwT := fw_mem (i := 737) (by decide +kernel) (by decide +kernel)
theorem ql_RX2_20 : Cond.methodLinkNest RX2 20 yX8_init "Barnacle" ∈ fwT := fw_mem (i := 738) (by decide +kernel) (by decide +kernel)
theorem qo_RX8 : Cond.arrayOver (.object RX8) ∈ fwT := fw_mem (i := 739) (by decide +kernel) (by decide +kernel)
theorem ql_RX2_12 : Cond.fieldLink RX2 12 "Barnacle$Grove" "draws" "LBarnacle$Draws;" ∈ fwT := fw_mem (i := 740) (by decide +kernel) (by decide +kernel)
theorem ql_RX0_79 : Cond.fieldLinkNest RX0 79 "Barnacle$Grove" "draws" "LBarnacle$Draws;" "Barnacle" ∈ fwT := fw_mem (i := 741) (by decide +kernel) (by decide +kernel)
theorem ql_RX9_205 : Cond.fieldLinkNest RX9 205 "Barnacle$Grove" "draws" "LBarnacle$Draws;" "Barnacle" ∈ fwT := fw_mem (i := 742) (by decide +kernel) (by decide +kernel)
theorem ql_RX2_21 : Cond.fieldLink RX2 21 "Barnacle$Grove" "nothing" "LBarnacle$Tree;" ∈ fwT := fw_mem (i := 743) (by decide +kernel) (by decide +kernel)
theorem ql_RX2_25 : Cond.fieldLink RX2 25 "Barnacle$Grove" "trees" "[LBarnacle$Tree;" ∈ fwT := fw_mem (i := 744) (by decide +kernel) (by decide +kernel)
theorem ql_RX2_29 : Cond.fieldLink RX2 29 "Barnacle$Grove" "youngTrees" "[LBarnacle$Tree;" ∈ fwT := fw_mem (i := 745) (by decide +kernel) (by decide +kernel)
theorem ql_RX4_21 : Cond.fieldLinkNest RX4 21 "Barnacle$Grove" "count" "I" "Barnacle" ∈ fwT := fw_mem (i := 746) (by decide +kernel) (by decide +kernel)
theorem ql_RX0_38 : Cond.fieldLinkNest RX0 38 "Barnacle$Grove" "count" "I" "Barnacle" ∈ fwT := fw_mem (i := 747) (by decide +kernel) (by decide +kernel)
theorem ql_RX2_36 : Cond.fieldLink RX2 36 "Barnacle$Grove" "count" "I" ∈ fwT := fw_mem (i := 748) (by decide +kernel) (by decide +kernel)
theorem ql_RX9_99 : Cond.fieldLinkNest RX9 99 "Barnacle$Grove" "count" "I" "Barnacle" ∈ fwT := fw_mem (i := 749) (by decide +kernel) (by decide +kernel)
theorem ql_RX2_55 : Cond.fieldLink RX2 55 "Barnacle$Grove" "generations" "I" ∈ fwT := fw_mem (i := 750) (by decide +kernel) (by decide +kernel)
theorem ql_RX9_280 : Cond.fieldLinkNest RX9 280 "Barnacle$Grove" "generations" "I" "Barnacle" ∈ fwT := fw_mem (i := 751) (by decide +kernel) (by decide +kernel)
theorem ql_RX0_118 : Cond.fieldLinkNest RX0 118 "Barnacle$Grove" "misses" "I" "Barnacle" ∈ fwT := fw_mem (i := 752) (by decide +kernel) (by decide +kernel)
theorem ql_RX2_61 : Cond.fieldLink RX2 61 "Barnacle$Grove" "misses" "I" ∈ fwT := fw_mem (i := 753) (by decide +kernel) (by decide +kernel)
theorem ql_RX9_283 : Cond.fieldLinkNest RX9 283 "Barnacle$Grove" "misses" "I" "Barnacle" ∈ fwT := fw_mem (i := 754) (by decide +kernel) (by decide +kernel)
theorem ql_RX9_61 : Cond.classLink RX9 61 RX8 ∈ fwT := fw_mem (i := 770) (by decide +kernel) (by decide +kernel)
theorem ql_RX9_63 : Cond.methodLinkNest RX9 63 yX8_init "Barnacle" ∈ fwT := fw_mem (i := 771) (by decide +kernel) (by decide +kernel)
theorem ql_RX9_10 : Cond.fieldLink RX9 10 "Barnacle" "sketch" "LBarnacle$Sketch;" ∈ fwT := fw_mem (i := 772) (by decide +kernel) (by decide +kernel)
theorem ql_RX9_19 : Cond.fieldLink RX9 19 "Barnacle" "judge" "LBarnacle$Judge;" ∈ fwT := fw_mem (i := 773) (by decide +kernel) (by decide +kernel)
theorem ql_RX9_26 : Cond.fieldLink RX9 26 "Barnacle" "ranking" "LBarnacle$Ranking;" ∈ fwT := fw_mem (i := 774) (by decide +kernel) (by decide +kernel)
theorem ql_RX9_33 : Cond.fieldLink RX9 33 "Barnacle" "breeder" "LBarnacle$Breeder;" ∈ fwT := fw_mem (i := 775) (by decide +kernel) (by decide +kernel)
theorem ql_RX9_40 : Cond.fieldLink RX9 40 "Barnacle" "simplifier" "LBarnacle$Simplifier;" ∈ fwT := fw_mem (i := 776) (by decide +kernel) (by decide +kernel)
theorem ql_RX9_47 : Cond.fieldLink RX9 47 "Barnacle" "reckoner" "LBarnacle$Reckoner;" ∈ fwT := fw_mem (i := 777) (by decide +kernel) (by decide +kernel)
theorem ql_RX9_54 : Cond.fieldLink RX9 54 "Barnacle" "grove" "LBarnacle$Grove;" ∈ fwT := fw_mem (i := 778) (by decide +kernel) (by decide +kernel)
theorem ql_RX9_58 : Cond.fieldLink RX9 58 "Barnacle" "trialGrove" "LBarnacle$Grove;" ∈ fwT := fw_mem (i := 779) (by decide +kernel) (by decide +kernel)
theorem ql_RX9_64 : Cond.fieldLink RX9 64 "Barnacle" "trialTree" "LBarnacle$Tree;" ∈ fwT := fw_mem (i := 780) (by decide +kernel) (by decide +kernel)
theorem ql_RX10_16 : Cond.classLink RX10 16 "[I" ∈ fwT := fw_mem (i := 800) (by decide +kernel) (by decide +kernel)
theorem qo_arr : Cond.arrayOver (.array .int) ∈ fwT := fw_mem (i := 801) (by decide +kernel) (by decide +kernel)
theorem ql_RX10_10 : Cond.fieldLink RX10 10 "BarnacleLaw$Grove" "m" "LBarnacle;" ∈ fwT := fw_mem (i := 802) (by decide +kernel) (by decide +kernel)
theorem ql_RL_14 : Cond.fieldLink RL 14 "BarnacleLaw$Grove" "m" "LBarnacle;" ∈ fwT := fw_mem (i := 803) (by decide +kernel) (by decide +kernel)
theorem ql_RX10_25 : Cond.fieldLink RX10 25 "BarnacleLaw$Grove" "s" "[I" ∈ fwT := fw_mem (i := 804) (by decide +kernel) (by decide +kernel)
theorem ql_RX10_28 : Cond.fieldLink RX10 28 "BarnacleLaw$Grove" "draws" "I" ∈ fwT := fw_mem (i := 805) (by decide +kernel) (by decide +kernel)
theorem ql_RX10_74 : Cond.fieldLink RX10 74 "BarnacleLaw$Grove" "trees" "I" ∈ fwT := fw_mem (i := 806) (by decide +kernel) (by decide +kernel)
theorem ql_RX10_18 : Cond.fieldLink RX10 18 "BarnacleLaw$Grove" "tree" "[[I" ∈ fwT := fw_mem (i := 807) (by decide +kernel) (by decide +kernel)
theorem ql_RX10_80 : Cond.fieldLink RX10 80 "BarnacleLaw$Grove" "cases" "I" ∈ fwT := fw_mem (i := 808) (by decide +kernel) (by decide +kernel)
theorem ql_RX10_22 : Cond.fieldLink RX10 22 "BarnacleLaw$Grove" "its" "[[I" ∈ fwT := fw_mem (i := 809) (by decide +kernel) (by decide +kernel)
theorem ql_RL_18 : Cond.methodLink RL 18 yX10_draw ∈ fwT := fw_mem (i := 825) (by decide +kernel) (by decide +kernel)
theorem qi_yX10_draw : Cond.instanceMethod yX10_draw ∈ fwT := fw_mem (i := 826) (by decide +kernel) (by decide +kernel)
theorem qv_yX10_draw : Cond.selects RX10 yX10_draw yX10_draw ∈ fwT := fw_mem (i := 827) (by decide +kernel) (by decide +kernel)
theorem qc_yX10_draw : Cond.code yX10_draw cX10_draw 3 (Option.some Jvm.ClassFile.FieldType.int) ∈ fwT := fw_mem (i := 828) (by decide +kernel) (by decide +kernel)
theorem ql_RX10_32 : Cond.methodLinkNest RX10 32 yL_cell "BarnacleLaw" ∈ fwT := fw_mem (i := 829) (by decide +kernel) (by decide +kernel)
theorem qs_yL_cell : Cond.static yL_cell ∈ fwT := fw_mem (i := 830) (by decide +kernel) (by decide +kernel)
theorem qc_yL_cell : Cond.code yL_cell cL_cell 2 (Option.some Jvm.ClassFile.FieldType.int) ∈ fwT := fw_mem (i := 831) (by decide +kernel) (by decide +kernel)
theorem ql_RL_8 : Cond.constant RL 8 (790386105) ∈ fwT := fw_mem (i := 832) (by decide +kernel) (by decide +kernel)
theorem ql_RX10_38 : Cond.methodLinkNest RX10 38 yL_below "BarnacleLaw" ∈ fwT := fw_mem (i := 833) (by decide +kernel) (by decide +kernel)
theorem qs_yL_below : Cond.static yL_below ∈ fwT := fw_mem (i := 834) (by decide +kernel) (by decide +kernel)
theorem qc_yL_below : Cond.code yL_below cL_below 2 (Option.some Jvm.ClassFile.FieldType.int) ∈ fwT := fw_mem (i := 835) (by decide +kernel) (by decide +kernel)
theorem ql_RL_7 : Cond.constant RL 7 (2147483647) ∈ fwT := fw_mem (i := 836) (by decide +kernel) (by decide +kernel)
theorem ql_RL_108 : Cond.methodLink RL 108 yX10_many ∈ fwT := fw_mem (i := 837) (by decide +kernel) (by decide +kernel)
theorem qs_yX10_many : Cond.static yX10_many ∈ fwT := fw_mem (i := 838) (by decide +kernel) (by decide +kernel)
theorem qc_yX10_many : Cond.code yX10_many cX10_many 1 (Option.some Jvm.ClassFile.FieldType.int) ∈ fwT := fw_mem (i := 839) (by decide +kernel) (by decide +kernel)
theorem ql_RL_111 : Cond.methodLink RL 111 yX10_isNumber ∈ fwT := fw_mem (i := 840) (by decide +kernel) (by decide +kernel)
theorem qs_yX10_isNumber : Cond.static yX10_isNumber ∈ fwT := fw_mem (i := 841) (by decide +kernel) (by decide +kernel)
theorem qc_yX10_isNumber : Cond.code yX10_isNumber cX10_isNumber 2 (Option.some Jvm.ClassFile.FieldType.boolean) ∈ fwT := fw_mem (i := 842) (by decide +kernel) (by decide +kernel)
theorem ql_RL_22 : Cond.methodLink RL 22 yX10_plant ∈ fwT := fw_mem (i := 843) (by decide +kernel) (by decide +kernel)
theorem qi_yX10_plant : Cond.instanceMethod yX10_plant ∈ fwT := fw_mem (i := 844) (by decide +kernel) (by decide +kernel)
theorem qv_yX10_plant : Cond.selects RX10 yX10_plant yX10_plant ∈ fwT := fw_mem (i := 845) (by decide +kernel) (by decide +kernel)
theorem qc_yX10_plant : Cond.code yX10_plant cX10_plant 4 (Option.some Jvm.ClassFile.FieldType.boolean) ∈ fwT := fw_mem (i := 846) (by decide +kernel) (by decide +kernel)
theorem ql_RX10_48 : Cond.methodLink RX10 48 yX10_draw ∈ fwT := fw_mem (i := 847) (by decide +kernel) (by decide +kernel)
theorem ql_RX10_59 : Cond.methodLink RX10 59 yX10_grown ∈ fwT := fw_mem (i := 848) (by decide +kernel) (by decide +kernel)
theorem qi_yX10_grown : Cond.instanceMethod yX10_grown ∈ fwT := fw_mem (i := 849) (by decide +kernel) (by decide +kernel)
theorem qv_yX10_grown : Cond.selects RX10 yX10_grown yX10_grown ∈ fwT := fw_mem (i := 850) (by decide +kernel) (by decide +kernel)
theorem qc_yX10_grown : Cond.code yX10_grown cX10_grown 6 (Option.some (Jvm.ClassFile.FieldType.array Jvm.ClassFile.FieldType.int)) ∈ fwT := fw_mem (i := 851) (by decide +kernel) (by decide +kernel)
theorem ql_RX10_52 : Cond.methodLink RX10 52 yX10_many ∈ fwT := fw_mem (i := 852) (by decide +kernel) (by decide +kernel)
theorem ql_RX10_55 : Cond.methodLink RX10 55 yX10_isNumber ∈ fwT := fw_mem (i := 853) (by decide +kernel) (by decide +kernel)
theorem ql_RX10_63 : Cond.methodLink RX10 63 yX10_joined ∈ fwT := fw_mem (i := 854) (by decide +kernel) (by decide +kernel)
theorem qs_yX10_joined : Cond.static yX10_joined ∈ fwT := fw_mem (i := 855) (by decide +kernel) (by decide +kernel)
theorem qc_yX10_joined : Cond.code yX10_joined cX10_joined 3 (Option.some (Jvm.ClassFile.FieldType.array Jvm.ClassFile.FieldType.int)) ∈ fwT := fw_mem (i := 856) (by decide +kernel) (by decide +kernel)
theorem ql_RX10_67 : Cond.methodLink RX10 67 yX9_sketch ∈ fwT := fw_mem (i := 860) (by decide +kernel) (by decide +kernel)
theorem qi_yX9_sketch : Cond.instanceMethod yX9_sketch ∈ fwT := fw_mem (i := 861) (by decide +kernel) (by decide +kernel)
theorem qv_yX9_sketch : Cond.selects RX9 yX9_sketch yX9_sketch ∈ fwT := fw_mem (i := 862) (by decide +kernel) (by decide +kernel)
theorem qc_yX9_sketch : Cond.code yX9_sketch cX9_sketch 3 (Option.some Jvm.ClassFile.FieldType.int) ∈ fwT := fw_mem (i := 863) (by decide +kernel) (by decide +kernel)
theorem ql_RX9_68 : Cond.methodLink RX9 68 yX9_requireNode ∈ fwT := fw_mem (i := 864) (by decide +kernel) (by decide +kernel)
theorem qs_yX9_requireNode : Cond.static yX9_requireNode ∈ fwT := fw_mem (i := 865) (by decide +kernel) (by decide +kernel)
theorem qc_yX9_requireNode : Cond.code yX9_requireNode cX9_requireNode 2 (Option.none : Option Jvm.ClassFile.FieldType) ∈ fwT := fw_mem (i := 866) (by decide +kernel) (by decide +kernel)
theorem ql_RX9_72 : Cond.methodLink RX9 72 yX7_accepts ∈ fwT := fw_mem (i := 870) (by decide +kernel) (by decide +kernel)
theorem qi_yX7_accepts : Cond.instanceMethod yX7_accepts ∈ fwT := fw_mem (i := 871) (by decide +kernel) (by decide +kernel)
theorem qv_yX7_accepts : Cond.selects RX7 yX7_accepts yX7_accepts ∈ fwT := fw_mem (i := 872) (by decide +kernel) (by decide +kernel)
theorem qc_yX7_accepts : Cond.code yX7_accepts cX7_accepts 7 (Option.some Jvm.ClassFile.FieldType.boolean) ∈ fwT := fw_mem (i := 873) (by decide +kernel) (by decide +kernel)
theorem ql_RX7_42 : Cond.methodLinkNest RX7 42 yX9_at "Barnacle" ∈ fwT := fw_mem (i := 874) (by decide +kernel) (by decide +kernel)
theorem ql_RX7_50 : Cond.fieldLinkNest RX7 50 "Barnacle" "PARTS" "[I" "Barnacle" ∈ fwT := fw_mem (i := 875) (by decide +kernel) (by decide +kernel)
theorem ql_RX7_53 : Cond.methodLinkNest RX7 53 yX9_isNumberPart "Barnacle" ∈ fwT := fw_mem (i := 876) (by decide +kernel) (by decide +kernel)
theorem qs_yX9_isNumberPart : Cond.static yX9_isNumberPart ∈ fwT := fw_mem (i := 877) (by decide +kernel) (by decide +kernel)
theorem qc_yX9_isNumberPart : Cond.code yX9_isNumberPart cX9_isNumberPart 2 (Option.some Jvm.ClassFile.FieldType.boolean) ∈ fwT := fw_mem (i := 878) (by decide +kernel) (by decide +kernel)
theorem ql_RX9_83 : Cond.methodLink RX9 83 yX7_take ∈ fwT := fw_mem (i := 880) (by decide +kernel) (by decide +kernel)
theorem qi_yX7_take : Cond.instanceMethod yX7_take ∈ fwT := fw_mem (i := 881) (by decide +kernel) (by decide +kernel)
theorem qv_yX7_take : Cond.selects RX7 yX7_take yX7_take ∈ fwT := fw_mem (i := 882) (by decide +kernel) (by decide +kernel)
theorem qc_yX7_take : Cond.code yX7_take cX7_take 5 (Option.none : Option Jvm.ClassFile.FieldType) ∈ fwT := fw_mem (i := 883) (by decide +kernel) (by decide +kernel)
theorem ql_RX7_57 : Cond.methodLink RX7 57 yX8_append ∈ fwT := fw_mem (i := 884) (by decide +kernel) (by decide +kernel)
theorem qi_yX8_append : Cond.instanceMethod yX8_append ∈ fwT := fw_mem (i := 885) (by decide +kernel) (by decide +kernel)
theorem qv_yX8_append : Cond.selects RX8 yX8_append yX8_append ∈ fwT := fw_mem (i := 886) (by decide +kernel) (by decide +kernel)
theorem qc_yX8_append : Cond.code yX8_append cX8_append 3 (Option.none : Option Jvm.ClassFile.FieldType) ∈ fwT := fw_mem (i := 887) (by decide +kernel) (by decide +kernel)
theorem ql_RX10_70 : Cond.methodLink RX10 70 yX9_sketched ∈ fwT := fw_mem (i := 888) (by decide +kernel) (by decide +kernel)
theorem qi_yX9_sketched : Cond.instanceMethod yX9_sketched ∈ fwT := fw_mem (i := 889) (by decide +kernel) (by decide +kernel)
theorem qv_yX9_sketched : Cond.selects RX9 yX9_sketched yX9_sketched ∈ fwT := fw_mem (i := 890) (by decide +kernel) (by decide +kernel)
theorem qc_yX9_sketched : Cond.code yX9_sketched cX9_sketched 1 (Option.some Jvm.ClassFile.FieldType.int) ∈ fwT := fw_mem (i := 891) (by decide +kernel) (by decide +kernel)
theorem ql_RX10_77 : Cond.methodLink RX10 77 yX9_plant ∈ fwT := fw_mem (i := 892) (by decide +kernel) (by decide +kernel)
theorem qi_yX9_plant : Cond.instanceMethod yX9_plant ∈ fwT := fw_mem (i := 893) (by decide +kernel) (by decide +kernel)
theorem qv_yX9_plant : Cond.selects RX9 yX9_plant yX9_plant ∈ fwT := fw_mem (i := 894) (by decide +kernel) (by decide +kernel)
theorem qc_yX9_plant : Cond.code yX9_plant cX9_plant 2 (Option.some Jvm.ClassFile.FieldType.int) ∈ fwT := fw_mem (i := 895) (by decide +kernel) (by decide +kernel)
theorem ql_RX9_104 : Cond.methodLink RX9 104 yX2_add ∈ fwT := fw_mem (i := 897) (by decide +kernel) (by decide +kernel)
theorem qi_yX2_add : Cond.instanceMethod yX2_add ∈ fwT := fw_mem (i := 898) (by decide +kernel) (by decide +kernel)
theorem qv_yX2_add : Cond.selects RX2 yX2_add yX2_add ∈ fwT := fw_mem (i := 899) (by decide +kernel) (by decide +kernel)
theorem qc_yX2_add : Cond.code yX2_add cX2_add 2 (Option.none : Option Jvm.ClassFile.FieldType) ∈ fwT := fw_mem (i := 900) (by decide +kernel) (by decide +kernel)
theorem ql_RX9_96 : Cond.methodLink RX9 96 yX7_clear ∈ fwT := fw_mem (i := 901) (by decide +kernel) (by decide +kernel)
theorem ql_RL_26 : Cond.methodLink RL 26 yX10_addCase ∈ fwT := fw_mem (i := 902) (by decide +kernel) (by decide +kernel)
theorem qi_yX10_addCase : Cond.instanceMethod yX10_addCase ∈ fwT := fw_mem (i := 903) (by decide +kernel) (by decide +kernel)
theorem qv_yX10_addCase : Cond.selects RX10 yX10_addCase yX10_addCase ∈ fwT := fw_mem (i := 904) (by decide +kernel) (by decide +kernel)
theorem qc_yX10_addCase : Cond.code yX10_addCase cX10_addCase 2 (Option.some Jvm.ClassFile.FieldType.boolean) ∈ fwT := fw_mem (i := 905) (by decide +kernel) (by decide +kernel)
theorem ql_RX10_83 : Cond.methodLink RX10 83 yX9_addCase ∈ fwT := fw_mem (i := 906) (by decide +kernel) (by decide +kernel)
theorem qi_yX9_addCase : Cond.instanceMethod yX9_addCase ∈ fwT := fw_mem (i := 907) (by decide +kernel) (by decide +kernel)
theorem qv_yX9_addCase : Cond.selects RX9 yX9_addCase yX9_addCase ∈ fwT := fw_mem (i := 908) (by decide +kernel) (by decide +kernel)
theorem qc_yX9_addCase : Cond.code yX9_addCase cX9_addCase 6 (Option.some Jvm.ClassFile.FieldType.int) ∈ fwT := fw_mem (i := 909) (by decide +kernel) (by decide +kernel)
theorem ql_RX9_130 : Cond.methodLink RX9 130 yX3_add ∈ fwT := fw_mem (i := 912) (by decide +kernel) (by decide +kernel)
theorem qi_yX3_add : Cond.instanceMethod yX3_add ∈ fwT := fw_mem (i := 913) (by decide +kernel) (by decide +kernel)
theorem qv_yX3_add : Cond.selects RX3 yX3_add yX3_add ∈ fwT := fw_mem (i := 914) (by decide +kernel) (by decide +kernel)
theorem qc_yX3_add : Cond.code yX3_add cX3_add 5 (Option.none : Option Jvm.ClassFile.FieldType) ∈ fwT := fw_mem (i := 915) (by decide +kernel) (by decide +kernel)
theorem ql_RX3_38 : Cond.methodLinkNest RX3 38 yX9_put "Barnacle" ∈ fwT := fw_mem (i := 916) (by decide +kernel) (by decide +kernel)
theorem qa_boolean : Cond.arrayClass Jvm.ClassFile.FieldType.boolean ∈ fwT := fw_mem (i := 917) (by decide +kernel) (by decide +kernel)
end
section
def iI (z : Int) : Int32 := Int32.ofInt z
/-! THE LAYER: a world is a function from addresses to cells; a contract hands a world and gets one back. Classes' ids, array classes' ids, the base address, the heap at the law's entry, the static rows' addresses: one tuple G. -/
abbrev fw_G : Type := va_G × (Nat → ClassId) × Nat × Heap × (Nat → Nat)
abbrev fw_M : Type := Nat → Option va_E
def fwTys (G : fw_G) : List (ClassId × FieldType) := [(G.2.1 0, .int), (G.2.1 1, .object RX8), (G.2.1 2, .array .int), (G.2.1 3, .boolean)]
def zPARTS (j : Nat) : Int := [0, 0, 2, 2, 2, 2, 2, 2, 3, 2, 2, 2, 2, 1].getD j 0
def zKS (j : Nat) : Int := [0, 0, 2, 2, 2, 2, 2, 2, 8, 9, 9, 11, 11, 13].getD j 0
def zKC (j : Nat) : Int := [2, 2, 6, 6, 6, 6, 6, 6, 1, 2, 2, 2, 2, 1].getD j 0
def fwZ2 (B : Nat) (ad : Nat → Nat) (V : State) (H0 : Heap) : Prop := va_T .int (ad 0) 14 (fun j => .int (iI (zPARTS j))) (fun q => B ≤ q) V H0 ∧ va_T .int (ad 1) 14 (fun j => .int (iI (zKS j))) (fun q => B ≤ q) V H0 ∧ va_T .int (ad 2) 14 (fun j => .int (iI (zKC j))) (fun q => B ≤ q) V H0
def fwZ (G : fw_G) (V : State) : Prop := va_Z RX9 "PARTS" "[I" (.ref (G.2.2.2.2 0)) (fun q => G.2.2.1 ≤ q) V G.2.2.2.1 ∧ va_Z RX9 "KIN_STARTS" "[I" (.ref (G.2.2.2.2 1)) (fun q => G.2.2.1 ≤ q) V G.2.2.2.1 ∧ va_Z RX9 "KIN_COUNTS" "[I" (.ref (G.2.2.2.2 2)) (fun q => G.2.2.1 ≤ q) V G.2.2.2.1 ∧ fwZ2 G.2.2.1 G.2.2.2.2 V G.2.2.2.1
/-- the heap holds the world; below the base nothing has changed -/
def fw_R (G : fw_G) (M : fw_M) (H : Heap) : Prop := G.2.2.1 ≤ H.size ∧ (∀ q : Nat, q < G.2.2.1 → H[q]? = G.2.2.2.1[q]?) ∧ ∀ (a : Nat) (e : va_E), M a = some e → va_at G.1 vwCl (a, e) H
/-- what the tables say, also once more entries are resolved -/
def fw_K (G : fw_G) (U : State) : Prop := ∀ V : State, U.WarmedH V.vm → va_K G.1 vwCl (fwTys G) V ∧ (∀ w ∈ fwT, ∀ A : Array Value, w.before A V = true) ∧ fwZ G V
theorem fw_K.of {G : fw_G} {s U : State} (h : fw_K G s) (hW : s.WarmedH U.vm) : fw_K G U := fun V hV => h V (State.WarmedH.trans hW hV)
theorem fw_K.me {G : fw_G} {s : State} (h : fw_K G s) : va_K G.1 vwCl (fwTys G) s ∧ (∀ w ∈ fwT, ∀ A : Array Value, w.before A s = true) ∧ fwZ G s := h s (State.WarmedH.refl s)
def fw_H (G : fw_G) (s : State) (M : fw_M) (H : Heap) (locs : List Loc) : Prop := fw_R G M H ∧ s.heap.size ≤ H.size ∧ ∀ q ∈ locs, G.2.2.1 ≤ q.base
def fw_P (G : fw_G) (M : fw_M) (n : Nat) (av : List Value) : Array Value → State → Prop := va_Pc av (fun U => U.heap.size = n ∧ fw_R G M U.heap ∧ fw_K G U)
def fw_Q (G : fw_G) (post : Option Value → fw_M → Nat → Prop) : Array Value → State → Outcome → State → Prop := fun _ st o t => ∃ (v : Option Value) (M1 : fw_M), o = .returned v ∧ post v M1 t.heap.size ∧ fw_R G M1 t.heap ∧ st.heap.size ≤ t.heap.size
/-- A CONTRACT -/
def fMet (l : Launch) (y : MethodName) (cc : ByteArray) (maxL : Nat) (ret : Option FieldType) (f lo mc ms : Nat) (G : fw_G) (M : fw_M) (n : Nat) (av : List Value) (post : Option Value → fw_M → Nat → Prop) : Prop :=
  Met l y [.code y cc maxL ret] ({ frames := f, cells := mc, slots := ms, locals := lo }) (fw_P G M n av) (fw_Q G post) mc ms (fun q => G.2.2.1 ≤ q)
def fw_pi (post : Int32 → fw_M → Nat → Prop) : Option Value → fw_M → Nat → Prop := fun v M n => ∃ r : Int32, v = some (.int r) ∧ post r M n
def fw_pl (post : Int64 → fw_M → Nat → Prop) : Option Value → fw_M → Nat → Prop := fun v M n => ∃ r : Int64, v = some (.long r) ∧ post r M n
def fw_pr (post : Nat → fw_M → Nat → Prop) : Option Value → fw_M → Nat → Prop := fun v M n => ∃ r : Nat, v = some (.ref r) ∧ post r M n
def fw_pd (post : UInt64 → fw_M → Nat → Prop) : Option Value → fw_M → Nat → Prop := fun v M n => ∃ r : UInt64, v = some (.double r) ∧ post r M n
def fw_pv (post : fw_M → Nat → Prop) : Option Value → fw_M → Nat → Prop := fun v M n => v = none ∧ post M n
def fw_up (M : fw_M) (a : Nat) (e : va_E) : fw_M := fun q => if q = a then some e else M q
theorem fw_up_eq {M : fw_M} {a : Nat} {e : va_E} : fw_up M a e a = some e := if_pos rfl
theorem fw_up_ne {M : fw_M} {a b : Nat} {e : va_E} (h : b ≠ a) : fw_up M a e b = M b := if_neg h
abbrev fI (G : fw_G) (n : Nat) (f : Nat → Int32) : va_E := .inl (G.2.1 0, n, .inl f)
abbrev fB (G : fw_G) (n : Nat) (f : Nat → Int32) : va_E := .inl (G.2.1 3, n, .inl f)
abbrev fJ (G : fw_G) (n : Nat) (f : Nat → Int64) : va_E := .inl (G.2.1 2, n, .inr (.inl f))
abbrev fT (G : fw_G) (n : Nat) (f : Nat → Option Nat) : va_E := .inl (G.2.1 1, n, .inr (.inr (.inr (.inr f))))
theorem fw_one {G : fw_G} {s : State} {M : fw_M} {H : Heap} {locs : List Loc} {a : Nat} {e : va_E} (hH : fw_H G s M H locs) (ha : M a = some e) : va_P G.1 vwCl [(a, e)] H := by
  intro k q hk
  have hz : k < 1 := (List.getElem?_eq_some_iff.mp hk).1
  rw [show k = 0 by omega] at hk
  cases hk
  exact hH.1.2.2 a e ha
theorem fw_H.up {G : fw_G} {s : State} {M : fw_M} {H H1 : Heap} {locs l2 : List Loc} {a : Nat} {e : va_E} (hH : fw_H G s M H locs) (hb : G.2.2.1 ≤ a) (he : va_at G.1 vwCl (a, e) H1) (hz : H1.size = H.size) (oq : ∀ q : Nat, q ≠ a → H1[q]? = H[q]?) (hl : ∀ q ∈ l2, q.base = a) : fw_H G s (fw_up M a e) H1 (locs ++ l2) := by
  obtain ⟨⟨h1, h2, h3⟩, h4, h5⟩ := hH
  refine ⟨⟨by omega, fun q hq => ?_, fun b e1 hb1 => ?_⟩, by omega, fun q hq => ?_⟩
  · rw [oq q (by omega)]; exact h2 q hq
  · by_cases hba : b = a
    · subst hba
      rw [fw_up_eq] at hb1
      cases hb1
      exact he
    · rw [fw_up_ne hba] at hb1
      exact (h3 b e1 hb1).kept (oq b hba)
  · rcases List.mem_append.mp hq with h | h
    · exact h5 q h
    · rw [hl q h]; exact hb
/-- a class of the worlds: its place, its words, its types, its names apart -/
def fw_C (ci : Nat) (C : String) (T : u_T) (N : Nat) (ty : Nat → FieldType) : Prop := vwCl[ci]? = some (C, T, N) ∧ (∀ w ∈ u_ws C T N, w ∈ fwT) ∧ (∀ k, k < N → parseFieldDescriptor (T k).2.2.1 = some (ty k)) ∧ ∀ a, a < N → ∀ b, b < N → a ≠ b → (T a).2.1 ≠ (T b).2.1
section FW
variable {p : Program} {l : Launch} {e : Env} {R : Room} {s : State} {m : MethodId} {args : Array Value} {below : List Frame} {meth : Method} {c : Code} {H : Heap} {locs : List Loc} {cells slots : Nat} {Q : State → Prop} {G : fw_G} {M : fw_M} {cc : ByteArray} {nL pc : Nat} {ls : Array Slot} {rest : List Value} {own : String}
theorem fw_get (E : CallFix p m c cc nL s args fwT own) (hK : fw_K G s) (hH : fw_H G s M H locs) {a ci N index : Nat} {C : String} {T : u_T} {ty : Nat → FieldType} {fs : List Value} {v : Value} (ha : M a = some (.inr (ci, fs))) (hc : fw_C ci C T N ty) (k : Nat) (hk : k < N) (q : Cond.fieldLink own index C (T k).2.1 (T k).2.2.1 ∈ fwT) (hC : (T k).1 = C) (hv : fs[k]? = some v) (hdg : decode cc pc = .ok (.getfield index, 3))
    (kk : W p l e R s m args below meth c H locs cells slots Q (F0 m (pc + 3) ls (v :: rest))) : W p l e R s m args below meth c H locs cells slots Q (F0 m pc ls (.ref a :: rest)) :=
  va_get (D := G.1) (cl := vwCl) (ws := [(a, .inr (ci, fs))]) (tys := fwTys G) E.1 E.2.1 E.2.2.2.2 hc.2.1 E.2.2.2.1 hK.me.1 (fw_one hH ha) 0 rfl hc.1 k hk (E.2.2.2.2 _ q) (by rw [hC]; exact fun _ h => h) hv hdg kk
theorem fw_getN (E : CallFix p m c cc nL s args fwT own) (hK : fw_K G s) (hH : fw_H G s M H locs) {a ci N index : Nat} {C host : String} {T : u_T} {ty : Nat → FieldType} {fs : List Value} {v : Value} (ha : M a = some (.inr (ci, fs))) (hc : fw_C ci C T N ty) (k : Nat) (hk : k < N) (q : Cond.fieldLinkNest own index C (T k).2.1 (T k).2.2.1 host ∈ fwT) (hC : (T k).1 = C) (hv : fs[k]? = some v) (hdg : decode cc pc = .ok (.getfield index, 3))
    (kk : W p l e R s m args below meth c H locs cells slots Q (F0 m (pc + 3) ls (v :: rest))) : W p l e R s m args below meth c H locs cells slots Q (F0 m pc ls (.ref a :: rest)) :=
  va_getN (D := G.1) (cl := vwCl) (ws := [(a, .inr (ci, fs))]) (tys := fwTys G) E.1 E.2.1 E.2.2.2.2 hc.2.1 E.2.2.2.1 hK.me.1 (fw_one hH ha) 0 rfl hc.1 k hk (E.2.2.2.2 _ q) (by rw [hC]; exact fun _ h => h) hv hdg kk
theorem fw_put (E : CallFix p m c cc nL s args fwT own) (hK : fw_K G s) (hH : fw_H G s M H locs) {a ci N index : Nat} {C : String} {T : u_T} {ty : Nat → FieldType} {fs : List Value} {v : Value} (hb : G.2.2.1 ≤ a) (ha : M a = some (.inr (ci, fs))) (hc : fw_C ci C T N ty) (k : Nat) (hk : k < N) (q : Cond.fieldLink own index C (T k).2.1 (T k).2.2.1 ∈ fwT) (hC : (T k).1 = C) (hfin : (T k).2.2.2 = false) (hn : narrow (ty k) v = v) (hfit : fits (ty k) v = true) (hl : k < fs.length) (hdg : decode cc pc = .ok (.putfield index, 3))
    (kk : ∀ (H1 : Heap) (locs1 : List Loc), fw_H G s (fw_up M a (.inr (ci, fs.set k v))) H1 locs1 → H1.size = H.size → W p l e R s m args below meth c H1 locs1 cells slots Q (F0 m (pc + 3) ls rest)) : W p l e R s m args below meth c H locs cells slots Q (F0 m pc ls (v :: .ref a :: rest)) := by
  obtain ⟨hx, hbc, -, hown, hts⟩ := E
  have hKs := hK.me.1
  have hap := va_apart (own := own) hts hc.2.1 ty hc.2.2.1 hc.2.2.2 hKs hc.1
  obtain ⟨r, h1, cell, q1, q2, q3, q4⟩ := hH.1.2.2 a _ ha
  have hr : r = (C, T, N) := Option.some.inj (h1.symm.trans hc.1)
  subst hr
  obtain ⟨hS, hfc, kC, hkC, hkind⟩ := hKs.1 ci _ hc.1
  obtain ⟨cf, kf, fi, f, hi, hsl⟩ := hS k hk
  have hlay := hts _ (hc.2.1 _ (u_in_lay hk))
  unfold u_lay at hlay
  rw [if_neg (by rw [hfin]; decide)] at hlay
  have hst := (u_facts hfc hkC (u_lays hts hc.2.1 hk) hi).1
  have h6 := u_store hfc hkC hkind hlay hi (hc.2.2.1 k hk) hn hfit
  refine W.putK hx hbc (f := f) ⟨hown, hts _ q, ⟨_, _, _, by rw [← hC]; exact hi⟩, hst⟩ (by rw [q2]; exact h6) q1 q3 (by rw [hsl]; exact k2_hasslot (q4 k hk)) rfl rfl hdg fun H' e1 e2 e3 => ?_
  rw [hsl] at e1 ⊢
  exact kk H' _ (hH.up hb ⟨_, hc.1, t_OB.to (V := updV (vp_V fs) k v) ⟨_, e1, q2, q3, t_set q4 hap hk v⟩ (fun j _ => vp_updV_set hl v j)⟩ e2 e3 (fun q hq => by rw [List.mem_singleton.mp hq])) e2
end FW
end
section
section FW2
variable {p : Program} {l : Launch} {e : Env} {R : Room} {s : State} {m : MethodId} {args : Array Value} {below : List Frame} {meth : Method} {c : Code} {H : Heap} {locs : List Loc} {cells slots : Nat} {Q : State → Prop} {G : fw_G} {M : fw_M} {cc : ByteArray} {nL pc : Nat} {ls : Array Slot} {rest : List Value} {own : String}
theorem fw_putN (E : CallFix p m c cc nL s args fwT own) (hK : fw_K G s) (hH : fw_H G s M H locs) {a ci N index : Nat} {C host : String} {T : u_T} {ty : Nat → FieldType} {fs : List Value} {v : Value} (hb : G.2.2.1 ≤ a) (ha : M a = some (.inr (ci, fs))) (hc : fw_C ci C T N ty) (k : Nat) (hk : k < N) (q : Cond.fieldLinkNest own index C (T k).2.1 (T k).2.2.1 host ∈ fwT) (hC : (T k).1 = C) (hfin : (T k).2.2.2 = false) (hn : narrow (ty k) v = v) (hfit : fits (ty k) v = true) (hl : k < fs.length) (hdg : decode cc pc = .ok (.putfield index, 3))
    (kk : ∀ (H1 : Heap) (locs1 : List Loc), fw_H G s (fw_up M a (.inr (ci, fs.set k v))) H1 locs1 → H1.size = H.size → W p l e R s m args below meth c H1 locs1 cells slots Q (F0 m (pc + 3) ls rest)) : W p l e R s m args below meth c H locs cells slots Q (F0 m pc ls (v :: .ref a :: rest)) := by
  obtain ⟨hx, hbc, -, hown, hts⟩ := E
  have hKs := hK.me.1
  have hap := va_apart (own := own) hts hc.2.1 ty hc.2.2.1 hc.2.2.2 hKs hc.1
  obtain ⟨r, h1, cell, q1, q2, q3, q4⟩ := hH.1.2.2 a _ ha
  have hr : r = (C, T, N) := Option.some.inj (h1.symm.trans hc.1)
  subst hr
  obtain ⟨hS, hfc, kC, hkC, hkind⟩ := hKs.1 ci _ hc.1
  obtain ⟨cf, kf, fi, f, hi, hsl⟩ := hS k hk
  have hlay := hts _ (hc.2.1 _ (u_in_lay hk))
  unfold u_lay at hlay
  rw [if_neg (by rw [hfin]; decide)] at hlay
  have hst := (u_facts hfc hkC (u_lays hts hc.2.1 hk) hi).1
  have h6 := u_store hfc hkC hkind hlay hi (hc.2.2.1 k hk) hn hfit
  refine va_WputK hx hbc (f := f) hown (hts _ q) (by rw [← hC]; exact hi) hst (by rw [q2]; exact h6) q1 q3 (by rw [hsl]; exact k2_hasslot (q4 k hk)) rfl rfl hdg fun H' e1 e2 e3 => ?_
  rw [hsl] at e1 ⊢
  exact kk H' _ (hH.up hb ⟨_, hc.1, t_OB.to (V := updV (vp_V fs) k v) ⟨_, e1, q2, q3, t_set q4 hap hk v⟩ (fun j _ => vp_updV_set hl v j)⟩ e2 e3 (fun q hq => by rw [List.mem_singleton.mp hq])) e2
/-- a final field, in its class's own constructor -/
theorem fw_putF (E : CallFix p m c cc nL s args fwT own) (hK : fw_K G s) (hH : fw_H G s M H locs) {a ci N index : Nat} {T : u_T} {ty : Nat → FieldType} {fs : List Value} {v : Value} (hb : G.2.2.1 ≤ a) (ha : M a = some (.inr (ci, fs))) (hc : fw_C ci own T N ty) (k : Nat) (hk : k < N) (q : Cond.fieldLink own index own (T k).2.1 (T k).2.2.1 ∈ fwT) (hC : (T k).1 = own) (hfin : (T k).2.2.2 = true) (hin2 : meth.name = "<init>") (hn : narrow (ty k) v = v) (hfit : fits (ty k) v = true) (hl : k < fs.length) (hdg : decode cc pc = .ok (.putfield index, 3))
    (kk : ∀ (H1 : Heap) (locs1 : List Loc), fw_H G s (fw_up M a (.inr (ci, fs.set k v))) H1 locs1 → H1.size = H.size → W p l e R s m args below meth c H1 locs1 cells slots Q (F0 m (pc + 3) ls rest)) : W p l e R s m args below meth c H locs cells slots Q (F0 m pc ls (v :: .ref a :: rest)) := by
  obtain ⟨hx, hbc, -, hown, hts⟩ := E
  have hKs := hK.me.1
  have hap := va_apart (own := own) hts hc.2.1 ty hc.2.2.1 hc.2.2.2 hKs hc.1
  obtain ⟨r, h1, cell, q1, q2, q3, q4⟩ := hH.1.2.2 a _ ha
  have hr : r = (own, T, N) := Option.some.inj (h1.symm.trans hc.1)
  subst hr
  obtain ⟨hS, hfc, kC, hkC, hkind⟩ := hKs.1 ci _ hc.1
  obtain ⟨cf, kf, fi, f, hi, hsl⟩ := hS k hk
  have hlay := hts _ (hc.2.1 _ (u_in_lay hk))
  unfold u_lay at hlay
  rw [if_pos hfin] at hlay
  have hst := (u_facts hfc hkC (u_lays hts hc.2.1 hk) hi).1
  have hcf : m.cls = cf := by
    obtain ⟨_, _, c', _, _, _, -, -, hf', -, -, -, hown2, -⟩ := Cond.laysFinal_spec hlay
    have e1 : c' = cf := by have := hi.symm.trans hf'; simp at this; exact this.1.symm
    rw [hC] at hown2
    rw [← e1]; exact Option.some.inj (hown.symm.trans hown2)
  have h6 := u_fits hfc hkC hkind (Or.inr hlay) hi (hc.2.2.1 k hk) hn hfit
  refine W.putFinK hx hbc hown (hts _ q) (by have h9 := hi; rw [hC] at h9; exact h9) hst hcf hin2 (by rw [q2]; exact h6) q1 q3 (by rw [hsl]; exact k2_hasslot (q4 k hk)) rfl rfl hdg fun H' e1 e2 e3 => ?_
  rw [hsl] at e1 ⊢
  exact kk H' _ (hH.up hb ⟨_, hc.1, t_OB.to (V := updV (vp_V fs) k v) ⟨_, e1, q2, q3, t_set q4 hap hk v⟩ (fun j _ => vp_updV_set hl v j)⟩ e2 e3 (fun q hq => by rw [List.mem_singleton.mp hq])) e2
theorem fw_iald (E : CallFix p m c cc nL s args fwT own) (hK : fw_K G s) (hH : fw_H G s M H locs) {a n : Nat} {f : Nat → Int32} {i : Int32} (ha : M a = some (fI G n f)) (hin : vp_in i n) (hdg : decode cc pc = .ok (.iaload, 1))
    (kk : W p l e R s m args below meth c H locs cells slots Q (F0 m (pc + 1) ls (.int (f i.toNatClampNeg) :: rest))) : W p l e R s m args below meth c H locs cells slots Q (F0 m pc ls (.int i :: .ref a :: rest)) :=
  va_iald (D := G.1) (cl := vwCl) (ws := [(a, fI G n f)]) (tys := fwTys G) E.1 E.2.1 hK.me.1 (fw_one hH ha) 0 0 rfl rfl hin hdg kk
theorem fw_alen (E : CallFix p m c cc nL s args fwT own) (hK : fw_K G s) (hH : fw_H G s M H locs) {a n : Nat} {f : Nat → Int32} (ha : M a = some (fI G n f)) (hdg : decode cc pc = .ok (.arraylength, 1))
    (kk : W p l e R s m args below meth c H locs cells slots Q (F0 m (pc + 1) ls (.int (nI n) :: rest))) : W p l e R s m args below meth c H locs cells slots Q (F0 m pc ls (.ref a :: rest)) :=
  va_alen (D := G.1) (cl := vwCl) (ws := [(a, fI G n f)]) (tys := fwTys G) E.1 E.2.1 hK.me.1 (fw_one hH ha) 0 0 rfl (ty := .int) rfl rfl hdg kk
theorem fw_alenT (E : CallFix p m c cc nL s args fwT own) (hK : fw_K G s) (hH : fw_H G s M H locs) {a n : Nat} {f : Nat → Option Nat} (ha : M a = some (fT G n f)) (hdg : decode cc pc = .ok (.arraylength, 1))
    (kk : W p l e R s m args below meth c H locs cells slots Q (F0 m (pc + 1) ls (.int (nI n) :: rest))) : W p l e R s m args below meth c H locs cells slots Q (F0 m pc ls (.ref a :: rest)) :=
  va_alen (D := G.1) (cl := vwCl) (ws := [(a, fT G n f)]) (tys := fwTys G) E.1 E.2.1 hK.me.1 (fw_one hH ha) 0 1 rfl (ty := .object RX8) rfl rfl hdg kk
theorem fw_aald (E : CallFix p m c cc nL s args fwT own) (hK : fw_K G s) (hH : fw_H G s M H locs) {a n : Nat} {f : Nat → Option Nat} {i : Int32} (ha : M a = some (fT G n f)) (hin : vp_in i n) (hdg : decode cc pc = .ok (.aaload, 1))
    (kk : W p l e R s m args below meth c H locs cells slots Q (F0 m (pc + 1) ls (va_rf (f i.toNatClampNeg) :: rest))) : W p l e R s m args below meth c H locs cells slots Q (F0 m pc ls (.int i :: .ref a :: rest)) :=
  va_aldq (D := G.1) (cl := vwCl) (ws := [(a, fT G n f)]) (tys := fwTys G) (C := RX8) E.1 E.2.1 hK.me.1 (fw_one hH ha) 0 1 rfl rfl hin hdg kk
theorem fw_iast (E : CallFix p m c cc nL s args fwT own) (hK : fw_K G s) (hH : fw_H G s M H locs) {a n : Nat} {f : Nat → Int32} {i x : Int32} (hb : G.2.2.1 ≤ a) (ha : M a = some (fI G n f)) (hin : vp_in i n) (hdg : decode cc pc = .ok (.iastore, 1))
    (kk : ∀ (H1 : Heap) (locs1 : List Loc), fw_H G s (fw_up M a (fI G n (upd f i.toNatClampNeg x))) H1 locs1 → H1.size = H.size → W p l e R s m args below meth c H1 locs1 cells slots Q (F0 m (pc + 1) ls rest)) : W p l e R s m args below meth c H locs cells slots Q (F0 m pc ls (.int x :: .int i :: .ref a :: rest)) := by
  have ha1 : H[a]? = some (vp_cell (G.2.1 0) (n, .inl f)) := hH.1.2.2 a _ ha
  refine W.iast E.1 E.2.1 ha1 ((hK.me.1.2 0 (G.2.1 0, .int) rfl).1 n (fun j => .int (f j))) (fun q => by cases q) (by show ¬ (i < 0 ∨ (arrV _ _ _).slots.size ≤ _); rw [arrV_size]; exact hin) rfl rfl hdg fun H1 e z oq => ?_
  refine kk H1 _ (hH.up hb ?_ z oq (fun q hq => by rw [List.mem_singleton.mp hq])) z
  show H1[a]? = some (vp_cell _ _)
  rw [e]
  rw [vp_cell_i, vp_cell_i, arrV_store]
  congr 2
  funext q
  by_cases hq : q = i.toNatClampNeg
  · subst hq
    simp [updV, upd]
  · simp [updV, upd, hq]
theorem fw_gets (E : CallFix p m c cc nL s args fwT own) (hH : fw_H G s M H locs) {C n d : String} {v : Value} {index : Nat} (hZ : va_Z C n d v (fun q => G.2.2.1 ≤ q) s G.2.2.2.1) (q : Cond.fieldLink own index C n d ∈ fwT) (hdg : decode cc pc = .ok (.getstatic index, 3))
    (kk : W p l e R s m args below meth c H locs cells slots Q (F0 m (pc + 3) ls (v :: rest))) : W p l e R s m args below meth c H locs cells slots Q (F0 m pc ls rest) := by
  obtain ⟨cf, kf, fi, f, a, cell, h1, h2, h3, h4, h5, h6, h7, h8⟩ := hZ
  exact W.gets E.1 E.2.1 E.2.2.2.1 (E.2.2.2.2 _ q) h1 h2 h3 h4 (by rw [hH.1.2.1 a (Nat.not_le.mp h8)]; exact h5) (fun e => by rw [e] at h6; cases h6) h7 rfl hdg kk
theorem fw_getsN (E : CallFix p m c cc nL s args fwT own) (hH : fw_H G s M H locs) {C n d host : String} {v : Value} {index : Nat} (hZ : va_Z C n d v (fun q => G.2.2.1 ≤ q) s G.2.2.2.1) (q : Cond.fieldLinkNest own index C n d host ∈ fwT) (hdg : decode cc pc = .ok (.getstatic index, 3))
    (kk : W p l e R s m args below meth c H locs cells slots Q (F0 m (pc + 3) ls (v :: rest))) : W p l e R s m args below meth c H locs cells slots Q (F0 m pc ls rest) := by
  obtain ⟨cf, kf, fi, f, a, cell, h1, h2, h3, h4, h5, h6, h7, h8⟩ := hZ
  exact va_WgetsN E.1 E.2.1 E.2.2.2.1 (E.2.2.2.2 _ q) h1 h2 h3 h4 (by rw [hH.1.2.1 a (Nat.not_le.mp h8)]; exact h5) (fun e => by rw [e] at h6; cases h6) h7 rfl hdg kk
/-- a call, run: what comes back -/
theorem fw_ret {post : Option Value → fw_M → Nat → Prop} {mc ms : Nat} {st0 : List Value} {a : Array Value} (hr : va_Run p l e R s m args below meth c H locs cells slots mc ms (F0 m pc ls st0) rest (fw_Q G post a) (fun q => G.2.2.1 ≤ q)) (hH : fw_H G s M H locs)
    (kk : ∀ (v : Option Value) (M1 : fw_M) (H1 : Heap) (locs1 : List Loc), post v M1 H1.size → fw_H G s M1 H1 locs1 → H.size ≤ H1.size → W p l e R s m args below meth c H1 locs1 (cells + mc) (slots + ms) Q (F0 m (pc + 3) ls (v.toList ++ rest))) : W p l e R s m args below meth c H locs cells slots Q (F0 m pc ls st0) := by
  intro T hT X
  obtain ⟨v, st₀, t, T', L, h0, X', hL, e1, e2, ⟨v1, M1, hv, hp, hR, hz⟩, st⟩ := hr T hT X
  cases hv
  rw [h0] at hz
  obtain ⟨t2, a1, b1⟩ := kk v M1 T'.heap (locs ++ L) (by rw [e1]; exact hp) ⟨by rw [e1]; exact hR, by rw [e1]; exact Nat.le_trans hH.2.1 hz, fun q hq => by
      rcases List.mem_append.mp hq with h | h
      · exact hH.2.2 q h
      · exact hL q h⟩ (by rw [e1]; exact hz) T' rfl X'
  exact ⟨t2, st t2 a1, b1⟩
/-- a callee's start, at the caller's heap -/
theorem fw_blind {n : Nat} {av : List Value} : FrameBlind (fw_P G M n av) := fun _ U g mk q => ⟨q.1, q.2.1, q.2.2.1, fun V hV => q.2.2.2 V (State.WarmedH.of_rootvm (u := U) (s := U.calling g mk _) rfl hV)⟩
theorem fw_at (hK : fw_K G s) (hH : fw_H G s M H locs) {av : List Value} {U : State} (hU : U.heap = H) (hW : s.WarmedH U.vm) : fw_P G M H.size av av.toArray U := ⟨rfl, by rw [hU], by rw [hU]; exact hH.1, hK.of hW⟩
/-- a link's words -/
def fw_L0 (y : MethodName) (bytes : ByteArray) (maxL : Nat) (ret : Option FieldType) (n : Nat) : Prop := Cond.initialized y.cls ∈ fwT ∧ Cond.code y bytes maxL ret ∈ fwT ∧ fwOk (Cond.code y bytes maxL ret) = true ∧ y.cls ≠ "java/lang/invoke/MethodHandle" ∧ y.cls ≠ "java/lang/invoke/VarHandle" ∧ (parseMethodDescriptor y.desc).map (fun d => d.parameters.length) = some n
theorem fw_callB (hts : ∀ w ∈ fwT, ∀ A : Array Value, w.before A s = true) (hW : ∀ U : State, s.WarmedH U.vm → ∀ w ∈ fwT, ∀ A : Array Value, w.before A U = true) {y : MethodName} {bytes : ByteArray} {maxL n index f lo mc ms : Nat} {ret : Option FieldType} (L : fw_L0 y bytes maxL ret n) (hl : Cond.methodLink own index y ∈ fwT) (hR : f + 1 ≤ R.frames ∧ 8 + (maxL + 11) + lo ≤ R.locals) :
    CallB R s args own index y bytes maxL ret [.code y bytes maxL ret] ({ frames := f, cells := mc, slots := ms, locals := lo }) mc ms n :=
  ⟨rfl, rfl, hR.1, hR.2, fun w hw a' U hU => by rw [List.mem_singleton.mp hw]; exact hW U hU _ L.2.1 _, List.mem_singleton.mpr rfl, hts _ L.2.1 _, hts _ L.1 _, ⟨L.2.2.2.1, L.2.2.2.2.1⟩, fun sig h => by have h2 := L.2.2.2.2.2; rw [h] at h2; exact (Option.some.inj h2).symm, hts _ hl _⟩
theorem fw_callN (hts : ∀ w ∈ fwT, ∀ A : Array Value, w.before A s = true) (hW : ∀ U : State, s.WarmedH U.vm → ∀ w ∈ fwT, ∀ A : Array Value, w.before A U = true) {y : MethodName} {bytes : ByteArray} {maxL n index f lo mc ms : Nat} {host : String} {ret : Option FieldType} (L : fw_L0 y bytes maxL ret n) (hl : Cond.methodLinkNest own index y host ∈ fwT) (hR : f + 1 ≤ R.frames ∧ 8 + (maxL + 11) + lo ≤ R.locals) :
    va_CN R s args own index y host bytes maxL ret [.code y bytes maxL ret] ({ frames := f, cells := mc, slots := ms, locals := lo }) mc ms n :=
  ⟨⟨rfl, rfl, hR.1, hR.2, fun w hw a' U hU => by rw [List.mem_singleton.mp hw]; exact hW U hU _ L.2.1 _, List.mem_singleton.mpr rfl⟩, hts _ L.2.1 _, hts _ L.1 _, ⟨L.2.2.2.1, L.2.2.2.2.1⟩, fun sig h => by have h2 := L.2.2.2.2.2; rw [h] at h2; exact (Option.some.inj h2).symm, hts _ hl _⟩
variable {y : MethodName} {bytes : ByteArray} {maxL n index f lo mc ms : Nat} {ret : Option FieldType} {host : String} {post : Option Value → fw_M → Nat → Prop} {As st0 : List Value} {lv : List (Nat × Value)}
theorem fw_cS (E : CallFix p m c cc nL s args fwT own) (hK : fw_K G s) (hH : fw_H G s M H locs) (hl : lv_has ls nL lv) (L : fw_L0 y bytes maxL ret n) (q : Cond.methodLink own index y ∈ fwT) (q2 : Cond.static y ∈ fwT) (hM : fMet l y bytes maxL ret f lo mc ms G M H.size As post) (hst : st0 = As.reverse ++ rest) (hn : As.length = n) (hrm : (rest.map fun v => v.category).sum ≤ 8) (hR : f + 1 ≤ R.frames ∧ 8 + (maxL + 11) + lo ≤ R.locals) (hf : cells + mc ≤ R.cells ∧ slots + ms ≤ R.slots) (hdg : decode cc pc = .ok (.invokestatic index, 3))
    (kk : ∀ (v : Option Value) (M1 : fw_M) (H1 : Heap) (locs1 : List Loc), post v M1 H1.size → fw_H G s M1 H1 locs1 → H.size ≤ H1.size → W p l e R s m args below meth c H1 locs1 (cells + mc) (slots + ms) Q (F0 m (pc + 3) ls (v.toList ++ rest))) : W p l e R s m args below meth c H locs cells slots Q (F0 m pc ls st0) :=
  fw_ret (va_runS (As := As) (rest := rest) E hM ⟨fw_callB hK.me.2.1 (fun U hU => (hK.of hU).me.2.1) L q hR, hK.me.2.1 _ q2 _⟩ ⟨fw_blind, fun U hU hW => fw_at hK hH hU hW⟩ rfl hn hl.1 hst (lv_room hrm) hdg hf) hH kk
theorem fw_cSN (E : CallFix p m c cc nL s args fwT own) (hK : fw_K G s) (hH : fw_H G s M H locs) (hl : lv_has ls nL lv) (L : fw_L0 y bytes maxL ret n) (q : Cond.methodLinkNest own index y host ∈ fwT) (q2 : Cond.static y ∈ fwT) (hM : fMet l y bytes maxL ret f lo mc ms G M H.size As post) (hst : st0 = As.reverse ++ rest) (hn : As.length = n) (hrm : (rest.map fun v => v.category).sum ≤ 8) (hR : f + 1 ≤ R.frames ∧ 8 + (maxL + 11) + lo ≤ R.locals) (hf : cells + mc ≤ R.cells ∧ slots + ms ≤ R.slots) (hdg : decode cc pc = .ok (.invokestatic index, 3))
    (kk : ∀ (v : Option Value) (M1 : fw_M) (H1 : Heap) (locs1 : List Loc), post v M1 H1.size → fw_H G s M1 H1 locs1 → H.size ≤ H1.size → W p l e R s m args below meth c H1 locs1 (cells + mc) (slots + ms) Q (F0 m (pc + 3) ls (v.toList ++ rest))) : W p l e R s m args below meth c H locs cells slots Q (F0 m pc ls st0) :=
  fw_ret (va_runSN (As := As) (rest := rest) E hM ⟨fw_callN hK.me.2.1 (fun U hU => (hK.of hU).me.2.1) L q hR, hK.me.2.1 _ q2 _, trivial⟩ ⟨fw_blind, fun U hU hW => fw_at hK hH hU hW⟩ rfl hn hl.1 hst (lv_room hrm) hdg hf) hH kk
theorem fw_recv (hK : fw_K G s) (hH : fw_H G s M H locs) {a ci N : Nat} {C : String} {T : u_T} {ty : Nat → FieldType} {fs : List Value} (ha : M a = some (.inr (ci, fs))) (hc : fw_C ci C T N ty) : ∃ cellB : Cell, H[a]? = some cellB ∧ cellB.vm.isStatics = false ∧ s.vm.findClass C = some cellB.cls :=
  va_recv hK.me.1 (fw_one hH ha) hc.1 (q0 := 0) rfl
theorem fw_cV (E : CallFix p m c cc nL s args fwT own) (hK : fw_K G s) (hH : fw_H G s M H locs) (hl : lv_has ls nL lv) {a ci N : Nat} {T : u_T} {ty : Nat → FieldType} {fs : List Value} (ha : M a = some (.inr (ci, fs))) (hc : fw_C ci y.cls T N ty) (L : fw_L0 y bytes maxL ret n) (q : Cond.methodLink own index y ∈ fwT) (q2 : Cond.instanceMethod y ∈ fwT) (q3 : Cond.selects y.cls y y ∈ fwT) (hM : fMet l y bytes maxL ret f lo mc ms G M H.size (.ref a :: As) post) (hst : st0 = As.reverse ++ .ref a :: rest) (hn : As.length = n) (hrm : (rest.map fun v => v.category).sum ≤ 8) (hR : f + 1 ≤ R.frames ∧ 8 + (maxL + 11) + lo ≤ R.locals) (hf : cells + mc ≤ R.cells ∧ slots + ms ≤ R.slots) (hdg : decode cc pc = .ok (.invokevirtual index, 3))
    (kk : ∀ (v : Option Value) (M1 : fw_M) (H1 : Heap) (locs1 : List Loc), post v M1 H1.size → fw_H G s M1 H1 locs1 → H.size ≤ H1.size → W p l e R s m args below meth c H1 locs1 (cells + mc) (slots + ms) Q (F0 m (pc + 3) ls (v.toList ++ rest))) : W p l e R s m args below meth c H locs cells slots Q (F0 m pc ls st0) :=
  fw_ret (va_runV (As := As) (rest := rest) E hM ⟨fw_callB hK.me.2.1 (fun U hU => (hK.of hU).me.2.1) L q hR, hK.me.2.1 _ q2 _, hK.me.2.1 _ q3 _⟩ ⟨fw_blind, fw_recv hK hH ha hc, fun U hU hW => fw_at hK hH hU hW⟩ rfl hn hl.1 hst (lv_room hrm) hdg hf) hH kk
theorem fw_cVN (E : CallFix p m c cc nL s args fwT own) (hK : fw_K G s) (hH : fw_H G s M H locs) (hl : lv_has ls nL lv) {a ci N : Nat} {T : u_T} {ty : Nat → FieldType} {fs : List Value} (ha : M a = some (.inr (ci, fs))) (hc : fw_C ci y.cls T N ty) (L : fw_L0 y bytes maxL ret n) (q : Cond.methodLinkNest own index y host ∈ fwT) (q2 : Cond.instanceMethod y ∈ fwT) (q3 : Cond.selects y.cls y y ∈ fwT) (hM : fMet l y bytes maxL ret f lo mc ms G M H.size (.ref a :: As) post) (hst : st0 = As.reverse ++ .ref a :: rest) (hn : As.length = n) (hrm : (rest.map fun v => v.category).sum ≤ 8) (hR : f + 1 ≤ R.frames ∧ 8 + (maxL + 11) + lo ≤ R.locals) (hf : cells + mc ≤ R.cells ∧ slots + ms ≤ R.slots) (hdg : decode cc pc = .ok (.invokevirtual index, 3))
    (kk : ∀ (v : Option Value) (M1 : fw_M) (H1 : Heap) (locs1 : List Loc), post v M1 H1.size → fw_H G s M1 H1 locs1 → H.size ≤ H1.size → W p l e R s m args below meth c H1 locs1 (cells + mc) (slots + ms) Q (F0 m (pc + 3) ls (v.toList ++ rest))) : W p l e R s m args below meth c H locs cells slots Q (F0 m pc ls st0) :=
  fw_ret (va_runVN (As := As) (rest := rest) E hM ⟨fw_callN hK.me.2.1 (fun U hU => (hK.of hU).me.2.1) L q hR, hK.me.2.1 _ q2 _, hK.me.2.1 _ q3 _⟩ ⟨fw_blind, fw_recv hK hH ha hc, fun U hU hW => fw_at hK hH hU hW⟩ rfl hn hl.1 hst (lv_room hrm) hdg hf) hH kk
theorem fw_cI (E : CallFix p m c cc nL s args fwT own) (hK : fw_K G s) (hH : fw_H G s M H locs) (hl : lv_has ls nL lv) {a : Nat} (L : fw_L0 y bytes maxL none n) (hy : y.name = "<init>") (q : Cond.methodLink own index y ∈ fwT) (q2 : Cond.instanceMethod y ∈ fwT) (hM : fMet l y bytes maxL none f lo mc ms G M H.size (.ref a :: As) post) (hst : st0 = As.reverse ++ .ref a :: rest) (hn : As.length = n) (hrm : (rest.map fun v => v.category).sum ≤ 8) (hR : f + 1 ≤ R.frames ∧ 8 + (maxL + 11) + lo ≤ R.locals) (hf : cells + mc ≤ R.cells ∧ slots + ms ≤ R.slots) (hdg : decode cc pc = .ok (.invokespecial index, 3))
    (kk : ∀ (v : Option Value) (M1 : fw_M) (H1 : Heap) (locs1 : List Loc), post v M1 H1.size → fw_H G s M1 H1 locs1 → H.size ≤ H1.size → W p l e R s m args below meth c H1 locs1 (cells + mc) (slots + ms) Q (F0 m (pc + 3) ls (v.toList ++ rest))) : W p l e R s m args below meth c H locs cells slots Q (F0 m pc ls st0) :=
  fw_ret (va_runI (As := As) (rest := rest) E hM ⟨fw_callB hK.me.2.1 (fun U hU => (hK.of hU).me.2.1) L q hR, hy, hK.me.2.1 _ q2 _⟩ ⟨fw_blind, fun U hU hW => fw_at hK hH hU hW⟩ rfl hn hl.1 hst (lv_room hrm) hdg hf) hH kk
theorem fw_cIN (E : CallFix p m c cc nL s args fwT own) (hK : fw_K G s) (hH : fw_H G s M H locs) (hl : lv_has ls nL lv) {a : Nat} (L : fw_L0 y bytes maxL none n) (hy : y.name = "<init>") (q : Cond.methodLinkNest own index y host ∈ fwT) (q2 : Cond.instanceMethod y ∈ fwT) (hM : fMet l y bytes maxL none f lo mc ms G M H.size (.ref a :: As) post) (hst : st0 = As.reverse ++ .ref a :: rest) (hn : As.length = n) (hrm : (rest.map fun v => v.category).sum ≤ 8) (hR : f + 1 ≤ R.frames ∧ 8 + (maxL + 11) + lo ≤ R.locals) (hf : cells + mc ≤ R.cells ∧ slots + ms ≤ R.slots) (hdg : decode cc pc = .ok (.invokespecial index, 3))
    (kk : ∀ (v : Option Value) (M1 : fw_M) (H1 : Heap) (locs1 : List Loc), post v M1 H1.size → fw_H G s M1 H1 locs1 → H.size ≤ H1.size → W p l e R s m args below meth c H1 locs1 (cells + mc) (slots + ms) Q (F0 m (pc + 3) ls (v.toList ++ rest))) : W p l e R s m args below meth c H locs cells slots Q (F0 m pc ls st0) :=
  fw_ret (va_runIN (As := As) (rest := rest) E hM ⟨fw_callN hK.me.2.1 (fun U hU => (hK.of hU).me.2.1) L q hR, hy, hK.me.2.1 _ q2 _⟩ ⟨fw_blind, fun U hU hW => fw_at hK hH hU hW⟩ rfl hn hl.1 hst (lv_room hrm) hdg hf) hH kk
/-- the ends -/
theorem fw_iret (E : CallFix p m c cc nL s args fwT own) (hr : meth.sig.returnType = some .int) (hlk : meth.locks = false) (hH : fw_H G s M H locs) {r : Int32} {post : Int32 → fw_M → Nat → Prop} (hp : post r M H.size) (hdg : decode cc pc = .ok (.ireturn, 1)) : W p l e R s m args below meth c H locs cells slots (MQ below (fw_Q G (fw_pi post)) args s cells slots (fun q => G.2.2.1 ≤ q)) (F0 m pc ls [.int r]) :=
  W.iret (v := r) E.1 E.2.1 hr (fun t ht _ => ⟨_, M, rfl, ⟨r, rfl, by rw [ht]; exact hp⟩, by rw [ht]; exact hH.1, by rw [ht]; exact hH.2.1⟩) hH.2.2 hdg hlk
theorem fw_zret (E : CallFix p m c cc nL s args fwT own) {ty : FieldType} (hr : meth.sig.returnType = some ty) (hlk : meth.locks = false) (hH : fw_H G s M H locs) {r : Int32} {post : Int32 → fw_M → Nat → Prop} (hn : narrow ty (.int r) = .int r) (hp : post r M H.size) (hdg : decode cc pc = .ok (.ireturn, 1)) : W p l e R s m args below meth c H locs cells slots (MQ below (fw_Q G (fw_pi post)) args s cells slots (fun q => G.2.2.1 ≤ q)) (F0 m pc ls [.int r]) :=
  W.zret (v := r) (ty := ty) E.1 E.2.1 hr hn (fun t ht _ => ⟨_, M, rfl, ⟨r, rfl, by rw [ht]; exact hp⟩, by rw [ht]; exact hH.1, by rw [ht]; exact hH.2.1⟩) hH.2.2 hdg hlk
theorem fw_vret (E : CallFix p m c cc nL s args fwT own) (hr : meth.sig.returnType = none) (hlk : meth.locks = false) (hH : fw_H G s M H locs) {post : fw_M → Nat → Prop} (hp : post M H.size) (hdg : decode cc pc = .ok (.return_, 1)) : W p l e R s m args below meth c H locs cells slots (MQ below (fw_Q G (fw_pv post)) args s cells slots (fun q => G.2.2.1 ≤ q)) (F0 m pc ls []) :=
  W.vret E.1 E.2.1 hr (fun t ht _ => ⟨_, M, rfl, ⟨rfl, by rw [ht]; exact hp⟩, by rw [ht]; exact hH.1, by rw [ht]; exact hH.2.1⟩) hH.2.2 hdg hlk
theorem fw_lret (E : CallFix p m c cc nL s args fwT own) (hr : meth.sig.returnType = some .long) (hlk : meth.locks = false) (hH : fw_H G s M H locs) {r : Int64} {post : Int64 → fw_M → Nat → Prop} (hp : post r M H.size) (hdg : decode cc pc = .ok (.lreturn, 1)) : W p l e R s m args below meth c H locs cells slots (MQ below (fw_Q G (fw_pl post)) args s cells slots (fun q => G.2.2.1 ≤ q)) (F0 m pc ls [.long r]) :=
  W.lret (v := r) E.1 E.2.1 hr (fun t ht _ => ⟨_, M, rfl, ⟨r, rfl, by rw [ht]; exact hp⟩, by rw [ht]; exact hH.1, by rw [ht]; exact hH.2.1⟩) hH.2.2 hdg hlk
theorem fw_aret (E : CallFix p m c cc nL s args fwT own) {rt : FieldType} (hr : meth.sig.returnType = some rt) (hrt : (∃ n, rt = .object n) ∨ ∃ t, rt = .array t) (hlk : meth.locks = false) (hH : fw_H G s M H locs) {r : Nat} {post : Nat → fw_M → Nat → Prop} (hp : post r M H.size) (hdg : decode cc pc = .ok (.areturn, 1)) : W p l e R s m args below meth c H locs cells slots (MQ below (fw_Q G (fw_pr post)) args s cells slots (fun q => G.2.2.1 ≤ q)) (F0 m pc ls [.ref r]) :=
  W.aret (v := .ref r) E.1 E.2.1 hr hrt (Or.inr ⟨r, rfl⟩) (fun t ht _ => ⟨_, M, rfl, ⟨r, rfl, by rw [ht]; exact hp⟩, by rw [ht]; exact hH.1, by rw [ht]; exact hH.2.1⟩) hH.2.2 hdg hlk
/-- what comes back, by its kind -/
theorem fw_ki {post : Int32 → fw_M → Nat → Prop} {n0 : Nat} (h : ∀ (r : Int32) (M1 : fw_M) (H1 : Heap) (locs1 : List Loc), post r M1 H1.size → fw_H G s M1 H1 locs1 → n0 ≤ H1.size → W p l e R s m args below meth c H1 locs1 cells slots Q (F0 m pc ls (.int r :: rest))) : ∀ (v : Option Value) (M1 : fw_M) (H1 : Heap) (locs1 : List Loc), fw_pi post v M1 H1.size → fw_H G s M1 H1 locs1 → n0 ≤ H1.size → W p l e R s m args below meth c H1 locs1 cells slots Q (F0 m pc ls (v.toList ++ rest)) := by
  rintro v M1 H1 locs1 ⟨r, rfl, hp⟩ hH hz
  exact h r M1 H1 locs1 hp hH hz
theorem fw_kl {post : Int64 → fw_M → Nat → Prop} {n0 : Nat} (h : ∀ (r : Int64) (M1 : fw_M) (H1 : Heap) (locs1 : List Loc), post r M1 H1.size → fw_H G s M1 H1 locs1 → n0 ≤ H1.size → W p l e R s m args below meth c H1 locs1 cells slots Q (F0 m pc ls (.long r :: rest))) : ∀ (v : Option Value) (M1 : fw_M) (H1 : Heap) (locs1 : List Loc), fw_pl post v M1 H1.size → fw_H G s M1 H1 locs1 → n0 ≤ H1.size → W p l e R s m args below meth c H1 locs1 cells slots Q (F0 m pc ls (v.toList ++ rest)) := by
  rintro v M1 H1 locs1 ⟨r, rfl, hp⟩ hH hz
  exact h r M1 H1 locs1 hp hH hz
theorem fw_kr {post : Nat → fw_M → Nat → Prop} {n0 : Nat} (h : ∀ (r : Nat) (M1 : fw_M) (H1 : Heap) (locs1 : List Loc), post r M1 H1.size → fw_H G s M1 H1 locs1 → n0 ≤ H1.size → W p l e R s m args below meth c H1 locs1 cells slots Q (F0 m pc ls (.ref r :: rest))) : ∀ (v : Option Value) (M1 : fw_M) (H1 : Heap) (locs1 : List Loc), fw_pr post v M1 H1.size → fw_H G s M1 H1 locs1 → n0 ≤ H1.size → W p l e R s m args below meth c H1 locs1 cells slots Q (F0 m pc ls (v.toList ++ rest)) := by
  rintro v M1 H1 locs1 ⟨r, rfl, hp⟩ hH hz
  exact h r M1 H1 locs1 hp hH hz
theorem fw_kv {post : fw_M → Nat → Prop} {n0 : Nat} (h : ∀ (M1 : fw_M) (H1 : Heap) (locs1 : List Loc), post M1 H1.size → fw_H G s M1 H1 locs1 → n0 ≤ H1.size → W p l e R s m args below meth c H1 locs1 cells slots Q (F0 m pc ls rest)) : ∀ (v : Option Value) (M1 : fw_M) (H1 : Heap) (locs1 : List Loc), fw_pv post v M1 H1.size → fw_H G s M1 H1 locs1 → n0 ≤ H1.size → W p l e R s m args below meth c H1 locs1 cells slots Q (F0 m pc ls (v.toList ++ rest)) := by
  rintro v M1 H1 locs1 ⟨rfl, hp⟩ hH hz
  exact h M1 H1 locs1 hp hH hz
end FW2
/-- a method's proof, from its entry -/
theorem fw_met {l : Launch} {y : MethodName} {cc : ByteArray} {maxL f lo mc ms n : Nat} {ret : Option FieldType} {G : fw_G} {M : fw_M} {av : List Value} {post : Option Value → fw_M → Nat → Prop} (own : String) (ho : y.cls = own) (hy : plainName y.cls = true) (hlen : (lg_sl av).length ≤ maxL)
    (body : ∀ (p : Program) (e : Env) (s : State) (m : MethodId) (args : Array Value) (below : List Frame) (meth : Method) (c : Code) (ls : Array Slot), CallFix p m c cc maxL s args fwT own → meth.sig.returnType = ret → meth.locks = false → meth.name = y.name → fw_K G s → fw_H G s M s.heap [] → s.heap.size = n → lv_has ls maxL (lv_args 0 av) →
      W p l e ({ frames := f, cells := mc, slots := ms, locals := lo }) s m args below meth c s.heap [] 0 0 (MQ below (fw_Q G post) args s mc ms (fun q => G.2.2.1 ≤ q)) (F0 m 0 ls [])) : fMet l y cc maxL ret f lo mc ms G M n av post := by
  refine Met.ofW (cc := cc) (maxL := maxL) (ret := ret) hy rfl ?_
  intro p e s m args below meth c s₁ B hml hv
  obtain ⟨rfl, hsz, hR, hK⟩ := hv
  have hl := lv_entry av (n := maxL) hlen
  rw [lg_entry_eq]
  exact body p e s m _ below meth c _ ⟨B.exec, B.bytes, hml, by rw [← ho]; exact findClass_of_methodNamed B.named, fun w hw => hK.me.2.1 w hw _⟩ B.returns B.notSynchronized (name_of_methodNamed B.named B.method).1 hK ⟨hR, Nat.le_refl _, fun q hq => by cases hq⟩ hsz hl
end
section
theorem fw_R.push {G : fw_G} {M : fw_M} {H H1 : Heap} {e : va_E} (hR : fw_R G M H) (he : va_at G.1 vwCl (H.size, e) H1) (hz : H1.size = H.size + 1) (oq : ∀ q : Nat, q < H.size → H1[q]? = H[q]?) : fw_R G (fw_up M H.size e) H1 := by
  obtain ⟨h1, h2, h3⟩ := hR
  refine ⟨by omega, fun q hq => ?_, fun b e1 hb1 => ?_⟩
  · rw [oq q (by omega)]; exact h2 q hq
  · by_cases hba : b = H.size
    · subst hba
      rw [fw_up_eq] at hb1
      cases hb1
      exact he
    · rw [fw_up_ne hba] at hb1
      exact (h3 b e1 hb1).kept (oq b (h3 b e1 hb1).lt)
section FW3
variable {p : Program} {l : Launch} {e : Env} {R : Room} {s : State} {m : MethodId} {args : Array Value} {below : List Frame} {meth : Method} {c : Code} {H : Heap} {locs : List Loc} {cells slots : Nat} {Q : State → Prop} {G : fw_G} {M : fw_M} {cc : ByteArray} {nL pc : Nat} {ls : Array Slot} {rest : List Value} {own : String}
theorem fw_new (E : CallFix p m c cc nL s args fwT own) (hK : fw_K G s) (hH : fw_H G s M H locs) {a : Nat} (hz : H.size = a) {ci N index : Nat} {C : String} {T : u_T} {ty : Nat → FieldType} {fs : List Value} (hc : fw_C ci C T N ty) (q : Cond.classLink own index C ∈ fwT) (q2 : Cond.instantiable C N ∈ fwT) (q3 : Cond.initialized C ∈ fwT) (hfs : ∀ j, j < N → defaultValue (ty j) = vp_V fs j) (hf : cells + 1 ≤ R.cells ∧ slots + N ≤ R.slots) (hdg : decode cc pc = .ok (.new index, 3))
    (kk : ∀ (H1 : Heap), fw_H G s (fw_up M a (.inr (ci, fs))) H1 locs → H1.size = a + 1 → W p l e R s m args below meth c H1 locs (cells + 1) (slots + N) Q (F0 m (pc + 3) ls (.ref a :: rest))) : W p l e R s m args below meth c H locs cells slots Q (F0 m pc ls rest) := by
  subst hz
  have hKn := hK.me.1.1 ci _ hc.1
  refine W.newcK E.1 E.2.1 E.2.2.2.1 (E.2.2.2.2 _ q) (E.2.2.2.2 _ q2) (E.2.2.2.2 _ q3) rfl hdg hf.1 hf.2 hKn.2.1 rfl fun H1 kC hkC e1 z1 o1 => ?_
  exact kk H1 ⟨hH.1.push ⟨_, hc.1, (u_born ty E.2.2.2.2 hc.2.1 hKn hkC e1 hc.2.2.1).to hfs⟩ z1 o1, by have := hH.2.1; omega, hH.2.2⟩ z1
theorem fw_newI (E : CallFix p m c cc nL s args fwT own) (hK : fw_K G s) (hH : fw_H G s M H locs) {a : Nat} (hz : H.size = a) {n : Int32} {N : Nat} (q : Cond.arrayClass .int ∈ fwT) (hn : ¬ n < 0) (hN : n.toNatClampNeg = N) (hbytes : N * componentBytes .int ≤ 536870912) (hf : cells + 1 ≤ R.cells ∧ slots + N ≤ R.slots) (hdg : decode cc pc = .ok (.newarray .int, 2))
    (kk : ∀ (H1 : Heap), fw_H G s (fw_up M a (fI G N (fun _ => 0))) H1 locs → H1.size = a + 1 → W p l e R s m args below meth c H1 locs (cells + 1) (slots + N) Q (F0 m (pc + 2) ls (.ref a :: rest))) : W p l e R s m args below meth c H locs cells slots Q (F0 m pc ls (.int n :: rest)) := by
  subst hz
  refine va_newaK (atype := .int) E.1 E.2.1 (E.2.2.2.2 _ q) rfl hdg rfl hn hN hbytes hf.1 hf.2 rfl fun H1 cA e1 z1 o1 hAr hNm => ?_
  have h2 : s.vm.findClass ("[" ++ FieldType.int.toString) = some (G.2.1 0) := (hK.me.1.2 0 (G.2.1 0, .int) rfl).2
  have hcA : cA = G.2.1 0 := Option.some.inj (hNm.symm.trans h2)
  subst hcA
  refine kk H1 ⟨hH.1.push ?_ z1 o1, by have := hH.2.1; omega, hH.2.2⟩ z1
  show H1[H.size]? = some (vp_cell _ _)
  exact e1
theorem fw_newT (E : CallFix p m c cc nL s args fwT own) (hK : fw_K G s) (hH : fw_H G s M H locs) {a index : Nat} (hz : H.size = a) {n : Int32} {N : Nat} (q : Cond.classLink own index RX8 ∈ fwT) (q2 : Cond.arrayOver (.object RX8) ∈ fwT) (hn : ¬ n < 0) (hN : n.toNatClampNeg = N) (hbytes : N * 4 ≤ 536870912) (hf : cells + 1 ≤ R.cells ∧ slots + N ≤ R.slots) (hdg : decode cc pc = .ok (.anewarray index, 3))
    (kk : ∀ (H1 : Heap), fw_H G s (fw_up M a (fT G N (fun _ => none))) H1 locs → H1.size = a + 1 → W p l e R s m args below meth c H1 locs (cells + 1) (slots + N) Q (F0 m (pc + 3) ls (.ref a :: rest))) : W p l e R s m args below meth c H locs cells slots Q (F0 m pc ls (.int n :: rest)) := by
  subst hz
  subst hN
  refine W.anew E.1 E.2.1 E.2.2.2.1 (E.2.2.2.2 _ q) (E.2.2.2.2 _ q2) rfl hdg rfl hn hbytes hf.1 hf.2 fun cA kA comp f1 f2 f3 f4 => ?_
  obtain ⟨kA2, comp2, g1, g2, g3, g4⟩ := (hK.me.1.2 1 (G.2.1 1, .object RX8) rfl).2
  generalize hH1 : H.push ({ cls := cA, slots := Array.replicate n.toNatClampNeg .null, vm := .none } : Cell) = H1
  have z1 : H1.size = H.size + 1 := by rw [← hH1, Array.size_push]
  have e1 : H1[H.size]? = some (arrV cA n.toNatClampNeg (fun _ => .null)) := by rw [← hH1, Array.getElem?_push_size, ← arrV_new]
  have o1 : ∀ q : Nat, q < H.size → H1[q]? = H[q]? := fun q hq => by rw [← hH1, Array.getElem?_push, if_neg (Nat.ne_of_lt hq)]
  have hcA : cA = G.2.1 1 := Option.some.inj (f1.symm.trans g4)
  subst hcA
  refine kk H1 ⟨hH.1.push ?_ z1 o1, by have := hH.2.1; omega, hH.2.2⟩ z1
  show H1[H.size]? = some (vp_cell _ _)
  exact e1
theorem fw_aast (E : CallFix p m c cc nL s args fwT own) (hK : fw_K G s) (hH : fw_H G s M H locs) {a n v : Nat} {f : Nat → Option Nat} {fs : List Value} {i : Int32} (hb : G.2.2.1 ≤ a) (ha : M a = some (fT G n f)) (hv : M v = some (.inr (8, fs))) (hin : vp_in i n) (hdg : decode cc pc = .ok (.aastore, 1))
    (kk : ∀ (H1 : Heap) (locs1 : List Loc), fw_H G s (fw_up M a (fT G n (va_up f i.toNatClampNeg (some v)))) H1 locs1 → H1.size = H.size → W p l e R s m args below meth c H1 locs1 cells slots Q (F0 m (pc + 1) ls rest)) : W p l e R s m args below meth c H locs cells slots Q (F0 m pc ls (.ref v :: .int i :: .ref a :: rest)) := by
  have hlt : i.toNatClampNeg < n := Nat.not_le.mp fun q => hin (Or.inr q)
  have h0 : ¬ i < 0 := fun q => hin (Or.inl q)
  have ha1 : H[a]? = some (vp_cell (G.2.1 1) (n, .inr (.inr (.inr (.inr f))))) := hH.1.2.2 a _ ha
  obtain ⟨r', hr', cellV, g1, g2, g3, -⟩ := hH.1.2.2 v _ hv
  have hcls := (hK.me.1.1 8 (RX8, TX8, 6) rfl).2
  obtain ⟨kA, comp, k1, k2, k3, -⟩ := (hK.me.1.2 1 (G.2.1 1, .object RX8) rfl).2
  have hcomp : comp = G.1.1 8 := Option.some.inj (k3.symm.trans hcls.1)
  subst hcomp
  obtain ⟨kC, hkC, -⟩ := hcls.2
  refine W.aast E.1 E.2.1 ha1 (fun q h => by cases h) (fun h => by cases h) k1 k2 rfl hkC ⟨h0, by show _ < (arrV _ _ _).slots.size; rw [arrV_size]; exact hlt⟩ g1 (fun q h => by rw [g3] at h; cases h) (by rw [g2]; exact hkC) (by rw [g2]; exact va_assign hcls) rfl rfl hdg fun H1 e z oq => ?_
  refine kk H1 _ (hH.up hb ?_ z oq (fun q hq => by rw [List.mem_singleton.mp hq])) z
  show H1[a]? = some (vp_cell _ _)
  rw [e]
  rw [vp_cell_q, vp_cell_q, arrV_store]
  congr 2
  funext q
  by_cases hq : q = i.toNatClampNeg
  · subst hq
    simp [updV, va_up, va_rf]
  · simp [updV, va_up, hq]
theorem fw_obj (E : CallFix p m c cc nL s args fwT own) {idx : Nat} (q : Cond.methodLink own idx objectInit ∈ fwT) (q2 : Cond.instanceMethod objectInit ∈ fwT) (q3 : Cond.code objectInit ⟨#[0xb1]⟩ 1 none ∈ fwT) {lv : List (Nat × Value)} (hl : lv_has ls nL lv) {a : Nat} (hdg : decode cc pc = .ok (.invokespecial idx, 3)) (hR : 1 ≤ R.frames ∧ (rest.map fun v => v.category).sum + 12 ≤ R.locals)
    (kk : W p l e R s m args below meth c H locs cells slots Q (F0 m (pc + 3) ls rest)) : W p l e R s m args below meth c H locs cells slots Q (F0 m pc ls (.ref a :: rest)) :=
  W.objInit E.1 E.2.1 E.2.2.2.1 (E.2.2.2.2 _ q) (E.2.2.2.2 _ q2) (E.2.2.2.2 _ q3) rfl (by rw [E.2.2.1]; exact hl.1) rfl hdg hR.1 (by show 2 * 0 + _ + 12 ≤ _; omega) kk
end FW3
theorem fc_X0 : fw_C 0 RX0 TX0 6 tyX0 := ⟨rfl, qu_RX0, tyX0_ok, nmX0⟩
theorem fc_X1 : fw_C 1 RX1 TX1 3 tyX1 := ⟨rfl, qu_RX1, tyX1_ok, nmX1⟩
theorem fc_X2 : fw_C 2 RX2 TX2 7 tyX2 := ⟨rfl, qu_RX2, tyX2_ok, nmX2⟩
theorem fc_X3 : fw_C 3 RX3 TX3 8 tyX3 := ⟨rfl, qu_RX3, tyX3_ok, nmX3⟩
theorem fc_X4 : fw_C 4 RX4 TX4 3 tyX4 := ⟨rfl, qu_RX4, tyX4_ok, nmX4⟩
theorem fc_X5 : fw_C 5 RX5 TX5 2 tyX5 := ⟨rfl, qu_RX5, tyX5_ok, nmX5⟩
theorem fc_X6 : fw_C 6 RX6 TX6 1 tyX6 := ⟨rfl, qu_RX6, tyX6_ok, nmX6⟩
theorem fc_X7 : fw_C 7 RX7 TX7 5 tyX7 := ⟨rfl, qu_RX7, tyX7_ok, nmX7⟩
theorem fc_X8 : fw_C 8 RX8 TX8 6 tyX8 := ⟨rfl, qu_RX8, tyX8_ok, nmX8⟩
theorem fc_X9 : fw_C 9 RX9 TX9 9 tyX9 := ⟨rfl, qu_RX9, tyX9_ok, nmX9⟩
theorem fw_H.nm {G : fw_G} {s : State} {M M1 : fw_M} {H : Heap} {locs : List Loc} (h : M1 = M) (hH : fw_H G s M H locs) : fw_H G s M1 H locs := h ▸ hH
theorem fc_X10 : fw_C 10 RX10 TX10 7 tyX10 := ⟨rfl, qu_RX10, tyX10_ok, nmX10⟩
section FW4
variable {p : Program} {l : Launch} {e : Env} {R : Room} {s : State} {m : MethodId} {args : Array Value} {below : List Frame} {meth : Method} {c : Code} {H : Heap} {locs : List Loc} {cells slots : Nat} {Q : State → Prop} {G : fw_G} {M : fw_M} {cc : ByteArray} {nL pc : Nat} {ls : Array Slot} {rest : List Value} {own : String}
theorem fw_zald (E : CallFix p m c cc nL s args fwT own) (hK : fw_K G s) (hH : fw_H G s M H locs) {a n : Nat} {f : Nat → Int32} {i : Int32} (ha : M a = some (fB G n f)) (hin : vp_in i n) (hdg : decode cc pc = .ok (.baload, 1))
    (kk : W p l e R s m args below meth c H locs cells slots Q (F0 m (pc + 1) ls (.int (f i.toNatClampNeg) :: rest))) : W p l e R s m args below meth c H locs cells slots Q (F0 m pc ls (.int i :: .ref a :: rest)) :=
  va_zald (D := G.1) (cl := vwCl) (ws := [(a, fB G n f)]) (tys := fwTys G) E.1 E.2.1 hK.me.1 (fw_one hH ha) 0 3 rfl rfl hin hdg kk
theorem fw_zast (E : CallFix p m c cc nL s args fwT own) (hK : fw_K G s) (hH : fw_H G s M H locs) {a n : Nat} {f : Nat → Int32} {i x : Int32} (hb : G.2.2.1 ≤ a) (ha : M a = some (fB G n f)) (hin : vp_in i n) (hdg : decode cc pc = .ok (.bastore, 1))
    (kk : ∀ (H1 : Heap) (locs1 : List Loc), fw_H G s (fw_up M a (fB G n (upd f i.toNatClampNeg (vp_nar .boolean x)))) H1 locs1 → H1.size = H.size → W p l e R s m args below meth c H1 locs1 cells slots Q (F0 m (pc + 1) ls rest)) : W p l e R s m args below meth c H locs cells slots Q (F0 m pc ls (.int x :: .int i :: .ref a :: rest)) := by
  have ha1 : H[a]? = some (vp_cell (G.2.1 3) (n, .inl f)) := hH.1.2.2 a _ ha
  refine W.zast E.1 E.2.1 ha1 ((hK.me.1.2 3 (G.2.1 3, .boolean) rfl).1 n (fun j => .int (f j))) (fun q => by cases q) (by show ¬ (i < 0 ∨ (arrV _ _ _).slots.size ≤ _); rw [arrV_size]; exact hin) rfl rfl hdg fun H1 e z oq => ?_
  refine kk H1 _ (hH.up hb ?_ z oq (fun q hq => by rw [List.mem_singleton.mp hq])) z
  show H1[a]? = some (vp_cell _ _)
  rw [e]
  rw [vp_cell_i, vp_cell_i, arrV_store]
  congr 2
  funext q
  by_cases hq : q = i.toNatClampNeg
  · subst hq
    simp [updV, upd, vp_nar]
    try rfl
  · simp [updV, upd, hq]
theorem fw_newZ (E : CallFix p m c cc nL s args fwT own) (hK : fw_K G s) (hH : fw_H G s M H locs) {a : Nat} (hz : H.size = a) {n : Int32} {N : Nat} (q : Cond.arrayClass .boolean ∈ fwT) (hn : ¬ n < 0) (hN : n.toNatClampNeg = N) (hbytes : N * componentBytes .boolean ≤ 536870912) (hf : cells + 1 ≤ R.cells ∧ slots + N ≤ R.slots) (hdg : decode cc pc = .ok (.newarray .boolean, 2))
    (kk : ∀ (H1 : Heap), fw_H G s (fw_up M a (fB G N (fun _ => 0))) H1 locs → H1.size = a + 1 → W p l e R s m args below meth c H1 locs (cells + 1) (slots + N) Q (F0 m (pc + 2) ls (.ref a :: rest))) : W p l e R s m args below meth c H locs cells slots Q (F0 m pc ls (.int n :: rest)) := by
  subst hz
  refine va_newaK (atype := .boolean) E.1 E.2.1 (E.2.2.2.2 _ q) rfl hdg rfl hn hN hbytes hf.1 hf.2 rfl fun H1 cA e1 z1 o1 hAr hNm => ?_
  have h2 : s.vm.findClass ("[" ++ FieldType.boolean.toString) = some (G.2.1 3) := (hK.me.1.2 3 (G.2.1 3, .boolean) rfl).2
  have hcA : cA = G.2.1 3 := Option.some.inj (hNm.symm.trans h2)
  subst hcA
  refine kk H1 ⟨hH.1.push ?_ z1 o1, by have := hH.2.1; omega, hH.2.2⟩ z1
  show H1[H.size]? = some (vp_cell _ _)
  exact e1
/-- a row of rows, new: nothing more is known of it -/
theorem fw_newU (E : CallFix p m c cc nL s args fwT own) (hH : fw_H G s M H locs) {a index : Nat} (hz : H.size = a) {n : Int32} {N : Nat} (q : Cond.classLink own index (FieldType.array .int).toString ∈ fwT) (q2 : Cond.arrayOver (.array .int) ∈ fwT) (hn : ¬ n < 0) (hN : n.toNatClampNeg = N) (hbytes : N * 4 ≤ 536870912) (hf : cells + 1 ≤ R.cells ∧ slots + N ≤ R.slots) (hdg : decode cc pc = .ok (.anewarray index, 3))
    (kk : ∀ (H1 : Heap), fw_H G s M H1 locs → H1.size = a + 1 → W p l e R s m args below meth c H1 locs (cells + 1) (slots + N) Q (F0 m (pc + 3) ls (.ref a :: rest))) : W p l e R s m args below meth c H locs cells slots Q (F0 m pc ls (.int n :: rest)) := by
  subst hz
  subst hN
  refine W.anewA E.1 E.2.1 E.2.2.2.1 (E.2.2.2.2 _ q) (E.2.2.2.2 _ q2) rfl hdg rfl hn hbytes hf.1 hf.2 fun cA kA comp f1 f2 f3 f4 => ?_
  generalize hH1 : H.push ({ cls := cA, slots := Array.replicate n.toNatClampNeg .null, vm := .none } : Cell) = H1
  have z1 : H1.size = H.size + 1 := by rw [← hH1, Array.size_push]
  have o1 : ∀ q : Nat, q < H.size → H1[q]? = H[q]? := fun q hq => by rw [← hH1, Array.getElem?_push, if_neg (Nat.ne_of_lt hq)]
  refine kk H1 ⟨⟨by have := hH.1.1; omega, fun q hq => by rw [o1 q (by have := hH.1.1; omega)]; exact hH.1.2.1 q hq, fun b e1 hb => (hH.1.2.2 b e1 hb).kept (o1 b (hH.1.2.2 b e1 hb).lt)⟩, by have := hH.2.1; omega, hH.2.2⟩ z1
/-- rows below the base: static rows, texts -/
theorem fw_ti (E : CallFix p m c cc nL s args fwT own) (hH : fw_H G s M H locs) {t N : Nat} {f : Nat → Value} (hT : va_T .int t N f (fun q => G.2.2.1 ≤ q) s G.2.2.2.1) {i : Int32} (hin : vp_in i N) {v : Value} (hv : f i.toNatClampNeg = v) (hdg : decode cc pc = .ok (.iaload, 1))
    (kk : W p l e R s m args below meth c H locs cells slots Q (F0 m (pc + 1) ls (v :: rest))) : W p l e R s m args below meth c H locs cells slots Q (F0 m pc ls (.int i :: .ref t :: rest)) := by
  obtain ⟨cell, h1, h2, h3, h4, h5, h6, h7⟩ := hT
  have hlt : i.toNatClampNeg < N := Nat.not_le.mp fun q => hin (Or.inr q)
  have hin' : ¬ (i < 0 ∨ cell.slots.size ≤ i.toNatClampNeg) := by
    intro q
    rcases q with q | q
    · exact hin (Or.inl q)
    · omega
  exact W.iald (v := v) E.1 E.2.1 (by rw [hH.1.2.1 t (Nat.not_le.mp h7)]; exact h1) h2 h3 hin' (by rw [h6 _ hlt, hv]) rfl rfl hdg kk
theorem fw_tlen (E : CallFix p m c cc nL s args fwT own) (hH : fw_H G s M H locs) {t N : Nat} {f : Nat → Value} {ty : FieldType} (hT : va_T ty t N f (fun q => G.2.2.1 ≤ q) s G.2.2.2.1) {v : Int32} (hv : Int32.ofNat N = v) (hdg : decode cc pc = .ok (.arraylength, 1))
    (kk : W p l e R s m args below meth c H locs cells slots Q (F0 m (pc + 1) ls (.int v :: rest))) : W p l e R s m args below meth c H locs cells slots Q (F0 m pc ls (.ref t :: rest)) := by
  subst hv
  obtain ⟨cell, h1, h2, h3, h4, h5, h6, h7⟩ := hT
  exact W.alen (n := Int32.ofNat N) E.1 E.2.1 (by rw [hH.1.2.1 t (Nat.not_le.mp h7)]; exact h1) h2 h5 rfl rfl hdg kk
variable {y : MethodName} {bytes : ByteArray} {maxL n index f lo mc ms : Nat} {ret : Option FieldType} {host : String} {post : Option Value → fw_M → Nat → Prop} {As st0 : List Value} {lv : List (Nat × Value)}
end FW4
end
section
/-! ints as whole numbers -/
theorem iI_toInt {z : Int} (h : -2147483648 ≤ z) (h2 : z < 2147483648) : (iI z).toInt = z := Int32.toInt_ofInt_of_le (by omega) (by omega)
theorem iI_of (x : Int32) : iI x.toInt = x := Int32.ofInt_toInt x
theorem iI_ex (x : Int32) : ∃ z : Int, -2147483648 ≤ z ∧ z < 2147483648 ∧ x = iI z := ⟨x.toInt, x.le_toInt, x.toInt_lt, (iI_of x).symm⟩
theorem iI_add (a b : Int) : iI a + iI b = iI (a + b) := (Int32.ofInt_add a b).symm
theorem iI_sub (a b : Int) : iI a - iI b = iI (a - b) := (Int32.ofInt_sub a b).symm
theorem iI_mul (a b : Int) : iI a * iI b = iI (a * b) := (Int32.ofInt_mul a b).symm
theorem iI_neg (a : Int) : -iI a = iI (-a) := (Int32.ofInt_neg a).symm
theorem iI_inj {a b : Int} (h : -2147483648 ≤ a) (h2 : a < 2147483648) (h3 : -2147483648 ≤ b) (h4 : b < 2147483648) : iI a = iI b ↔ a = b := ⟨fun e => by rw [← iI_toInt h h2, ← iI_toInt h3 h4, e], fun e => by rw [e]⟩
theorem iI_le {a b : Int} (h : -2147483648 ≤ a) (h2 : a < 2147483648) (h3 : -2147483648 ≤ b) (h4 : b < 2147483648) : iI a ≤ iI b ↔ a ≤ b := by rw [Int32.le_iff_toInt_le, iI_toInt h h2, iI_toInt h3 h4]
theorem iI_lt {a b : Int} (h : -2147483648 ≤ a) (h2 : a < 2147483648) (h3 : -2147483648 ≤ b) (h4 : b < 2147483648) : iI a < iI b ↔ a < b := by rw [Int32.lt_iff_toInt_lt, iI_toInt h h2, iI_toInt h3 h4]
theorem iI_0 : iI 0 = 0 := rfl
theorem iI_ix {z : Int} (h : 0 ≤ z) (h2 : z < 2147483648) : (iI z).toNatClampNeg = z.toNat := Int32.toNatClampNeg_ofInt_of_le (by omega) (by omega)
theorem iI_in {z : Int} {n : Nat} (h : 0 ≤ z) (h2 : z < n) (h3 : z < 2147483648) : vp_in (iI z) n := vp_in_iff.mpr (by rw [iI_toInt (by omega) h3]; exact ⟨h, h2⟩)
theorem nI_iI (n : Nat) : nI n = iI (n : Int) := rfl
theorem iI_tdiv {a b : Int} (h : -2147483648 < a) (h2 : a < 2147483648) (h3 : -2147483648 ≤ b) (h4 : b < 2147483648) : iI a / iI b = iI (a.tdiv b) := (Int32.ofInt_tdiv (by show (-2147483648 : Int) ≤ a; omega) (by show a ≤ 2147483647; omega) (by show (-2147483648 : Int) ≤ b; omega) (by show b ≤ 2147483647; omega)).symm
theorem iI_inc {z : Int} {n : Int} {v : Int32} (h : iI (z + n) = v) : iI z + Int32.ofInt n = v := by rw [← h]; exact iI_add z n
def zup (g : Nat → Int) (i : Nat) (v : Int) : Nat → Int := fun k => if k = i then v else g k
theorem zup_eq {g : Nat → Int} {i : Nat} {v : Int} : zup g i v i = v := if_pos rfl
theorem zup_ne {g : Nat → Int} {i k : Nat} {v : Int} (h : k ≠ i) : zup g i v k = g k := if_neg h
theorem zup_upd (g : Nat → Int) (i : Nat) (v : Int) : upd (fun k => iI (g k)) i (iI v) = fun k => iI (zup g i v k) := by
  funext k
  by_cases h : k = i
  · subst h; simp [upd, zup]
  · simp [upd, zup, h]
section FWZ
variable {p : Program} {l : Launch} {e : Env} {R : Room} {s : State} {m : MethodId} {args : Array Value} {below : List Frame} {meth : Method} {c : Code} {H : Heap} {locs : List Loc} {cells slots : Nat} {Q : State → Prop} {G : fw_G} {M : fw_M} {cc : ByteArray} {nL pc : Nat} {ls : Array Slot} {rest : List Value} {own : String}
theorem fw_cv {x y : Int32} (h : x = y) (k : W p l e R s m args below meth c H locs cells slots Q (F0 m pc ls (.int y :: rest))) : W p l e R s m args below meth c H locs cells slots Q (F0 m pc ls (.int x :: rest)) := by rw [h]; exact k
theorem fw_cw {x v : Value} (h : x = v) (k : W p l e R s m args below meth c H locs cells slots Q (F0 m pc ls (v :: rest))) : W p l e R s m args below meth c H locs cells slots Q (F0 m pc ls (x :: rest)) := by rw [h]; exact k
theorem fw_iadd (E : CallFix p m c cc nL s args fwT own) {a b : Int} (hdg : decode cc pc = .ok (.iadd, 1)) (k : W p l e R s m args below meth c H locs cells slots Q (F0 m (pc + 1) ls (.int (iI (a + b)) :: rest))) : W p l e R s m args below meth c H locs cells slots Q (F0 m pc ls (.int (iI b) :: .int (iI a) :: rest)) := lv_iadd E.1 E.2.1 hdg (by rw [iI_add]; exact k)
theorem fw_isub (E : CallFix p m c cc nL s args fwT own) {a b : Int} (hdg : decode cc pc = .ok (.isub, 1)) (k : W p l e R s m args below meth c H locs cells slots Q (F0 m (pc + 1) ls (.int (iI (a - b)) :: rest))) : W p l e R s m args below meth c H locs cells slots Q (F0 m pc ls (.int (iI b) :: .int (iI a) :: rest)) := lv_isub E.1 E.2.1 hdg (by rw [iI_sub]; exact k)
theorem fw_imul (E : CallFix p m c cc nL s args fwT own) {a b : Int} (hdg : decode cc pc = .ok (.imul, 1)) (k : W p l e R s m args below meth c H locs cells slots Q (F0 m (pc + 1) ls (.int (iI (a * b)) :: rest))) : W p l e R s m args below meth c H locs cells slots Q (F0 m pc ls (.int (iI b) :: .int (iI a) :: rest)) := lv_imul E.1 E.2.1 hdg (by rw [iI_mul]; exact k)
theorem fw_ineg (E : CallFix p m c cc nL s args fwT own) {a : Int} (hdg : decode cc pc = .ok (.ineg, 1)) (k : W p l e R s m args below meth c H locs cells slots Q (F0 m (pc + 1) ls (.int (iI (-a)) :: rest))) : W p l e R s m args below meth c H locs cells slots Q (F0 m pc ls (.int (iI a) :: rest)) := lv_ineg E.1 E.2.1 hdg (by rw [iI_neg]; exact k)
theorem fw_idiv (E : CallFix p m c cc nL s args fwT own) {a b : Int} (h1 : b ≠ 0) (h2 : -2147483648 < a) (h3 : a < 2147483648) (h4 : -2147483648 ≤ b) (h5 : b < 2147483648) (hdg : decode cc pc = .ok (.idiv, 1)) (k : W p l e R s m args below meth c H locs cells slots Q (F0 m (pc + 1) ls (.int (iI (a.tdiv b)) :: rest))) : W p l e R s m args below meth c H locs cells slots Q (F0 m pc ls (.int (iI b) :: .int (iI a) :: rest)) := lv_idiv E.1 E.2.1 hdg (by rw [← iI_0, iI_inj h4 h5 (by omega) (by omega)]; exact h1) (by rw [iI_tdiv h2 h3 h4 h5]; exact k)
theorem fw_irem (E : CallFix p m c cc nL s args fwT own) {a b : Int} (h1 : b ≠ 0) (h2 : -2147483648 < a) (h3 : a < 2147483648) (h4 : -2147483648 ≤ b) (h5 : b < 2147483648) (hdg : decode cc pc = .ok (.irem, 1)) (k : W p l e R s m args below meth c H locs cells slots Q (F0 m (pc + 1) ls (.int (iI (a.tmod b)) :: rest))) : W p l e R s m args below meth c H locs cells slots Q (F0 m pc ls (.int (iI b) :: .int (iI a) :: rest)) := lv_irem E.1 E.2.1 hdg (by rw [← iI_0, iI_inj h4 h5 (by omega) (by omega)]; exact h1) (by rw [iI_tdiv h2 h3 h4 h5, iI_mul, iI_sub, show a - a.tdiv b * b = a.tmod b from by rw [Int.tmod_def, Int.mul_comm]]; exact k)
theorem fw_icmp_eq (E : CallFix p m c cc nL s args fwT own) {a b : Int} {off : Int} {tgt : Nat} (hdg : decode cc pc = .ok (.if_icmp .eq off, 3)) (ht : (pc : Int) + off = (tgt : Int)) (h1 : -2147483648 ≤ a) (h2 : a < 2147483648) (h3 : -2147483648 ≤ b) (h4 : b < 2147483648) (kt : a = b → W p l e R s m args below meth c H locs cells slots Q (F0 m tgt ls rest)) (kf : a ≠ b → W p l e R s m args below meth c H locs cells slots Q (F0 m (pc + 3) ls rest)) : W p l e R s m args below meth c H locs cells slots Q (F0 m pc ls (.int (iI b) :: .int (iI a) :: rest)) := lv_icmp_eq E.1 E.2.1 hdg ht (fun h => kt ((iI_inj h1 h2 h3 h4).mp h)) (fun h => kf (fun z => h ((iI_inj h1 h2 h3 h4).mpr z)))
theorem fw_if_eq (E : CallFix p m c cc nL s args fwT own) {a : Int} {off : Int} {tgt : Nat} (hdg : decode cc pc = .ok (.ifCond .eq off, 3)) (ht : (pc : Int) + off = (tgt : Int)) (h1 : -2147483648 ≤ a) (h2 : a < 2147483648) (kt : a = 0 → W p l e R s m args below meth c H locs cells slots Q (F0 m tgt ls rest)) (kf : a ≠ 0 → W p l e R s m args below meth c H locs cells slots Q (F0 m (pc + 3) ls rest)) : W p l e R s m args below meth c H locs cells slots Q (F0 m pc ls (.int (iI a) :: rest)) := by
  have h3 : -2147483648 ≤ (0 : Int) := by omega
  have h4 : (0 : Int) < 2147483648 := by omega
  exact lv_if_eq E.1 E.2.1 hdg ht (fun h => kt ((iI_inj h1 h2 h3 h4).mp h)) (fun h => kf (fun z => h ((iI_inj h1 h2 h3 h4).mpr z)))
theorem fw_icmp_ne (E : CallFix p m c cc nL s args fwT own) {a b : Int} {off : Int} {tgt : Nat} (hdg : decode cc pc = .ok (.if_icmp .ne off, 3)) (ht : (pc : Int) + off = (tgt : Int)) (h1 : -2147483648 ≤ a) (h2 : a < 2147483648) (h3 : -2147483648 ≤ b) (h4 : b < 2147483648) (kt : a ≠ b → W p l e R s m args below meth c H locs cells slots Q (F0 m tgt ls rest)) (kf : a = b → W p l e R s m args below meth c H locs cells slots Q (F0 m (pc + 3) ls rest)) : W p l e R s m args below meth c H locs cells slots Q (F0 m pc ls (.int (iI b) :: .int (iI a) :: rest)) := lv_icmp_ne E.1 E.2.1 hdg ht (fun h => kt (fun z => h ((iI_inj h1 h2 h3 h4).mpr z))) (fun h => kf ((iI_inj h1 h2 h3 h4).mp h))
theorem fw_if_ne (E : CallFix p m c cc nL s args fwT own) {a : Int} {off : Int} {tgt : Nat} (hdg : decode cc pc = .ok (.ifCond .ne off, 3)) (ht : (pc : Int) + off = (tgt : Int)) (h1 : -2147483648 ≤ a) (h2 : a < 2147483648) (kt : a ≠ 0 → W p l e R s m args below meth c H locs cells slots Q (F0 m tgt ls rest)) (kf : a = 0 → W p l e R s m args below meth c H locs cells slots Q (F0 m (pc + 3) ls rest)) : W p l e R s m args below meth c H locs cells slots Q (F0 m pc ls (.int (iI a) :: rest)) := by
  have h3 : -2147483648 ≤ (0 : Int) := by omega
  have h4 : (0 : Int) < 2147483648 := by omega
  exact lv_if_ne E.1 E.2.1 hdg ht (fun h => kt (fun z => h ((iI_inj h1 h2 h3 h4).mpr z))) (fun h => kf ((iI_inj h1 h2 h3 h4).mp h))
theorem fw_icmp_lt (E : CallFix p m c cc nL s args fwT own) {a b : Int} {off : Int} {tgt : Nat} (hdg : decode cc pc = .ok (.if_icmp .lt off, 3)) (ht : (pc : Int) + off = (tgt : Int)) (h1 : -2147483648 ≤ a) (h2 : a < 2147483648) (h3 : -2147483648 ≤ b) (h4 : b < 2147483648) (kt : a < b → W p l e R s m args below meth c H locs cells slots Q (F0 m tgt ls rest)) (kf : b ≤ a → W p l e R s m args below meth c H locs cells slots Q (F0 m (pc + 3) ls rest)) : W p l e R s m args below meth c H locs cells slots Q (F0 m pc ls (.int (iI b) :: .int (iI a) :: rest)) := lv_icmp_lt E.1 E.2.1 hdg ht (fun h => kt ((iI_lt h1 h2 h3 h4).mp h)) (fun h => kf (Int.not_lt.mp (fun z => h ((iI_lt h1 h2 h3 h4).mpr z))))
theorem fw_if_lt (E : CallFix p m c cc nL s args fwT own) {a : Int} {off : Int} {tgt : Nat} (hdg : decode cc pc = .ok (.ifCond .lt off, 3)) (ht : (pc : Int) + off = (tgt : Int)) (h1 : -2147483648 ≤ a) (h2 : a < 2147483648) (kt : a < 0 → W p l e R s m args below meth c H locs cells slots Q (F0 m tgt ls rest)) (kf : 0 ≤ a → W p l e R s m args below meth c H locs cells slots Q (F0 m (pc + 3) ls rest)) : W p l e R s m args below meth c H locs cells slots Q (F0 m pc ls (.int (iI a) :: rest)) := by
  have h3 : -2147483648 ≤ (0 : Int) := by omega
  have h4 : (0 : Int) < 2147483648 := by omega
  exact lv_if_lt E.1 E.2.1 hdg ht (fun h => kt ((iI_lt h1 h2 h3 h4).mp h)) (fun h => kf (Int.not_lt.mp (fun z => h ((iI_lt h1 h2 h3 h4).mpr z))))
theorem fw_icmp_ge (E : CallFix p m c cc nL s args fwT own) {a b : Int} {off : Int} {tgt : Nat} (hdg : decode cc pc = .ok (.if_icmp .ge off, 3)) (ht : (pc : Int) + off = (tgt : Int)) (h1 : -2147483648 ≤ a) (h2 : a < 2147483648) (h3 : -2147483648 ≤ b) (h4 : b < 2147483648) (kt : b ≤ a → W p l e R s m args below meth c H locs cells slots Q (F0 m tgt ls rest)) (kf : a < b → W p l e R s m args below meth c H locs cells slots Q (F0 m (pc + 3) ls rest)) : W p l e R s m args below meth c H locs cells slots Q (F0 m pc ls (.int (iI b) :: .int (iI a) :: rest)) := lv_icmp_ge E.1 E.2.1 hdg ht (fun h => kt ((iI_le h3 h4 h1 h2).mp h)) (fun h => kf (Int.not_le.mp (fun z => h ((iI_le h3 h4 h1 h2).mpr z))))
theorem fw_if_ge (E : CallFix p m c cc nL s args fwT own) {a : Int} {off : Int} {tgt : Nat} (hdg : decode cc pc = .ok (.ifCond .ge off, 3)) (ht : (pc : Int) + off = (tgt : Int)) (h1 : -2147483648 ≤ a) (h2 : a < 2147483648) (kt : 0 ≤ a → W p l e R s m args below meth c H locs cells slots Q (F0 m tgt ls rest)) (kf : a < 0 → W p l e R s m args below meth c H locs cells slots Q (F0 m (pc + 3) ls rest)) : W p l e R s m args below meth c H locs cells slots Q (F0 m pc ls (.int (iI a) :: rest)) := by
  have h3 : -2147483648 ≤ (0 : Int) := by omega
  have h4 : (0 : Int) < 2147483648 := by omega
  exact lv_if_ge E.1 E.2.1 hdg ht (fun h => kt ((iI_le h3 h4 h1 h2).mp h)) (fun h => kf (Int.not_le.mp (fun z => h ((iI_le h3 h4 h1 h2).mpr z))))
theorem fw_icmp_gt (E : CallFix p m c cc nL s args fwT own) {a b : Int} {off : Int} {tgt : Nat} (hdg : decode cc pc = .ok (.if_icmp .gt off, 3)) (ht : (pc : Int) + off = (tgt : Int)) (h1 : -2147483648 ≤ a) (h2 : a < 2147483648) (h3 : -2147483648 ≤ b) (h4 : b < 2147483648) (kt : b < a → W p l e R s m args below meth c H locs cells slots Q (F0 m tgt ls rest)) (kf : a ≤ b → W p l e R s m args below meth c H locs cells slots Q (F0 m (pc + 3) ls rest)) : W p l e R s m args below meth c H locs cells slots Q (F0 m pc ls (.int (iI b) :: .int (iI a) :: rest)) := lv_icmp_gt E.1 E.2.1 hdg ht (fun h => kt ((iI_lt h3 h4 h1 h2).mp h)) (fun h => kf (Int.not_lt.mp (fun z => h ((iI_lt h3 h4 h1 h2).mpr z))))
theorem fw_if_gt (E : CallFix p m c cc nL s args fwT own) {a : Int} {off : Int} {tgt : Nat} (hdg : decode cc pc = .ok (.ifCond .gt off, 3)) (ht : (pc : Int) + off = (tgt : Int)) (h1 : -2147483648 ≤ a) (h2 : a < 2147483648) (kt : 0 < a → W p l e R s m args below meth c H locs cells slots Q (F0 m tgt ls rest)) (kf : a ≤ 0 → W p l e R s m args below meth c H locs cells slots Q (F0 m (pc + 3) ls rest)) : W p l e R s m args below meth c H locs cells slots Q (F0 m pc ls (.int (iI a) :: rest)) := by
  have h3 : -2147483648 ≤ (0 : Int) := by omega
  have h4 : (0 : Int) < 2147483648 := by omega
  exact lv_if_gt E.1 E.2.1 hdg ht (fun h => kt ((iI_lt h3 h4 h1 h2).mp h)) (fun h => kf (Int.not_lt.mp (fun z => h ((iI_lt h3 h4 h1 h2).mpr z))))
theorem fw_icmp_le (E : CallFix p m c cc nL s args fwT own) {a b : Int} {off : Int} {tgt : Nat} (hdg : decode cc pc = .ok (.if_icmp .le off, 3)) (ht : (pc : Int) + off = (tgt : Int)) (h1 : -2147483648 ≤ a) (h2 : a < 2147483648) (h3 : -2147483648 ≤ b) (h4 : b < 2147483648) (kt : a ≤ b → W p l e R s m args below meth c H locs cells slots Q (F0 m tgt ls rest)) (kf : b < a → W p l e R s m args below meth c H locs cells slots Q (F0 m (pc + 3) ls rest)) : W p l e R s m args below meth c H locs cells slots Q (F0 m pc ls (.int (iI b) :: .int (iI a) :: rest)) := lv_icmp_le E.1 E.2.1 hdg ht (fun h => kt ((iI_le h1 h2 h3 h4).mp h)) (fun h => kf (Int.not_le.mp (fun z => h ((iI_le h1 h2 h3 h4).mpr z))))
theorem fw_if_le (E : CallFix p m c cc nL s args fwT own) {a : Int} {off : Int} {tgt : Nat} (hdg : decode cc pc = .ok (.ifCond .le off, 3)) (ht : (pc : Int) + off = (tgt : Int)) (h1 : -2147483648 ≤ a) (h2 : a < 2147483648) (kt : a ≤ 0 → W p l e R s m args below meth c H locs cells slots Q (F0 m tgt ls rest)) (kf : 0 < a → W p l e R s m args below meth c H locs cells slots Q (F0 m (pc + 3) ls rest)) : W p l e R s m args below meth c H locs cells slots Q (F0 m pc ls (.int (iI a) :: rest)) := by
  have h3 : -2147483648 ≤ (0 : Int) := by omega
  have h4 : (0 : Int) < 2147483648 := by omega
  exact lv_if_le E.1 E.2.1 hdg ht (fun h => kt ((iI_le h1 h2 h3 h4).mp h)) (fun h => kf (Int.not_le.mp (fun z => h ((iI_le h1 h2 h3 h4).mpr z))))
theorem fw_max (E : CallFix p m c cc nL s args fwT own) {index : Nat} (q : Cond.methodLink own index Lib.Math.max.name ∈ fwT) {lv : List (Nat × Value)} (hl : lv_has ls nL lv) {a b : Int} (h1 : -2147483648 ≤ a) (h2 : a < 2147483648) (h3 : -2147483648 ≤ b) (h4 : b < 2147483648) (hR : 1 ≤ R.frames ∧ (rest.map fun v => v.category).sum + 13 ≤ R.locals) (hc : cells ≤ R.cells ∧ slots ≤ R.slots) (hdg : decode cc pc = .ok (.invokestatic index, 3)) (q2 : Cond.static Lib.Math.max.name ∈ fwT) (q3 : Cond.initialized "java/lang/Math" ∈ fwT) (q4 : Cond.code Lib.Math.max.name Lib.Math.max.code 2 (some .int) ∈ fwT)
    (k : W p l e R s m args below meth c H locs cells slots Q (F0 m (pc + 3) ls (.int (iI (max a b)) :: rest))) : W p l e R s m args below meth c H locs cells slots Q (F0 m pc ls (.int (iI b) :: .int (iI a) :: rest)) :=
  va_mmax E.1 E.2.1 (by rw [E.2.2.1]; exact hl.1.symm) E.2.2.2.1 (E.2.2.2.2 _ q) (E.2.2.2.2 _ q2) (E.2.2.2.2 _ q3) (E.2.2.2.2 _ q4) hR.1 hR.2 hc.1 hc.2 hdg (by
    rw [show (if iI a < iI b then iI b else iI a) = iI (max a b) from by
      by_cases h : a < b
      · rw [if_pos ((iI_lt h1 h2 h3 h4).mpr h), show max a b = b from by omega]
      · rw [if_neg (fun z => h ((iI_lt h1 h2 h3 h4).mp z)), show max a b = a from by omega]]
    exact k)
theorem fw_min (E : CallFix p m c cc nL s args fwT own) {index : Nat} (q : Cond.methodLink own index Lib.Math.min.name ∈ fwT) {lv : List (Nat × Value)} (hl : lv_has ls nL lv) {a b : Int} (h1 : -2147483648 ≤ a) (h2 : a < 2147483648) (h3 : -2147483648 ≤ b) (h4 : b < 2147483648) (hR : 1 ≤ R.frames ∧ (rest.map fun v => v.category).sum + 13 ≤ R.locals) (hc : cells ≤ R.cells ∧ slots ≤ R.slots) (hdg : decode cc pc = .ok (.invokestatic index, 3)) (q2 : Cond.static Lib.Math.min.name ∈ fwT) (q3 : Cond.initialized "java/lang/Math" ∈ fwT) (q4 : Cond.code Lib.Math.min.name Lib.Math.min.code 2 (some .int) ∈ fwT)
    (k : W p l e R s m args below meth c H locs cells slots Q (F0 m (pc + 3) ls (.int (iI (min a b)) :: rest))) : W p l e R s m args below meth c H locs cells slots Q (F0 m pc ls (.int (iI b) :: .int (iI a) :: rest)) :=
  va_mmin E.1 E.2.1 (by rw [E.2.2.1]; exact hl.1.symm) E.2.2.2.1 (E.2.2.2.2 _ q) (E.2.2.2.2 _ q2) (E.2.2.2.2 _ q3) (E.2.2.2.2 _ q4) hR.1 hR.2 hc.1 hc.2 hdg (by
    rw [show (if iI b < iI a then iI b else iI a) = iI (min a b) from by
      by_cases h : b < a
      · rw [if_pos ((iI_lt h3 h4 h1 h2).mpr h), show min a b = b from by omega]
      · rw [if_neg (fun z => h ((iI_lt h3 h4 h1 h2).mp z)), show min a b = a from by omega]]
    exact k)
end FWZ
end
section
theorem fL_X9_setWay : fw_L0 yX9_setWay cX9_setWay 4 (some .int) 2 := ⟨qn_RX9, qc_yX9_setWay, rfl, by decide +kernel, by decide +kernel, by decide +kernel⟩
theorem fL_X9_cross : fw_L0 yX9_cross cX9_cross 7 (some .int) 4 := ⟨qn_RX9, qc_yX9_cross, rfl, by decide +kernel, by decide +kernel, by decide +kernel⟩
theorem fL_X9_requirePlace : fw_L0 yX9_requirePlace cX9_requirePlace 4 (some (.object "Barnacle$Tree")) 2 := ⟨qn_RX9, qc_yX9_requirePlace, rfl, by decide +kernel, by decide +kernel, by decide +kernel⟩
theorem fL_X9_requireTree : fw_L0 yX9_requireTree cX9_requireTree 2 (some (.object "Barnacle$Tree")) 1 := ⟨qn_RX9, qc_yX9_requireTree, rfl, by decide +kernel, by decide +kernel, by decide +kernel⟩
theorem fL_X2_tree : fw_L0 yX2_tree cX2_tree 2 (some (.object "Barnacle$Tree")) 1 := ⟨qn_RX2, qc_yX2_tree, rfl, by decide +kernel, by decide +kernel, by decide +kernel⟩
theorem fL_X2_treeOf : fw_L0 yX2_treeOf cX2_treeOf 4 (some (.object "Barnacle$Tree")) 2 := ⟨qn_RX2, qc_yX2_treeOf, rfl, by decide +kernel, by decide +kernel, by decide +kernel⟩
theorem fL_X8_becomeCrossed : fw_L0 yX8_becomeCrossed cX8_becomeCrossed 6 (some .boolean) 4 := ⟨qn_RX8, qc_yX8_becomeCrossed, rfl, by decide +kernel, by decide +kernel, by decide +kernel⟩
theorem fL_X8_span : fw_L0 yX8_span cX8_span 2 (some .int) 1 := ⟨qn_RX8, qc_yX8_span, rfl, by decide +kernel, by decide +kernel, by decide +kernel⟩
theorem fL_X9_at : fw_L0 yX9_at cX9_at 2 (some .int) 2 := ⟨qn_RX9, qc_yX9_at, rfl, by decide +kernel, by decide +kernel, by decide +kernel⟩
theorem fL_X8_isNumber : fw_L0 yX8_isNumber cX8_isNumber 2 (some .boolean) 1 := ⟨qn_RX8, qc_yX8_isNumber, rfl, by decide +kernel, by decide +kernel, by decide +kernel⟩
theorem fL_X8_appendFrom : fw_L0 yX8_appendFrom cX8_appendFrom 5 none 3 := ⟨qn_RX8, qc_yX8_appendFrom, rfl, by decide +kernel, by decide +kernel, by decide +kernel⟩
theorem fL_X9_put : fw_L0 yX9_put cX9_put 3 none 3 := ⟨qn_RX9, qc_yX9_put, rfl, by decide +kernel, by decide +kernel, by decide +kernel⟩
theorem fL_X8_behind : fw_L0 yX8_behind cX8_behind 2 (some .int) 1 := ⟨qn_RX8, qc_yX8_behind, rfl, by decide +kernel, by decide +kernel, by decide +kernel⟩
theorem fL_X8_measure : fw_L0 yX8_measure cX8_measure 6 none 0 := ⟨qn_RX8, qc_yX8_measure, rfl, by decide +kernel, by decide +kernel, by decide +kernel⟩
theorem fL_X8_copyFrom : fw_L0 yX8_copyFrom cX8_copyFrom 2 none 1 := ⟨qn_RX8, qc_yX8_copyFrom, rfl, by decide +kernel, by decide +kernel, by decide +kernel⟩
theorem fL_X9_hoist : fw_L0 yX9_hoist cX9_hoist 4 (some .int) 2 := ⟨qn_RX9, qc_yX9_hoist, rfl, by decide +kernel, by decide +kernel, by decide +kernel⟩
theorem fL_X8_keepPart : fw_L0 yX8_keepPart cX8_keepPart 6 none 2 := ⟨qn_RX8, qc_yX8_keepPart, rfl, by decide +kernel, by decide +kernel, by decide +kernel⟩
theorem fL_X8_code : fw_L0 yX8_code cX8_code 2 (some .int) 1 := ⟨qn_RX8, qc_yX8_code, rfl, by decide +kernel, by decide +kernel, by decide +kernel⟩
theorem fL_X8_value : fw_L0 yX8_value cX8_value 2 (some .int) 1 := ⟨qn_RX8, qc_yX8_value, rfl, by decide +kernel, by decide +kernel, by decide +kernel⟩
theorem fL_X8_write : fw_L0 yX8_write cX8_write 4 none 3 := ⟨qn_RX8, qc_yX8_write, rfl, by decide +kernel, by decide +kernel, by decide +kernel⟩
theorem fL_X8_closeGap : fw_L0 yX8_closeGap cX8_closeGap 5 none 2 := ⟨qn_RX8, qc_yX8_closeGap, rfl, by decide +kernel, by decide +kernel, by decide +kernel⟩
theorem fL_X9_wither : fw_L0 yX9_wither cX9_wither 5 (some .int) 3 := ⟨qn_RX9, qc_yX9_wither, rfl, by decide +kernel, by decide +kernel, by decide +kernel⟩
theorem fL_X8_makeConstant : fw_L0 yX8_makeConstant cX8_makeConstant 4 none 2 := ⟨qn_RX8, qc_yX8_makeConstant, rfl, by decide +kernel, by decide +kernel, by decide +kernel⟩
theorem fL_X9_simplify : fw_L0 yX9_simplify cX9_simplify 4 (some .int) 1 := ⟨qn_RX9, qc_yX9_simplify, rfl, by decide +kernel, by decide +kernel, by decide +kernel⟩
theorem fL_X6_finish : fw_L0 yX6_finish cX6_finish 4 none 1 := ⟨qn_RX6, qc_yX6_finish, rfl, by decide +kernel, by decide +kernel, by decide +kernel⟩
theorem fL_X6_changeAt : fw_L0 yX6_changeAt cX6_changeAt 4 (some .boolean) 2 := ⟨qn_RX6, qc_yX6_changeAt, rfl, by decide +kernel, by decide +kernel, by decide +kernel⟩
theorem fL_X6_isFoldable : fw_L0 yX6_isFoldable cX6_isFoldable 2 (some .boolean) 2 := ⟨qn_RX6, qc_yX6_isFoldable, rfl, by decide +kernel, by decide +kernel, by decide +kernel⟩
theorem fL_X8_hasInput : fw_L0 yX8_hasInput cX8_hasInput 4 (some .boolean) 1 := ⟨qn_RX8, qc_yX8_hasInput, rfl, by decide +kernel, by decide +kernel, by decide +kernel⟩
theorem fL_X5_resultOf : fw_L0 yX5_resultOf cX5_resultOf 10 (some .int) 2 := ⟨qn_RX5, qc_yX5_resultOf, rfl, by decide +kernel, by decide +kernel, by decide +kernel⟩
theorem fL_X5_pairResult : fw_L0 yX5_pairResult cX5_pairResult 3 (some .int) 3 := ⟨qn_RX5, qc_yX5_pairResult, rfl, by decide +kernel, by decide +kernel, by decide +kernel⟩
theorem fL_X5_limited : fw_L0 yX5_limited cX5_limited 1 (some .int) 1 := ⟨qn_RX5, qc_yX5_limited, rfl, by decide +kernel, by decide +kernel, by decide +kernel⟩
theorem fL_X6_partThatStays : fw_L0 yX6_partThatStays cX6_partThatStays 4 (some .int) 2 := ⟨qn_RX6, qc_yX6_partThatStays, rfl, by decide +kernel, by decide +kernel, by decide +kernel⟩
theorem fL_X8_isConstant : fw_L0 yX8_isConstant cX8_isConstant 3 (some .boolean) 2 := ⟨qn_RX8, qc_yX8_isConstant, rfl, by decide +kernel, by decide +kernel, by decide +kernel⟩
theorem fL_X8_sameParts : fw_L0 yX8_sameParts cX8_sameParts 5 (some .boolean) 2 := ⟨qn_RX8, qc_yX8_sameParts, rfl, by decide +kernel, by decide +kernel, by decide +kernel⟩
theorem fL_X6_isNothing : fw_L0 yX6_isNothing cX6_isNothing 5 (some .boolean) 2 := ⟨qn_RX6, qc_yX6_isNothing, rfl, by decide +kernel, by decide +kernel, by decide +kernel⟩
theorem fL_X9_setChoosing : fw_L0 yX9_setChoosing cX9_setChoosing 4 (some .int) 2 := ⟨qn_RX9, qc_yX9_setChoosing, rfl, by decide +kernel, by decide +kernel, by decide +kernel⟩
theorem fL_X9_setLuck : fw_L0 yX9_setLuck cX9_setLuck 3 (some .int) 1 := ⟨qn_RX9, qc_yX9_setLuck, rfl, by decide +kernel, by decide +kernel, by decide +kernel⟩
theorem fL_X9_breed : fw_L0 yX9_breed cX9_breed 2 (some .int) 1 := ⟨qn_RX9, qc_yX9_breed, rfl, by decide +kernel, by decide +kernel, by decide +kernel⟩
theorem fL_X9_requireBreeding : fw_L0 yX9_requireBreeding cX9_requireBreeding 2 none 1 := ⟨qn_RX9, qc_yX9_requireBreeding, rfl, by decide +kernel, by decide +kernel, by decide +kernel⟩
theorem fL_X0_errorAfter : fw_L0 yX0_errorAfter cX0_errorAfter 7 (some .int) 3 := ⟨qn_RX0, qc_yX0_errorAfter, rfl, by decide +kernel, by decide +kernel, by decide +kernel⟩
theorem fL_X4_rank : fw_L0 yX4_rank cX4_rank 5 none 2 := ⟨qn_RX4, qc_yX4_rank, rfl, by decide +kernel, by decide +kernel, by decide +kernel⟩
theorem fL_X3_meritOf : fw_L0 yX3_meritOf cX3_meritOf 3 (some .int) 1 := ⟨qn_RX3, qc_yX3_meritOf, rfl, by decide +kernel, by decide +kernel, by decide +kernel⟩
theorem fL_X3_errorOf : fw_L0 yX3_errorOf cX3_errorOf 6 (some .int) 2 := ⟨qn_RX3, qc_yX3_errorOf, rfl, by decide +kernel, by decide +kernel, by decide +kernel⟩
theorem fL_X5_setInputs : fw_L0 yX5_setInputs cX5_setInputs 4 none 3 := ⟨qn_RX5, qc_yX5_setInputs, rfl, by decide +kernel, by decide +kernel, by decide +kernel⟩
theorem fL_X4_insert : fw_L0 yX4_insert cX4_insert 3 none 1 := ⟨qn_RX4, qc_yX4_insert, rfl, by decide +kernel, by decide +kernel, by decide +kernel⟩
theorem fL_X4_isBetter : fw_L0 yX4_isBetter cX4_isBetter 3 (some .boolean) 2 := ⟨qn_RX4, qc_yX4_isBetter, rfl, by decide +kernel, by decide +kernel, by decide +kernel⟩
theorem fL_X2_youngTree : fw_L0 yX2_youngTree cX2_youngTree 2 (some (.object "Barnacle$Tree")) 1 := ⟨qn_RX2, qc_yX2_youngTree, rfl, by decide +kernel, by decide +kernel, by decide +kernel⟩
theorem fL_X4_withRank : fw_L0 yX4_withRank cX4_withRank 2 (some .int) 1 := ⟨qn_RX4, qc_yX4_withRank, rfl, by decide +kernel, by decide +kernel, by decide +kernel⟩
theorem fL_X0_makeYoung : fw_L0 yX0_makeYoung cX0_makeYoung 5 none 2 := ⟨qn_RX0, qc_yX0_makeYoung, rfl, by decide +kernel, by decide +kernel, by decide +kernel⟩
theorem fL_X1_below : fw_L0 yX1_below cX1_below 2 (some .int) 1 := ⟨qn_RX1, qc_yX1_below, rfl, by decide +kernel, by decide +kernel, by decide +kernel⟩
theorem fL_X1_takeFirst : fw_L0 yX1_takeFirst cX1_takeFirst 3 (some .int) 0 := ⟨qn_RX1, qc_yX1_takeFirst, rfl, by decide +kernel, by decide +kernel, by decide +kernel⟩
theorem fL_X0_choose : fw_L0 yX0_choose cX0_choose 5 (some (.object "Barnacle$Tree")) 1 := ⟨qn_RX0, qc_yX0_choose, rfl, by decide +kernel, by decide +kernel, by decide +kernel⟩
theorem fL_X0_crossYoung : fw_L0 yX0_crossYoung cX0_crossYoung 8 none 4 := ⟨qn_RX0, qc_yX0_crossYoung, rfl, by decide +kernel, by decide +kernel, by decide +kernel⟩
theorem fL_X8_countOfType : fw_L0 yX8_countOfType cX8_countOfType 4 (some .int) 1 := ⟨qn_RX8, qc_yX8_countOfType, rfl, by decide +kernel, by decide +kernel, by decide +kernel⟩
theorem fL_X8_placeOfType : fw_L0 yX8_placeOfType cX8_placeOfType 5 (some .int) 2 := ⟨qn_RX8, qc_yX8_placeOfType, rfl, by decide +kernel, by decide +kernel, by decide +kernel⟩
theorem fL_X0_changeYoung : fw_L0 yX0_changeYoung cX0_changeYoung 4 none 2 := ⟨qn_RX0, qc_yX0_changeYoung, rfl, by decide +kernel, by decide +kernel, by decide +kernel⟩
theorem fL_X0_hoistYoung : fw_L0 yX0_hoistYoung cX0_hoistYoung 3 none 2 := ⟨qn_RX0, qc_yX0_hoistYoung, rfl, by decide +kernel, by decide +kernel, by decide +kernel⟩
theorem fL_X2_replaceByYoung : fw_L0 yX2_replaceByYoung cX2_replaceByYoung 2 none 0 := ⟨qn_RX2, qc_yX2_replaceByYoung, rfl, by decide +kernel, by decide +kernel, by decide +kernel⟩
theorem fL_X9_trees : fw_L0 yX9_trees cX9_trees 1 (some .int) 0 := ⟨qn_RX9, qc_yX9_trees, rfl, by decide +kernel, by decide +kernel, by decide +kernel⟩
theorem fL_X9_size : fw_L0 yX9_size cX9_size 2 (some .int) 1 := ⟨qn_RX9, qc_yX9_size, rfl, by decide +kernel, by decide +kernel, by decide +kernel⟩
theorem fL_X9_depth : fw_L0 yX9_depth cX9_depth 2 (some .int) 1 := ⟨qn_RX9, qc_yX9_depth, rfl, by decide +kernel, by decide +kernel, by decide +kernel⟩
theorem fL_X9_codeAt : fw_L0 yX9_codeAt cX9_codeAt 3 (some .int) 2 := ⟨qn_RX9, qc_yX9_codeAt, rfl, by decide +kernel, by decide +kernel, by decide +kernel⟩
theorem fL_X9_valueAt : fw_L0 yX9_valueAt cX9_valueAt 3 (some .int) 2 := ⟨qn_RX9, qc_yX9_valueAt, rfl, by decide +kernel, by decide +kernel, by decide +kernel⟩
theorem fL_X9_sizeAt : fw_L0 yX9_sizeAt cX9_sizeAt 3 (some .int) 2 := ⟨qn_RX9, qc_yX9_sizeAt, rfl, by decide +kernel, by decide +kernel, by decide +kernel⟩
theorem fL_X9_above : fw_L0 yX9_above cX9_above 3 (some .int) 2 := ⟨qn_RX9, qc_yX9_above, rfl, by decide +kernel, by decide +kernel, by decide +kernel⟩
theorem fL_X8_placeAbove : fw_L0 yX8_placeAbove cX8_placeAbove 3 (some .int) 1 := ⟨qn_RX8, qc_yX8_placeAbove, rfl, by decide +kernel, by decide +kernel, by decide +kernel⟩
theorem fL_X9_gives : fw_L0 yX9_gives cX9_gives 6 (some .int) 4 := ⟨qn_RX9, qc_yX9_gives, rfl, by decide +kernel, by decide +kernel, by decide +kernel⟩
theorem fL_X9_requireInputs : fw_L0 yX9_requireInputs cX9_requireInputs 3 none 3 := ⟨qn_RX9, qc_yX9_requireInputs, rfl, by decide +kernel, by decide +kernel, by decide +kernel⟩
theorem fL_X9_isInput : fw_L0 yX9_isInput cX9_isInput 1 (some .boolean) 1 := ⟨qn_RX9, qc_yX9_isInput, rfl, by decide +kernel, by decide +kernel, by decide +kernel⟩
theorem fL_X9_error : fw_L0 yX9_error cX9_error 2 (some .int) 1 := ⟨qn_RX9, qc_yX9_error, rfl, by decide +kernel, by decide +kernel, by decide +kernel⟩
theorem fL_X9_merit : fw_L0 yX9_merit cX9_merit 2 (some .int) 1 := ⟨qn_RX9, qc_yX9_merit, rfl, by decide +kernel, by decide +kernel, by decide +kernel⟩
theorem fL_X9_ranked : fw_L0 yX9_ranked cX9_ranked 2 (some .int) 1 := ⟨qn_RX9, qc_yX9_ranked, rfl, by decide +kernel, by decide +kernel, by decide +kernel⟩
theorem fL_X9_alike : fw_L0 yX9_alike cX9_alike 3 (some .int) 2 := ⟨qn_RX9, qc_yX9_alike, rfl, by decide +kernel, by decide +kernel, by decide +kernel⟩
theorem fL_X8_sameNodes : fw_L0 yX8_sameNodes cX8_sameNodes 4 (some .int) 1 := ⟨qn_RX8, qc_yX8_sameNodes, rfl, by decide +kernel, by decide +kernel, by decide +kernel⟩
theorem fL_X9_errorCrossed : fw_L0 yX9_errorCrossed cX9_errorCrossed 7 (some .int) 4 := ⟨qn_RX9, qc_yX9_errorCrossed, rfl, by decide +kernel, by decide +kernel, by decide +kernel⟩
theorem fL_X9_bestHoist : fw_L0 yX9_bestHoist cX9_bestHoist 7 (some .int) 1 := ⟨qn_RX9, qc_yX9_bestHoist, rfl, by decide +kernel, by decide +kernel, by decide +kernel⟩
theorem fL_X9_errorBred : fw_L0 yX9_errorBred cX9_errorBred 2 (some .int) 1 := ⟨qn_RX9, qc_yX9_errorBred, rfl, by decide +kernel, by decide +kernel, by decide +kernel⟩
theorem fL_X2_copyFrom : fw_L0 yX2_copyFrom cX2_copyFrom 3 none 1 := ⟨qn_RX2, qc_yX2_copyFrom, rfl, by decide +kernel, by decide +kernel, by decide +kernel⟩
theorem fL_X1_copyFrom : fw_L0 yX1_copyFrom cX1_copyFrom 3 none 1 := ⟨qn_RX1, qc_yX1_copyFrom, rfl, by decide +kernel, by decide +kernel, by decide +kernel⟩
theorem fL_X9_digest : fw_L0 yX9_digest cX9_digest 4 (some .long) 0 := ⟨qn_RX9, qc_yX9_digest, rfl, by decide +kernel, by decide +kernel, by decide +kernel⟩
theorem fL_X9_different : fw_L0 yX9_different cX9_different 3 (some .int) 0 := ⟨qn_RX9, qc_yX9_different, rfl, by decide +kernel, by decide +kernel, by decide +kernel⟩
theorem fL_X2_hasEarlierTwin : fw_L0 yX2_hasEarlierTwin cX2_hasEarlierTwin 5 (some .boolean) 1 := ⟨qn_RX2, qc_yX2_hasEarlierTwin, rfl, by decide +kernel, by decide +kernel, by decide +kernel⟩
theorem fL_X9_digestWith : fw_L0 yX9_digestWith cX9_digestWith 7 (some .long) 2 := ⟨qn_RX9, qc_yX9_digestWith, rfl, by decide +kernel, by decide +kernel, by decide +kernel⟩
theorem fL_X3_hitsOf : fw_L0 yX3_hitsOf cX3_hitsOf 4 (some .int) 1 := ⟨qn_RX3, qc_yX3_hitsOf, rfl, by decide +kernel, by decide +kernel, by decide +kernel⟩
theorem fL_X10_init : fw_L0 yX10_init cX10_init 3 none 2 := ⟨qn_RX10, qc_yX10_init, rfl, by decide +kernel, by decide +kernel, by decide +kernel⟩
theorem fL_X9_init : fw_L0 yX9_init cX9_init 1 none 0 := ⟨qn_RX9, qc_yX9_init, rfl, by decide +kernel, by decide +kernel, by decide +kernel⟩
theorem fL_X7_init : fw_L0 yX7_init cX7_init 1 none 0 := ⟨qn_RX7, qc_yX7_init, rfl, by decide +kernel, by decide +kernel, by decide +kernel⟩
theorem fL_X8_init : fw_L0 yX8_init cX8_init 1 none 0 := ⟨qn_RX8, qc_yX8_init, rfl, by decide +kernel, by decide +kernel, by decide +kernel⟩
theorem fL_X7_clear : fw_L0 yX7_clear cX7_clear 1 none 0 := ⟨qn_RX7, qc_yX7_clear, rfl, by decide +kernel, by decide +kernel, by decide +kernel⟩
theorem fL_X7_miss : fw_L0 yX7_miss cX7_miss 3 none 2 := ⟨qn_RX7, qc_yX7_miss, rfl, by decide +kernel, by decide +kernel, by decide +kernel⟩
theorem fL_X7_needOf : fw_L0 yX7_needOf cX7_needOf 1 (some .int) 1 := ⟨qn_RX7, qc_yX7_needOf, rfl, by decide +kernel, by decide +kernel, by decide +kernel⟩
theorem fL_X3_init : fw_L0 yX3_init cX3_init 1 none 0 := ⟨qn_RX3, qc_yX3_init, rfl, by decide +kernel, by decide +kernel, by decide +kernel⟩
theorem fL_X5_init : fw_L0 yX5_init cX5_init 1 none 0 := ⟨qn_RX5, qc_yX5_init, rfl, by decide +kernel, by decide +kernel, by decide +kernel⟩
theorem fL_X4_init : fw_L0 yX4_init cX4_init 1 none 0 := ⟨qn_RX4, qc_yX4_init, rfl, by decide +kernel, by decide +kernel, by decide +kernel⟩
theorem fL_X0_init : fw_L0 yX0_init cX0_init 1 none 0 := ⟨qn_RX0, qc_yX0_init, rfl, by decide +kernel, by decide +kernel, by decide +kernel⟩
theorem fL_X6_init : fw_L0 yX6_init cX6_init 1 none 0 := ⟨qn_RX6, qc_yX6_init, rfl, by decide +kernel, by decide +kernel, by decide +kernel⟩
theorem fL_X2_init : fw_L0 yX2_init cX2_init 2 none 0 := ⟨qn_RX2, qc_yX2_init, rfl, by decide +kernel, by decide +kernel, by decide +kernel⟩
theorem fL_X1_init : fw_L0 yX1_init cX1_init 1 none 0 := ⟨qn_RX1, qc_yX1_init, rfl, by decide +kernel, by decide +kernel, by decide +kernel⟩
theorem fL_X10_draw : fw_L0 yX10_draw cX10_draw 3 (some .int) 1 := ⟨qn_RX10, qc_yX10_draw, rfl, by decide +kernel, by decide +kernel, by decide +kernel⟩
theorem fL_X10_many : fw_L0 yX10_many cX10_many 1 (some .int) 1 := ⟨qn_RX10, qc_yX10_many, rfl, by decide +kernel, by decide +kernel, by decide +kernel⟩
theorem fL_X10_isNumber : fw_L0 yX10_isNumber cX10_isNumber 2 (some .boolean) 2 := ⟨qn_RX10, qc_yX10_isNumber, rfl, by decide +kernel, by decide +kernel, by decide +kernel⟩
theorem fL_X10_plant : fw_L0 yX10_plant cX10_plant 4 (some .boolean) 0 := ⟨qn_RX10, qc_yX10_plant, rfl, by decide +kernel, by decide +kernel, by decide +kernel⟩
theorem fL_X10_grown : fw_L0 yX10_grown cX10_grown 6 (some (.array .int)) 2 := ⟨qn_RX10, qc_yX10_grown, rfl, by decide +kernel, by decide +kernel, by decide +kernel⟩
theorem fL_X10_joined : fw_L0 yX10_joined cX10_joined 3 (some (.array .int)) 2 := ⟨qn_RX10, qc_yX10_joined, rfl, by decide +kernel, by decide +kernel, by decide +kernel⟩
theorem fL_X9_sketch : fw_L0 yX9_sketch cX9_sketch 3 (some .int) 2 := ⟨qn_RX9, qc_yX9_sketch, rfl, by decide +kernel, by decide +kernel, by decide +kernel⟩
theorem fL_X9_requireNode : fw_L0 yX9_requireNode cX9_requireNode 2 none 2 := ⟨qn_RX9, qc_yX9_requireNode, rfl, by decide +kernel, by decide +kernel, by decide +kernel⟩
theorem fL_X7_accepts : fw_L0 yX7_accepts cX7_accepts 7 (some .boolean) 1 := ⟨qn_RX7, qc_yX7_accepts, rfl, by decide +kernel, by decide +kernel, by decide +kernel⟩
theorem fL_X9_isNumberPart : fw_L0 yX9_isNumberPart cX9_isNumberPart 2 (some .boolean) 2 := ⟨qn_RX9, qc_yX9_isNumberPart, rfl, by decide +kernel, by decide +kernel, by decide +kernel⟩
theorem fL_X7_take : fw_L0 yX7_take cX7_take 5 none 2 := ⟨qn_RX7, qc_yX7_take, rfl, by decide +kernel, by decide +kernel, by decide +kernel⟩
theorem fL_X8_append : fw_L0 yX8_append cX8_append 3 none 2 := ⟨qn_RX8, qc_yX8_append, rfl, by decide +kernel, by decide +kernel, by decide +kernel⟩
theorem fL_X9_sketched : fw_L0 yX9_sketched cX9_sketched 1 (some .int) 0 := ⟨qn_RX9, qc_yX9_sketched, rfl, by decide +kernel, by decide +kernel, by decide +kernel⟩
theorem fL_X9_plant : fw_L0 yX9_plant cX9_plant 2 (some .int) 0 := ⟨qn_RX9, qc_yX9_plant, rfl, by decide +kernel, by decide +kernel, by decide +kernel⟩
theorem fL_X2_add : fw_L0 yX2_add cX2_add 2 none 1 := ⟨qn_RX2, qc_yX2_add, rfl, by decide +kernel, by decide +kernel, by decide +kernel⟩
theorem fL_X10_addCase : fw_L0 yX10_addCase cX10_addCase 2 (some .boolean) 0 := ⟨qn_RX10, qc_yX10_addCase, rfl, by decide +kernel, by decide +kernel, by decide +kernel⟩
theorem fL_X9_addCase : fw_L0 yX9_addCase cX9_addCase 6 (some .int) 4 := ⟨qn_RX9, qc_yX9_addCase, rfl, by decide +kernel, by decide +kernel, by decide +kernel⟩
theorem fL_X3_add : fw_L0 yX3_add cX3_add 5 none 4 := ⟨qn_RX3, qc_yX3_add, rfl, by decide +kernel, by decide +kernel, by decide +kernel⟩
end
section
theorem dL_below_0 : decode cL_below 0 = .ok (.iload_n 0, 1) := by decide +kernel
theorem dL_below_1 : decode cL_below 1 = .ok (.ldc 7, 2) := by decide +kernel
theorem dL_below_3 : decode cL_below 3 = .ok (.iand, 1) := by decide +kernel
theorem dL_below_4 : decode cL_below 4 = .ok (.iload_n 1, 1) := by decide +kernel
theorem dL_below_5 : decode cL_below 5 = .ok (.irem, 1) := by decide +kernel
theorem dL_below_6 : decode cL_below 6 = .ok (.ireturn, 1) := by decide +kernel
theorem dL_cell_0 : decode cL_cell 0 = .ok (.iload_n 1, 1) := by decide +kernel
theorem dL_cell_1 : decode cL_cell 1 = .ok (.aload_n 0, 1) := by decide +kernel
theorem dL_cell_2 : decode cL_cell 2 = .ok (.arraylength, 1) := by decide +kernel
theorem dL_cell_3 : decode cL_cell 3 = .ok (.if_icmp .ge 9, 3) := by decide +kernel
theorem dL_cell_6 : decode cL_cell 6 = .ok (.aload_n 0, 1) := by decide +kernel
theorem dL_cell_7 : decode cL_cell 7 = .ok (.iload_n 1, 1) := by decide +kernel
theorem dL_cell_8 : decode cL_cell 8 = .ok (.iaload, 1) := by decide +kernel
theorem dL_cell_9 : decode cL_cell 9 = .ok (.goto 9, 3) := by decide +kernel
theorem dL_cell_12 : decode cL_cell 12 = .ok (.ldc 8, 2) := by decide +kernel
theorem dL_cell_14 : decode cL_cell 14 = .ok (.iload_n 1, 1) := by decide +kernel
theorem dL_cell_15 : decode cL_cell 15 = .ok (.iconst 3, 1) := by decide +kernel
theorem dL_cell_16 : decode cL_cell 16 = .ok (.iadd, 1) := by decide +kernel
theorem dL_cell_17 : decode cL_cell 17 = .ok (.imul, 1) := by decide +kernel
theorem dL_cell_18 : decode cL_cell 18 = .ok (.ireturn, 1) := by decide +kernel
theorem dL_law_0 : decode cL_law 0 = .ok (.iconst 0, 1) := by decide +kernel
theorem dL_law_1 : decode cL_law 1 = .ok (.istore_n 1, 1) := by decide +kernel
theorem dL_law_2 : decode cL_law 2 = .ok (.iload_n 1, 1) := by decide +kernel
theorem dL_law_3 : decode cL_law 3 = .ok (.iconst 3, 1) := by decide +kernel
theorem dL_law_4 : decode cL_law 4 = .ok (.if_icmp .ge 828, 3) := by decide +kernel
theorem dL_law_7 : decode cL_law 7 = .ok (.new 9, 3) := by decide +kernel
theorem dL_law_10 : decode cL_law 10 = .ok (.dup, 1) := by decide +kernel
theorem dL_law_11 : decode cL_law 11 = .ok (.aload_n 0, 1) := by decide +kernel
theorem dL_law_12 : decode cL_law 12 = .ok (.bipush 31, 2) := by decide +kernel
theorem dL_law_14 : decode cL_law 14 = .ok (.iload_n 1, 1) := by decide +kernel
theorem dL_law_15 : decode cL_law 15 = .ok (.imul, 1) := by decide +kernel
theorem dL_law_16 : decode cL_law 16 = .ok (.bipush 7, 2) := by decide +kernel
theorem dL_law_18 : decode cL_law 18 = .ok (.iadd, 1) := by decide +kernel
theorem dL_law_19 : decode cL_law 19 = .ok (.invokespecial 11, 3) := by decide +kernel
theorem dL_law_22 : decode cL_law 22 = .ok (.astore_n 2, 1) := by decide +kernel
theorem dL_law_23 : decode cL_law 23 = .ok (.aload_n 2, 1) := by decide +kernel
theorem dL_law_24 : decode cL_law 24 = .ok (.getfield 14, 3) := by decide +kernel
theorem dL_law_27 : decode cL_law 27 = .ok (.astore_n 3, 1) := by decide +kernel
theorem dL_law_28 : decode cL_law 28 = .ok (.iconst 2, 1) := by decide +kernel
theorem dL_law_29 : decode cL_law 29 = .ok (.aload_n 2, 1) := by decide +kernel
theorem dL_law_30 : decode cL_law 30 = .ok (.iconst 4, 1) := by decide +kernel
theorem dL_law_31 : decode cL_law 31 = .ok (.invokevirtual 18, 3) := by decide +kernel
theorem dL_law_34 : decode cL_law 34 = .ok (.iadd, 1) := by decide +kernel
theorem dL_law_35 : decode cL_law 35 = .ok (.istore 4, 2) := by decide +kernel
theorem dL_law_37 : decode cL_law 37 = .ok (.iload 4, 2) := by decide +kernel
theorem dL_law_39 : decode cL_law 39 = .ok (.ifCond .le 18, 3) := by decide +kernel
theorem dL_law_42 : decode cL_law 42 = .ok (.aload_n 2, 1) := by decide +kernel
theorem dL_law_43 : decode cL_law 43 = .ok (.invokevirtual 22, 3) := by decide +kernel
theorem dL_law_46 : decode cL_law 46 = .ok (.ifCond .ne 5, 3) := by decide +kernel
theorem dL_law_49 : decode cL_law 49 = .ok (.iconst 0, 1) := by decide +kernel
theorem dL_law_50 : decode cL_law 50 = .ok (.ireturn, 1) := by decide +kernel
theorem dL_law_51 : decode cL_law 51 = .ok (.iinc 4 (-1), 3) := by decide +kernel
theorem dL_law_54 : decode cL_law 54 = .ok (.goto (-17), 3) := by decide +kernel
theorem dL_law_57 : decode cL_law 57 = .ok (.iconst 1, 1) := by decide +kernel
theorem dL_law_58 : decode cL_law 58 = .ok (.aload_n 2, 1) := by decide +kernel
theorem dL_law_59 : decode cL_law 59 = .ok (.iconst 3, 1) := by decide +kernel
theorem dL_law_60 : decode cL_law 60 = .ok (.invokevirtual 18, 3) := by decide +kernel
theorem dL_law_63 : decode cL_law 63 = .ok (.iadd, 1) := by decide +kernel
theorem dL_law_64 : decode cL_law 64 = .ok (.istore 4, 2) := by decide +kernel
theorem dL_law_66 : decode cL_law 66 = .ok (.iload 4, 2) := by decide +kernel
theorem dL_law_68 : decode cL_law 68 = .ok (.ifCond .le 18, 3) := by decide +kernel
theorem dL_law_71 : decode cL_law 71 = .ok (.aload_n 2, 1) := by decide +kernel
theorem dL_law_72 : decode cL_law 72 = .ok (.invokevirtual 26, 3) := by decide +kernel
theorem dL_law_75 : decode cL_law 75 = .ok (.ifCond .ne 5, 3) := by decide +kernel
theorem dL_law_78 : decode cL_law 78 = .ok (.iconst 0, 1) := by decide +kernel
theorem dL_law_79 : decode cL_law 79 = .ok (.ireturn, 1) := by decide +kernel
theorem dL_law_80 : decode cL_law 80 = .ok (.iinc 4 (-1), 3) := by decide +kernel
theorem dL_law_83 : decode cL_law 83 = .ok (.goto (-17), 3) := by decide +kernel
theorem dL_law_86 : decode cL_law 86 = .ok (.aload_n 3, 1) := by decide +kernel
theorem dL_law_87 : decode cL_law 87 = .ok (.aload_n 2, 1) := by decide +kernel
theorem dL_law_88 : decode cL_law 88 = .ok (.sipush 10000, 3) := by decide +kernel
theorem dL_law_91 : decode cL_law 91 = .ok (.invokevirtual 18, 3) := by decide +kernel
theorem dL_law_94 : decode cL_law 94 = .ok (.invokevirtual 29, 3) := by decide +kernel
theorem dL_law_97 : decode cL_law 97 = .ok (.pop, 1) := by decide +kernel
theorem dL_law_98 : decode cL_law 98 = .ok (.aload_n 3, 1) := by decide +kernel
theorem dL_law_99 : decode cL_law 99 = .ok (.iconst 1, 1) := by decide +kernel
theorem dL_law_100 : decode cL_law 100 = .ok (.aload_n 2, 1) := by decide +kernel
theorem dL_law_101 : decode cL_law 101 = .ok (.iconst 4, 1) := by decide +kernel
theorem dL_law_102 : decode cL_law 102 = .ok (.invokevirtual 18, 3) := by decide +kernel
theorem dL_law_105 : decode cL_law 105 = .ok (.iadd, 1) := by decide +kernel
theorem dL_law_106 : decode cL_law 106 = .ok (.iconst 1, 1) := by decide +kernel
theorem dL_law_107 : decode cL_law 107 = .ok (.aload_n 2, 1) := by decide +kernel
theorem dL_law_108 : decode cL_law 108 = .ok (.iconst 3, 1) := by decide +kernel
theorem dL_law_109 : decode cL_law 109 = .ok (.invokevirtual 18, 3) := by decide +kernel
theorem dL_law_112 : decode cL_law 112 = .ok (.iadd, 1) := by decide +kernel
theorem dL_law_113 : decode cL_law 113 = .ok (.invokevirtual 34, 3) := by decide +kernel
theorem dL_law_116 : decode cL_law 116 = .ok (.pop, 1) := by decide +kernel
theorem dL_law_117 : decode cL_law 117 = .ok (.aload_n 3, 1) := by decide +kernel
theorem dL_law_118 : decode cL_law 118 = .ok (.aload_n 2, 1) := by decide +kernel
theorem dL_law_119 : decode cL_law 119 = .ok (.iconst 3, 1) := by decide +kernel
theorem dL_law_120 : decode cL_law 120 = .ok (.invokevirtual 18, 3) := by decide +kernel
theorem dL_law_123 : decode cL_law 123 = .ok (.aload_n 2, 1) := by decide +kernel
theorem dL_law_124 : decode cL_law 124 = .ok (.bipush 9, 2) := by decide +kernel
theorem dL_law_126 : decode cL_law 126 = .ok (.invokevirtual 18, 3) := by decide +kernel
theorem dL_law_129 : decode cL_law 129 = .ok (.invokevirtual 38, 3) := by decide +kernel
theorem dL_law_132 : decode cL_law 132 = .ok (.pop, 1) := by decide +kernel
theorem dL_law_133 : decode cL_law 133 = .ok (.iconst 0, 1) := by decide +kernel
theorem dL_law_134 : decode cL_law 134 = .ok (.istore 4, 2) := by decide +kernel
theorem dL_law_136 : decode cL_law 136 = .ok (.iload 4, 2) := by decide +kernel
theorem dL_law_138 : decode cL_law 138 = .ok (.bipush 8, 2) := by decide +kernel
theorem dL_law_140 : decode cL_law 140 = .ok (.if_icmp .ge 686, 3) := by decide +kernel
theorem dL_law_143 : decode cL_law 143 = .ok (.aload_n 2, 1) := by decide +kernel
theorem dL_law_144 : decode cL_law 144 = .ok (.aload_n 3, 1) := by decide +kernel
theorem dL_law_145 : decode cL_law 145 = .ok (.invokevirtual 41, 3) := by decide +kernel
theorem dL_law_148 : decode cL_law 148 = .ok (.invokevirtual 18, 3) := by decide +kernel
theorem dL_law_151 : decode cL_law 151 = .ok (.istore 5, 2) := by decide +kernel
theorem dL_law_153 : decode cL_law 153 = .ok (.aload_n 2, 1) := by decide +kernel
theorem dL_law_154 : decode cL_law 154 = .ok (.aload_n 3, 1) := by decide +kernel
theorem dL_law_155 : decode cL_law 155 = .ok (.iload 5, 2) := by decide +kernel
theorem dL_law_157 : decode cL_law 157 = .ok (.invokevirtual 45, 3) := by decide +kernel
theorem dL_law_160 : decode cL_law 160 = .ok (.invokevirtual 18, 3) := by decide +kernel
theorem dL_law_163 : decode cL_law 163 = .ok (.istore 6, 2) := by decide +kernel
theorem dL_law_165 : decode cL_law 165 = .ok (.aload_n 2, 1) := by decide +kernel
theorem dL_law_166 : decode cL_law 166 = .ok (.aload_n 3, 1) := by decide +kernel
theorem dL_law_167 : decode cL_law 167 = .ok (.invokevirtual 41, 3) := by decide +kernel
theorem dL_law_170 : decode cL_law 170 = .ok (.invokevirtual 18, 3) := by decide +kernel
theorem dL_law_173 : decode cL_law 173 = .ok (.istore 7, 2) := by decide +kernel
theorem dL_law_175 : decode cL_law 175 = .ok (.aload_n 2, 1) := by decide +kernel
theorem dL_law_176 : decode cL_law 176 = .ok (.aload_n 3, 1) := by decide +kernel
theorem dL_law_177 : decode cL_law 177 = .ok (.iload 7, 2) := by decide +kernel
theorem dL_law_179 : decode cL_law 179 = .ok (.invokevirtual 45, 3) := by decide +kernel
theorem dL_law_182 : decode cL_law 182 = .ok (.invokevirtual 18, 3) := by decide +kernel
theorem dL_law_185 : decode cL_law 185 = .ok (.istore 8, 2) := by decide +kernel
theorem dL_law_187 : decode cL_law 187 = .ok (.aload_n 3, 1) := by decide +kernel
theorem dL_law_188 : decode cL_law 188 = .ok (.invokevirtual 48, 3) := by decide +kernel
theorem dL_law_191 : decode cL_law 191 = .ok (.lstore 9, 2) := by decide +kernel
theorem dL_law_193 : decode cL_law 193 = .ok (.aload_n 3, 1) := by decide +kernel
theorem dL_law_194 : decode cL_law 194 = .ok (.iload 5, 2) := by decide +kernel
theorem dL_law_196 : decode cL_law 196 = .ok (.iload 6, 2) := by decide +kernel
theorem dL_law_198 : decode cL_law 198 = .ok (.iload 7, 2) := by decide +kernel
theorem dL_law_200 : decode cL_law 200 = .ok (.iload 8, 2) := by decide +kernel
theorem dL_law_202 : decode cL_law 202 = .ok (.invokevirtual 52, 3) := by decide +kernel
theorem dL_law_205 : decode cL_law 205 = .ok (.istore 11, 2) := by decide +kernel
theorem dL_law_207 : decode cL_law 207 = .ok (.aload_n 3, 1) := by decide +kernel
theorem dL_law_208 : decode cL_law 208 = .ok (.iload 5, 2) := by decide +kernel
theorem dL_law_210 : decode cL_law 210 = .ok (.invokevirtual 56, 3) := by decide +kernel
theorem dL_law_213 : decode cL_law 213 = .ok (.istore 12, 2) := by decide +kernel
theorem dL_law_215 : decode cL_law 215 = .ok (.aload_n 3, 1) := by decide +kernel
theorem dL_law_216 : decode cL_law 216 = .ok (.iload 5, 2) := by decide +kernel
theorem dL_law_218 : decode cL_law 218 = .ok (.invokevirtual 59, 3) := by decide +kernel
theorem dL_law_221 : decode cL_law 221 = .ok (.istore 13, 2) := by decide +kernel
theorem dL_law_223 : decode cL_law 223 = .ok (.aload_n 3, 1) := by decide +kernel
theorem dL_law_224 : decode cL_law 224 = .ok (.iconst 2, 1) := by decide +kernel
theorem dL_law_225 : decode cL_law 225 = .ok (.invokevirtual 62, 3) := by decide +kernel
theorem dL_law_228 : decode cL_law 228 = .ok (.istore 14, 2) := by decide +kernel
theorem dL_law_230 : decode cL_law 230 = .ok (.aload_n 3, 1) := by decide +kernel
theorem dL_law_231 : decode cL_law 231 = .ok (.aload_n 3, 1) := by decide +kernel
theorem dL_law_232 : decode cL_law 232 = .ok (.iconst 0, 1) := by decide +kernel
theorem dL_law_233 : decode cL_law 233 = .ok (.invokevirtual 65, 3) := by decide +kernel
theorem dL_law_236 : decode cL_law 236 = .ok (.invokevirtual 68, 3) := by decide +kernel
theorem dL_law_239 : decode cL_law 239 = .ok (.istore 15, 2) := by decide +kernel
theorem dL_law_241 : decode cL_law 241 = .ok (.aload_n 3, 1) := by decide +kernel
theorem dL_law_242 : decode cL_law 242 = .ok (.invokevirtual 48, 3) := by decide +kernel
theorem dL_law_245 : decode cL_law 245 = .ok (.lload 9, 2) := by decide +kernel
theorem dL_law_247 : decode cL_law 247 = .ok (.lcmp, 1) := by decide +kernel
theorem dL_law_248 : decode cL_law 248 = .ok (.ifCond .eq 5, 3) := by decide +kernel
theorem dL_law_251 : decode cL_law 251 = .ok (.iconst 0, 1) := by decide +kernel
theorem dL_law_252 : decode cL_law 252 = .ok (.ireturn, 1) := by decide +kernel
theorem dL_law_253 : decode cL_law 253 = .ok (.aload_n 2, 1) := by decide +kernel
theorem dL_law_254 : decode cL_law 254 = .ok (.iconst 5, 1) := by decide +kernel
theorem dL_law_255 : decode cL_law 255 = .ok (.invokevirtual 18, 3) := by decide +kernel
theorem dL_law_258 : decode cL_law 258 = .ok (.tableswitch 222 0 3 #[30, 81, 106, 185], 30) := by decide +kernel
theorem dL_law_288 : decode cL_law 288 = .ok (.aload_n 3, 1) := by decide +kernel
theorem dL_law_289 : decode cL_law 289 = .ok (.iload 5, 2) := by decide +kernel
theorem dL_law_291 : decode cL_law 291 = .ok (.iload 6, 2) := by decide +kernel
theorem dL_law_293 : decode cL_law 293 = .ok (.iload 7, 2) := by decide +kernel
theorem dL_law_295 : decode cL_law 295 = .ok (.iload 8, 2) := by decide +kernel
theorem dL_law_297 : decode cL_law 297 = .ok (.invokevirtual 71, 3) := by decide +kernel
theorem dL_law_300 : decode cL_law 300 = .ok (.ifCond .ge 7, 3) := by decide +kernel
theorem dL_law_303 : decode cL_law 303 = .ok (.iconst 1, 1) := by decide +kernel
theorem dL_law_304 : decode cL_law 304 = .ok (.goto 4, 3) := by decide +kernel
theorem dL_law_307 : decode cL_law 307 = .ok (.iconst 0, 1) := by decide +kernel
theorem dL_law_308 : decode cL_law 308 = .ok (.iload 11, 2) := by decide +kernel
theorem dL_law_310 : decode cL_law 310 = .ok (.ifCond .ge 7, 3) := by decide +kernel
theorem dL_law_313 : decode cL_law 313 = .ok (.iconst 1, 1) := by decide +kernel
theorem dL_law_314 : decode cL_law 314 = .ok (.goto 4, 3) := by decide +kernel
theorem dL_law_317 : decode cL_law 317 = .ok (.iconst 0, 1) := by decide +kernel
theorem dL_law_318 : decode cL_law 318 = .ok (.if_icmp .ne 19, 3) := by decide +kernel
theorem dL_law_321 : decode cL_law 321 = .ok (.iload 11, 2) := by decide +kernel
theorem dL_law_323 : decode cL_law 323 = .ok (.ifCond .lt 183, 3) := by decide +kernel
theorem dL_law_326 : decode cL_law 326 = .ok (.aload_n 3, 1) := by decide +kernel
theorem dL_law_327 : decode cL_law 327 = .ok (.iload 5, 2) := by decide +kernel
theorem dL_law_329 : decode cL_law 329 = .ok (.invokevirtual 59, 3) := by decide +kernel
theorem dL_law_332 : decode cL_law 332 = .ok (.iload 11, 2) := by decide +kernel
theorem dL_law_334 : decode cL_law 334 = .ok (.if_icmp .eq 172, 3) := by decide +kernel
theorem dL_law_337 : decode cL_law 337 = .ok (.iconst 0, 1) := by decide +kernel
theorem dL_law_338 : decode cL_law 338 = .ok (.ireturn, 1) := by decide +kernel
theorem dL_law_339 : decode cL_law 339 = .ok (.aload_n 3, 1) := by decide +kernel
theorem dL_law_340 : decode cL_law 340 = .ok (.iload 5, 2) := by decide +kernel
theorem dL_law_342 : decode cL_law 342 = .ok (.iload 12, 2) := by decide +kernel
theorem dL_law_344 : decode cL_law 344 = .ok (.invokevirtual 74, 3) := by decide +kernel
theorem dL_law_347 : decode cL_law 347 = .ok (.iconst 1, 1) := by decide +kernel
theorem dL_law_348 : decode cL_law 348 = .ok (.if_icmp .lt 14, 3) := by decide +kernel
theorem dL_law_351 : decode cL_law 351 = .ok (.aload_n 3, 1) := by decide +kernel
theorem dL_law_352 : decode cL_law 352 = .ok (.iload 5, 2) := by decide +kernel
theorem dL_law_354 : decode cL_law 354 = .ok (.invokevirtual 59, 3) := by decide +kernel
theorem dL_law_357 : decode cL_law 357 = .ok (.iload 13, 2) := by decide +kernel
theorem dL_law_359 : decode cL_law 359 = .ok (.if_icmp .le 147, 3) := by decide +kernel
theorem dL_law_362 : decode cL_law 362 = .ok (.iconst 0, 1) := by decide +kernel
theorem dL_law_363 : decode cL_law 363 = .ok (.ireturn, 1) := by decide +kernel
theorem dL_law_364 : decode cL_law 364 = .ok (.aload_n 3, 1) := by decide +kernel
theorem dL_law_365 : decode cL_law 365 = .ok (.iload 5, 2) := by decide +kernel
theorem dL_law_367 : decode cL_law 367 = .ok (.iconst 3, 1) := by decide +kernel
theorem dL_law_368 : decode cL_law 368 = .ok (.bipush (-2), 2) := by decide +kernel
theorem dL_law_370 : decode cL_law 370 = .ok (.bipush 7, 2) := by decide +kernel
theorem dL_law_372 : decode cL_law 372 = .ok (.invokevirtual 77, 3) := by decide +kernel
theorem dL_law_375 : decode cL_law 375 = .ok (.istore 16, 2) := by decide +kernel
theorem dL_law_377 : decode cL_law 377 = .ok (.aload_n 3, 1) := by decide +kernel
theorem dL_law_378 : decode cL_law 378 = .ok (.iload 5, 2) := by decide +kernel
theorem dL_law_380 : decode cL_law 380 = .ok (.invokevirtual 45, 3) := by decide +kernel
theorem dL_law_383 : decode cL_law 383 = .ok (.istore 17, 2) := by decide +kernel
theorem dL_law_385 : decode cL_law 385 = .ok (.aload_n 3, 1) := by decide +kernel
theorem dL_law_386 : decode cL_law 386 = .ok (.iload 5, 2) := by decide +kernel
theorem dL_law_388 : decode cL_law 388 = .ok (.invokevirtual 80, 3) := by decide +kernel
theorem dL_law_391 : decode cL_law 391 = .ok (.iload 17, 2) := by decide +kernel
theorem dL_law_393 : decode cL_law 393 = .ok (.aload_n 3, 1) := by decide +kernel
theorem dL_law_394 : decode cL_law 394 = .ok (.iload 5, 2) := by decide +kernel
theorem dL_law_396 : decode cL_law 396 = .ok (.invokevirtual 45, 3) := by decide +kernel
theorem dL_law_399 : decode cL_law 399 = .ok (.isub, 1) := by decide +kernel
theorem dL_law_400 : decode cL_law 400 = .ok (.if_icmp .ne 41, 3) := by decide +kernel
theorem dL_law_403 : decode cL_law 403 = .ok (.aload_n 3, 1) := by decide +kernel
theorem dL_law_404 : decode cL_law 404 = .ok (.iload 5, 2) := by decide +kernel
theorem dL_law_406 : decode cL_law 406 = .ok (.invokevirtual 45, 3) := by decide +kernel
theorem dL_law_409 : decode cL_law 409 = .ok (.iload 17, 2) := by decide +kernel
theorem dL_law_411 : decode cL_law 411 = .ok (.if_icmp .gt 30, 3) := by decide +kernel
theorem dL_law_414 : decode cL_law 414 = .ok (.aload_n 3, 1) := by decide +kernel
theorem dL_law_415 : decode cL_law 415 = .ok (.iload 5, 2) := by decide +kernel
theorem dL_law_417 : decode cL_law 417 = .ok (.iconst 3, 1) := by decide +kernel
theorem dL_law_418 : decode cL_law 418 = .ok (.bipush (-2), 2) := by decide +kernel
theorem dL_law_420 : decode cL_law 420 = .ok (.bipush 7, 2) := by decide +kernel
theorem dL_law_422 : decode cL_law 422 = .ok (.invokevirtual 77, 3) := by decide +kernel
theorem dL_law_425 : decode cL_law 425 = .ok (.iload 16, 2) := by decide +kernel
theorem dL_law_427 : decode cL_law 427 = .ok (.if_icmp .ne 14, 3) := by decide +kernel
theorem dL_law_430 : decode cL_law 430 = .ok (.aload_n 3, 1) := by decide +kernel
theorem dL_law_431 : decode cL_law 431 = .ok (.iload 5, 2) := by decide +kernel
theorem dL_law_433 : decode cL_law 433 = .ok (.invokevirtual 59, 3) := by decide +kernel
theorem dL_law_436 : decode cL_law 436 = .ok (.iload 13, 2) := by decide +kernel
theorem dL_law_438 : decode cL_law 438 = .ok (.if_icmp .eq 68, 3) := by decide +kernel
theorem dL_law_441 : decode cL_law 441 = .ok (.iconst 0, 1) := by decide +kernel
theorem dL_law_442 : decode cL_law 442 = .ok (.ireturn, 1) := by decide +kernel
theorem dL_law_443 : decode cL_law 443 = .ok (.aload_n 3, 1) := by decide +kernel
theorem dL_law_444 : decode cL_law 444 = .ok (.iload 5, 2) := by decide +kernel
theorem dL_law_446 : decode cL_law 446 = .ok (.iload 6, 2) := by decide +kernel
theorem dL_law_448 : decode cL_law 448 = .ok (.iconst 4, 1) := by decide +kernel
theorem dL_law_449 : decode cL_law 449 = .ok (.invokevirtual 83, 3) := by decide +kernel
theorem dL_law_452 : decode cL_law 452 = .ok (.ifCond .le 54, 3) := by decide +kernel
theorem dL_law_455 : decode cL_law 455 = .ok (.aload_n 3, 1) := by decide +kernel
theorem dL_law_456 : decode cL_law 456 = .ok (.iload 5, 2) := by decide +kernel
theorem dL_law_458 : decode cL_law 458 = .ok (.iload 6, 2) := by decide +kernel
theorem dL_law_460 : decode cL_law 460 = .ok (.invokevirtual 87, 3) := by decide +kernel
theorem dL_law_463 : decode cL_law 463 = .ok (.ifCond .ne 15, 3) := by decide +kernel
theorem dL_law_466 : decode cL_law 466 = .ok (.aload_n 3, 1) := by decide +kernel
theorem dL_law_467 : decode cL_law 467 = .ok (.iload 5, 2) := by decide +kernel
theorem dL_law_469 : decode cL_law 469 = .ok (.iload 6, 2) := by decide +kernel
theorem dL_law_471 : decode cL_law 471 = .ok (.invokevirtual 90, 3) := by decide +kernel
theorem dL_law_474 : decode cL_law 474 = .ok (.iconst 4, 1) := by decide +kernel
theorem dL_law_475 : decode cL_law 475 = .ok (.if_icmp .eq 31, 3) := by decide +kernel
theorem dL_law_478 : decode cL_law 478 = .ok (.iconst 0, 1) := by decide +kernel
theorem dL_law_479 : decode cL_law 479 = .ok (.ireturn, 1) := by decide +kernel
theorem dL_law_480 : decode cL_law 480 = .ok (.aload_n 3, 1) := by decide +kernel
theorem dL_law_481 : decode cL_law 481 = .ok (.iconst 2, 1) := by decide +kernel
theorem dL_law_482 : decode cL_law 482 = .ok (.invokevirtual 93, 3) := by decide +kernel
theorem dL_law_485 : decode cL_law 485 = .ok (.iload 14, 2) := by decide +kernel
theorem dL_law_487 : decode cL_law 487 = .ok (.if_icmp .ne 17, 3) := by decide +kernel
theorem dL_law_490 : decode cL_law 490 = .ok (.aload_n 3, 1) := by decide +kernel
theorem dL_law_491 : decode cL_law 491 = .ok (.aload_n 3, 1) := by decide +kernel
theorem dL_law_492 : decode cL_law 492 = .ok (.iconst 0, 1) := by decide +kernel
theorem dL_law_493 : decode cL_law 493 = .ok (.invokevirtual 65, 3) := by decide +kernel
theorem dL_law_496 : decode cL_law 496 = .ok (.invokevirtual 68, 3) := by decide +kernel
theorem dL_law_499 : decode cL_law 499 = .ok (.iload 15, 2) := by decide +kernel
theorem dL_law_501 : decode cL_law 501 = .ok (.if_icmp .le 5, 3) := by decide +kernel
theorem dL_law_504 : decode cL_law 504 = .ok (.iconst 0, 1) := by decide +kernel
theorem dL_law_505 : decode cL_law 505 = .ok (.ireturn, 1) := by decide +kernel
theorem dL_law_506 : decode cL_law 506 = .ok (.aload_n 3, 1) := by decide +kernel
theorem dL_law_507 : decode cL_law 507 = .ok (.invokevirtual 41, 3) := by decide +kernel
theorem dL_law_510 : decode cL_law 510 = .ok (.newarray .boolean, 2) := by decide +kernel
theorem dL_law_512 : decode cL_law 512 = .ok (.astore 16, 2) := by decide +kernel
theorem dL_law_514 : decode cL_law 514 = .ok (.iconst 0, 1) := by decide +kernel
theorem dL_law_515 : decode cL_law 515 = .ok (.istore 17, 2) := by decide +kernel
theorem dL_law_517 : decode cL_law 517 = .ok (.iload 17, 2) := by decide +kernel
theorem dL_law_519 : decode cL_law 519 = .ok (.aload_n 3, 1) := by decide +kernel
theorem dL_law_520 : decode cL_law 520 = .ok (.invokevirtual 41, 3) := by decide +kernel
theorem dL_law_523 : decode cL_law 523 = .ok (.if_icmp .ge 77, 3) := by decide +kernel
theorem dL_law_526 : decode cL_law 526 = .ok (.aload_n 3, 1) := by decide +kernel
theorem dL_law_527 : decode cL_law 527 = .ok (.iload 17, 2) := by decide +kernel
theorem dL_law_529 : decode cL_law 529 = .ok (.invokevirtual 65, 3) := by decide +kernel
theorem dL_law_532 : decode cL_law 532 = .ok (.istore 18, 2) := by decide +kernel
theorem dL_law_534 : decode cL_law 534 = .ok (.aload 16, 2) := by decide +kernel
theorem dL_law_536 : decode cL_law 536 = .ok (.iload 18, 2) := by decide +kernel
theorem dL_law_538 : decode cL_law 538 = .ok (.baload, 1) := by decide +kernel
theorem dL_law_539 : decode cL_law 539 = .ok (.ifCond .ne 47, 3) := by decide +kernel
theorem dL_law_542 : decode cL_law 542 = .ok (.aload_n 3, 1) := by decide +kernel
theorem dL_law_543 : decode cL_law 543 = .ok (.iload 18, 2) := by decide +kernel
theorem dL_law_545 : decode cL_law 545 = .ok (.invokevirtual 68, 3) := by decide +kernel
theorem dL_law_548 : decode cL_law 548 = .ok (.aload_n 3, 1) := by decide +kernel
theorem dL_law_549 : decode cL_law 549 = .ok (.aload_n 3, 1) := by decide +kernel
theorem dL_law_550 : decode cL_law 550 = .ok (.iconst 0, 1) := by decide +kernel
theorem dL_law_551 : decode cL_law 551 = .ok (.invokevirtual 65, 3) := by decide +kernel
theorem dL_law_554 : decode cL_law 554 = .ok (.invokevirtual 68, 3) := by decide +kernel
theorem dL_law_557 : decode cL_law 557 = .ok (.if_icmp .lt 29, 3) := by decide +kernel
theorem dL_law_560 : decode cL_law 560 = .ok (.iload 17, 2) := by decide +kernel
theorem dL_law_562 : decode cL_law 562 = .ok (.ifCond .le 26, 3) := by decide +kernel
theorem dL_law_565 : decode cL_law 565 = .ok (.aload_n 3, 1) := by decide +kernel
theorem dL_law_566 : decode cL_law 566 = .ok (.iload 18, 2) := by decide +kernel
theorem dL_law_568 : decode cL_law 568 = .ok (.invokevirtual 68, 3) := by decide +kernel
theorem dL_law_571 : decode cL_law 571 = .ok (.aload_n 3, 1) := by decide +kernel
theorem dL_law_572 : decode cL_law 572 = .ok (.aload_n 3, 1) := by decide +kernel
theorem dL_law_573 : decode cL_law 573 = .ok (.iload 17, 2) := by decide +kernel
theorem dL_law_575 : decode cL_law 575 = .ok (.iconst 1, 1) := by decide +kernel
theorem dL_law_576 : decode cL_law 576 = .ok (.isub, 1) := by decide +kernel
theorem dL_law_577 : decode cL_law 577 = .ok (.invokevirtual 65, 3) := by decide +kernel
theorem dL_law_580 : decode cL_law 580 = .ok (.invokevirtual 68, 3) := by decide +kernel
theorem dL_law_583 : decode cL_law 583 = .ok (.if_icmp .ge 5, 3) := by decide +kernel
theorem dL_law_586 : decode cL_law 586 = .ok (.iconst 0, 1) := by decide +kernel
theorem dL_law_587 : decode cL_law 587 = .ok (.ireturn, 1) := by decide +kernel
theorem dL_law_588 : decode cL_law 588 = .ok (.aload 16, 2) := by decide +kernel
theorem dL_law_590 : decode cL_law 590 = .ok (.iload 18, 2) := by decide +kernel
theorem dL_law_592 : decode cL_law 592 = .ok (.iconst 1, 1) := by decide +kernel
theorem dL_law_593 : decode cL_law 593 = .ok (.bastore, 1) := by decide +kernel
theorem dL_law_594 : decode cL_law 594 = .ok (.iinc 17 1, 3) := by decide +kernel
theorem dL_law_597 : decode cL_law 597 = .ok (.goto (-80), 3) := by decide +kernel
theorem dL_law_600 : decode cL_law 600 = .ok (.aload_n 2, 1) := by decide +kernel
theorem dL_law_601 : decode cL_law 601 = .ok (.aload_n 3, 1) := by decide +kernel
theorem dL_law_602 : decode cL_law 602 = .ok (.invokevirtual 41, 3) := by decide +kernel
theorem dL_law_605 : decode cL_law 605 = .ok (.invokevirtual 18, 3) := by decide +kernel
theorem dL_law_608 : decode cL_law 608 = .ok (.istore 5, 2) := by decide +kernel
theorem dL_law_610 : decode cL_law 610 = .ok (.aload_n 3, 1) := by decide +kernel
theorem dL_law_611 : decode cL_law 611 = .ok (.iload 5, 2) := by decide +kernel
theorem dL_law_613 : decode cL_law 613 = .ok (.invokevirtual 45, 3) := by decide +kernel
theorem dL_law_616 : decode cL_law 616 = .ok (.bipush 40, 2) := by decide +kernel
theorem dL_law_618 : decode cL_law 618 = .ok (.if_icmp .gt 59, 3) := by decide +kernel
theorem dL_law_621 : decode cL_law 621 = .ok (.aload_n 3, 1) := by decide +kernel
theorem dL_law_622 : decode cL_law 622 = .ok (.iload 5, 2) := by decide +kernel
theorem dL_law_624 : decode cL_law 624 = .ok (.invokevirtual 96, 3) := by decide +kernel
theorem dL_law_627 : decode cL_law 627 = .ok (.bipush 8, 2) := by decide +kernel
theorem dL_law_629 : decode cL_law 629 = .ok (.if_icmp .gt 48, 3) := by decide +kernel
theorem dL_law_632 : decode cL_law 632 = .ok (.aload_n 3, 1) := by decide +kernel
theorem dL_law_633 : decode cL_law 633 = .ok (.iload 5, 2) := by decide +kernel
theorem dL_law_635 : decode cL_law 635 = .ok (.iconst 0, 1) := by decide +kernel
theorem dL_law_636 : decode cL_law 636 = .ok (.invokevirtual 99, 3) := by decide +kernel
theorem dL_law_639 : decode cL_law 639 = .ok (.aload_n 3, 1) := by decide +kernel
theorem dL_law_640 : decode cL_law 640 = .ok (.iload 5, 2) := by decide +kernel
theorem dL_law_642 : decode cL_law 642 = .ok (.invokevirtual 45, 3) := by decide +kernel
theorem dL_law_645 : decode cL_law 645 = .ok (.if_icmp .ne 32, 3) := by decide +kernel
theorem dL_law_648 : decode cL_law 648 = .ok (.aload_n 3, 1) := by decide +kernel
theorem dL_law_649 : decode cL_law 649 = .ok (.iload 5, 2) := by decide +kernel
theorem dL_law_651 : decode cL_law 651 = .ok (.iconst 0, 1) := by decide +kernel
theorem dL_law_652 : decode cL_law 652 = .ok (.invokevirtual 87, 3) := by decide +kernel
theorem dL_law_655 : decode cL_law 655 = .ok (.bipush 8, 2) := by decide +kernel
theorem dL_law_657 : decode cL_law 657 = .ok (.if_icmp .gt 20, 3) := by decide +kernel
theorem dL_law_660 : decode cL_law 660 = .ok (.aload_n 3, 1) := by decide +kernel
theorem dL_law_661 : decode cL_law 661 = .ok (.iload 5, 2) := by decide +kernel
theorem dL_law_663 : decode cL_law 663 = .ok (.iload 5, 2) := by decide +kernel
theorem dL_law_665 : decode cL_law 665 = .ok (.invokevirtual 102, 3) := by decide +kernel
theorem dL_law_668 : decode cL_law 668 = .ok (.aload_n 3, 1) := by decide +kernel
theorem dL_law_669 : decode cL_law 669 = .ok (.iload 5, 2) := by decide +kernel
theorem dL_law_671 : decode cL_law 671 = .ok (.invokevirtual 45, 3) := by decide +kernel
theorem dL_law_674 : decode cL_law 674 = .ok (.if_icmp .eq 5, 3) := by decide +kernel
theorem dL_law_677 : decode cL_law 677 = .ok (.iconst 0, 1) := by decide +kernel
theorem dL_law_678 : decode cL_law 678 = .ok (.ireturn, 1) := by decide +kernel
theorem dL_law_679 : decode cL_law 679 = .ok (.iconst 1, 1) := by decide +kernel
theorem dL_law_680 : decode cL_law 680 = .ok (.istore 17, 2) := by decide +kernel
theorem dL_law_682 : decode cL_law 682 = .ok (.iload 17, 2) := by decide +kernel
theorem dL_law_684 : decode cL_law 684 = .ok (.aload_n 3, 1) := by decide +kernel
theorem dL_law_685 : decode cL_law 685 = .ok (.iload 5, 2) := by decide +kernel
theorem dL_law_687 : decode cL_law 687 = .ok (.invokevirtual 45, 3) := by decide +kernel
theorem dL_law_690 : decode cL_law 690 = .ok (.if_icmp .ge 130, 3) := by decide +kernel
theorem dL_law_693 : decode cL_law 693 = .ok (.aload_n 3, 1) := by decide +kernel
theorem dL_law_694 : decode cL_law 694 = .ok (.iload 5, 2) := by decide +kernel
theorem dL_law_696 : decode cL_law 696 = .ok (.iload 17, 2) := by decide +kernel
theorem dL_law_698 : decode cL_law 698 = .ok (.invokevirtual 105, 3) := by decide +kernel
theorem dL_law_701 : decode cL_law 701 = .ok (.istore 18, 2) := by decide +kernel
theorem dL_law_703 : decode cL_law 703 = .ok (.iconst 0, 1) := by decide +kernel
theorem dL_law_704 : decode cL_law 704 = .ok (.istore 19, 2) := by decide +kernel
theorem dL_law_706 : decode cL_law 706 = .ok (.iload 18, 2) := by decide +kernel
theorem dL_law_708 : decode cL_law 708 = .ok (.iconst 1, 1) := by decide +kernel
theorem dL_law_709 : decode cL_law 709 = .ok (.iadd, 1) := by decide +kernel
theorem dL_law_710 : decode cL_law 710 = .ok (.istore 20, 2) := by decide +kernel
theorem dL_law_712 : decode cL_law 712 = .ok (.iload 20, 2) := by decide +kernel
theorem dL_law_714 : decode cL_law 714 = .ok (.iload 17, 2) := by decide +kernel
theorem dL_law_716 : decode cL_law 716 = .ok (.if_icmp .ge 22, 3) := by decide +kernel
theorem dL_law_719 : decode cL_law 719 = .ok (.iinc 19 1, 3) := by decide +kernel
theorem dL_law_722 : decode cL_law 722 = .ok (.iload 20, 2) := by decide +kernel
theorem dL_law_724 : decode cL_law 724 = .ok (.aload_n 3, 1) := by decide +kernel
theorem dL_law_725 : decode cL_law 725 = .ok (.iload 5, 2) := by decide +kernel
theorem dL_law_727 : decode cL_law 727 = .ok (.iload 20, 2) := by decide +kernel
theorem dL_law_729 : decode cL_law 729 = .ok (.invokevirtual 99, 3) := by decide +kernel
theorem dL_law_732 : decode cL_law 732 = .ok (.iadd, 1) := by decide +kernel
theorem dL_law_733 : decode cL_law 733 = .ok (.istore 20, 2) := by decide +kernel
theorem dL_law_735 : decode cL_law 735 = .ok (.goto (-23), 3) := by decide +kernel
theorem dL_law_738 : decode cL_law 738 = .ok (.iload 18, 2) := by decide +kernel
theorem dL_law_740 : decode cL_law 740 = .ok (.ifCond .lt 72, 3) := by decide +kernel
theorem dL_law_743 : decode cL_law 743 = .ok (.iload 19, 2) := by decide +kernel
theorem dL_law_745 : decode cL_law 745 = .ok (.aload_n 3, 1) := by decide +kernel
theorem dL_law_746 : decode cL_law 746 = .ok (.iload 5, 2) := by decide +kernel
theorem dL_law_748 : decode cL_law 748 = .ok (.iload 18, 2) := by decide +kernel
theorem dL_law_750 : decode cL_law 750 = .ok (.invokevirtual 87, 3) := by decide +kernel
theorem dL_law_753 : decode cL_law 753 = .ok (.invokestatic 108, 3) := by decide +kernel
theorem dL_law_756 : decode cL_law 756 = .ok (.if_icmp .ge 56, 3) := by decide +kernel
theorem dL_law_759 : decode cL_law 759 = .ok (.aload_n 3, 1) := by decide +kernel
end
section
theorem dL_law_760 : decode cL_law 760 = .ok (.iload 5, 2) := by decide +kernel
theorem dL_law_762 : decode cL_law 762 = .ok (.iload 18, 2) := by decide +kernel
theorem dL_law_764 : decode cL_law 764 = .ok (.invokevirtual 87, 3) := by decide +kernel
theorem dL_law_767 : decode cL_law 767 = .ok (.iload 19, 2) := by decide +kernel
theorem dL_law_769 : decode cL_law 769 = .ok (.invokestatic 111, 3) := by decide +kernel
theorem dL_law_772 : decode cL_law 772 = .ok (.aload_n 3, 1) := by decide +kernel
theorem dL_law_773 : decode cL_law 773 = .ok (.iload 5, 2) := by decide +kernel
theorem dL_law_775 : decode cL_law 775 = .ok (.iload 17, 2) := by decide +kernel
theorem dL_law_777 : decode cL_law 777 = .ok (.invokevirtual 87, 3) := by decide +kernel
theorem dL_law_780 : decode cL_law 780 = .ok (.bipush 9, 2) := by decide +kernel
theorem dL_law_782 : decode cL_law 782 = .ok (.if_icmp .ge 7, 3) := by decide +kernel
theorem dL_law_785 : decode cL_law 785 = .ok (.iconst 1, 1) := by decide +kernel
theorem dL_law_786 : decode cL_law 786 = .ok (.goto 4, 3) := by decide +kernel
theorem dL_law_789 : decode cL_law 789 = .ok (.iconst 0, 1) := by decide +kernel
theorem dL_law_790 : decode cL_law 790 = .ok (.if_icmp .ne 22, 3) := by decide +kernel
theorem dL_law_793 : decode cL_law 793 = .ok (.aload_n 3, 1) := by decide +kernel
theorem dL_law_794 : decode cL_law 794 = .ok (.iload 5, 2) := by decide +kernel
theorem dL_law_796 : decode cL_law 796 = .ok (.iload 18, 2) := by decide +kernel
theorem dL_law_798 : decode cL_law 798 = .ok (.invokevirtual 99, 3) := by decide +kernel
theorem dL_law_801 : decode cL_law 801 = .ok (.aload_n 3, 1) := by decide +kernel
theorem dL_law_802 : decode cL_law 802 = .ok (.iload 5, 2) := by decide +kernel
theorem dL_law_804 : decode cL_law 804 = .ok (.iload 17, 2) := by decide +kernel
theorem dL_law_806 : decode cL_law 806 = .ok (.invokevirtual 99, 3) := by decide +kernel
theorem dL_law_809 : decode cL_law 809 = .ok (.if_icmp .gt 5, 3) := by decide +kernel
theorem dL_law_812 : decode cL_law 812 = .ok (.iconst 0, 1) := by decide +kernel
theorem dL_law_813 : decode cL_law 813 = .ok (.ireturn, 1) := by decide +kernel
theorem dL_law_814 : decode cL_law 814 = .ok (.iinc 17 1, 3) := by decide +kernel
theorem dL_law_817 : decode cL_law 817 = .ok (.goto (-135), 3) := by decide +kernel
theorem dL_law_820 : decode cL_law 820 = .ok (.iinc 4 1, 3) := by decide +kernel
theorem dL_law_823 : decode cL_law 823 = .ok (.goto (-687), 3) := by decide +kernel
theorem dL_law_826 : decode cL_law 826 = .ok (.iinc 1 1, 3) := by decide +kernel
theorem dL_law_829 : decode cL_law 829 = .ok (.goto (-827), 3) := by decide +kernel
theorem dL_law_832 : decode cL_law 832 = .ok (.iconst 1, 1) := by decide +kernel
theorem dL_law_833 : decode cL_law 833 = .ok (.ireturn, 1) := by decide +kernel
end
section
theorem dX0_init_0 : decode cX0_init 0 = .ok (.aload_n 0, 1) := by decide +kernel
theorem dX0_init_1 : decode cX0_init 1 = .ok (.invokespecial 3, 3) := by decide +kernel
theorem dX0_init_4 : decode cX0_init 4 = .ok (.aload_n 0, 1) := by decide +kernel
theorem dX0_init_5 : decode cX0_init 5 = .ok (.new 9, 3) := by decide +kernel
theorem dX0_init_8 : decode cX0_init 8 = .ok (.dup, 1) := by decide +kernel
theorem dX0_init_9 : decode cX0_init 9 = .ok (.invokespecial 11, 3) := by decide +kernel
theorem dX0_init_12 : decode cX0_init 12 = .ok (.putfield 12, 3) := by decide +kernel
theorem dX0_init_15 : decode cX0_init 15 = .ok (.aload_n 0, 1) := by decide +kernel
theorem dX0_init_16 : decode cX0_init 16 = .ok (.bipush 70, 2) := by decide +kernel
theorem dX0_init_18 : decode cX0_init 18 = .ok (.putfield 18, 3) := by decide +kernel
theorem dX0_init_21 : decode cX0_init 21 = .ok (.aload_n 0, 1) := by decide +kernel
theorem dX0_init_22 : decode cX0_init 22 = .ok (.bipush 20, 2) := by decide +kernel
theorem dX0_init_24 : decode cX0_init 24 = .ok (.putfield 22, 3) := by decide +kernel
theorem dX0_init_27 : decode cX0_init 27 = .ok (.aload_n 0, 1) := by decide +kernel
theorem dX0_init_28 : decode cX0_init 28 = .ok (.iconst 5, 1) := by decide +kernel
theorem dX0_init_29 : decode cX0_init 29 = .ok (.putfield 25, 3) := by decide +kernel
theorem dX0_init_32 : decode cX0_init 32 = .ok (.aload_n 0, 1) := by decide +kernel
theorem dX0_init_33 : decode cX0_init 33 = .ok (.iconst 2, 1) := by decide +kernel
theorem dX0_init_34 : decode cX0_init 34 = .ok (.putfield 28, 3) := by decide +kernel
theorem dX0_init_37 : decode cX0_init 37 = .ok (.aload_n 0, 1) := by decide +kernel
theorem dX0_init_38 : decode cX0_init 38 = .ok (.iconst 1, 1) := by decide +kernel
theorem dX0_init_39 : decode cX0_init 39 = .ok (.putfield 31, 3) := by decide +kernel
theorem dX0_init_42 : decode cX0_init 42 = .ok (.return_, 1) := by decide +kernel
theorem dX0_errorAfter_0 : decode cX0_errorAfter 0 = .ok (.iconst 0, 1) := by decide +kernel
theorem dX0_errorAfter_1 : decode cX0_errorAfter 1 = .ok (.istore 4, 2) := by decide +kernel
theorem dX0_errorAfter_3 : decode cX0_errorAfter 3 = .ok (.iload 4, 2) := by decide +kernel
theorem dX0_errorAfter_5 : decode cX0_errorAfter 5 = .ok (.iload_n 1, 1) := by decide +kernel
theorem dX0_errorAfter_6 : decode cX0_errorAfter 6 = .ok (.if_icmp .ge 103, 3) := by decide +kernel
theorem dX0_errorAfter_9 : decode cX0_errorAfter 9 = .ok (.aload_n 0, 1) := by decide +kernel
theorem dX0_errorAfter_10 : decode cX0_errorAfter 10 = .ok (.getfield 12, 3) := by decide +kernel
theorem dX0_errorAfter_13 : decode cX0_errorAfter 13 = .ok (.aload_n 2, 1) := by decide +kernel
theorem dX0_errorAfter_14 : decode cX0_errorAfter 14 = .ok (.aload_n 3, 1) := by decide +kernel
theorem dX0_errorAfter_15 : decode cX0_errorAfter 15 = .ok (.invokevirtual 34, 3) := by decide +kernel
theorem dX0_errorAfter_18 : decode cX0_errorAfter 18 = .ok (.aload_n 0, 1) := by decide +kernel
theorem dX0_errorAfter_19 : decode cX0_errorAfter 19 = .ok (.getfield 31, 3) := by decide +kernel
theorem dX0_errorAfter_22 : decode cX0_errorAfter 22 = .ok (.aload_n 2, 1) := by decide +kernel
theorem dX0_errorAfter_23 : decode cX0_errorAfter 23 = .ok (.getfield 38, 3) := by decide +kernel
theorem dX0_errorAfter_26 : decode cX0_errorAfter 26 = .ok (.invokestatic 43, 3) := by decide +kernel
theorem dX0_errorAfter_29 : decode cX0_errorAfter 29 = .ok (.istore 5, 2) := by decide +kernel
theorem dX0_errorAfter_31 : decode cX0_errorAfter 31 = .ok (.iconst 0, 1) := by decide +kernel
theorem dX0_errorAfter_32 : decode cX0_errorAfter 32 = .ok (.istore 6, 2) := by decide +kernel
theorem dX0_errorAfter_34 : decode cX0_errorAfter 34 = .ok (.iload 6, 2) := by decide +kernel
theorem dX0_errorAfter_36 : decode cX0_errorAfter 36 = .ok (.iload 5, 2) := by decide +kernel
theorem dX0_errorAfter_38 : decode cX0_errorAfter 38 = .ok (.if_icmp .ge 31, 3) := by decide +kernel
theorem dX0_errorAfter_41 : decode cX0_errorAfter 41 = .ok (.aload_n 2, 1) := by decide +kernel
theorem dX0_errorAfter_42 : decode cX0_errorAfter 42 = .ok (.iload 6, 2) := by decide +kernel
theorem dX0_errorAfter_44 : decode cX0_errorAfter 44 = .ok (.invokevirtual 49, 3) := by decide +kernel
theorem dX0_errorAfter_47 : decode cX0_errorAfter 47 = .ok (.aload_n 2, 1) := by decide +kernel
theorem dX0_errorAfter_48 : decode cX0_errorAfter 48 = .ok (.aload_n 0, 1) := by decide +kernel
theorem dX0_errorAfter_49 : decode cX0_errorAfter 49 = .ok (.getfield 12, 3) := by decide +kernel
theorem dX0_errorAfter_52 : decode cX0_errorAfter 52 = .ok (.iload 6, 2) := by decide +kernel
theorem dX0_errorAfter_54 : decode cX0_errorAfter 54 = .ok (.invokevirtual 53, 3) := by decide +kernel
theorem dX0_errorAfter_57 : decode cX0_errorAfter 57 = .ok (.invokevirtual 57, 3) := by decide +kernel
theorem dX0_errorAfter_60 : decode cX0_errorAfter 60 = .ok (.invokevirtual 60, 3) := by decide +kernel
theorem dX0_errorAfter_63 : decode cX0_errorAfter 63 = .ok (.iinc 6 1, 3) := by decide +kernel
theorem dX0_errorAfter_66 : decode cX0_errorAfter 66 = .ok (.goto (-32), 3) := by decide +kernel
theorem dX0_errorAfter_69 : decode cX0_errorAfter 69 = .ok (.iload 5, 2) := by decide +kernel
theorem dX0_errorAfter_71 : decode cX0_errorAfter 71 = .ok (.istore 6, 2) := by decide +kernel
theorem dX0_errorAfter_73 : decode cX0_errorAfter 73 = .ok (.iload 6, 2) := by decide +kernel
theorem dX0_errorAfter_75 : decode cX0_errorAfter 75 = .ok (.aload_n 2, 1) := by decide +kernel
theorem dX0_errorAfter_76 : decode cX0_errorAfter 76 = .ok (.getfield 38, 3) := by decide +kernel
theorem dX0_errorAfter_79 : decode cX0_errorAfter 79 = .ok (.if_icmp .ge 20, 3) := by decide +kernel
theorem dX0_errorAfter_82 : decode cX0_errorAfter 82 = .ok (.aload_n 0, 1) := by decide +kernel
theorem dX0_errorAfter_83 : decode cX0_errorAfter 83 = .ok (.aload_n 2, 1) := by decide +kernel
theorem dX0_errorAfter_84 : decode cX0_errorAfter 84 = .ok (.aload_n 2, 1) := by decide +kernel
theorem dX0_errorAfter_85 : decode cX0_errorAfter 85 = .ok (.iload 6, 2) := by decide +kernel
theorem dX0_errorAfter_87 : decode cX0_errorAfter 87 = .ok (.invokevirtual 49, 3) := by decide +kernel
theorem dX0_errorAfter_90 : decode cX0_errorAfter 90 = .ok (.invokevirtual 66, 3) := by decide +kernel
theorem dX0_errorAfter_93 : decode cX0_errorAfter 93 = .ok (.iinc 6 1, 3) := by decide +kernel
theorem dX0_errorAfter_96 : decode cX0_errorAfter 96 = .ok (.goto (-23), 3) := by decide +kernel
theorem dX0_errorAfter_99 : decode cX0_errorAfter 99 = .ok (.aload_n 2, 1) := by decide +kernel
theorem dX0_errorAfter_100 : decode cX0_errorAfter 100 = .ok (.invokevirtual 70, 3) := by decide +kernel
theorem dX0_errorAfter_103 : decode cX0_errorAfter 103 = .ok (.iinc 4 1, 3) := by decide +kernel
theorem dX0_errorAfter_106 : decode cX0_errorAfter 106 = .ok (.goto (-103), 3) := by decide +kernel
theorem dX0_errorAfter_109 : decode cX0_errorAfter 109 = .ok (.aload_n 0, 1) := by decide +kernel
theorem dX0_errorAfter_110 : decode cX0_errorAfter 110 = .ok (.getfield 12, 3) := by decide +kernel
theorem dX0_errorAfter_113 : decode cX0_errorAfter 113 = .ok (.aload_n 2, 1) := by decide +kernel
theorem dX0_errorAfter_114 : decode cX0_errorAfter 114 = .ok (.aload_n 3, 1) := by decide +kernel
theorem dX0_errorAfter_115 : decode cX0_errorAfter 115 = .ok (.invokevirtual 34, 3) := by decide +kernel
theorem dX0_errorAfter_118 : decode cX0_errorAfter 118 = .ok (.aload_n 3, 1) := by decide +kernel
theorem dX0_errorAfter_119 : decode cX0_errorAfter 119 = .ok (.aload_n 2, 1) := by decide +kernel
theorem dX0_errorAfter_120 : decode cX0_errorAfter 120 = .ok (.aload_n 0, 1) := by decide +kernel
theorem dX0_errorAfter_121 : decode cX0_errorAfter 121 = .ok (.getfield 12, 3) := by decide +kernel
theorem dX0_errorAfter_124 : decode cX0_errorAfter 124 = .ok (.iconst 0, 1) := by decide +kernel
theorem dX0_errorAfter_125 : decode cX0_errorAfter 125 = .ok (.invokevirtual 53, 3) := by decide +kernel
theorem dX0_errorAfter_128 : decode cX0_errorAfter 128 = .ok (.invokevirtual 57, 3) := by decide +kernel
theorem dX0_errorAfter_131 : decode cX0_errorAfter 131 = .ok (.iconst 0, 1) := by decide +kernel
theorem dX0_errorAfter_132 : decode cX0_errorAfter 132 = .ok (.invokevirtual 73, 3) := by decide +kernel
theorem dX0_errorAfter_135 : decode cX0_errorAfter 135 = .ok (.ireturn, 1) := by decide +kernel
theorem dX0_makeYoung_0 : decode cX0_makeYoung 0 = .ok (.aload_n 1, 1) := by decide +kernel
theorem dX0_makeYoung_1 : decode cX0_makeYoung 1 = .ok (.getfield 79, 3) := by decide +kernel
theorem dX0_makeYoung_4 : decode cX0_makeYoung 4 = .ok (.bipush 100, 2) := by decide +kernel
theorem dX0_makeYoung_6 : decode cX0_makeYoung 6 = .ok (.invokevirtual 83, 3) := by decide +kernel
theorem dX0_makeYoung_9 : decode cX0_makeYoung 9 = .ok (.istore_n 3, 1) := by decide +kernel
theorem dX0_makeYoung_10 : decode cX0_makeYoung 10 = .ok (.aload_n 0, 1) := by decide +kernel
theorem dX0_makeYoung_11 : decode cX0_makeYoung 11 = .ok (.aload_n 1, 1) := by decide +kernel
theorem dX0_makeYoung_12 : decode cX0_makeYoung 12 = .ok (.invokevirtual 88, 3) := by decide +kernel
theorem dX0_makeYoung_15 : decode cX0_makeYoung 15 = .ok (.astore 4, 2) := by decide +kernel
theorem dX0_makeYoung_17 : decode cX0_makeYoung 17 = .ok (.aload_n 2, 1) := by decide +kernel
theorem dX0_makeYoung_18 : decode cX0_makeYoung 18 = .ok (.aload 4, 2) := by decide +kernel
theorem dX0_makeYoung_20 : decode cX0_makeYoung 20 = .ok (.invokevirtual 60, 3) := by decide +kernel
theorem dX0_makeYoung_23 : decode cX0_makeYoung 23 = .ok (.iload_n 3, 1) := by decide +kernel
theorem dX0_makeYoung_24 : decode cX0_makeYoung 24 = .ok (.aload_n 0, 1) := by decide +kernel
theorem dX0_makeYoung_25 : decode cX0_makeYoung 25 = .ok (.getfield 18, 3) := by decide +kernel
theorem dX0_makeYoung_28 : decode cX0_makeYoung 28 = .ok (.if_icmp .ge 18, 3) := by decide +kernel
theorem dX0_makeYoung_31 : decode cX0_makeYoung 31 = .ok (.aload_n 1, 1) := by decide +kernel
theorem dX0_makeYoung_32 : decode cX0_makeYoung 32 = .ok (.aload_n 2, 1) := by decide +kernel
theorem dX0_makeYoung_33 : decode cX0_makeYoung 33 = .ok (.aload 4, 2) := by decide +kernel
theorem dX0_makeYoung_35 : decode cX0_makeYoung 35 = .ok (.aload_n 0, 1) := by decide +kernel
theorem dX0_makeYoung_36 : decode cX0_makeYoung 36 = .ok (.aload_n 1, 1) := by decide +kernel
theorem dX0_makeYoung_37 : decode cX0_makeYoung 37 = .ok (.invokevirtual 88, 3) := by decide +kernel
theorem dX0_makeYoung_40 : decode cX0_makeYoung 40 = .ok (.invokestatic 92, 3) := by decide +kernel
theorem dX0_makeYoung_43 : decode cX0_makeYoung 43 = .ok (.goto 53, 3) := by decide +kernel
theorem dX0_makeYoung_46 : decode cX0_makeYoung 46 = .ok (.iload_n 3, 1) := by decide +kernel
theorem dX0_makeYoung_47 : decode cX0_makeYoung 47 = .ok (.aload_n 0, 1) := by decide +kernel
theorem dX0_makeYoung_48 : decode cX0_makeYoung 48 = .ok (.getfield 18, 3) := by decide +kernel
theorem dX0_makeYoung_51 : decode cX0_makeYoung 51 = .ok (.aload_n 0, 1) := by decide +kernel
theorem dX0_makeYoung_52 : decode cX0_makeYoung 52 = .ok (.getfield 22, 3) := by decide +kernel
theorem dX0_makeYoung_55 : decode cX0_makeYoung 55 = .ok (.iadd, 1) := by decide +kernel
theorem dX0_makeYoung_56 : decode cX0_makeYoung 56 = .ok (.if_icmp .ge 14, 3) := by decide +kernel
theorem dX0_makeYoung_59 : decode cX0_makeYoung 59 = .ok (.aload_n 1, 1) := by decide +kernel
theorem dX0_makeYoung_60 : decode cX0_makeYoung 60 = .ok (.getfield 79, 3) := by decide +kernel
theorem dX0_makeYoung_63 : decode cX0_makeYoung 63 = .ok (.aload_n 2, 1) := by decide +kernel
theorem dX0_makeYoung_64 : decode cX0_makeYoung 64 = .ok (.invokestatic 96, 3) := by decide +kernel
theorem dX0_makeYoung_67 : decode cX0_makeYoung 67 = .ok (.goto 29, 3) := by decide +kernel
theorem dX0_makeYoung_70 : decode cX0_makeYoung 70 = .ok (.iload_n 3, 1) := by decide +kernel
theorem dX0_makeYoung_71 : decode cX0_makeYoung 71 = .ok (.aload_n 0, 1) := by decide +kernel
theorem dX0_makeYoung_72 : decode cX0_makeYoung 72 = .ok (.getfield 18, 3) := by decide +kernel
theorem dX0_makeYoung_75 : decode cX0_makeYoung 75 = .ok (.aload_n 0, 1) := by decide +kernel
theorem dX0_makeYoung_76 : decode cX0_makeYoung 76 = .ok (.getfield 22, 3) := by decide +kernel
theorem dX0_makeYoung_79 : decode cX0_makeYoung 79 = .ok (.iadd, 1) := by decide +kernel
theorem dX0_makeYoung_80 : decode cX0_makeYoung 80 = .ok (.aload_n 0, 1) := by decide +kernel
theorem dX0_makeYoung_81 : decode cX0_makeYoung 81 = .ok (.getfield 25, 3) := by decide +kernel
theorem dX0_makeYoung_84 : decode cX0_makeYoung 84 = .ok (.iadd, 1) := by decide +kernel
theorem dX0_makeYoung_85 : decode cX0_makeYoung 85 = .ok (.if_icmp .ge 11, 3) := by decide +kernel
theorem dX0_makeYoung_88 : decode cX0_makeYoung 88 = .ok (.aload_n 1, 1) := by decide +kernel
theorem dX0_makeYoung_89 : decode cX0_makeYoung 89 = .ok (.getfield 79, 3) := by decide +kernel
theorem dX0_makeYoung_92 : decode cX0_makeYoung 92 = .ok (.aload_n 2, 1) := by decide +kernel
theorem dX0_makeYoung_93 : decode cX0_makeYoung 93 = .ok (.invokestatic 100, 3) := by decide +kernel
theorem dX0_makeYoung_96 : decode cX0_makeYoung 96 = .ok (.return_, 1) := by decide +kernel
theorem dX0_choose_0 : decode cX0_choose 0 = .ok (.aload_n 1, 1) := by decide +kernel
theorem dX0_choose_1 : decode cX0_choose 1 = .ok (.getfield 79, 3) := by decide +kernel
theorem dX0_choose_4 : decode cX0_choose 4 = .ok (.aload_n 1, 1) := by decide +kernel
theorem dX0_choose_5 : decode cX0_choose 5 = .ok (.getfield 38, 3) := by decide +kernel
theorem dX0_choose_8 : decode cX0_choose 8 = .ok (.invokevirtual 83, 3) := by decide +kernel
theorem dX0_choose_11 : decode cX0_choose 11 = .ok (.istore_n 2, 1) := by decide +kernel
theorem dX0_choose_12 : decode cX0_choose 12 = .ok (.iconst 1, 1) := by decide +kernel
theorem dX0_choose_13 : decode cX0_choose 13 = .ok (.istore_n 3, 1) := by decide +kernel
theorem dX0_choose_14 : decode cX0_choose 14 = .ok (.iload_n 3, 1) := by decide +kernel
theorem dX0_choose_15 : decode cX0_choose 15 = .ok (.aload_n 0, 1) := by decide +kernel
theorem dX0_choose_16 : decode cX0_choose 16 = .ok (.getfield 28, 3) := by decide +kernel
theorem dX0_choose_19 : decode cX0_choose 19 = .ok (.if_icmp .ge 38, 3) := by decide +kernel
theorem dX0_choose_22 : decode cX0_choose 22 = .ok (.aload_n 1, 1) := by decide +kernel
theorem dX0_choose_23 : decode cX0_choose 23 = .ok (.getfield 79, 3) := by decide +kernel
theorem dX0_choose_26 : decode cX0_choose 26 = .ok (.aload_n 1, 1) := by decide +kernel
theorem dX0_choose_27 : decode cX0_choose 27 = .ok (.getfield 38, 3) := by decide +kernel
theorem dX0_choose_30 : decode cX0_choose 30 = .ok (.invokevirtual 83, 3) := by decide +kernel
theorem dX0_choose_33 : decode cX0_choose 33 = .ok (.istore 4, 2) := by decide +kernel
theorem dX0_choose_35 : decode cX0_choose 35 = .ok (.aload_n 0, 1) := by decide +kernel
theorem dX0_choose_36 : decode cX0_choose 36 = .ok (.getfield 12, 3) := by decide +kernel
theorem dX0_choose_39 : decode cX0_choose 39 = .ok (.iload 4, 2) := by decide +kernel
theorem dX0_choose_41 : decode cX0_choose 41 = .ok (.iload_n 2, 1) := by decide +kernel
theorem dX0_choose_42 : decode cX0_choose 42 = .ok (.invokevirtual 103, 3) := by decide +kernel
theorem dX0_choose_45 : decode cX0_choose 45 = .ok (.ifCond .eq 6, 3) := by decide +kernel
theorem dX0_choose_48 : decode cX0_choose 48 = .ok (.iload 4, 2) := by decide +kernel
theorem dX0_choose_50 : decode cX0_choose 50 = .ok (.istore_n 2, 1) := by decide +kernel
theorem dX0_choose_51 : decode cX0_choose 51 = .ok (.iinc 3 1, 3) := by decide +kernel
theorem dX0_choose_54 : decode cX0_choose 54 = .ok (.goto (-40), 3) := by decide +kernel
theorem dX0_choose_57 : decode cX0_choose 57 = .ok (.aload_n 1, 1) := by decide +kernel
theorem dX0_choose_58 : decode cX0_choose 58 = .ok (.iload_n 2, 1) := by decide +kernel
theorem dX0_choose_59 : decode cX0_choose 59 = .ok (.invokevirtual 57, 3) := by decide +kernel
theorem dX0_choose_62 : decode cX0_choose 62 = .ok (.areturn, 1) := by decide +kernel
theorem dX0_crossYoung_0 : decode cX0_crossYoung 0 = .ok (.aload_n 0, 1) := by decide +kernel
theorem dX0_crossYoung_1 : decode cX0_crossYoung 1 = .ok (.getfield 79, 3) := by decide +kernel
theorem dX0_crossYoung_4 : decode cX0_crossYoung 4 = .ok (.aload_n 2, 1) := by decide +kernel
theorem dX0_crossYoung_5 : decode cX0_crossYoung 5 = .ok (.getfield 107, 3) := by decide +kernel
theorem dX0_crossYoung_8 : decode cX0_crossYoung 8 = .ok (.invokevirtual 83, 3) := by decide +kernel
theorem dX0_crossYoung_11 : decode cX0_crossYoung 11 = .ok (.istore 4, 2) := by decide +kernel
theorem dX0_crossYoung_13 : decode cX0_crossYoung 13 = .ok (.aload_n 2, 1) := by decide +kernel
theorem dX0_crossYoung_14 : decode cX0_crossYoung 14 = .ok (.iload 4, 2) := by decide +kernel
theorem dX0_crossYoung_16 : decode cX0_crossYoung 16 = .ok (.invokevirtual 110, 3) := by decide +kernel
theorem dX0_crossYoung_19 : decode cX0_crossYoung 19 = .ok (.istore 5, 2) := by decide +kernel
theorem dX0_crossYoung_21 : decode cX0_crossYoung 21 = .ok (.aload_n 3, 1) := by decide +kernel
theorem dX0_crossYoung_22 : decode cX0_crossYoung 22 = .ok (.iload 5, 2) := by decide +kernel
theorem dX0_crossYoung_24 : decode cX0_crossYoung 24 = .ok (.invokevirtual 114, 3) := by decide +kernel
theorem dX0_crossYoung_27 : decode cX0_crossYoung 27 = .ok (.istore 6, 2) := by decide +kernel
theorem dX0_crossYoung_29 : decode cX0_crossYoung 29 = .ok (.iload 6, 2) := by decide +kernel
theorem dX0_crossYoung_31 : decode cX0_crossYoung 31 = .ok (.ifCond .ne 14, 3) := by decide +kernel
theorem dX0_crossYoung_34 : decode cX0_crossYoung 34 = .ok (.aload_n 0, 1) := by decide +kernel
theorem dX0_crossYoung_35 : decode cX0_crossYoung 35 = .ok (.dup, 1) := by decide +kernel
theorem dX0_crossYoung_36 : decode cX0_crossYoung 36 = .ok (.getfield 118, 3) := by decide +kernel
theorem dX0_crossYoung_39 : decode cX0_crossYoung 39 = .ok (.iconst 1, 1) := by decide +kernel
theorem dX0_crossYoung_40 : decode cX0_crossYoung 40 = .ok (.iadd, 1) := by decide +kernel
theorem dX0_crossYoung_41 : decode cX0_crossYoung 41 = .ok (.putfield 118, 3) := by decide +kernel
theorem dX0_crossYoung_44 : decode cX0_crossYoung 44 = .ok (.return_, 1) := by decide +kernel
theorem dX0_crossYoung_45 : decode cX0_crossYoung 45 = .ok (.aload_n 3, 1) := by decide +kernel
theorem dX0_crossYoung_46 : decode cX0_crossYoung 46 = .ok (.iload 5, 2) := by decide +kernel
theorem dX0_crossYoung_48 : decode cX0_crossYoung 48 = .ok (.aload_n 0, 1) := by decide +kernel
theorem dX0_crossYoung_49 : decode cX0_crossYoung 49 = .ok (.getfield 79, 3) := by decide +kernel
theorem dX0_crossYoung_52 : decode cX0_crossYoung 52 = .ok (.iload 6, 2) := by decide +kernel
theorem dX0_crossYoung_54 : decode cX0_crossYoung 54 = .ok (.invokevirtual 83, 3) := by decide +kernel
theorem dX0_crossYoung_57 : decode cX0_crossYoung 57 = .ok (.invokevirtual 121, 3) := by decide +kernel
theorem dX0_crossYoung_60 : decode cX0_crossYoung 60 = .ok (.istore 7, 2) := by decide +kernel
theorem dX0_crossYoung_62 : decode cX0_crossYoung 62 = .ok (.aload_n 1, 1) := by decide +kernel
theorem dX0_crossYoung_63 : decode cX0_crossYoung 63 = .ok (.aload_n 2, 1) := by decide +kernel
theorem dX0_crossYoung_64 : decode cX0_crossYoung 64 = .ok (.iload 4, 2) := by decide +kernel
theorem dX0_crossYoung_66 : decode cX0_crossYoung 66 = .ok (.aload_n 3, 1) := by decide +kernel
theorem dX0_crossYoung_67 : decode cX0_crossYoung 67 = .ok (.iload 7, 2) := by decide +kernel
theorem dX0_crossYoung_69 : decode cX0_crossYoung 69 = .ok (.invokevirtual 125, 3) := by decide +kernel
theorem dX0_crossYoung_72 : decode cX0_crossYoung 72 = .ok (.ifCond .ne 18, 3) := by decide +kernel
theorem dX0_crossYoung_75 : decode cX0_crossYoung 75 = .ok (.aload_n 0, 1) := by decide +kernel
theorem dX0_crossYoung_76 : decode cX0_crossYoung 76 = .ok (.dup, 1) := by decide +kernel
theorem dX0_crossYoung_77 : decode cX0_crossYoung 77 = .ok (.getfield 118, 3) := by decide +kernel
theorem dX0_crossYoung_80 : decode cX0_crossYoung 80 = .ok (.iconst 1, 1) := by decide +kernel
theorem dX0_crossYoung_81 : decode cX0_crossYoung 81 = .ok (.iadd, 1) := by decide +kernel
theorem dX0_crossYoung_82 : decode cX0_crossYoung 82 = .ok (.putfield 118, 3) := by decide +kernel
theorem dX0_crossYoung_85 : decode cX0_crossYoung 85 = .ok (.aload_n 1, 1) := by decide +kernel
theorem dX0_crossYoung_86 : decode cX0_crossYoung 86 = .ok (.aload_n 2, 1) := by decide +kernel
theorem dX0_crossYoung_87 : decode cX0_crossYoung 87 = .ok (.invokevirtual 60, 3) := by decide +kernel
theorem dX0_crossYoung_90 : decode cX0_crossYoung 90 = .ok (.return_, 1) := by decide +kernel
theorem dX0_changeYoung_0 : decode cX0_changeYoung 0 = .ok (.aload_n 0, 1) := by decide +kernel
theorem dX0_changeYoung_1 : decode cX0_changeYoung 1 = .ok (.aload_n 1, 1) := by decide +kernel
theorem dX0_changeYoung_2 : decode cX0_changeYoung 2 = .ok (.getfield 107, 3) := by decide +kernel
theorem dX0_changeYoung_5 : decode cX0_changeYoung 5 = .ok (.invokevirtual 83, 3) := by decide +kernel
theorem dX0_changeYoung_8 : decode cX0_changeYoung 8 = .ok (.istore_n 2, 1) := by decide +kernel
theorem dX0_changeYoung_9 : decode cX0_changeYoung 9 = .ok (.aload_n 1, 1) := by decide +kernel
theorem dX0_changeYoung_10 : decode cX0_changeYoung 10 = .ok (.iload_n 2, 1) := by decide +kernel
theorem dX0_changeYoung_11 : decode cX0_changeYoung 11 = .ok (.invokevirtual 129, 3) := by decide +kernel
theorem dX0_changeYoung_14 : decode cX0_changeYoung 14 = .ok (.istore_n 3, 1) := by decide +kernel
theorem dX0_changeYoung_15 : decode cX0_changeYoung 15 = .ok (.iload_n 3, 1) := by decide +kernel
theorem dX0_changeYoung_16 : decode cX0_changeYoung 16 = .ok (.ifCond .ne 22, 3) := by decide +kernel
theorem dX0_changeYoung_19 : decode cX0_changeYoung 19 = .ok (.aload_n 1, 1) := by decide +kernel
theorem dX0_changeYoung_20 : decode cX0_changeYoung 20 = .ok (.iload_n 2, 1) := by decide +kernel
theorem dX0_changeYoung_21 : decode cX0_changeYoung 21 = .ok (.iconst 0, 1) := by decide +kernel
theorem dX0_changeYoung_22 : decode cX0_changeYoung 22 = .ok (.aload_n 0, 1) := by decide +kernel
theorem dX0_changeYoung_23 : decode cX0_changeYoung 23 = .ok (.sipush 199, 3) := by decide +kernel
theorem dX0_changeYoung_26 : decode cX0_changeYoung 26 = .ok (.invokevirtual 83, 3) := by decide +kernel
theorem dX0_changeYoung_29 : decode cX0_changeYoung 29 = .ok (.bipush 99, 2) := by decide +kernel
theorem dX0_changeYoung_31 : decode cX0_changeYoung 31 = .ok (.isub, 1) := by decide +kernel
theorem dX0_changeYoung_32 : decode cX0_changeYoung 32 = .ok (.invokevirtual 132, 3) := by decide +kernel
theorem dX0_changeYoung_35 : decode cX0_changeYoung 35 = .ok (.goto 47, 3) := by decide +kernel
theorem dX0_changeYoung_38 : decode cX0_changeYoung 38 = .ok (.iload_n 3, 1) := by decide +kernel
theorem dX0_changeYoung_39 : decode cX0_changeYoung 39 = .ok (.iconst 1, 1) := by decide +kernel
theorem dX0_changeYoung_40 : decode cX0_changeYoung 40 = .ok (.if_icmp .ne 17, 3) := by decide +kernel
theorem dX0_changeYoung_43 : decode cX0_changeYoung 43 = .ok (.aload_n 1, 1) := by decide +kernel
theorem dX0_changeYoung_44 : decode cX0_changeYoung 44 = .ok (.iload_n 2, 1) := by decide +kernel
theorem dX0_changeYoung_45 : decode cX0_changeYoung 45 = .ok (.iconst 1, 1) := by decide +kernel
theorem dX0_changeYoung_46 : decode cX0_changeYoung 46 = .ok (.aload_n 0, 1) := by decide +kernel
theorem dX0_changeYoung_47 : decode cX0_changeYoung 47 = .ok (.iconst 3, 1) := by decide +kernel
theorem dX0_changeYoung_48 : decode cX0_changeYoung 48 = .ok (.invokevirtual 83, 3) := by decide +kernel
theorem dX0_changeYoung_51 : decode cX0_changeYoung 51 = .ok (.invokevirtual 132, 3) := by decide +kernel
theorem dX0_changeYoung_54 : decode cX0_changeYoung 54 = .ok (.goto 28, 3) := by decide +kernel
theorem dX0_changeYoung_57 : decode cX0_changeYoung 57 = .ok (.aload_n 1, 1) := by decide +kernel
theorem dX0_changeYoung_58 : decode cX0_changeYoung 58 = .ok (.iload_n 2, 1) := by decide +kernel
theorem dX0_changeYoung_59 : decode cX0_changeYoung 59 = .ok (.getstatic 136, 3) := by decide +kernel
theorem dX0_changeYoung_62 : decode cX0_changeYoung 62 = .ok (.iload_n 3, 1) := by decide +kernel
theorem dX0_changeYoung_63 : decode cX0_changeYoung 63 = .ok (.invokestatic 140, 3) := by decide +kernel
theorem dX0_changeYoung_66 : decode cX0_changeYoung 66 = .ok (.aload_n 0, 1) := by decide +kernel
theorem dX0_changeYoung_67 : decode cX0_changeYoung 67 = .ok (.getstatic 144, 3) := by decide +kernel
theorem dX0_changeYoung_70 : decode cX0_changeYoung 70 = .ok (.iload_n 3, 1) := by decide +kernel
theorem dX0_changeYoung_71 : decode cX0_changeYoung 71 = .ok (.invokestatic 140, 3) := by decide +kernel
theorem dX0_changeYoung_74 : decode cX0_changeYoung 74 = .ok (.invokevirtual 83, 3) := by decide +kernel
theorem dX0_changeYoung_77 : decode cX0_changeYoung 77 = .ok (.iadd, 1) := by decide +kernel
theorem dX0_changeYoung_78 : decode cX0_changeYoung 78 = .ok (.iconst 0, 1) := by decide +kernel
theorem dX0_changeYoung_79 : decode cX0_changeYoung 79 = .ok (.invokevirtual 132, 3) := by decide +kernel
theorem dX0_changeYoung_82 : decode cX0_changeYoung 82 = .ok (.return_, 1) := by decide +kernel
theorem dX0_hoistYoung_0 : decode cX0_hoistYoung 0 = .ok (.aload_n 0, 1) := by decide +kernel
theorem dX0_hoistYoung_1 : decode cX0_hoistYoung 1 = .ok (.aload_n 1, 1) := by decide +kernel
theorem dX0_hoistYoung_2 : decode cX0_hoistYoung 2 = .ok (.iconst 1, 1) := by decide +kernel
theorem dX0_hoistYoung_3 : decode cX0_hoistYoung 3 = .ok (.invokevirtual 114, 3) := by decide +kernel
theorem dX0_hoistYoung_6 : decode cX0_hoistYoung 6 = .ok (.invokevirtual 83, 3) := by decide +kernel
theorem dX0_hoistYoung_9 : decode cX0_hoistYoung 9 = .ok (.istore_n 2, 1) := by decide +kernel
theorem dX0_hoistYoung_10 : decode cX0_hoistYoung 10 = .ok (.aload_n 1, 1) := by decide +kernel
theorem dX0_hoistYoung_11 : decode cX0_hoistYoung 11 = .ok (.iconst 0, 1) := by decide +kernel
theorem dX0_hoistYoung_12 : decode cX0_hoistYoung 12 = .ok (.aload_n 1, 1) := by decide +kernel
theorem dX0_hoistYoung_13 : decode cX0_hoistYoung 13 = .ok (.iconst 1, 1) := by decide +kernel
theorem dX0_hoistYoung_14 : decode cX0_hoistYoung 14 = .ok (.iload_n 2, 1) := by decide +kernel
theorem dX0_hoistYoung_15 : decode cX0_hoistYoung 15 = .ok (.invokevirtual 121, 3) := by decide +kernel
theorem dX0_hoistYoung_18 : decode cX0_hoistYoung 18 = .ok (.invokevirtual 147, 3) := by decide +kernel
theorem dX0_hoistYoung_21 : decode cX0_hoistYoung 21 = .ok (.return_, 1) := by decide +kernel
end
section
theorem dX10_init_0 : decode cX10_init 0 = .ok (.aload_n 0, 1) := by decide +kernel
theorem dX10_init_1 : decode cX10_init 1 = .ok (.invokespecial 1, 3) := by decide +kernel
theorem dX10_init_4 : decode cX10_init 4 = .ok (.aload_n 0, 1) := by decide +kernel
theorem dX10_init_5 : decode cX10_init 5 = .ok (.new 7, 3) := by decide +kernel
theorem dX10_init_8 : decode cX10_init 8 = .ok (.dup, 1) := by decide +kernel
theorem dX10_init_9 : decode cX10_init 9 = .ok (.invokespecial 9, 3) := by decide +kernel
theorem dX10_init_12 : decode cX10_init 12 = .ok (.putfield 10, 3) := by decide +kernel
theorem dX10_init_15 : decode cX10_init 15 = .ok (.aload_n 0, 1) := by decide +kernel
theorem dX10_init_16 : decode cX10_init 16 = .ok (.bipush 16, 2) := by decide +kernel
theorem dX10_init_18 : decode cX10_init 18 = .ok (.anewarray 16, 3) := by decide +kernel
theorem dX10_init_21 : decode cX10_init 21 = .ok (.putfield 18, 3) := by decide +kernel
theorem dX10_init_24 : decode cX10_init 24 = .ok (.aload_n 0, 1) := by decide +kernel
theorem dX10_init_25 : decode cX10_init 25 = .ok (.bipush 12, 2) := by decide +kernel
theorem dX10_init_27 : decode cX10_init 27 = .ok (.anewarray 16, 3) := by decide +kernel
theorem dX10_init_30 : decode cX10_init 30 = .ok (.putfield 22, 3) := by decide +kernel
theorem dX10_init_33 : decode cX10_init 33 = .ok (.aload_n 0, 1) := by decide +kernel
theorem dX10_init_34 : decode cX10_init 34 = .ok (.aload_n 1, 1) := by decide +kernel
theorem dX10_init_35 : decode cX10_init 35 = .ok (.putfield 25, 3) := by decide +kernel
theorem dX10_init_38 : decode cX10_init 38 = .ok (.aload_n 0, 1) := by decide +kernel
theorem dX10_init_39 : decode cX10_init 39 = .ok (.iload_n 2, 1) := by decide +kernel
theorem dX10_init_40 : decode cX10_init 40 = .ok (.putfield 28, 3) := by decide +kernel
theorem dX10_init_43 : decode cX10_init 43 = .ok (.return_, 1) := by decide +kernel
theorem dX10_draw_0 : decode cX10_draw 0 = .ok (.aload_n 0, 1) := by decide +kernel
theorem dX10_draw_1 : decode cX10_draw 1 = .ok (.getfield 25, 3) := by decide +kernel
theorem dX10_draw_4 : decode cX10_draw 4 = .ok (.aload_n 0, 1) := by decide +kernel
theorem dX10_draw_5 : decode cX10_draw 5 = .ok (.getfield 28, 3) := by decide +kernel
theorem dX10_draw_8 : decode cX10_draw 8 = .ok (.bipush 24, 2) := by decide +kernel
theorem dX10_draw_10 : decode cX10_draw 10 = .ok (.irem, 1) := by decide +kernel
theorem dX10_draw_11 : decode cX10_draw 11 = .ok (.invokestatic 32, 3) := by decide +kernel
theorem dX10_draw_14 : decode cX10_draw 14 = .ok (.aload_n 0, 1) := by decide +kernel
theorem dX10_draw_15 : decode cX10_draw 15 = .ok (.getfield 28, 3) := by decide +kernel
theorem dX10_draw_18 : decode cX10_draw 18 = .ok (.bipush 24, 2) := by decide +kernel
theorem dX10_draw_20 : decode cX10_draw 20 = .ok (.idiv, 1) := by decide +kernel
theorem dX10_draw_21 : decode cX10_draw 21 = .ok (.bipush 8, 2) := by decide +kernel
theorem dX10_draw_23 : decode cX10_draw 23 = .ok (.irem, 1) := by decide +kernel
theorem dX10_draw_24 : decode cX10_draw 24 = .ok (.ishr, 1) := by decide +kernel
theorem dX10_draw_25 : decode cX10_draw 25 = .ok (.bipush 71, 2) := by decide +kernel
theorem dX10_draw_27 : decode cX10_draw 27 = .ok (.aload_n 0, 1) := by decide +kernel
theorem dX10_draw_28 : decode cX10_draw 28 = .ok (.getfield 28, 3) := by decide +kernel
theorem dX10_draw_31 : decode cX10_draw 31 = .ok (.imul, 1) := by decide +kernel
theorem dX10_draw_32 : decode cX10_draw 32 = .ok (.iadd, 1) := by decide +kernel
theorem dX10_draw_33 : decode cX10_draw 33 = .ok (.iload_n 1, 1) := by decide +kernel
theorem dX10_draw_34 : decode cX10_draw 34 = .ok (.invokestatic 38, 3) := by decide +kernel
theorem dX10_draw_37 : decode cX10_draw 37 = .ok (.istore_n 2, 1) := by decide +kernel
theorem dX10_draw_38 : decode cX10_draw 38 = .ok (.aload_n 0, 1) := by decide +kernel
theorem dX10_draw_39 : decode cX10_draw 39 = .ok (.dup, 1) := by decide +kernel
theorem dX10_draw_40 : decode cX10_draw 40 = .ok (.getfield 28, 3) := by decide +kernel
theorem dX10_draw_43 : decode cX10_draw 43 = .ok (.iconst 1, 1) := by decide +kernel
theorem dX10_draw_44 : decode cX10_draw 44 = .ok (.iadd, 1) := by decide +kernel
theorem dX10_draw_45 : decode cX10_draw 45 = .ok (.putfield 28, 3) := by decide +kernel
theorem dX10_draw_48 : decode cX10_draw 48 = .ok (.iload_n 2, 1) := by decide +kernel
theorem dX10_draw_49 : decode cX10_draw 49 = .ok (.ireturn, 1) := by decide +kernel
theorem dX10_many_0 : decode cX10_many 0 = .ok (.iload_n 0, 1) := by decide +kernel
theorem dX10_many_1 : decode cX10_many 1 = .ok (.iconst 2, 1) := by decide +kernel
theorem dX10_many_2 : decode cX10_many 2 = .ok (.if_icmp .ge 7, 3) := by decide +kernel
theorem dX10_many_5 : decode cX10_many 5 = .ok (.iconst 0, 1) := by decide +kernel
theorem dX10_many_6 : decode cX10_many 6 = .ok (.goto 24, 3) := by decide +kernel
theorem dX10_many_9 : decode cX10_many 9 = .ok (.iload_n 0, 1) := by decide +kernel
theorem dX10_many_10 : decode cX10_many 10 = .ok (.bipush 8, 2) := by decide +kernel
theorem dX10_many_12 : decode cX10_many 12 = .ok (.if_icmp .ne 7, 3) := by decide +kernel
theorem dX10_many_15 : decode cX10_many 15 = .ok (.iconst 3, 1) := by decide +kernel
theorem dX10_many_16 : decode cX10_many 16 = .ok (.goto 14, 3) := by decide +kernel
theorem dX10_many_19 : decode cX10_many 19 = .ok (.iload_n 0, 1) := by decide +kernel
theorem dX10_many_20 : decode cX10_many 20 = .ok (.bipush 13, 2) := by decide +kernel
theorem dX10_many_22 : decode cX10_many 22 = .ok (.if_icmp .ne 7, 3) := by decide +kernel
theorem dX10_many_25 : decode cX10_many 25 = .ok (.iconst 1, 1) := by decide +kernel
theorem dX10_many_26 : decode cX10_many 26 = .ok (.goto 4, 3) := by decide +kernel
theorem dX10_many_29 : decode cX10_many 29 = .ok (.iconst 2, 1) := by decide +kernel
theorem dX10_many_30 : decode cX10_many 30 = .ok (.ireturn, 1) := by decide +kernel
theorem dX10_isNumber_0 : decode cX10_isNumber 0 = .ok (.iload_n 0, 1) := by decide +kernel
theorem dX10_isNumber_1 : decode cX10_isNumber 1 = .ok (.bipush 8, 2) := by decide +kernel
theorem dX10_isNumber_3 : decode cX10_isNumber 3 = .ok (.if_icmp .lt 25, 3) := by decide +kernel
theorem dX10_isNumber_6 : decode cX10_isNumber 6 = .ok (.iload_n 0, 1) := by decide +kernel
theorem dX10_isNumber_7 : decode cX10_isNumber 7 = .ok (.bipush 8, 2) := by decide +kernel
theorem dX10_isNumber_9 : decode cX10_isNumber 9 = .ok (.if_icmp .ne 7, 3) := by decide +kernel
theorem dX10_isNumber_12 : decode cX10_isNumber 12 = .ok (.iload_n 1, 1) := by decide +kernel
theorem dX10_isNumber_13 : decode cX10_isNumber 13 = .ok (.ifCond .gt 15, 3) := by decide +kernel
theorem dX10_isNumber_16 : decode cX10_isNumber 16 = .ok (.iload_n 0, 1) := by decide +kernel
theorem dX10_isNumber_17 : decode cX10_isNumber 17 = .ok (.bipush 9, 2) := by decide +kernel
theorem dX10_isNumber_19 : decode cX10_isNumber 19 = .ok (.if_icmp .eq 9, 3) := by decide +kernel
theorem dX10_isNumber_22 : decode cX10_isNumber 22 = .ok (.iload_n 0, 1) := by decide +kernel
theorem dX10_isNumber_23 : decode cX10_isNumber 23 = .ok (.bipush 10, 2) := by decide +kernel
theorem dX10_isNumber_25 : decode cX10_isNumber 25 = .ok (.if_icmp .ne 7, 3) := by decide +kernel
theorem dX10_isNumber_28 : decode cX10_isNumber 28 = .ok (.iconst 1, 1) := by decide +kernel
theorem dX10_isNumber_29 : decode cX10_isNumber 29 = .ok (.goto 4, 3) := by decide +kernel
theorem dX10_isNumber_32 : decode cX10_isNumber 32 = .ok (.iconst 0, 1) := by decide +kernel
theorem dX10_isNumber_33 : decode cX10_isNumber 33 = .ok (.ireturn, 1) := by decide +kernel
theorem dX10_joined_0 : decode cX10_joined 0 = .ok (.aload_n 0, 1) := by decide +kernel
theorem dX10_joined_1 : decode cX10_joined 1 = .ok (.arraylength, 1) := by decide +kernel
theorem dX10_joined_2 : decode cX10_joined 2 = .ok (.aload_n 1, 1) := by decide +kernel
theorem dX10_joined_3 : decode cX10_joined 3 = .ok (.arraylength, 1) := by decide +kernel
theorem dX10_joined_4 : decode cX10_joined 4 = .ok (.iadd, 1) := by decide +kernel
theorem dX10_joined_5 : decode cX10_joined 5 = .ok (.newarray .int, 2) := by decide +kernel
theorem dX10_joined_7 : decode cX10_joined 7 = .ok (.astore_n 2, 1) := by decide +kernel
theorem dX10_joined_8 : decode cX10_joined 8 = .ok (.aload_n 0, 1) := by decide +kernel
theorem dX10_joined_9 : decode cX10_joined 9 = .ok (.iconst 0, 1) := by decide +kernel
theorem dX10_joined_10 : decode cX10_joined 10 = .ok (.aload_n 2, 1) := by decide +kernel
theorem dX10_joined_11 : decode cX10_joined 11 = .ok (.iconst 0, 1) := by decide +kernel
theorem dX10_joined_12 : decode cX10_joined 12 = .ok (.aload_n 0, 1) := by decide +kernel
theorem dX10_joined_13 : decode cX10_joined 13 = .ok (.arraylength, 1) := by decide +kernel
theorem dX10_joined_14 : decode cX10_joined 14 = .ok (.invokestatic 42, 3) := by decide +kernel
theorem dX10_joined_17 : decode cX10_joined 17 = .ok (.aload_n 1, 1) := by decide +kernel
theorem dX10_joined_18 : decode cX10_joined 18 = .ok (.iconst 0, 1) := by decide +kernel
theorem dX10_joined_19 : decode cX10_joined 19 = .ok (.aload_n 2, 1) := by decide +kernel
theorem dX10_joined_20 : decode cX10_joined 20 = .ok (.aload_n 0, 1) := by decide +kernel
theorem dX10_joined_21 : decode cX10_joined 21 = .ok (.arraylength, 1) := by decide +kernel
theorem dX10_joined_22 : decode cX10_joined 22 = .ok (.aload_n 1, 1) := by decide +kernel
theorem dX10_joined_23 : decode cX10_joined 23 = .ok (.arraylength, 1) := by decide +kernel
theorem dX10_joined_24 : decode cX10_joined 24 = .ok (.invokestatic 42, 3) := by decide +kernel
theorem dX10_joined_27 : decode cX10_joined 27 = .ok (.aload_n 2, 1) := by decide +kernel
theorem dX10_joined_28 : decode cX10_joined 28 = .ok (.areturn, 1) := by decide +kernel
theorem dX10_grown_0 : decode cX10_grown 0 = .ok (.iload_n 1, 1) := by decide +kernel
theorem dX10_grown_1 : decode cX10_grown 1 = .ok (.ifCond .eq 35, 3) := by decide +kernel
theorem dX10_grown_4 : decode cX10_grown 4 = .ok (.iload_n 2, 1) := by decide +kernel
theorem dX10_grown_5 : decode cX10_grown 5 = .ok (.iconst 2, 1) := by decide +kernel
theorem dX10_grown_6 : decode cX10_grown 6 = .ok (.if_icmp .lt 11, 3) := by decide +kernel
theorem dX10_grown_9 : decode cX10_grown 9 = .ok (.aload_n 0, 1) := by decide +kernel
theorem dX10_grown_10 : decode cX10_grown 10 = .ok (.iconst 3, 1) := by decide +kernel
theorem dX10_grown_11 : decode cX10_grown 11 = .ok (.invokevirtual 48, 3) := by decide +kernel
theorem dX10_grown_14 : decode cX10_grown 14 = .ok (.ifCond .ne 11, 3) := by decide +kernel
theorem dX10_grown_17 : decode cX10_grown 17 = .ok (.aload_n 0, 1) := by decide +kernel
theorem dX10_grown_18 : decode cX10_grown 18 = .ok (.iconst 2, 1) := by decide +kernel
theorem dX10_grown_19 : decode cX10_grown 19 = .ok (.invokevirtual 48, 3) := by decide +kernel
theorem dX10_grown_22 : decode cX10_grown 22 = .ok (.goto 46, 3) := by decide +kernel
theorem dX10_grown_25 : decode cX10_grown 25 = .ok (.iconst 2, 1) := by decide +kernel
theorem dX10_grown_26 : decode cX10_grown 26 = .ok (.aload_n 0, 1) := by decide +kernel
theorem dX10_grown_27 : decode cX10_grown 27 = .ok (.bipush 7, 2) := by decide +kernel
theorem dX10_grown_29 : decode cX10_grown 29 = .ok (.invokevirtual 48, 3) := by decide +kernel
theorem dX10_grown_32 : decode cX10_grown 32 = .ok (.iadd, 1) := by decide +kernel
theorem dX10_grown_33 : decode cX10_grown 33 = .ok (.goto 35, 3) := by decide +kernel
theorem dX10_grown_36 : decode cX10_grown 36 = .ok (.iload_n 2, 1) := by decide +kernel
theorem dX10_grown_37 : decode cX10_grown 37 = .ok (.iconst 3, 1) := by decide +kernel
theorem dX10_grown_38 : decode cX10_grown 38 = .ok (.if_icmp .lt 11, 3) := by decide +kernel
theorem dX10_grown_41 : decode cX10_grown 41 = .ok (.aload_n 0, 1) := by decide +kernel
theorem dX10_grown_42 : decode cX10_grown 42 = .ok (.iconst 2, 1) := by decide +kernel
theorem dX10_grown_43 : decode cX10_grown 43 = .ok (.invokevirtual 48, 3) := by decide +kernel
theorem dX10_grown_46 : decode cX10_grown 46 = .ok (.ifCond .ne 14, 3) := by decide +kernel
theorem dX10_grown_49 : decode cX10_grown 49 = .ok (.bipush 9, 2) := by decide +kernel
theorem dX10_grown_51 : decode cX10_grown 51 = .ok (.aload_n 0, 1) := by decide +kernel
theorem dX10_grown_52 : decode cX10_grown 52 = .ok (.iconst 2, 1) := by decide +kernel
theorem dX10_grown_53 : decode cX10_grown 53 = .ok (.invokevirtual 48, 3) := by decide +kernel
theorem dX10_grown_56 : decode cX10_grown 56 = .ok (.iadd, 1) := by decide +kernel
theorem dX10_grown_57 : decode cX10_grown 57 = .ok (.goto 11, 3) := by decide +kernel
theorem dX10_grown_60 : decode cX10_grown 60 = .ok (.bipush 11, 2) := by decide +kernel
theorem dX10_grown_62 : decode cX10_grown 62 = .ok (.aload_n 0, 1) := by decide +kernel
theorem dX10_grown_63 : decode cX10_grown 63 = .ok (.iconst 3, 1) := by decide +kernel
theorem dX10_grown_64 : decode cX10_grown 64 = .ok (.invokevirtual 48, 3) := by decide +kernel
theorem dX10_grown_67 : decode cX10_grown 67 = .ok (.iadd, 1) := by decide +kernel
theorem dX10_grown_68 : decode cX10_grown 68 = .ok (.istore_n 3, 1) := by decide +kernel
theorem dX10_grown_69 : decode cX10_grown 69 = .ok (.iconst 2, 1) := by decide +kernel
theorem dX10_grown_70 : decode cX10_grown 70 = .ok (.newarray .int, 2) := by decide +kernel
theorem dX10_grown_72 : decode cX10_grown 72 = .ok (.dup, 1) := by decide +kernel
theorem dX10_grown_73 : decode cX10_grown 73 = .ok (.iconst 0, 1) := by decide +kernel
theorem dX10_grown_74 : decode cX10_grown 74 = .ok (.iload_n 3, 1) := by decide +kernel
theorem dX10_grown_75 : decode cX10_grown 75 = .ok (.iastore, 1) := by decide +kernel
theorem dX10_grown_76 : decode cX10_grown 76 = .ok (.dup, 1) := by decide +kernel
theorem dX10_grown_77 : decode cX10_grown 77 = .ok (.iconst 1, 1) := by decide +kernel
theorem dX10_grown_78 : decode cX10_grown 78 = .ok (.iload_n 3, 1) := by decide +kernel
theorem dX10_grown_79 : decode cX10_grown 79 = .ok (.ifCond .ne 15, 3) := by decide +kernel
theorem dX10_grown_82 : decode cX10_grown 82 = .ok (.aload_n 0, 1) := by decide +kernel
theorem dX10_grown_83 : decode cX10_grown 83 = .ok (.bipush 25, 2) := by decide +kernel
theorem dX10_grown_85 : decode cX10_grown 85 = .ok (.invokevirtual 48, 3) := by decide +kernel
theorem dX10_grown_88 : decode cX10_grown 88 = .ok (.bipush 8, 2) := by decide +kernel
theorem dX10_grown_90 : decode cX10_grown 90 = .ok (.isub, 1) := by decide +kernel
theorem dX10_grown_91 : decode cX10_grown 91 = .ok (.goto 17, 3) := by decide +kernel
theorem dX10_grown_94 : decode cX10_grown 94 = .ok (.iload_n 3, 1) := by decide +kernel
theorem dX10_grown_95 : decode cX10_grown 95 = .ok (.iconst 1, 1) := by decide +kernel
theorem dX10_grown_96 : decode cX10_grown 96 = .ok (.if_icmp .ne 11, 3) := by decide +kernel
theorem dX10_grown_99 : decode cX10_grown 99 = .ok (.aload_n 0, 1) := by decide +kernel
theorem dX10_grown_100 : decode cX10_grown 100 = .ok (.iconst 3, 1) := by decide +kernel
theorem dX10_grown_101 : decode cX10_grown 101 = .ok (.invokevirtual 48, 3) := by decide +kernel
theorem dX10_grown_104 : decode cX10_grown 104 = .ok (.goto 4, 3) := by decide +kernel
theorem dX10_grown_107 : decode cX10_grown 107 = .ok (.iconst 0, 1) := by decide +kernel
theorem dX10_grown_108 : decode cX10_grown 108 = .ok (.iastore, 1) := by decide +kernel
theorem dX10_grown_109 : decode cX10_grown 109 = .ok (.astore 4, 2) := by decide +kernel
theorem dX10_grown_111 : decode cX10_grown 111 = .ok (.iconst 0, 1) := by decide +kernel
theorem dX10_grown_112 : decode cX10_grown 112 = .ok (.istore 5, 2) := by decide +kernel
theorem dX10_grown_114 : decode cX10_grown 114 = .ok (.iload 5, 2) := by decide +kernel
theorem dX10_grown_116 : decode cX10_grown 116 = .ok (.iload_n 3, 1) := by decide +kernel
theorem dX10_grown_117 : decode cX10_grown 117 = .ok (.invokestatic 52, 3) := by decide +kernel
theorem dX10_grown_120 : decode cX10_grown 120 = .ok (.if_icmp .ge 29, 3) := by decide +kernel
theorem dX10_grown_123 : decode cX10_grown 123 = .ok (.aload 4, 2) := by decide +kernel
theorem dX10_grown_125 : decode cX10_grown 125 = .ok (.aload_n 0, 1) := by decide +kernel
theorem dX10_grown_126 : decode cX10_grown 126 = .ok (.iload_n 3, 1) := by decide +kernel
theorem dX10_grown_127 : decode cX10_grown 127 = .ok (.iload 5, 2) := by decide +kernel
theorem dX10_grown_129 : decode cX10_grown 129 = .ok (.invokestatic 55, 3) := by decide +kernel
theorem dX10_grown_132 : decode cX10_grown 132 = .ok (.iload_n 2, 1) := by decide +kernel
theorem dX10_grown_133 : decode cX10_grown 133 = .ok (.iconst 1, 1) := by decide +kernel
theorem dX10_grown_134 : decode cX10_grown 134 = .ok (.isub, 1) := by decide +kernel
theorem dX10_grown_135 : decode cX10_grown 135 = .ok (.invokevirtual 59, 3) := by decide +kernel
theorem dX10_grown_138 : decode cX10_grown 138 = .ok (.invokestatic 63, 3) := by decide +kernel
theorem dX10_grown_141 : decode cX10_grown 141 = .ok (.astore 4, 2) := by decide +kernel
theorem dX10_grown_143 : decode cX10_grown 143 = .ok (.iinc 5 1, 3) := by decide +kernel
theorem dX10_grown_146 : decode cX10_grown 146 = .ok (.goto (-32), 3) := by decide +kernel
theorem dX10_grown_149 : decode cX10_grown 149 = .ok (.aload 4, 2) := by decide +kernel
theorem dX10_grown_151 : decode cX10_grown 151 = .ok (.areturn, 1) := by decide +kernel
theorem dX10_plant_0 : decode cX10_plant 0 = .ok (.aload_n 0, 1) := by decide +kernel
theorem dX10_plant_1 : decode cX10_plant 1 = .ok (.iconst 1, 1) := by decide +kernel
theorem dX10_plant_2 : decode cX10_plant 2 = .ok (.iconst 2, 1) := by decide +kernel
theorem dX10_plant_3 : decode cX10_plant 3 = .ok (.aload_n 0, 1) := by decide +kernel
theorem dX10_plant_4 : decode cX10_plant 4 = .ok (.iconst 3, 1) := by decide +kernel
theorem dX10_plant_5 : decode cX10_plant 5 = .ok (.invokevirtual 48, 3) := by decide +kernel
theorem dX10_plant_8 : decode cX10_plant 8 = .ok (.iadd, 1) := by decide +kernel
theorem dX10_plant_9 : decode cX10_plant 9 = .ok (.invokevirtual 59, 3) := by decide +kernel
theorem dX10_plant_12 : decode cX10_plant 12 = .ok (.astore_n 1, 1) := by decide +kernel
theorem dX10_plant_13 : decode cX10_plant 13 = .ok (.aload_n 1, 1) := by decide +kernel
theorem dX10_plant_14 : decode cX10_plant 14 = .ok (.arraylength, 1) := by decide +kernel
theorem dX10_plant_15 : decode cX10_plant 15 = .ok (.bipush 80, 2) := by decide +kernel
theorem dX10_plant_17 : decode cX10_plant 17 = .ok (.if_icmp .le 10, 3) := by decide +kernel
theorem dX10_plant_20 : decode cX10_plant 20 = .ok (.aload_n 0, 1) := by decide +kernel
theorem dX10_plant_21 : decode cX10_plant 21 = .ok (.iconst 1, 1) := by decide +kernel
theorem dX10_plant_22 : decode cX10_plant 22 = .ok (.iconst 3, 1) := by decide +kernel
theorem dX10_plant_23 : decode cX10_plant 23 = .ok (.invokevirtual 59, 3) := by decide +kernel
theorem dX10_plant_26 : decode cX10_plant 26 = .ok (.astore_n 1, 1) := by decide +kernel
theorem dX10_plant_27 : decode cX10_plant 27 = .ok (.iconst 1, 1) := by decide +kernel
theorem dX10_plant_28 : decode cX10_plant 28 = .ok (.istore_n 2, 1) := by decide +kernel
theorem dX10_plant_29 : decode cX10_plant 29 = .ok (.iconst 0, 1) := by decide +kernel
theorem dX10_plant_30 : decode cX10_plant 30 = .ok (.istore_n 3, 1) := by decide +kernel
theorem dX10_plant_31 : decode cX10_plant 31 = .ok (.iload_n 3, 1) := by decide +kernel
theorem dX10_plant_32 : decode cX10_plant 32 = .ok (.aload_n 1, 1) := by decide +kernel
theorem dX10_plant_33 : decode cX10_plant 33 = .ok (.arraylength, 1) := by decide +kernel
theorem dX10_plant_34 : decode cX10_plant 34 = .ok (.if_icmp .ge 56, 3) := by decide +kernel
theorem dX10_plant_37 : decode cX10_plant 37 = .ok (.iload_n 2, 1) := by decide +kernel
theorem dX10_plant_38 : decode cX10_plant 38 = .ok (.aload_n 1, 1) := by decide +kernel
theorem dX10_plant_39 : decode cX10_plant 39 = .ok (.iload_n 3, 1) := by decide +kernel
theorem dX10_plant_40 : decode cX10_plant 40 = .ok (.iaload, 1) := by decide +kernel
theorem dX10_plant_41 : decode cX10_plant 41 = .ok (.invokestatic 52, 3) := by decide +kernel
theorem dX10_plant_44 : decode cX10_plant 44 = .ok (.iconst 1, 1) := by decide +kernel
theorem dX10_plant_45 : decode cX10_plant 45 = .ok (.isub, 1) := by decide +kernel
theorem dX10_plant_46 : decode cX10_plant 46 = .ok (.iadd, 1) := by decide +kernel
theorem dX10_plant_47 : decode cX10_plant 47 = .ok (.istore_n 2, 1) := by decide +kernel
theorem dX10_plant_48 : decode cX10_plant 48 = .ok (.aload_n 0, 1) := by decide +kernel
theorem dX10_plant_49 : decode cX10_plant 49 = .ok (.getfield 10, 3) := by decide +kernel
theorem dX10_plant_52 : decode cX10_plant 52 = .ok (.aload_n 1, 1) := by decide +kernel
theorem dX10_plant_53 : decode cX10_plant 53 = .ok (.iload_n 3, 1) := by decide +kernel
theorem dX10_plant_54 : decode cX10_plant 54 = .ok (.iaload, 1) := by decide +kernel
theorem dX10_plant_55 : decode cX10_plant 55 = .ok (.aload_n 1, 1) := by decide +kernel
theorem dX10_plant_56 : decode cX10_plant 56 = .ok (.iload_n 3, 1) := by decide +kernel
theorem dX10_plant_57 : decode cX10_plant 57 = .ok (.iconst 1, 1) := by decide +kernel
theorem dX10_plant_58 : decode cX10_plant 58 = .ok (.iadd, 1) := by decide +kernel
theorem dX10_plant_59 : decode cX10_plant 59 = .ok (.iaload, 1) := by decide +kernel
theorem dX10_plant_60 : decode cX10_plant 60 = .ok (.invokevirtual 67, 3) := by decide +kernel
theorem dX10_plant_63 : decode cX10_plant 63 = .ok (.iload_n 2, 1) := by decide +kernel
theorem dX10_plant_64 : decode cX10_plant 64 = .ok (.if_icmp .ne 18, 3) := by decide +kernel
theorem dX10_plant_67 : decode cX10_plant 67 = .ok (.aload_n 0, 1) := by decide +kernel
theorem dX10_plant_68 : decode cX10_plant 68 = .ok (.getfield 10, 3) := by decide +kernel
theorem dX10_plant_71 : decode cX10_plant 71 = .ok (.invokevirtual 70, 3) := by decide +kernel
theorem dX10_plant_74 : decode cX10_plant 74 = .ok (.iload_n 3, 1) := by decide +kernel
theorem dX10_plant_75 : decode cX10_plant 75 = .ok (.iconst 2, 1) := by decide +kernel
theorem dX10_plant_76 : decode cX10_plant 76 = .ok (.idiv, 1) := by decide +kernel
theorem dX10_plant_77 : decode cX10_plant 77 = .ok (.iconst 1, 1) := by decide +kernel
theorem dX10_plant_78 : decode cX10_plant 78 = .ok (.iadd, 1) := by decide +kernel
theorem dX10_plant_79 : decode cX10_plant 79 = .ok (.if_icmp .eq 5, 3) := by decide +kernel
theorem dX10_plant_82 : decode cX10_plant 82 = .ok (.iconst 0, 1) := by decide +kernel
theorem dX10_plant_83 : decode cX10_plant 83 = .ok (.ireturn, 1) := by decide +kernel
theorem dX10_plant_84 : decode cX10_plant 84 = .ok (.iinc 3 2, 3) := by decide +kernel
theorem dX10_plant_87 : decode cX10_plant 87 = .ok (.goto (-56), 3) := by decide +kernel
theorem dX10_plant_90 : decode cX10_plant 90 = .ok (.aload_n 0, 1) := by decide +kernel
theorem dX10_plant_91 : decode cX10_plant 91 = .ok (.getfield 18, 3) := by decide +kernel
theorem dX10_plant_94 : decode cX10_plant 94 = .ok (.aload_n 0, 1) := by decide +kernel
theorem dX10_plant_95 : decode cX10_plant 95 = .ok (.getfield 74, 3) := by decide +kernel
theorem dX10_plant_98 : decode cX10_plant 98 = .ok (.aload_n 1, 1) := by decide +kernel
theorem dX10_plant_99 : decode cX10_plant 99 = .ok (.aastore, 1) := by decide +kernel
theorem dX10_plant_100 : decode cX10_plant 100 = .ok (.aload_n 0, 1) := by decide +kernel
theorem dX10_plant_101 : decode cX10_plant 101 = .ok (.getfield 10, 3) := by decide +kernel
theorem dX10_plant_104 : decode cX10_plant 104 = .ok (.invokevirtual 77, 3) := by decide +kernel
theorem dX10_plant_107 : decode cX10_plant 107 = .ok (.aload_n 0, 1) := by decide +kernel
theorem dX10_plant_108 : decode cX10_plant 108 = .ok (.dup, 1) := by decide +kernel
theorem dX10_plant_109 : decode cX10_plant 109 = .ok (.getfield 74, 3) := by decide +kernel
theorem dX10_plant_112 : decode cX10_plant 112 = .ok (.dup_x1, 1) := by decide +kernel
theorem dX10_plant_113 : decode cX10_plant 113 = .ok (.iconst 1, 1) := by decide +kernel
theorem dX10_plant_114 : decode cX10_plant 114 = .ok (.iadd, 1) := by decide +kernel
theorem dX10_plant_115 : decode cX10_plant 115 = .ok (.putfield 74, 3) := by decide +kernel
theorem dX10_plant_118 : decode cX10_plant 118 = .ok (.if_icmp .ne 17, 3) := by decide +kernel
theorem dX10_plant_121 : decode cX10_plant 121 = .ok (.aload_n 0, 1) := by decide +kernel
theorem dX10_plant_122 : decode cX10_plant 122 = .ok (.getfield 10, 3) := by decide +kernel
theorem dX10_plant_125 : decode cX10_plant 125 = .ok (.invokevirtual 70, 3) := by decide +kernel
theorem dX10_plant_128 : decode cX10_plant 128 = .ok (.ifCond .ne 7, 3) := by decide +kernel
theorem dX10_plant_131 : decode cX10_plant 131 = .ok (.iconst 1, 1) := by decide +kernel
theorem dX10_plant_132 : decode cX10_plant 132 = .ok (.goto 4, 3) := by decide +kernel
theorem dX10_plant_135 : decode cX10_plant 135 = .ok (.iconst 0, 1) := by decide +kernel
theorem dX10_plant_136 : decode cX10_plant 136 = .ok (.ireturn, 1) := by decide +kernel
theorem dX10_addCase_0 : decode cX10_addCase 0 = .ok (.iconst 4, 1) := by decide +kernel
theorem dX10_addCase_1 : decode cX10_addCase 1 = .ok (.newarray .int, 2) := by decide +kernel
theorem dX10_addCase_3 : decode cX10_addCase 3 = .ok (.dup, 1) := by decide +kernel
theorem dX10_addCase_4 : decode cX10_addCase 4 = .ok (.iconst 0, 1) := by decide +kernel
theorem dX10_addCase_5 : decode cX10_addCase 5 = .ok (.aload_n 0, 1) := by decide +kernel
theorem dX10_addCase_6 : decode cX10_addCase 6 = .ok (.bipush 41, 2) := by decide +kernel
theorem dX10_addCase_8 : decode cX10_addCase 8 = .ok (.invokevirtual 48, 3) := by decide +kernel
theorem dX10_addCase_11 : decode cX10_addCase 11 = .ok (.bipush 20, 2) := by decide +kernel
theorem dX10_addCase_13 : decode cX10_addCase 13 = .ok (.isub, 1) := by decide +kernel
theorem dX10_addCase_14 : decode cX10_addCase 14 = .ok (.iastore, 1) := by decide +kernel
theorem dX10_addCase_15 : decode cX10_addCase 15 = .ok (.dup, 1) := by decide +kernel
theorem dX10_addCase_16 : decode cX10_addCase 16 = .ok (.iconst 1, 1) := by decide +kernel
theorem dX10_addCase_17 : decode cX10_addCase 17 = .ok (.aload_n 0, 1) := by decide +kernel
theorem dX10_addCase_18 : decode cX10_addCase 18 = .ok (.bipush 41, 2) := by decide +kernel
theorem dX10_addCase_20 : decode cX10_addCase 20 = .ok (.invokevirtual 48, 3) := by decide +kernel
theorem dX10_addCase_23 : decode cX10_addCase 23 = .ok (.bipush 20, 2) := by decide +kernel
theorem dX10_addCase_25 : decode cX10_addCase 25 = .ok (.isub, 1) := by decide +kernel
theorem dX10_addCase_26 : decode cX10_addCase 26 = .ok (.iastore, 1) := by decide +kernel
theorem dX10_addCase_27 : decode cX10_addCase 27 = .ok (.dup, 1) := by decide +kernel
theorem dX10_addCase_28 : decode cX10_addCase 28 = .ok (.iconst 2, 1) := by decide +kernel
theorem dX10_addCase_29 : decode cX10_addCase 29 = .ok (.aload_n 0, 1) := by decide +kernel
theorem dX10_addCase_30 : decode cX10_addCase 30 = .ok (.bipush 41, 2) := by decide +kernel
theorem dX10_addCase_32 : decode cX10_addCase 32 = .ok (.invokevirtual 48, 3) := by decide +kernel
theorem dX10_addCase_35 : decode cX10_addCase 35 = .ok (.bipush 20, 2) := by decide +kernel
theorem dX10_addCase_37 : decode cX10_addCase 37 = .ok (.isub, 1) := by decide +kernel
theorem dX10_addCase_38 : decode cX10_addCase 38 = .ok (.iastore, 1) := by decide +kernel
theorem dX10_addCase_39 : decode cX10_addCase 39 = .ok (.dup, 1) := by decide +kernel
theorem dX10_addCase_40 : decode cX10_addCase 40 = .ok (.iconst 3, 1) := by decide +kernel
theorem dX10_addCase_41 : decode cX10_addCase 41 = .ok (.aload_n 0, 1) := by decide +kernel
theorem dX10_addCase_42 : decode cX10_addCase 42 = .ok (.sipush 201, 3) := by decide +kernel
theorem dX10_addCase_45 : decode cX10_addCase 45 = .ok (.invokevirtual 48, 3) := by decide +kernel
theorem dX10_addCase_48 : decode cX10_addCase 48 = .ok (.bipush 100, 2) := by decide +kernel
theorem dX10_addCase_50 : decode cX10_addCase 50 = .ok (.isub, 1) := by decide +kernel
theorem dX10_addCase_51 : decode cX10_addCase 51 = .ok (.iastore, 1) := by decide +kernel
theorem dX10_addCase_52 : decode cX10_addCase 52 = .ok (.astore_n 1, 1) := by decide +kernel
theorem dX10_addCase_53 : decode cX10_addCase 53 = .ok (.aload_n 0, 1) := by decide +kernel
theorem dX10_addCase_54 : decode cX10_addCase 54 = .ok (.getfield 22, 3) := by decide +kernel
theorem dX10_addCase_57 : decode cX10_addCase 57 = .ok (.aload_n 0, 1) := by decide +kernel
theorem dX10_addCase_58 : decode cX10_addCase 58 = .ok (.getfield 80, 3) := by decide +kernel
theorem dX10_addCase_61 : decode cX10_addCase 61 = .ok (.aload_n 1, 1) := by decide +kernel
theorem dX10_addCase_62 : decode cX10_addCase 62 = .ok (.aastore, 1) := by decide +kernel
theorem dX10_addCase_63 : decode cX10_addCase 63 = .ok (.aload_n 0, 1) := by decide +kernel
theorem dX10_addCase_64 : decode cX10_addCase 64 = .ok (.getfield 10, 3) := by decide +kernel
theorem dX10_addCase_67 : decode cX10_addCase 67 = .ok (.aload_n 1, 1) := by decide +kernel
theorem dX10_addCase_68 : decode cX10_addCase 68 = .ok (.iconst 0, 1) := by decide +kernel
theorem dX10_addCase_69 : decode cX10_addCase 69 = .ok (.iaload, 1) := by decide +kernel
theorem dX10_addCase_70 : decode cX10_addCase 70 = .ok (.aload_n 1, 1) := by decide +kernel
theorem dX10_addCase_71 : decode cX10_addCase 71 = .ok (.iconst 1, 1) := by decide +kernel
theorem dX10_addCase_72 : decode cX10_addCase 72 = .ok (.iaload, 1) := by decide +kernel
theorem dX10_addCase_73 : decode cX10_addCase 73 = .ok (.aload_n 1, 1) := by decide +kernel
theorem dX10_addCase_74 : decode cX10_addCase 74 = .ok (.iconst 2, 1) := by decide +kernel
theorem dX10_addCase_75 : decode cX10_addCase 75 = .ok (.iaload, 1) := by decide +kernel
theorem dX10_addCase_76 : decode cX10_addCase 76 = .ok (.aload_n 1, 1) := by decide +kernel
theorem dX10_addCase_77 : decode cX10_addCase 77 = .ok (.iconst 3, 1) := by decide +kernel
theorem dX10_addCase_78 : decode cX10_addCase 78 = .ok (.iaload, 1) := by decide +kernel
theorem dX10_addCase_79 : decode cX10_addCase 79 = .ok (.invokevirtual 83, 3) := by decide +kernel
theorem dX10_addCase_82 : decode cX10_addCase 82 = .ok (.aload_n 0, 1) := by decide +kernel
theorem dX10_addCase_83 : decode cX10_addCase 83 = .ok (.dup, 1) := by decide +kernel
theorem dX10_addCase_84 : decode cX10_addCase 84 = .ok (.getfield 80, 3) := by decide +kernel
theorem dX10_addCase_87 : decode cX10_addCase 87 = .ok (.dup_x1, 1) := by decide +kernel
theorem dX10_addCase_88 : decode cX10_addCase 88 = .ok (.iconst 1, 1) := by decide +kernel
theorem dX10_addCase_89 : decode cX10_addCase 89 = .ok (.iadd, 1) := by decide +kernel
theorem dX10_addCase_90 : decode cX10_addCase 90 = .ok (.putfield 80, 3) := by decide +kernel
theorem dX10_addCase_93 : decode cX10_addCase 93 = .ok (.if_icmp .ne 7, 3) := by decide +kernel
theorem dX10_addCase_96 : decode cX10_addCase 96 = .ok (.iconst 1, 1) := by decide +kernel
theorem dX10_addCase_97 : decode cX10_addCase 97 = .ok (.goto 4, 3) := by decide +kernel
theorem dX10_addCase_100 : decode cX10_addCase 100 = .ok (.iconst 0, 1) := by decide +kernel
theorem dX10_addCase_101 : decode cX10_addCase 101 = .ok (.ireturn, 1) := by decide +kernel
end
section
theorem dX1_init_0 : decode cX1_init 0 = .ok (.aload_n 0, 1) := by decide +kernel
theorem dX1_init_1 : decode cX1_init 1 = .ok (.invokespecial 3, 3) := by decide +kernel
theorem dX1_init_4 : decode cX1_init 4 = .ok (.aload_n 0, 1) := by decide +kernel
theorem dX1_init_5 : decode cX1_init 5 = .ok (.bipush 40, 2) := by decide +kernel
theorem dX1_init_7 : decode cX1_init 7 = .ok (.newarray .int, 2) := by decide +kernel
theorem dX1_init_9 : decode cX1_init 9 = .ok (.putfield 9, 3) := by decide +kernel
theorem dX1_init_12 : decode cX1_init 12 = .ok (.return_, 1) := by decide +kernel
theorem dX1_below_0 : decode cX1_below 0 = .ok (.iload_n 1, 1) := by decide +kernel
theorem dX1_below_1 : decode cX1_below 1 = .ok (.iconst 1, 1) := by decide +kernel
theorem dX1_below_2 : decode cX1_below 2 = .ok (.if_icmp .ge 5, 3) := by decide +kernel
theorem dX1_below_5 : decode cX1_below 5 = .ok (.iconst 0, 1) := by decide +kernel
theorem dX1_below_6 : decode cX1_below 6 = .ok (.ireturn, 1) := by decide +kernel
theorem dX1_below_7 : decode cX1_below 7 = .ok (.aload_n 0, 1) := by decide +kernel
theorem dX1_below_8 : decode cX1_below 8 = .ok (.getfield 15, 3) := by decide +kernel
theorem dX1_below_11 : decode cX1_below 11 = .ok (.ifCond .le 10, 3) := by decide +kernel
theorem dX1_below_14 : decode cX1_below 14 = .ok (.aload_n 0, 1) := by decide +kernel
theorem dX1_below_15 : decode cX1_below 15 = .ok (.invokevirtual 23, 3) := by decide +kernel
theorem dX1_below_18 : decode cX1_below 18 = .ok (.iload_n 1, 1) := by decide +kernel
theorem dX1_below_19 : decode cX1_below 19 = .ok (.irem, 1) := by decide +kernel
theorem dX1_below_20 : decode cX1_below 20 = .ok (.ireturn, 1) := by decide +kernel
theorem dX1_below_21 : decode cX1_below 21 = .ok (.aload_n 0, 1) := by decide +kernel
theorem dX1_below_22 : decode cX1_below 22 = .ok (.aload_n 0, 1) := by decide +kernel
theorem dX1_below_23 : decode cX1_below 23 = .ok (.getfield 27, 3) := by decide +kernel
theorem dX1_below_26 : decode cX1_below 26 = .ok (.sipush 4621, 3) := by decide +kernel
theorem dX1_below_29 : decode cX1_below 29 = .ok (.imul, 1) := by decide +kernel
theorem dX1_below_30 : decode cX1_below 30 = .ok (.sipush 2777, 3) := by decide +kernel
theorem dX1_below_33 : decode cX1_below 33 = .ok (.iadd, 1) := by decide +kernel
theorem dX1_below_34 : decode cX1_below 34 = .ok (.sipush 10000, 3) := by decide +kernel
theorem dX1_below_37 : decode cX1_below 37 = .ok (.irem, 1) := by decide +kernel
theorem dX1_below_38 : decode cX1_below 38 = .ok (.putfield 27, 3) := by decide +kernel
theorem dX1_below_41 : decode cX1_below 41 = .ok (.aload_n 0, 1) := by decide +kernel
theorem dX1_below_42 : decode cX1_below 42 = .ok (.getfield 27, 3) := by decide +kernel
theorem dX1_below_45 : decode cX1_below 45 = .ok (.iload_n 1, 1) := by decide +kernel
theorem dX1_below_46 : decode cX1_below 46 = .ok (.imul, 1) := by decide +kernel
theorem dX1_below_47 : decode cX1_below 47 = .ok (.sipush 10000, 3) := by decide +kernel
theorem dX1_below_50 : decode cX1_below 50 = .ok (.idiv, 1) := by decide +kernel
theorem dX1_below_51 : decode cX1_below 51 = .ok (.ireturn, 1) := by decide +kernel
theorem dX1_copyFrom_0 : decode cX1_copyFrom 0 = .ok (.iconst 0, 1) := by decide +kernel
theorem dX1_copyFrom_1 : decode cX1_copyFrom 1 = .ok (.istore_n 2, 1) := by decide +kernel
theorem dX1_copyFrom_2 : decode cX1_copyFrom 2 = .ok (.iload_n 2, 1) := by decide +kernel
theorem dX1_copyFrom_3 : decode cX1_copyFrom 3 = .ok (.aload_n 1, 1) := by decide +kernel
theorem dX1_copyFrom_4 : decode cX1_copyFrom 4 = .ok (.getfield 15, 3) := by decide +kernel
theorem dX1_copyFrom_7 : decode cX1_copyFrom 7 = .ok (.if_icmp .ge 25, 3) := by decide +kernel
theorem dX1_copyFrom_10 : decode cX1_copyFrom 10 = .ok (.aload_n 0, 1) := by decide +kernel
theorem dX1_copyFrom_11 : decode cX1_copyFrom 11 = .ok (.getfield 9, 3) := by decide +kernel
theorem dX1_copyFrom_14 : decode cX1_copyFrom 14 = .ok (.iload_n 2, 1) := by decide +kernel
theorem dX1_copyFrom_15 : decode cX1_copyFrom 15 = .ok (.aload_n 1, 1) := by decide +kernel
theorem dX1_copyFrom_16 : decode cX1_copyFrom 16 = .ok (.getfield 9, 3) := by decide +kernel
theorem dX1_copyFrom_19 : decode cX1_copyFrom 19 = .ok (.iload_n 2, 1) := by decide +kernel
theorem dX1_copyFrom_20 : decode cX1_copyFrom 20 = .ok (.invokestatic 30, 3) := by decide +kernel
theorem dX1_copyFrom_23 : decode cX1_copyFrom 23 = .ok (.invokestatic 19, 3) := by decide +kernel
theorem dX1_copyFrom_26 : decode cX1_copyFrom 26 = .ok (.iinc 2 1, 3) := by decide +kernel
theorem dX1_copyFrom_29 : decode cX1_copyFrom 29 = .ok (.goto (-27), 3) := by decide +kernel
theorem dX1_copyFrom_32 : decode cX1_copyFrom 32 = .ok (.aload_n 0, 1) := by decide +kernel
theorem dX1_copyFrom_33 : decode cX1_copyFrom 33 = .ok (.aload_n 1, 1) := by decide +kernel
theorem dX1_copyFrom_34 : decode cX1_copyFrom 34 = .ok (.getfield 15, 3) := by decide +kernel
theorem dX1_copyFrom_37 : decode cX1_copyFrom 37 = .ok (.putfield 15, 3) := by decide +kernel
theorem dX1_copyFrom_40 : decode cX1_copyFrom 40 = .ok (.aload_n 0, 1) := by decide +kernel
theorem dX1_copyFrom_41 : decode cX1_copyFrom 41 = .ok (.aload_n 1, 1) := by decide +kernel
theorem dX1_copyFrom_42 : decode cX1_copyFrom 42 = .ok (.getfield 27, 3) := by decide +kernel
theorem dX1_copyFrom_45 : decode cX1_copyFrom 45 = .ok (.putfield 27, 3) := by decide +kernel
theorem dX1_copyFrom_48 : decode cX1_copyFrom 48 = .ok (.return_, 1) := by decide +kernel
theorem dX1_takeFirst_0 : decode cX1_takeFirst 0 = .ok (.aload_n 0, 1) := by decide +kernel
theorem dX1_takeFirst_1 : decode cX1_takeFirst 1 = .ok (.getfield 9, 3) := by decide +kernel
theorem dX1_takeFirst_4 : decode cX1_takeFirst 4 = .ok (.iconst 0, 1) := by decide +kernel
theorem dX1_takeFirst_5 : decode cX1_takeFirst 5 = .ok (.invokestatic 30, 3) := by decide +kernel
theorem dX1_takeFirst_8 : decode cX1_takeFirst 8 = .ok (.istore_n 1, 1) := by decide +kernel
theorem dX1_takeFirst_9 : decode cX1_takeFirst 9 = .ok (.aload_n 0, 1) := by decide +kernel
theorem dX1_takeFirst_10 : decode cX1_takeFirst 10 = .ok (.dup, 1) := by decide +kernel
theorem dX1_takeFirst_11 : decode cX1_takeFirst 11 = .ok (.getfield 15, 3) := by decide +kernel
theorem dX1_takeFirst_14 : decode cX1_takeFirst 14 = .ok (.iconst 1, 1) := by decide +kernel
theorem dX1_takeFirst_15 : decode cX1_takeFirst 15 = .ok (.isub, 1) := by decide +kernel
theorem dX1_takeFirst_16 : decode cX1_takeFirst 16 = .ok (.putfield 15, 3) := by decide +kernel
theorem dX1_takeFirst_19 : decode cX1_takeFirst 19 = .ok (.iconst 0, 1) := by decide +kernel
theorem dX1_takeFirst_20 : decode cX1_takeFirst 20 = .ok (.istore_n 2, 1) := by decide +kernel
theorem dX1_takeFirst_21 : decode cX1_takeFirst 21 = .ok (.iload_n 2, 1) := by decide +kernel
theorem dX1_takeFirst_22 : decode cX1_takeFirst 22 = .ok (.aload_n 0, 1) := by decide +kernel
theorem dX1_takeFirst_23 : decode cX1_takeFirst 23 = .ok (.getfield 15, 3) := by decide +kernel
theorem dX1_takeFirst_26 : decode cX1_takeFirst 26 = .ok (.if_icmp .ge 27, 3) := by decide +kernel
theorem dX1_takeFirst_29 : decode cX1_takeFirst 29 = .ok (.aload_n 0, 1) := by decide +kernel
theorem dX1_takeFirst_30 : decode cX1_takeFirst 30 = .ok (.getfield 9, 3) := by decide +kernel
theorem dX1_takeFirst_33 : decode cX1_takeFirst 33 = .ok (.iload_n 2, 1) := by decide +kernel
theorem dX1_takeFirst_34 : decode cX1_takeFirst 34 = .ok (.aload_n 0, 1) := by decide +kernel
theorem dX1_takeFirst_35 : decode cX1_takeFirst 35 = .ok (.getfield 9, 3) := by decide +kernel
theorem dX1_takeFirst_38 : decode cX1_takeFirst 38 = .ok (.iload_n 2, 1) := by decide +kernel
theorem dX1_takeFirst_39 : decode cX1_takeFirst 39 = .ok (.iconst 1, 1) := by decide +kernel
theorem dX1_takeFirst_40 : decode cX1_takeFirst 40 = .ok (.iadd, 1) := by decide +kernel
theorem dX1_takeFirst_41 : decode cX1_takeFirst 41 = .ok (.invokestatic 30, 3) := by decide +kernel
theorem dX1_takeFirst_44 : decode cX1_takeFirst 44 = .ok (.invokestatic 19, 3) := by decide +kernel
theorem dX1_takeFirst_47 : decode cX1_takeFirst 47 = .ok (.iinc 2 1, 3) := by decide +kernel
theorem dX1_takeFirst_50 : decode cX1_takeFirst 50 = .ok (.goto (-29), 3) := by decide +kernel
theorem dX1_takeFirst_53 : decode cX1_takeFirst 53 = .ok (.iload_n 1, 1) := by decide +kernel
theorem dX1_takeFirst_54 : decode cX1_takeFirst 54 = .ok (.ireturn, 1) := by decide +kernel
end
section
theorem dX2_init_0 : decode cX2_init 0 = .ok (.aload_n 0, 1) := by decide +kernel
theorem dX2_init_1 : decode cX2_init 1 = .ok (.invokespecial 3, 3) := by decide +kernel
theorem dX2_init_4 : decode cX2_init 4 = .ok (.aload_n 0, 1) := by decide +kernel
theorem dX2_init_5 : decode cX2_init 5 = .ok (.new 9, 3) := by decide +kernel
theorem dX2_init_8 : decode cX2_init 8 = .ok (.dup, 1) := by decide +kernel
theorem dX2_init_9 : decode cX2_init 9 = .ok (.invokespecial 11, 3) := by decide +kernel
theorem dX2_init_12 : decode cX2_init 12 = .ok (.putfield 12, 3) := by decide +kernel
theorem dX2_init_15 : decode cX2_init 15 = .ok (.aload_n 0, 1) := by decide +kernel
theorem dX2_init_16 : decode cX2_init 16 = .ok (.new 18, 3) := by decide +kernel
theorem dX2_init_19 : decode cX2_init 19 = .ok (.dup, 1) := by decide +kernel
theorem dX2_init_20 : decode cX2_init 20 = .ok (.invokespecial 20, 3) := by decide +kernel
theorem dX2_init_23 : decode cX2_init 23 = .ok (.putfield 21, 3) := by decide +kernel
theorem dX2_init_26 : decode cX2_init 26 = .ok (.aload_n 0, 1) := by decide +kernel
theorem dX2_init_27 : decode cX2_init 27 = .ok (.bipush 16, 2) := by decide +kernel
theorem dX2_init_29 : decode cX2_init 29 = .ok (.anewarray 18, 3) := by decide +kernel
theorem dX2_init_32 : decode cX2_init 32 = .ok (.putfield 25, 3) := by decide +kernel
theorem dX2_init_35 : decode cX2_init 35 = .ok (.aload_n 0, 1) := by decide +kernel
theorem dX2_init_36 : decode cX2_init 36 = .ok (.bipush 16, 2) := by decide +kernel
theorem dX2_init_38 : decode cX2_init 38 = .ok (.anewarray 18, 3) := by decide +kernel
theorem dX2_init_41 : decode cX2_init 41 = .ok (.putfield 29, 3) := by decide +kernel
theorem dX2_init_44 : decode cX2_init 44 = .ok (.iconst 0, 1) := by decide +kernel
theorem dX2_init_45 : decode cX2_init 45 = .ok (.istore_n 1, 1) := by decide +kernel
theorem dX2_init_46 : decode cX2_init 46 = .ok (.iload_n 1, 1) := by decide +kernel
theorem dX2_init_47 : decode cX2_init 47 = .ok (.aload_n 0, 1) := by decide +kernel
theorem dX2_init_48 : decode cX2_init 48 = .ok (.getfield 25, 3) := by decide +kernel
theorem dX2_init_51 : decode cX2_init 51 = .ok (.arraylength, 1) := by decide +kernel
theorem dX2_init_52 : decode cX2_init 52 = .ok (.if_icmp .ge 22, 3) := by decide +kernel
theorem dX2_init_55 : decode cX2_init 55 = .ok (.aload_n 0, 1) := by decide +kernel
theorem dX2_init_56 : decode cX2_init 56 = .ok (.getfield 25, 3) := by decide +kernel
theorem dX2_init_59 : decode cX2_init 59 = .ok (.iload_n 1, 1) := by decide +kernel
theorem dX2_init_60 : decode cX2_init 60 = .ok (.new 18, 3) := by decide +kernel
theorem dX2_init_63 : decode cX2_init 63 = .ok (.dup, 1) := by decide +kernel
theorem dX2_init_64 : decode cX2_init 64 = .ok (.invokespecial 20, 3) := by decide +kernel
theorem dX2_init_67 : decode cX2_init 67 = .ok (.aastore, 1) := by decide +kernel
theorem dX2_init_68 : decode cX2_init 68 = .ok (.iinc 1 1, 3) := by decide +kernel
theorem dX2_init_71 : decode cX2_init 71 = .ok (.goto (-25), 3) := by decide +kernel
theorem dX2_init_74 : decode cX2_init 74 = .ok (.iconst 0, 1) := by decide +kernel
theorem dX2_init_75 : decode cX2_init 75 = .ok (.istore_n 1, 1) := by decide +kernel
theorem dX2_init_76 : decode cX2_init 76 = .ok (.iload_n 1, 1) := by decide +kernel
theorem dX2_init_77 : decode cX2_init 77 = .ok (.aload_n 0, 1) := by decide +kernel
theorem dX2_init_78 : decode cX2_init 78 = .ok (.getfield 29, 3) := by decide +kernel
theorem dX2_init_81 : decode cX2_init 81 = .ok (.arraylength, 1) := by decide +kernel
theorem dX2_init_82 : decode cX2_init 82 = .ok (.if_icmp .ge 22, 3) := by decide +kernel
theorem dX2_init_85 : decode cX2_init 85 = .ok (.aload_n 0, 1) := by decide +kernel
theorem dX2_init_86 : decode cX2_init 86 = .ok (.getfield 29, 3) := by decide +kernel
theorem dX2_init_89 : decode cX2_init 89 = .ok (.iload_n 1, 1) := by decide +kernel
theorem dX2_init_90 : decode cX2_init 90 = .ok (.new 18, 3) := by decide +kernel
theorem dX2_init_93 : decode cX2_init 93 = .ok (.dup, 1) := by decide +kernel
theorem dX2_init_94 : decode cX2_init 94 = .ok (.invokespecial 20, 3) := by decide +kernel
theorem dX2_init_97 : decode cX2_init 97 = .ok (.aastore, 1) := by decide +kernel
theorem dX2_init_98 : decode cX2_init 98 = .ok (.iinc 1 1, 3) := by decide +kernel
theorem dX2_init_101 : decode cX2_init 101 = .ok (.goto (-25), 3) := by decide +kernel
theorem dX2_init_104 : decode cX2_init 104 = .ok (.return_, 1) := by decide +kernel
theorem dX2_tree_0 : decode cX2_tree 0 = .ok (.aload_n 0, 1) := by decide +kernel
theorem dX2_tree_1 : decode cX2_tree 1 = .ok (.aload_n 0, 1) := by decide +kernel
theorem dX2_tree_2 : decode cX2_tree 2 = .ok (.getfield 25, 3) := by decide +kernel
theorem dX2_tree_5 : decode cX2_tree 5 = .ok (.iload_n 1, 1) := by decide +kernel
theorem dX2_tree_6 : decode cX2_tree 6 = .ok (.invokevirtual 32, 3) := by decide +kernel
theorem dX2_tree_9 : decode cX2_tree 9 = .ok (.areturn, 1) := by decide +kernel
theorem dX2_youngTree_0 : decode cX2_youngTree 0 = .ok (.aload_n 0, 1) := by decide +kernel
theorem dX2_youngTree_1 : decode cX2_youngTree 1 = .ok (.aload_n 0, 1) := by decide +kernel
theorem dX2_youngTree_2 : decode cX2_youngTree 2 = .ok (.getfield 29, 3) := by decide +kernel
theorem dX2_youngTree_5 : decode cX2_youngTree 5 = .ok (.iload_n 1, 1) := by decide +kernel
theorem dX2_youngTree_6 : decode cX2_youngTree 6 = .ok (.invokevirtual 32, 3) := by decide +kernel
theorem dX2_youngTree_9 : decode cX2_youngTree 9 = .ok (.areturn, 1) := by decide +kernel
theorem dX2_add_0 : decode cX2_add 0 = .ok (.aload_n 0, 1) := by decide +kernel
theorem dX2_add_1 : decode cX2_add 1 = .ok (.getfield 36, 3) := by decide +kernel
theorem dX2_add_4 : decode cX2_add 4 = .ok (.bipush 16, 2) := by decide +kernel
theorem dX2_add_6 : decode cX2_add 6 = .ok (.if_icmp .ge 25, 3) := by decide +kernel
theorem dX2_add_9 : decode cX2_add 9 = .ok (.aload_n 0, 1) := by decide +kernel
theorem dX2_add_10 : decode cX2_add 10 = .ok (.aload_n 0, 1) := by decide +kernel
theorem dX2_add_11 : decode cX2_add 11 = .ok (.getfield 36, 3) := by decide +kernel
theorem dX2_add_14 : decode cX2_add 14 = .ok (.invokevirtual 40, 3) := by decide +kernel
theorem dX2_add_17 : decode cX2_add 17 = .ok (.aload_n 1, 1) := by decide +kernel
theorem dX2_add_18 : decode cX2_add 18 = .ok (.invokevirtual 44, 3) := by decide +kernel
theorem dX2_add_21 : decode cX2_add 21 = .ok (.aload_n 0, 1) := by decide +kernel
theorem dX2_add_22 : decode cX2_add 22 = .ok (.dup, 1) := by decide +kernel
theorem dX2_add_23 : decode cX2_add 23 = .ok (.getfield 36, 3) := by decide +kernel
theorem dX2_add_26 : decode cX2_add 26 = .ok (.iconst 1, 1) := by decide +kernel
theorem dX2_add_27 : decode cX2_add 27 = .ok (.iadd, 1) := by decide +kernel
theorem dX2_add_28 : decode cX2_add 28 = .ok (.putfield 36, 3) := by decide +kernel
theorem dX2_add_31 : decode cX2_add 31 = .ok (.return_, 1) := by decide +kernel
theorem dX2_hasEarlierTwin_0 : decode cX2_hasEarlierTwin 0 = .ok (.aload_n 0, 1) := by decide +kernel
theorem dX2_hasEarlierTwin_1 : decode cX2_hasEarlierTwin 1 = .ok (.iload_n 1, 1) := by decide +kernel
theorem dX2_hasEarlierTwin_2 : decode cX2_hasEarlierTwin 2 = .ok (.invokevirtual 40, 3) := by decide +kernel
theorem dX2_hasEarlierTwin_5 : decode cX2_hasEarlierTwin 5 = .ok (.astore_n 2, 1) := by decide +kernel
theorem dX2_hasEarlierTwin_6 : decode cX2_hasEarlierTwin 6 = .ok (.iconst 0, 1) := by decide +kernel
theorem dX2_hasEarlierTwin_7 : decode cX2_hasEarlierTwin 7 = .ok (.istore_n 3, 1) := by decide +kernel
theorem dX2_hasEarlierTwin_8 : decode cX2_hasEarlierTwin 8 = .ok (.iload_n 3, 1) := by decide +kernel
theorem dX2_hasEarlierTwin_9 : decode cX2_hasEarlierTwin 9 = .ok (.iload_n 1, 1) := by decide +kernel
theorem dX2_hasEarlierTwin_10 : decode cX2_hasEarlierTwin 10 = .ok (.if_icmp .ge 43, 3) := by decide +kernel
theorem dX2_hasEarlierTwin_13 : decode cX2_hasEarlierTwin 13 = .ok (.aload_n 0, 1) := by decide +kernel
theorem dX2_hasEarlierTwin_14 : decode cX2_hasEarlierTwin 14 = .ok (.iload_n 3, 1) := by decide +kernel
theorem dX2_hasEarlierTwin_15 : decode cX2_hasEarlierTwin 15 = .ok (.invokevirtual 40, 3) := by decide +kernel
theorem dX2_hasEarlierTwin_18 : decode cX2_hasEarlierTwin 18 = .ok (.astore 4, 2) := by decide +kernel
theorem dX2_hasEarlierTwin_20 : decode cX2_hasEarlierTwin 20 = .ok (.aload 4, 2) := by decide +kernel
theorem dX2_hasEarlierTwin_22 : decode cX2_hasEarlierTwin 22 = .ok (.getfield 48, 3) := by decide +kernel
theorem dX2_hasEarlierTwin_25 : decode cX2_hasEarlierTwin 25 = .ok (.aload_n 2, 1) := by decide +kernel
theorem dX2_hasEarlierTwin_26 : decode cX2_hasEarlierTwin 26 = .ok (.getfield 48, 3) := by decide +kernel
theorem dX2_hasEarlierTwin_29 : decode cX2_hasEarlierTwin 29 = .ok (.if_icmp .ne 18, 3) := by decide +kernel
theorem dX2_hasEarlierTwin_32 : decode cX2_hasEarlierTwin 32 = .ok (.aload 4, 2) := by decide +kernel
theorem dX2_hasEarlierTwin_34 : decode cX2_hasEarlierTwin 34 = .ok (.aload_n 2, 1) := by decide +kernel
theorem dX2_hasEarlierTwin_35 : decode cX2_hasEarlierTwin 35 = .ok (.invokevirtual 51, 3) := by decide +kernel
theorem dX2_hasEarlierTwin_38 : decode cX2_hasEarlierTwin 38 = .ok (.aload_n 2, 1) := by decide +kernel
theorem dX2_hasEarlierTwin_39 : decode cX2_hasEarlierTwin 39 = .ok (.getfield 48, 3) := by decide +kernel
theorem dX2_hasEarlierTwin_42 : decode cX2_hasEarlierTwin 42 = .ok (.if_icmp .ne 5, 3) := by decide +kernel
theorem dX2_hasEarlierTwin_45 : decode cX2_hasEarlierTwin 45 = .ok (.iconst 1, 1) := by decide +kernel
theorem dX2_hasEarlierTwin_46 : decode cX2_hasEarlierTwin 46 = .ok (.ireturn, 1) := by decide +kernel
theorem dX2_hasEarlierTwin_47 : decode cX2_hasEarlierTwin 47 = .ok (.iinc 3 1, 3) := by decide +kernel
theorem dX2_hasEarlierTwin_50 : decode cX2_hasEarlierTwin 50 = .ok (.goto (-42), 3) := by decide +kernel
theorem dX2_hasEarlierTwin_53 : decode cX2_hasEarlierTwin 53 = .ok (.iconst 0, 1) := by decide +kernel
theorem dX2_hasEarlierTwin_54 : decode cX2_hasEarlierTwin 54 = .ok (.ireturn, 1) := by decide +kernel
theorem dX2_replaceByYoung_0 : decode cX2_replaceByYoung 0 = .ok (.aload_n 0, 1) := by decide +kernel
theorem dX2_replaceByYoung_1 : decode cX2_replaceByYoung 1 = .ok (.getfield 25, 3) := by decide +kernel
theorem dX2_replaceByYoung_4 : decode cX2_replaceByYoung 4 = .ok (.astore_n 1, 1) := by decide +kernel
theorem dX2_replaceByYoung_5 : decode cX2_replaceByYoung 5 = .ok (.aload_n 0, 1) := by decide +kernel
theorem dX2_replaceByYoung_6 : decode cX2_replaceByYoung 6 = .ok (.aload_n 0, 1) := by decide +kernel
theorem dX2_replaceByYoung_7 : decode cX2_replaceByYoung 7 = .ok (.getfield 29, 3) := by decide +kernel
theorem dX2_replaceByYoung_10 : decode cX2_replaceByYoung 10 = .ok (.putfield 25, 3) := by decide +kernel
theorem dX2_replaceByYoung_13 : decode cX2_replaceByYoung 13 = .ok (.aload_n 0, 1) := by decide +kernel
theorem dX2_replaceByYoung_14 : decode cX2_replaceByYoung 14 = .ok (.aload_n 1, 1) := by decide +kernel
theorem dX2_replaceByYoung_15 : decode cX2_replaceByYoung 15 = .ok (.putfield 29, 3) := by decide +kernel
theorem dX2_replaceByYoung_18 : decode cX2_replaceByYoung 18 = .ok (.aload_n 0, 1) := by decide +kernel
theorem dX2_replaceByYoung_19 : decode cX2_replaceByYoung 19 = .ok (.dup, 1) := by decide +kernel
theorem dX2_replaceByYoung_20 : decode cX2_replaceByYoung 20 = .ok (.getfield 55, 3) := by decide +kernel
theorem dX2_replaceByYoung_23 : decode cX2_replaceByYoung 23 = .ok (.iconst 1, 1) := by decide +kernel
theorem dX2_replaceByYoung_24 : decode cX2_replaceByYoung 24 = .ok (.iadd, 1) := by decide +kernel
theorem dX2_replaceByYoung_25 : decode cX2_replaceByYoung 25 = .ok (.putfield 55, 3) := by decide +kernel
theorem dX2_replaceByYoung_28 : decode cX2_replaceByYoung 28 = .ok (.return_, 1) := by decide +kernel
theorem dX2_copyFrom_0 : decode cX2_copyFrom 0 = .ok (.aload_n 0, 1) := by decide +kernel
theorem dX2_copyFrom_1 : decode cX2_copyFrom 1 = .ok (.getfield 12, 3) := by decide +kernel
theorem dX2_copyFrom_4 : decode cX2_copyFrom 4 = .ok (.aload_n 1, 1) := by decide +kernel
theorem dX2_copyFrom_5 : decode cX2_copyFrom 5 = .ok (.getfield 12, 3) := by decide +kernel
theorem dX2_copyFrom_8 : decode cX2_copyFrom 8 = .ok (.invokevirtual 58, 3) := by decide +kernel
theorem dX2_copyFrom_11 : decode cX2_copyFrom 11 = .ok (.iconst 0, 1) := by decide +kernel
theorem dX2_copyFrom_12 : decode cX2_copyFrom 12 = .ok (.istore_n 2, 1) := by decide +kernel
theorem dX2_copyFrom_13 : decode cX2_copyFrom 13 = .ok (.iload_n 2, 1) := by decide +kernel
theorem dX2_copyFrom_14 : decode cX2_copyFrom 14 = .ok (.aload_n 1, 1) := by decide +kernel
theorem dX2_copyFrom_15 : decode cX2_copyFrom 15 = .ok (.getfield 36, 3) := by decide +kernel
theorem dX2_copyFrom_18 : decode cX2_copyFrom 18 = .ok (.if_icmp .ge 22, 3) := by decide +kernel
theorem dX2_copyFrom_21 : decode cX2_copyFrom 21 = .ok (.aload_n 0, 1) := by decide +kernel
theorem dX2_copyFrom_22 : decode cX2_copyFrom 22 = .ok (.iload_n 2, 1) := by decide +kernel
theorem dX2_copyFrom_23 : decode cX2_copyFrom 23 = .ok (.invokevirtual 40, 3) := by decide +kernel
theorem dX2_copyFrom_26 : decode cX2_copyFrom 26 = .ok (.aload_n 1, 1) := by decide +kernel
theorem dX2_copyFrom_27 : decode cX2_copyFrom 27 = .ok (.iload_n 2, 1) := by decide +kernel
theorem dX2_copyFrom_28 : decode cX2_copyFrom 28 = .ok (.invokevirtual 40, 3) := by decide +kernel
theorem dX2_copyFrom_31 : decode cX2_copyFrom 31 = .ok (.invokevirtual 44, 3) := by decide +kernel
theorem dX2_copyFrom_34 : decode cX2_copyFrom 34 = .ok (.iinc 2 1, 3) := by decide +kernel
theorem dX2_copyFrom_37 : decode cX2_copyFrom 37 = .ok (.goto (-24), 3) := by decide +kernel
theorem dX2_copyFrom_40 : decode cX2_copyFrom 40 = .ok (.aload_n 0, 1) := by decide +kernel
theorem dX2_copyFrom_41 : decode cX2_copyFrom 41 = .ok (.aload_n 1, 1) := by decide +kernel
theorem dX2_copyFrom_42 : decode cX2_copyFrom 42 = .ok (.getfield 36, 3) := by decide +kernel
theorem dX2_copyFrom_45 : decode cX2_copyFrom 45 = .ok (.putfield 36, 3) := by decide +kernel
theorem dX2_copyFrom_48 : decode cX2_copyFrom 48 = .ok (.aload_n 0, 1) := by decide +kernel
theorem dX2_copyFrom_49 : decode cX2_copyFrom 49 = .ok (.aload_n 1, 1) := by decide +kernel
theorem dX2_copyFrom_50 : decode cX2_copyFrom 50 = .ok (.getfield 55, 3) := by decide +kernel
theorem dX2_copyFrom_53 : decode cX2_copyFrom 53 = .ok (.putfield 55, 3) := by decide +kernel
theorem dX2_copyFrom_56 : decode cX2_copyFrom 56 = .ok (.aload_n 0, 1) := by decide +kernel
theorem dX2_copyFrom_57 : decode cX2_copyFrom 57 = .ok (.aload_n 1, 1) := by decide +kernel
theorem dX2_copyFrom_58 : decode cX2_copyFrom 58 = .ok (.getfield 61, 3) := by decide +kernel
theorem dX2_copyFrom_61 : decode cX2_copyFrom 61 = .ok (.putfield 61, 3) := by decide +kernel
theorem dX2_copyFrom_64 : decode cX2_copyFrom 64 = .ok (.return_, 1) := by decide +kernel
theorem dX2_treeOf_0 : decode cX2_treeOf 0 = .ok (.iload_n 2, 1) := by decide +kernel
theorem dX2_treeOf_1 : decode cX2_treeOf 1 = .ok (.ifCond .lt 9, 3) := by decide +kernel
theorem dX2_treeOf_4 : decode cX2_treeOf 4 = .ok (.iload_n 2, 1) := by decide +kernel
theorem dX2_treeOf_5 : decode cX2_treeOf 5 = .ok (.aload_n 1, 1) := by decide +kernel
theorem dX2_treeOf_6 : decode cX2_treeOf 6 = .ok (.arraylength, 1) := by decide +kernel
theorem dX2_treeOf_7 : decode cX2_treeOf 7 = .ok (.if_icmp .lt 8, 3) := by decide +kernel
theorem dX2_treeOf_10 : decode cX2_treeOf 10 = .ok (.aload_n 0, 1) := by decide +kernel
theorem dX2_treeOf_11 : decode cX2_treeOf 11 = .ok (.getfield 21, 3) := by decide +kernel
theorem dX2_treeOf_14 : decode cX2_treeOf 14 = .ok (.areturn, 1) := by decide +kernel
theorem dX2_treeOf_15 : decode cX2_treeOf 15 = .ok (.aload_n 1, 1) := by decide +kernel
theorem dX2_treeOf_16 : decode cX2_treeOf 16 = .ok (.iload_n 2, 1) := by decide +kernel
theorem dX2_treeOf_17 : decode cX2_treeOf 17 = .ok (.aaload, 1) := by decide +kernel
theorem dX2_treeOf_18 : decode cX2_treeOf 18 = .ok (.astore_n 3, 1) := by decide +kernel
theorem dX2_treeOf_19 : decode cX2_treeOf 19 = .ok (.aload_n 3, 1) := by decide +kernel
theorem dX2_treeOf_20 : decode cX2_treeOf 20 = .ok (.ifnonnull 10, 3) := by decide +kernel
theorem dX2_treeOf_23 : decode cX2_treeOf 23 = .ok (.aload_n 0, 1) := by decide +kernel
theorem dX2_treeOf_24 : decode cX2_treeOf 24 = .ok (.getfield 21, 3) := by decide +kernel
theorem dX2_treeOf_27 : decode cX2_treeOf 27 = .ok (.goto 4, 3) := by decide +kernel
theorem dX2_treeOf_30 : decode cX2_treeOf 30 = .ok (.aload_n 3, 1) := by decide +kernel
theorem dX2_treeOf_31 : decode cX2_treeOf 31 = .ok (.areturn, 1) := by decide +kernel
end
section
theorem dX3_init_0 : decode cX3_init 0 = .ok (.aload_n 0, 1) := by decide +kernel
theorem dX3_init_1 : decode cX3_init 1 = .ok (.invokespecial 3, 3) := by decide +kernel
theorem dX3_init_4 : decode cX3_init 4 = .ok (.aload_n 0, 1) := by decide +kernel
theorem dX3_init_5 : decode cX3_init 5 = .ok (.new 9, 3) := by decide +kernel
theorem dX3_init_8 : decode cX3_init 8 = .ok (.dup, 1) := by decide +kernel
theorem dX3_init_9 : decode cX3_init 9 = .ok (.invokespecial 11, 3) := by decide +kernel
theorem dX3_init_12 : decode cX3_init 12 = .ok (.putfield 12, 3) := by decide +kernel
theorem dX3_init_15 : decode cX3_init 15 = .ok (.aload_n 0, 1) := by decide +kernel
theorem dX3_init_16 : decode cX3_init 16 = .ok (.bipush 12, 2) := by decide +kernel
theorem dX3_init_18 : decode cX3_init 18 = .ok (.newarray .int, 2) := by decide +kernel
theorem dX3_init_20 : decode cX3_init 20 = .ok (.putfield 18, 3) := by decide +kernel
theorem dX3_init_23 : decode cX3_init 23 = .ok (.aload_n 0, 1) := by decide +kernel
theorem dX3_init_24 : decode cX3_init 24 = .ok (.bipush 12, 2) := by decide +kernel
theorem dX3_init_26 : decode cX3_init 26 = .ok (.newarray .int, 2) := by decide +kernel
theorem dX3_init_28 : decode cX3_init 28 = .ok (.putfield 22, 3) := by decide +kernel
theorem dX3_init_31 : decode cX3_init 31 = .ok (.aload_n 0, 1) := by decide +kernel
theorem dX3_init_32 : decode cX3_init 32 = .ok (.bipush 12, 2) := by decide +kernel
theorem dX3_init_34 : decode cX3_init 34 = .ok (.newarray .int, 2) := by decide +kernel
theorem dX3_init_36 : decode cX3_init 36 = .ok (.putfield 25, 3) := by decide +kernel
theorem dX3_init_39 : decode cX3_init 39 = .ok (.aload_n 0, 1) := by decide +kernel
theorem dX3_init_40 : decode cX3_init 40 = .ok (.bipush 12, 2) := by decide +kernel
theorem dX3_init_42 : decode cX3_init 42 = .ok (.newarray .int, 2) := by decide +kernel
theorem dX3_init_44 : decode cX3_init 44 = .ok (.putfield 28, 3) := by decide +kernel
theorem dX3_init_47 : decode cX3_init 47 = .ok (.aload_n 0, 1) := by decide +kernel
theorem dX3_init_48 : decode cX3_init 48 = .ok (.iconst 1, 1) := by decide +kernel
theorem dX3_init_49 : decode cX3_init 49 = .ok (.putfield 31, 3) := by decide +kernel
theorem dX3_init_52 : decode cX3_init 52 = .ok (.return_, 1) := by decide +kernel
theorem dX3_add_0 : decode cX3_add 0 = .ok (.aload_n 0, 1) := by decide +kernel
theorem dX3_add_1 : decode cX3_add 1 = .ok (.getfield 18, 3) := by decide +kernel
theorem dX3_add_4 : decode cX3_add 4 = .ok (.aload_n 0, 1) := by decide +kernel
theorem dX3_add_5 : decode cX3_add 5 = .ok (.getfield 35, 3) := by decide +kernel
theorem dX3_add_8 : decode cX3_add 8 = .ok (.iload_n 1, 1) := by decide +kernel
theorem dX3_add_9 : decode cX3_add 9 = .ok (.invokestatic 38, 3) := by decide +kernel
theorem dX3_add_12 : decode cX3_add 12 = .ok (.aload_n 0, 1) := by decide +kernel
theorem dX3_add_13 : decode cX3_add 13 = .ok (.getfield 22, 3) := by decide +kernel
theorem dX3_add_16 : decode cX3_add 16 = .ok (.aload_n 0, 1) := by decide +kernel
theorem dX3_add_17 : decode cX3_add 17 = .ok (.getfield 35, 3) := by decide +kernel
theorem dX3_add_20 : decode cX3_add 20 = .ok (.iload_n 2, 1) := by decide +kernel
theorem dX3_add_21 : decode cX3_add 21 = .ok (.invokestatic 38, 3) := by decide +kernel
theorem dX3_add_24 : decode cX3_add 24 = .ok (.aload_n 0, 1) := by decide +kernel
theorem dX3_add_25 : decode cX3_add 25 = .ok (.getfield 25, 3) := by decide +kernel
theorem dX3_add_28 : decode cX3_add 28 = .ok (.aload_n 0, 1) := by decide +kernel
theorem dX3_add_29 : decode cX3_add 29 = .ok (.getfield 35, 3) := by decide +kernel
theorem dX3_add_32 : decode cX3_add 32 = .ok (.iload_n 3, 1) := by decide +kernel
theorem dX3_add_33 : decode cX3_add 33 = .ok (.invokestatic 38, 3) := by decide +kernel
theorem dX3_add_36 : decode cX3_add 36 = .ok (.aload_n 0, 1) := by decide +kernel
theorem dX3_add_37 : decode cX3_add 37 = .ok (.getfield 28, 3) := by decide +kernel
theorem dX3_add_40 : decode cX3_add 40 = .ok (.aload_n 0, 1) := by decide +kernel
theorem dX3_add_41 : decode cX3_add 41 = .ok (.getfield 35, 3) := by decide +kernel
theorem dX3_add_44 : decode cX3_add 44 = .ok (.iload 4, 2) := by decide +kernel
theorem dX3_add_46 : decode cX3_add 46 = .ok (.invokestatic 38, 3) := by decide +kernel
theorem dX3_add_49 : decode cX3_add 49 = .ok (.aload_n 0, 1) := by decide +kernel
theorem dX3_add_50 : decode cX3_add 50 = .ok (.dup, 1) := by decide +kernel
theorem dX3_add_51 : decode cX3_add 51 = .ok (.getfield 35, 3) := by decide +kernel
theorem dX3_add_54 : decode cX3_add 54 = .ok (.iconst 1, 1) := by decide +kernel
theorem dX3_add_55 : decode cX3_add 55 = .ok (.iadd, 1) := by decide +kernel
theorem dX3_add_56 : decode cX3_add 56 = .ok (.putfield 35, 3) := by decide +kernel
theorem dX3_add_59 : decode cX3_add 59 = .ok (.return_, 1) := by decide +kernel
theorem dX3_errorOf_0 : decode cX3_errorOf 0 = .ok (.iconst 0, 1) := by decide +kernel
theorem dX3_errorOf_1 : decode cX3_errorOf 1 = .ok (.istore_n 3, 1) := by decide +kernel
theorem dX3_errorOf_2 : decode cX3_errorOf 2 = .ok (.iconst 0, 1) := by decide +kernel
theorem dX3_errorOf_3 : decode cX3_errorOf 3 = .ok (.istore 4, 2) := by decide +kernel
theorem dX3_errorOf_5 : decode cX3_errorOf 5 = .ok (.iload 4, 2) := by decide +kernel
theorem dX3_errorOf_7 : decode cX3_errorOf 7 = .ok (.aload_n 0, 1) := by decide +kernel
theorem dX3_errorOf_8 : decode cX3_errorOf 8 = .ok (.getfield 35, 3) := by decide +kernel
theorem dX3_errorOf_11 : decode cX3_errorOf 11 = .ok (.if_icmp .ge 80, 3) := by decide +kernel
theorem dX3_errorOf_14 : decode cX3_errorOf 14 = .ok (.aload_n 0, 1) := by decide +kernel
theorem dX3_errorOf_15 : decode cX3_errorOf 15 = .ok (.getfield 12, 3) := by decide +kernel
theorem dX3_errorOf_18 : decode cX3_errorOf 18 = .ok (.aload_n 0, 1) := by decide +kernel
theorem dX3_errorOf_19 : decode cX3_errorOf 19 = .ok (.getfield 18, 3) := by decide +kernel
theorem dX3_errorOf_22 : decode cX3_errorOf 22 = .ok (.iload 4, 2) := by decide +kernel
theorem dX3_errorOf_24 : decode cX3_errorOf 24 = .ok (.invokestatic 42, 3) := by decide +kernel
theorem dX3_errorOf_27 : decode cX3_errorOf 27 = .ok (.aload_n 0, 1) := by decide +kernel
theorem dX3_errorOf_28 : decode cX3_errorOf 28 = .ok (.getfield 22, 3) := by decide +kernel
theorem dX3_errorOf_31 : decode cX3_errorOf 31 = .ok (.iload 4, 2) := by decide +kernel
theorem dX3_errorOf_33 : decode cX3_errorOf 33 = .ok (.invokestatic 42, 3) := by decide +kernel
theorem dX3_errorOf_36 : decode cX3_errorOf 36 = .ok (.aload_n 0, 1) := by decide +kernel
theorem dX3_errorOf_37 : decode cX3_errorOf 37 = .ok (.getfield 25, 3) := by decide +kernel
theorem dX3_errorOf_40 : decode cX3_errorOf 40 = .ok (.iload 4, 2) := by decide +kernel
theorem dX3_errorOf_42 : decode cX3_errorOf 42 = .ok (.invokestatic 42, 3) := by decide +kernel
theorem dX3_errorOf_45 : decode cX3_errorOf 45 = .ok (.invokevirtual 46, 3) := by decide +kernel
theorem dX3_errorOf_48 : decode cX3_errorOf 48 = .ok (.aload_n 0, 1) := by decide +kernel
theorem dX3_errorOf_49 : decode cX3_errorOf 49 = .ok (.getfield 12, 3) := by decide +kernel
theorem dX3_errorOf_52 : decode cX3_errorOf 52 = .ok (.aload_n 1, 1) := by decide +kernel
theorem dX3_errorOf_53 : decode cX3_errorOf 53 = .ok (.iload_n 2, 1) := by decide +kernel
theorem dX3_errorOf_54 : decode cX3_errorOf 54 = .ok (.invokevirtual 50, 3) := by decide +kernel
theorem dX3_errorOf_57 : decode cX3_errorOf 57 = .ok (.aload_n 0, 1) := by decide +kernel
theorem dX3_errorOf_58 : decode cX3_errorOf 58 = .ok (.getfield 28, 3) := by decide +kernel
theorem dX3_errorOf_61 : decode cX3_errorOf 61 = .ok (.iload 4, 2) := by decide +kernel
theorem dX3_errorOf_63 : decode cX3_errorOf 63 = .ok (.invokestatic 42, 3) := by decide +kernel
theorem dX3_errorOf_66 : decode cX3_errorOf 66 = .ok (.isub, 1) := by decide +kernel
theorem dX3_errorOf_67 : decode cX3_errorOf 67 = .ok (.istore 5, 2) := by decide +kernel
theorem dX3_errorOf_69 : decode cX3_errorOf 69 = .ok (.iload_n 3, 1) := by decide +kernel
theorem dX3_errorOf_70 : decode cX3_errorOf 70 = .ok (.iload 5, 2) := by decide +kernel
theorem dX3_errorOf_72 : decode cX3_errorOf 72 = .ok (.ifCond .ge 9, 3) := by decide +kernel
theorem dX3_errorOf_75 : decode cX3_errorOf 75 = .ok (.iload 5, 2) := by decide +kernel
theorem dX3_errorOf_77 : decode cX3_errorOf 77 = .ok (.ineg, 1) := by decide +kernel
theorem dX3_errorOf_78 : decode cX3_errorOf 78 = .ok (.goto 5, 3) := by decide +kernel
theorem dX3_errorOf_81 : decode cX3_errorOf 81 = .ok (.iload 5, 2) := by decide +kernel
theorem dX3_errorOf_83 : decode cX3_errorOf 83 = .ok (.iadd, 1) := by decide +kernel
theorem dX3_errorOf_84 : decode cX3_errorOf 84 = .ok (.istore_n 3, 1) := by decide +kernel
theorem dX3_errorOf_85 : decode cX3_errorOf 85 = .ok (.iinc 4 1, 3) := by decide +kernel
theorem dX3_errorOf_88 : decode cX3_errorOf 88 = .ok (.goto (-83), 3) := by decide +kernel
theorem dX3_errorOf_91 : decode cX3_errorOf 91 = .ok (.iload_n 3, 1) := by decide +kernel
theorem dX3_errorOf_92 : decode cX3_errorOf 92 = .ok (.ireturn, 1) := by decide +kernel
theorem dX3_meritOf_0 : decode cX3_meritOf 0 = .ok (.aload_n 0, 1) := by decide +kernel
theorem dX3_meritOf_1 : decode cX3_meritOf 1 = .ok (.aload_n 1, 1) := by decide +kernel
theorem dX3_meritOf_2 : decode cX3_meritOf 2 = .ok (.iconst 0, 1) := by decide +kernel
theorem dX3_meritOf_3 : decode cX3_meritOf 3 = .ok (.invokevirtual 54, 3) := by decide +kernel
theorem dX3_meritOf_6 : decode cX3_meritOf 6 = .ok (.istore_n 2, 1) := by decide +kernel
theorem dX3_meritOf_7 : decode cX3_meritOf 7 = .ok (.aload_n 0, 1) := by decide +kernel
theorem dX3_meritOf_8 : decode cX3_meritOf 8 = .ok (.getfield 57, 3) := by decide +kernel
theorem dX3_meritOf_11 : decode cX3_meritOf 11 = .ok (.iconst 1, 1) := by decide +kernel
theorem dX3_meritOf_12 : decode cX3_meritOf 12 = .ok (.if_icmp .ne 17, 3) := by decide +kernel
theorem dX3_meritOf_15 : decode cX3_meritOf 15 = .ok (.iload_n 2, 1) := by decide +kernel
theorem dX3_meritOf_16 : decode cX3_meritOf 16 = .ok (.aload_n 0, 1) := by decide +kernel
theorem dX3_meritOf_17 : decode cX3_meritOf 17 = .ok (.getfield 31, 3) := by decide +kernel
theorem dX3_meritOf_20 : decode cX3_meritOf 20 = .ok (.aload_n 1, 1) := by decide +kernel
theorem dX3_meritOf_21 : decode cX3_meritOf 21 = .ok (.getfield 60, 3) := by decide +kernel
theorem dX3_meritOf_24 : decode cX3_meritOf 24 = .ok (.imul, 1) := by decide +kernel
theorem dX3_meritOf_25 : decode cX3_meritOf 25 = .ok (.iadd, 1) := by decide +kernel
theorem dX3_meritOf_26 : decode cX3_meritOf 26 = .ok (.goto 4, 3) := by decide +kernel
theorem dX3_meritOf_29 : decode cX3_meritOf 29 = .ok (.iload_n 2, 1) := by decide +kernel
theorem dX3_meritOf_30 : decode cX3_meritOf 30 = .ok (.ireturn, 1) := by decide +kernel
theorem dX3_hitsOf_0 : decode cX3_hitsOf 0 = .ok (.iconst 0, 1) := by decide +kernel
theorem dX3_hitsOf_1 : decode cX3_hitsOf 1 = .ok (.istore_n 2, 1) := by decide +kernel
theorem dX3_hitsOf_2 : decode cX3_hitsOf 2 = .ok (.iconst 0, 1) := by decide +kernel
theorem dX3_hitsOf_3 : decode cX3_hitsOf 3 = .ok (.istore_n 3, 1) := by decide +kernel
theorem dX3_hitsOf_4 : decode cX3_hitsOf 4 = .ok (.iload_n 3, 1) := by decide +kernel
theorem dX3_hitsOf_5 : decode cX3_hitsOf 5 = .ok (.aload_n 0, 1) := by decide +kernel
theorem dX3_hitsOf_6 : decode cX3_hitsOf 6 = .ok (.getfield 35, 3) := by decide +kernel
theorem dX3_hitsOf_9 : decode cX3_hitsOf 9 = .ok (.if_icmp .ge 63, 3) := by decide +kernel
theorem dX3_hitsOf_12 : decode cX3_hitsOf 12 = .ok (.aload_n 0, 1) := by decide +kernel
theorem dX3_hitsOf_13 : decode cX3_hitsOf 13 = .ok (.getfield 12, 3) := by decide +kernel
theorem dX3_hitsOf_16 : decode cX3_hitsOf 16 = .ok (.aload_n 0, 1) := by decide +kernel
theorem dX3_hitsOf_17 : decode cX3_hitsOf 17 = .ok (.getfield 18, 3) := by decide +kernel
theorem dX3_hitsOf_20 : decode cX3_hitsOf 20 = .ok (.iload_n 3, 1) := by decide +kernel
theorem dX3_hitsOf_21 : decode cX3_hitsOf 21 = .ok (.invokestatic 42, 3) := by decide +kernel
theorem dX3_hitsOf_24 : decode cX3_hitsOf 24 = .ok (.aload_n 0, 1) := by decide +kernel
theorem dX3_hitsOf_25 : decode cX3_hitsOf 25 = .ok (.getfield 22, 3) := by decide +kernel
theorem dX3_hitsOf_28 : decode cX3_hitsOf 28 = .ok (.iload_n 3, 1) := by decide +kernel
theorem dX3_hitsOf_29 : decode cX3_hitsOf 29 = .ok (.invokestatic 42, 3) := by decide +kernel
theorem dX3_hitsOf_32 : decode cX3_hitsOf 32 = .ok (.aload_n 0, 1) := by decide +kernel
theorem dX3_hitsOf_33 : decode cX3_hitsOf 33 = .ok (.getfield 25, 3) := by decide +kernel
theorem dX3_hitsOf_36 : decode cX3_hitsOf 36 = .ok (.iload_n 3, 1) := by decide +kernel
theorem dX3_hitsOf_37 : decode cX3_hitsOf 37 = .ok (.invokestatic 42, 3) := by decide +kernel
theorem dX3_hitsOf_40 : decode cX3_hitsOf 40 = .ok (.invokevirtual 46, 3) := by decide +kernel
theorem dX3_hitsOf_43 : decode cX3_hitsOf 43 = .ok (.aload_n 0, 1) := by decide +kernel
theorem dX3_hitsOf_44 : decode cX3_hitsOf 44 = .ok (.getfield 12, 3) := by decide +kernel
theorem dX3_hitsOf_47 : decode cX3_hitsOf 47 = .ok (.aload_n 1, 1) := by decide +kernel
theorem dX3_hitsOf_48 : decode cX3_hitsOf 48 = .ok (.iconst 0, 1) := by decide +kernel
theorem dX3_hitsOf_49 : decode cX3_hitsOf 49 = .ok (.invokevirtual 50, 3) := by decide +kernel
theorem dX3_hitsOf_52 : decode cX3_hitsOf 52 = .ok (.aload_n 0, 1) := by decide +kernel
theorem dX3_hitsOf_53 : decode cX3_hitsOf 53 = .ok (.getfield 28, 3) := by decide +kernel
theorem dX3_hitsOf_56 : decode cX3_hitsOf 56 = .ok (.iload_n 3, 1) := by decide +kernel
theorem dX3_hitsOf_57 : decode cX3_hitsOf 57 = .ok (.invokestatic 42, 3) := by decide +kernel
theorem dX3_hitsOf_60 : decode cX3_hitsOf 60 = .ok (.if_icmp .ne 6, 3) := by decide +kernel
theorem dX3_hitsOf_63 : decode cX3_hitsOf 63 = .ok (.iinc 2 1, 3) := by decide +kernel
theorem dX3_hitsOf_66 : decode cX3_hitsOf 66 = .ok (.iinc 3 1, 3) := by decide +kernel
theorem dX3_hitsOf_69 : decode cX3_hitsOf 69 = .ok (.goto (-65), 3) := by decide +kernel
theorem dX3_hitsOf_72 : decode cX3_hitsOf 72 = .ok (.iload_n 2, 1) := by decide +kernel
theorem dX3_hitsOf_73 : decode cX3_hitsOf 73 = .ok (.ireturn, 1) := by decide +kernel
end
section
theorem dX4_init_0 : decode cX4_init 0 = .ok (.aload_n 0, 1) := by decide +kernel
theorem dX4_init_1 : decode cX4_init 1 = .ok (.invokespecial 3, 3) := by decide +kernel
theorem dX4_init_4 : decode cX4_init 4 = .ok (.aload_n 0, 1) := by decide +kernel
theorem dX4_init_5 : decode cX4_init 5 = .ok (.bipush 16, 2) := by decide +kernel
theorem dX4_init_7 : decode cX4_init 7 = .ok (.newarray .int, 2) := by decide +kernel
theorem dX4_init_9 : decode cX4_init 9 = .ok (.putfield 9, 3) := by decide +kernel
theorem dX4_init_12 : decode cX4_init 12 = .ok (.aload_n 0, 1) := by decide +kernel
theorem dX4_init_13 : decode cX4_init 13 = .ok (.bipush 16, 2) := by decide +kernel
theorem dX4_init_15 : decode cX4_init 15 = .ok (.newarray .int, 2) := by decide +kernel
theorem dX4_init_17 : decode cX4_init 17 = .ok (.putfield 15, 3) := by decide +kernel
theorem dX4_init_20 : decode cX4_init 20 = .ok (.aload_n 0, 1) := by decide +kernel
theorem dX4_init_21 : decode cX4_init 21 = .ok (.bipush 16, 2) := by decide +kernel
theorem dX4_init_23 : decode cX4_init 23 = .ok (.newarray .int, 2) := by decide +kernel
theorem dX4_init_25 : decode cX4_init 25 = .ok (.putfield 18, 3) := by decide +kernel
theorem dX4_init_28 : decode cX4_init 28 = .ok (.return_, 1) := by decide +kernel
theorem dX4_rank_0 : decode cX4_rank 0 = .ok (.iconst 0, 1) := by decide +kernel
theorem dX4_rank_1 : decode cX4_rank 1 = .ok (.istore_n 3, 1) := by decide +kernel
theorem dX4_rank_2 : decode cX4_rank 2 = .ok (.iload_n 3, 1) := by decide +kernel
theorem dX4_rank_3 : decode cX4_rank 3 = .ok (.aload_n 1, 1) := by decide +kernel
theorem dX4_rank_4 : decode cX4_rank 4 = .ok (.getfield 21, 3) := by decide +kernel
theorem dX4_rank_7 : decode cX4_rank 7 = .ok (.if_icmp .ge 60, 3) := by decide +kernel
theorem dX4_rank_10 : decode cX4_rank 10 = .ok (.aload_n 1, 1) := by decide +kernel
theorem dX4_rank_11 : decode cX4_rank 11 = .ok (.iload_n 3, 1) := by decide +kernel
theorem dX4_rank_12 : decode cX4_rank 12 = .ok (.invokevirtual 27, 3) := by decide +kernel
theorem dX4_rank_15 : decode cX4_rank 15 = .ok (.astore 4, 2) := by decide +kernel
theorem dX4_rank_17 : decode cX4_rank 17 = .ok (.aload_n 0, 1) := by decide +kernel
theorem dX4_rank_18 : decode cX4_rank 18 = .ok (.getfield 9, 3) := by decide +kernel
theorem dX4_rank_21 : decode cX4_rank 21 = .ok (.iload_n 3, 1) := by decide +kernel
theorem dX4_rank_22 : decode cX4_rank 22 = .ok (.aload_n 2, 1) := by decide +kernel
theorem dX4_rank_23 : decode cX4_rank 23 = .ok (.aload 4, 2) := by decide +kernel
theorem dX4_rank_25 : decode cX4_rank 25 = .ok (.invokevirtual 31, 3) := by decide +kernel
theorem dX4_rank_28 : decode cX4_rank 28 = .ok (.invokestatic 37, 3) := by decide +kernel
theorem dX4_rank_31 : decode cX4_rank 31 = .ok (.aload_n 0, 1) := by decide +kernel
theorem dX4_rank_32 : decode cX4_rank 32 = .ok (.getfield 15, 3) := by decide +kernel
theorem dX4_rank_35 : decode cX4_rank 35 = .ok (.iload_n 3, 1) := by decide +kernel
theorem dX4_rank_36 : decode cX4_rank 36 = .ok (.aload_n 2, 1) := by decide +kernel
theorem dX4_rank_37 : decode cX4_rank 37 = .ok (.getfield 41, 3) := by decide +kernel
theorem dX4_rank_40 : decode cX4_rank 40 = .ok (.iconst 2, 1) := by decide +kernel
theorem dX4_rank_41 : decode cX4_rank 41 = .ok (.if_icmp .ne 11, 3) := by decide +kernel
theorem dX4_rank_44 : decode cX4_rank 44 = .ok (.aload 4, 2) := by decide +kernel
theorem dX4_rank_46 : decode cX4_rank 46 = .ok (.getfield 44, 3) := by decide +kernel
theorem dX4_rank_49 : decode cX4_rank 49 = .ok (.goto 4, 3) := by decide +kernel
theorem dX4_rank_52 : decode cX4_rank 52 = .ok (.iconst 0, 1) := by decide +kernel
theorem dX4_rank_53 : decode cX4_rank 53 = .ok (.invokestatic 37, 3) := by decide +kernel
theorem dX4_rank_56 : decode cX4_rank 56 = .ok (.aload_n 0, 1) := by decide +kernel
theorem dX4_rank_57 : decode cX4_rank 57 = .ok (.iload_n 3, 1) := by decide +kernel
theorem dX4_rank_58 : decode cX4_rank 58 = .ok (.invokevirtual 49, 3) := by decide +kernel
theorem dX4_rank_61 : decode cX4_rank 61 = .ok (.iinc 3 1, 3) := by decide +kernel
theorem dX4_rank_64 : decode cX4_rank 64 = .ok (.goto (-62), 3) := by decide +kernel
theorem dX4_rank_67 : decode cX4_rank 67 = .ok (.return_, 1) := by decide +kernel
theorem dX4_withRank_0 : decode cX4_withRank 0 = .ok (.aload_n 0, 1) := by decide +kernel
theorem dX4_withRank_1 : decode cX4_withRank 1 = .ok (.getfield 18, 3) := by decide +kernel
theorem dX4_withRank_4 : decode cX4_withRank 4 = .ok (.iload_n 1, 1) := by decide +kernel
theorem dX4_withRank_5 : decode cX4_withRank 5 = .ok (.invokestatic 53, 3) := by decide +kernel
theorem dX4_withRank_8 : decode cX4_withRank 8 = .ok (.ireturn, 1) := by decide +kernel
theorem dX4_isBetter_0 : decode cX4_isBetter 0 = .ok (.aload_n 0, 1) := by decide +kernel
theorem dX4_isBetter_1 : decode cX4_isBetter 1 = .ok (.getfield 9, 3) := by decide +kernel
theorem dX4_isBetter_4 : decode cX4_isBetter 4 = .ok (.iload_n 1, 1) := by decide +kernel
theorem dX4_isBetter_5 : decode cX4_isBetter 5 = .ok (.invokestatic 53, 3) := by decide +kernel
theorem dX4_isBetter_8 : decode cX4_isBetter 8 = .ok (.aload_n 0, 1) := by decide +kernel
theorem dX4_isBetter_9 : decode cX4_isBetter 9 = .ok (.getfield 9, 3) := by decide +kernel
theorem dX4_isBetter_12 : decode cX4_isBetter 12 = .ok (.iload_n 2, 1) := by decide +kernel
theorem dX4_isBetter_13 : decode cX4_isBetter 13 = .ok (.invokestatic 53, 3) := by decide +kernel
theorem dX4_isBetter_16 : decode cX4_isBetter 16 = .ok (.if_icmp .eq 28, 3) := by decide +kernel
theorem dX4_isBetter_19 : decode cX4_isBetter 19 = .ok (.aload_n 0, 1) := by decide +kernel
theorem dX4_isBetter_20 : decode cX4_isBetter 20 = .ok (.getfield 9, 3) := by decide +kernel
theorem dX4_isBetter_23 : decode cX4_isBetter 23 = .ok (.iload_n 1, 1) := by decide +kernel
theorem dX4_isBetter_24 : decode cX4_isBetter 24 = .ok (.invokestatic 53, 3) := by decide +kernel
theorem dX4_isBetter_27 : decode cX4_isBetter 27 = .ok (.aload_n 0, 1) := by decide +kernel
theorem dX4_isBetter_28 : decode cX4_isBetter 28 = .ok (.getfield 9, 3) := by decide +kernel
theorem dX4_isBetter_31 : decode cX4_isBetter 31 = .ok (.iload_n 2, 1) := by decide +kernel
theorem dX4_isBetter_32 : decode cX4_isBetter 32 = .ok (.invokestatic 53, 3) := by decide +kernel
theorem dX4_isBetter_35 : decode cX4_isBetter 35 = .ok (.if_icmp .ge 7, 3) := by decide +kernel
theorem dX4_isBetter_38 : decode cX4_isBetter 38 = .ok (.iconst 1, 1) := by decide +kernel
theorem dX4_isBetter_39 : decode cX4_isBetter 39 = .ok (.goto 4, 3) := by decide +kernel
theorem dX4_isBetter_42 : decode cX4_isBetter 42 = .ok (.iconst 0, 1) := by decide +kernel
theorem dX4_isBetter_43 : decode cX4_isBetter 43 = .ok (.ireturn, 1) := by decide +kernel
theorem dX4_isBetter_44 : decode cX4_isBetter 44 = .ok (.aload_n 0, 1) := by decide +kernel
theorem dX4_isBetter_45 : decode cX4_isBetter 45 = .ok (.getfield 15, 3) := by decide +kernel
theorem dX4_isBetter_48 : decode cX4_isBetter 48 = .ok (.iload_n 1, 1) := by decide +kernel
theorem dX4_isBetter_49 : decode cX4_isBetter 49 = .ok (.invokestatic 53, 3) := by decide +kernel
theorem dX4_isBetter_52 : decode cX4_isBetter 52 = .ok (.aload_n 0, 1) := by decide +kernel
theorem dX4_isBetter_53 : decode cX4_isBetter 53 = .ok (.getfield 15, 3) := by decide +kernel
theorem dX4_isBetter_56 : decode cX4_isBetter 56 = .ok (.iload_n 2, 1) := by decide +kernel
theorem dX4_isBetter_57 : decode cX4_isBetter 57 = .ok (.invokestatic 53, 3) := by decide +kernel
theorem dX4_isBetter_60 : decode cX4_isBetter 60 = .ok (.if_icmp .eq 28, 3) := by decide +kernel
theorem dX4_isBetter_63 : decode cX4_isBetter 63 = .ok (.aload_n 0, 1) := by decide +kernel
theorem dX4_isBetter_64 : decode cX4_isBetter 64 = .ok (.getfield 15, 3) := by decide +kernel
theorem dX4_isBetter_67 : decode cX4_isBetter 67 = .ok (.iload_n 1, 1) := by decide +kernel
theorem dX4_isBetter_68 : decode cX4_isBetter 68 = .ok (.invokestatic 53, 3) := by decide +kernel
theorem dX4_isBetter_71 : decode cX4_isBetter 71 = .ok (.aload_n 0, 1) := by decide +kernel
theorem dX4_isBetter_72 : decode cX4_isBetter 72 = .ok (.getfield 15, 3) := by decide +kernel
theorem dX4_isBetter_75 : decode cX4_isBetter 75 = .ok (.iload_n 2, 1) := by decide +kernel
theorem dX4_isBetter_76 : decode cX4_isBetter 76 = .ok (.invokestatic 53, 3) := by decide +kernel
theorem dX4_isBetter_79 : decode cX4_isBetter 79 = .ok (.if_icmp .ge 7, 3) := by decide +kernel
theorem dX4_isBetter_82 : decode cX4_isBetter 82 = .ok (.iconst 1, 1) := by decide +kernel
theorem dX4_isBetter_83 : decode cX4_isBetter 83 = .ok (.goto 4, 3) := by decide +kernel
theorem dX4_isBetter_86 : decode cX4_isBetter 86 = .ok (.iconst 0, 1) := by decide +kernel
theorem dX4_isBetter_87 : decode cX4_isBetter 87 = .ok (.ireturn, 1) := by decide +kernel
theorem dX4_isBetter_88 : decode cX4_isBetter 88 = .ok (.iload_n 1, 1) := by decide +kernel
theorem dX4_isBetter_89 : decode cX4_isBetter 89 = .ok (.iload_n 2, 1) := by decide +kernel
theorem dX4_isBetter_90 : decode cX4_isBetter 90 = .ok (.if_icmp .ge 7, 3) := by decide +kernel
theorem dX4_isBetter_93 : decode cX4_isBetter 93 = .ok (.iconst 1, 1) := by decide +kernel
theorem dX4_isBetter_94 : decode cX4_isBetter 94 = .ok (.goto 4, 3) := by decide +kernel
theorem dX4_isBetter_97 : decode cX4_isBetter 97 = .ok (.iconst 0, 1) := by decide +kernel
theorem dX4_isBetter_98 : decode cX4_isBetter 98 = .ok (.ireturn, 1) := by decide +kernel
theorem dX4_insert_0 : decode cX4_insert 0 = .ok (.iload_n 1, 1) := by decide +kernel
theorem dX4_insert_1 : decode cX4_insert 1 = .ok (.istore_n 2, 1) := by decide +kernel
theorem dX4_insert_2 : decode cX4_insert 2 = .ok (.iload_n 2, 1) := by decide +kernel
theorem dX4_insert_3 : decode cX4_insert 3 = .ok (.ifCond .le 45, 3) := by decide +kernel
theorem dX4_insert_6 : decode cX4_insert 6 = .ok (.aload_n 0, 1) := by decide +kernel
theorem dX4_insert_7 : decode cX4_insert 7 = .ok (.iload_n 1, 1) := by decide +kernel
theorem dX4_insert_8 : decode cX4_insert 8 = .ok (.aload_n 0, 1) := by decide +kernel
theorem dX4_insert_9 : decode cX4_insert 9 = .ok (.getfield 18, 3) := by decide +kernel
theorem dX4_insert_12 : decode cX4_insert 12 = .ok (.iload_n 2, 1) := by decide +kernel
theorem dX4_insert_13 : decode cX4_insert 13 = .ok (.iconst 1, 1) := by decide +kernel
theorem dX4_insert_14 : decode cX4_insert 14 = .ok (.isub, 1) := by decide +kernel
theorem dX4_insert_15 : decode cX4_insert 15 = .ok (.invokestatic 53, 3) := by decide +kernel
theorem dX4_insert_18 : decode cX4_insert 18 = .ok (.invokevirtual 57, 3) := by decide +kernel
theorem dX4_insert_21 : decode cX4_insert 21 = .ok (.ifCond .eq 27, 3) := by decide +kernel
theorem dX4_insert_24 : decode cX4_insert 24 = .ok (.aload_n 0, 1) := by decide +kernel
theorem dX4_insert_25 : decode cX4_insert 25 = .ok (.getfield 18, 3) := by decide +kernel
theorem dX4_insert_28 : decode cX4_insert 28 = .ok (.iload_n 2, 1) := by decide +kernel
theorem dX4_insert_29 : decode cX4_insert 29 = .ok (.aload_n 0, 1) := by decide +kernel
theorem dX4_insert_30 : decode cX4_insert 30 = .ok (.getfield 18, 3) := by decide +kernel
theorem dX4_insert_33 : decode cX4_insert 33 = .ok (.iload_n 2, 1) := by decide +kernel
theorem dX4_insert_34 : decode cX4_insert 34 = .ok (.iconst 1, 1) := by decide +kernel
theorem dX4_insert_35 : decode cX4_insert 35 = .ok (.isub, 1) := by decide +kernel
theorem dX4_insert_36 : decode cX4_insert 36 = .ok (.invokestatic 53, 3) := by decide +kernel
theorem dX4_insert_39 : decode cX4_insert 39 = .ok (.invokestatic 37, 3) := by decide +kernel
theorem dX4_insert_42 : decode cX4_insert 42 = .ok (.iinc 2 (-1), 3) := by decide +kernel
theorem dX4_insert_45 : decode cX4_insert 45 = .ok (.goto (-43), 3) := by decide +kernel
theorem dX4_insert_48 : decode cX4_insert 48 = .ok (.aload_n 0, 1) := by decide +kernel
theorem dX4_insert_49 : decode cX4_insert 49 = .ok (.getfield 18, 3) := by decide +kernel
theorem dX4_insert_52 : decode cX4_insert 52 = .ok (.iload_n 2, 1) := by decide +kernel
theorem dX4_insert_53 : decode cX4_insert 53 = .ok (.iload_n 1, 1) := by decide +kernel
theorem dX4_insert_54 : decode cX4_insert 54 = .ok (.invokestatic 37, 3) := by decide +kernel
theorem dX4_insert_57 : decode cX4_insert 57 = .ok (.return_, 1) := by decide +kernel
end
section
theorem dX5_init_0 : decode cX5_init 0 = .ok (.aload_n 0, 1) := by decide +kernel
theorem dX5_init_1 : decode cX5_init 1 = .ok (.invokespecial 3, 3) := by decide +kernel
theorem dX5_init_4 : decode cX5_init 4 = .ok (.aload_n 0, 1) := by decide +kernel
theorem dX5_init_5 : decode cX5_init 5 = .ok (.iconst 3, 1) := by decide +kernel
theorem dX5_init_6 : decode cX5_init 6 = .ok (.newarray .int, 2) := by decide +kernel
theorem dX5_init_8 : decode cX5_init 8 = .ok (.putfield 9, 3) := by decide +kernel
theorem dX5_init_11 : decode cX5_init 11 = .ok (.aload_n 0, 1) := by decide +kernel
theorem dX5_init_12 : decode cX5_init 12 = .ok (.bipush 40, 2) := by decide +kernel
theorem dX5_init_14 : decode cX5_init 14 = .ok (.newarray .int, 2) := by decide +kernel
theorem dX5_init_16 : decode cX5_init 16 = .ok (.putfield 15, 3) := by decide +kernel
theorem dX5_init_19 : decode cX5_init 19 = .ok (.return_, 1) := by decide +kernel
theorem dX5_setInputs_0 : decode cX5_setInputs 0 = .ok (.aload_n 0, 1) := by decide +kernel
theorem dX5_setInputs_1 : decode cX5_setInputs 1 = .ok (.getfield 9, 3) := by decide +kernel
theorem dX5_setInputs_4 : decode cX5_setInputs 4 = .ok (.iconst 0, 1) := by decide +kernel
theorem dX5_setInputs_5 : decode cX5_setInputs 5 = .ok (.iload_n 1, 1) := by decide +kernel
theorem dX5_setInputs_6 : decode cX5_setInputs 6 = .ok (.invokestatic 18, 3) := by decide +kernel
theorem dX5_setInputs_9 : decode cX5_setInputs 9 = .ok (.aload_n 0, 1) := by decide +kernel
theorem dX5_setInputs_10 : decode cX5_setInputs 10 = .ok (.getfield 9, 3) := by decide +kernel
theorem dX5_setInputs_13 : decode cX5_setInputs 13 = .ok (.iconst 1, 1) := by decide +kernel
theorem dX5_setInputs_14 : decode cX5_setInputs 14 = .ok (.iload_n 2, 1) := by decide +kernel
theorem dX5_setInputs_15 : decode cX5_setInputs 15 = .ok (.invokestatic 18, 3) := by decide +kernel
theorem dX5_setInputs_18 : decode cX5_setInputs 18 = .ok (.aload_n 0, 1) := by decide +kernel
theorem dX5_setInputs_19 : decode cX5_setInputs 19 = .ok (.getfield 9, 3) := by decide +kernel
theorem dX5_setInputs_22 : decode cX5_setInputs 22 = .ok (.iconst 2, 1) := by decide +kernel
theorem dX5_setInputs_23 : decode cX5_setInputs 23 = .ok (.iload_n 3, 1) := by decide +kernel
theorem dX5_setInputs_24 : decode cX5_setInputs 24 = .ok (.invokestatic 18, 3) := by decide +kernel
theorem dX5_setInputs_27 : decode cX5_setInputs 27 = .ok (.return_, 1) := by decide +kernel
theorem dX5_resultOf_0 : decode cX5_resultOf 0 = .ok (.iload_n 2, 1) := by decide +kernel
theorem dX5_resultOf_1 : decode cX5_resultOf 1 = .ok (.aload_n 1, 1) := by decide +kernel
theorem dX5_resultOf_2 : decode cX5_resultOf 2 = .ok (.getfield 22, 3) := by decide +kernel
theorem dX5_resultOf_5 : decode cX5_resultOf 5 = .ok (.iload_n 2, 1) := by decide +kernel
theorem dX5_resultOf_6 : decode cX5_resultOf 6 = .ok (.invokestatic 27, 3) := by decide +kernel
theorem dX5_resultOf_9 : decode cX5_resultOf 9 = .ok (.iadd, 1) := by decide +kernel
theorem dX5_resultOf_10 : decode cX5_resultOf 10 = .ok (.iconst 1, 1) := by decide +kernel
theorem dX5_resultOf_11 : decode cX5_resultOf 11 = .ok (.isub, 1) := by decide +kernel
theorem dX5_resultOf_12 : decode cX5_resultOf 12 = .ok (.istore_n 3, 1) := by decide +kernel
theorem dX5_resultOf_13 : decode cX5_resultOf 13 = .ok (.iload_n 3, 1) := by decide +kernel
theorem dX5_resultOf_14 : decode cX5_resultOf 14 = .ok (.iload_n 2, 1) := by decide +kernel
theorem dX5_resultOf_15 : decode cX5_resultOf 15 = .ok (.if_icmp .lt 171, 3) := by decide +kernel
theorem dX5_resultOf_18 : decode cX5_resultOf 18 = .ok (.aload_n 1, 1) := by decide +kernel
theorem dX5_resultOf_19 : decode cX5_resultOf 19 = .ok (.getfield 31, 3) := by decide +kernel
theorem dX5_resultOf_22 : decode cX5_resultOf 22 = .ok (.iload_n 3, 1) := by decide +kernel
theorem dX5_resultOf_23 : decode cX5_resultOf 23 = .ok (.invokestatic 27, 3) := by decide +kernel
theorem dX5_resultOf_26 : decode cX5_resultOf 26 = .ok (.istore 4, 2) := by decide +kernel
theorem dX5_resultOf_28 : decode cX5_resultOf 28 = .ok (.aload_n 1, 1) := by decide +kernel
theorem dX5_resultOf_29 : decode cX5_resultOf 29 = .ok (.getfield 34, 3) := by decide +kernel
theorem dX5_resultOf_32 : decode cX5_resultOf 32 = .ok (.iload_n 3, 1) := by decide +kernel
theorem dX5_resultOf_33 : decode cX5_resultOf 33 = .ok (.invokestatic 27, 3) := by decide +kernel
theorem dX5_resultOf_36 : decode cX5_resultOf 36 = .ok (.istore 5, 2) := by decide +kernel
theorem dX5_resultOf_38 : decode cX5_resultOf 38 = .ok (.iload_n 3, 1) := by decide +kernel
theorem dX5_resultOf_39 : decode cX5_resultOf 39 = .ok (.iconst 1, 1) := by decide +kernel
theorem dX5_resultOf_40 : decode cX5_resultOf 40 = .ok (.iadd, 1) := by decide +kernel
theorem dX5_resultOf_41 : decode cX5_resultOf 41 = .ok (.istore 6, 2) := by decide +kernel
theorem dX5_resultOf_43 : decode cX5_resultOf 43 = .ok (.iload 6, 2) := by decide +kernel
theorem dX5_resultOf_45 : decode cX5_resultOf 45 = .ok (.aload_n 1, 1) := by decide +kernel
theorem dX5_resultOf_46 : decode cX5_resultOf 46 = .ok (.getfield 22, 3) := by decide +kernel
theorem dX5_resultOf_49 : decode cX5_resultOf 49 = .ok (.iload 6, 2) := by decide +kernel
theorem dX5_resultOf_51 : decode cX5_resultOf 51 = .ok (.invokestatic 27, 3) := by decide +kernel
theorem dX5_resultOf_54 : decode cX5_resultOf 54 = .ok (.iadd, 1) := by decide +kernel
theorem dX5_resultOf_55 : decode cX5_resultOf 55 = .ok (.istore 7, 2) := by decide +kernel
theorem dX5_resultOf_57 : decode cX5_resultOf 57 = .ok (.iload 7, 2) := by decide +kernel
theorem dX5_resultOf_59 : decode cX5_resultOf 59 = .ok (.aload_n 1, 1) := by decide +kernel
theorem dX5_resultOf_60 : decode cX5_resultOf 60 = .ok (.getfield 22, 3) := by decide +kernel
theorem dX5_resultOf_63 : decode cX5_resultOf 63 = .ok (.iload 7, 2) := by decide +kernel
theorem dX5_resultOf_65 : decode cX5_resultOf 65 = .ok (.invokestatic 27, 3) := by decide +kernel
theorem dX5_resultOf_68 : decode cX5_resultOf 68 = .ok (.iadd, 1) := by decide +kernel
theorem dX5_resultOf_69 : decode cX5_resultOf 69 = .ok (.istore 8, 2) := by decide +kernel
theorem dX5_resultOf_71 : decode cX5_resultOf 71 = .ok (.iload 4, 2) := by decide +kernel
theorem dX5_resultOf_73 : decode cX5_resultOf 73 = .ok (.ifCond .ne 10, 3) := by decide +kernel
theorem dX5_resultOf_76 : decode cX5_resultOf 76 = .ok (.iload 5, 2) := by decide +kernel
theorem dX5_resultOf_78 : decode cX5_resultOf 78 = .ok (.istore 9, 2) := by decide +kernel
theorem dX5_resultOf_80 : decode cX5_resultOf 80 = .ok (.goto 87, 3) := by decide +kernel
theorem dX5_resultOf_83 : decode cX5_resultOf 83 = .ok (.iload 4, 2) := by decide +kernel
theorem dX5_resultOf_85 : decode cX5_resultOf 85 = .ok (.iconst 1, 1) := by decide +kernel
theorem dX5_resultOf_86 : decode cX5_resultOf 86 = .ok (.if_icmp .ne 17, 3) := by decide +kernel
theorem dX5_resultOf_89 : decode cX5_resultOf 89 = .ok (.aload_n 0, 1) := by decide +kernel
theorem dX5_resultOf_90 : decode cX5_resultOf 90 = .ok (.getfield 9, 3) := by decide +kernel
theorem dX5_resultOf_93 : decode cX5_resultOf 93 = .ok (.iload 5, 2) := by decide +kernel
theorem dX5_resultOf_95 : decode cX5_resultOf 95 = .ok (.invokestatic 27, 3) := by decide +kernel
theorem dX5_resultOf_98 : decode cX5_resultOf 98 = .ok (.istore 9, 2) := by decide +kernel
theorem dX5_resultOf_100 : decode cX5_resultOf 100 = .ok (.goto 67, 3) := by decide +kernel
theorem dX5_resultOf_103 : decode cX5_resultOf 103 = .ok (.iload 4, 2) := by decide +kernel
theorem dX5_resultOf_105 : decode cX5_resultOf 105 = .ok (.bipush 8, 2) := by decide +kernel
theorem dX5_resultOf_107 : decode cX5_resultOf 107 = .ok (.if_icmp .ne 35, 3) := by decide +kernel
theorem dX5_resultOf_110 : decode cX5_resultOf 110 = .ok (.aload_n 0, 1) := by decide +kernel
theorem dX5_resultOf_111 : decode cX5_resultOf 111 = .ok (.getfield 15, 3) := by decide +kernel
theorem dX5_resultOf_114 : decode cX5_resultOf 114 = .ok (.aload_n 0, 1) := by decide +kernel
theorem dX5_resultOf_115 : decode cX5_resultOf 115 = .ok (.getfield 15, 3) := by decide +kernel
theorem dX5_resultOf_118 : decode cX5_resultOf 118 = .ok (.iload 6, 2) := by decide +kernel
theorem dX5_resultOf_120 : decode cX5_resultOf 120 = .ok (.invokestatic 27, 3) := by decide +kernel
theorem dX5_resultOf_123 : decode cX5_resultOf 123 = .ok (.iconst 1, 1) := by decide +kernel
theorem dX5_resultOf_124 : decode cX5_resultOf 124 = .ok (.if_icmp .ne 8, 3) := by decide +kernel
theorem dX5_resultOf_127 : decode cX5_resultOf 127 = .ok (.iload 7, 2) := by decide +kernel
theorem dX5_resultOf_129 : decode cX5_resultOf 129 = .ok (.goto 5, 3) := by decide +kernel
theorem dX5_resultOf_132 : decode cX5_resultOf 132 = .ok (.iload 8, 2) := by decide +kernel
theorem dX5_resultOf_134 : decode cX5_resultOf 134 = .ok (.invokestatic 27, 3) := by decide +kernel
theorem dX5_resultOf_137 : decode cX5_resultOf 137 = .ok (.istore 9, 2) := by decide +kernel
theorem dX5_resultOf_139 : decode cX5_resultOf 139 = .ok (.goto 28, 3) := by decide +kernel
theorem dX5_resultOf_142 : decode cX5_resultOf 142 = .ok (.iload 4, 2) := by decide +kernel
theorem dX5_resultOf_144 : decode cX5_resultOf 144 = .ok (.aload_n 0, 1) := by decide +kernel
theorem dX5_resultOf_145 : decode cX5_resultOf 145 = .ok (.getfield 15, 3) := by decide +kernel
theorem dX5_resultOf_148 : decode cX5_resultOf 148 = .ok (.iload 6, 2) := by decide +kernel
theorem dX5_resultOf_150 : decode cX5_resultOf 150 = .ok (.invokestatic 27, 3) := by decide +kernel
theorem dX5_resultOf_153 : decode cX5_resultOf 153 = .ok (.aload_n 0, 1) := by decide +kernel
theorem dX5_resultOf_154 : decode cX5_resultOf 154 = .ok (.getfield 15, 3) := by decide +kernel
theorem dX5_resultOf_157 : decode cX5_resultOf 157 = .ok (.iload 7, 2) := by decide +kernel
theorem dX5_resultOf_159 : decode cX5_resultOf 159 = .ok (.invokestatic 27, 3) := by decide +kernel
theorem dX5_resultOf_162 : decode cX5_resultOf 162 = .ok (.invokestatic 37, 3) := by decide +kernel
theorem dX5_resultOf_165 : decode cX5_resultOf 165 = .ok (.istore 9, 2) := by decide +kernel
theorem dX5_resultOf_167 : decode cX5_resultOf 167 = .ok (.aload_n 0, 1) := by decide +kernel
theorem dX5_resultOf_168 : decode cX5_resultOf 168 = .ok (.getfield 15, 3) := by decide +kernel
theorem dX5_resultOf_171 : decode cX5_resultOf 171 = .ok (.iload_n 3, 1) := by decide +kernel
theorem dX5_resultOf_172 : decode cX5_resultOf 172 = .ok (.iload 9, 2) := by decide +kernel
theorem dX5_resultOf_174 : decode cX5_resultOf 174 = .ok (.invokestatic 41, 3) := by decide +kernel
theorem dX5_resultOf_177 : decode cX5_resultOf 177 = .ok (.invokestatic 18, 3) := by decide +kernel
theorem dX5_resultOf_180 : decode cX5_resultOf 180 = .ok (.iinc 3 (-1), 3) := by decide +kernel
theorem dX5_resultOf_183 : decode cX5_resultOf 183 = .ok (.goto (-170), 3) := by decide +kernel
theorem dX5_resultOf_186 : decode cX5_resultOf 186 = .ok (.aload_n 0, 1) := by decide +kernel
theorem dX5_resultOf_187 : decode cX5_resultOf 187 = .ok (.getfield 15, 3) := by decide +kernel
theorem dX5_resultOf_190 : decode cX5_resultOf 190 = .ok (.iload_n 2, 1) := by decide +kernel
theorem dX5_resultOf_191 : decode cX5_resultOf 191 = .ok (.invokestatic 27, 3) := by decide +kernel
theorem dX5_resultOf_194 : decode cX5_resultOf 194 = .ok (.ireturn, 1) := by decide +kernel
theorem dX5_pairResult_0 : decode cX5_pairResult 0 = .ok (.iload_n 0, 1) := by decide +kernel
theorem dX5_pairResult_1 : decode cX5_pairResult 1 = .ok (.tableswitch 135 2 13 #[63, 67, 71, 75, 87, 98, 135, 109, 120, 87, 98, 131], 63) := by decide +kernel
theorem dX5_pairResult_64 : decode cX5_pairResult 64 = .ok (.iload_n 1, 1) := by decide +kernel
theorem dX5_pairResult_65 : decode cX5_pairResult 65 = .ok (.iload_n 2, 1) := by decide +kernel
theorem dX5_pairResult_66 : decode cX5_pairResult 66 = .ok (.iadd, 1) := by decide +kernel
theorem dX5_pairResult_67 : decode cX5_pairResult 67 = .ok (.ireturn, 1) := by decide +kernel
theorem dX5_pairResult_68 : decode cX5_pairResult 68 = .ok (.iload_n 1, 1) := by decide +kernel
theorem dX5_pairResult_69 : decode cX5_pairResult 69 = .ok (.iload_n 2, 1) := by decide +kernel
theorem dX5_pairResult_70 : decode cX5_pairResult 70 = .ok (.isub, 1) := by decide +kernel
theorem dX5_pairResult_71 : decode cX5_pairResult 71 = .ok (.ireturn, 1) := by decide +kernel
theorem dX5_pairResult_72 : decode cX5_pairResult 72 = .ok (.iload_n 1, 1) := by decide +kernel
theorem dX5_pairResult_73 : decode cX5_pairResult 73 = .ok (.iload_n 2, 1) := by decide +kernel
theorem dX5_pairResult_74 : decode cX5_pairResult 74 = .ok (.imul, 1) := by decide +kernel
theorem dX5_pairResult_75 : decode cX5_pairResult 75 = .ok (.ireturn, 1) := by decide +kernel
theorem dX5_pairResult_76 : decode cX5_pairResult 76 = .ok (.iload_n 2, 1) := by decide +kernel
theorem dX5_pairResult_77 : decode cX5_pairResult 77 = .ok (.ifCond .ne 7, 3) := by decide +kernel
theorem dX5_pairResult_80 : decode cX5_pairResult 80 = .ok (.iload_n 1, 1) := by decide +kernel
theorem dX5_pairResult_81 : decode cX5_pairResult 81 = .ok (.goto 6, 3) := by decide +kernel
theorem dX5_pairResult_84 : decode cX5_pairResult 84 = .ok (.iload_n 1, 1) := by decide +kernel
theorem dX5_pairResult_85 : decode cX5_pairResult 85 = .ok (.iload_n 2, 1) := by decide +kernel
theorem dX5_pairResult_86 : decode cX5_pairResult 86 = .ok (.idiv, 1) := by decide +kernel
theorem dX5_pairResult_87 : decode cX5_pairResult 87 = .ok (.ireturn, 1) := by decide +kernel
theorem dX5_pairResult_88 : decode cX5_pairResult 88 = .ok (.iload_n 1, 1) := by decide +kernel
theorem dX5_pairResult_89 : decode cX5_pairResult 89 = .ok (.iload_n 2, 1) := by decide +kernel
theorem dX5_pairResult_90 : decode cX5_pairResult 90 = .ok (.if_icmp .ge 7, 3) := by decide +kernel
theorem dX5_pairResult_93 : decode cX5_pairResult 93 = .ok (.iload_n 1, 1) := by decide +kernel
theorem dX5_pairResult_94 : decode cX5_pairResult 94 = .ok (.goto 4, 3) := by decide +kernel
theorem dX5_pairResult_97 : decode cX5_pairResult 97 = .ok (.iload_n 2, 1) := by decide +kernel
theorem dX5_pairResult_98 : decode cX5_pairResult 98 = .ok (.ireturn, 1) := by decide +kernel
theorem dX5_pairResult_99 : decode cX5_pairResult 99 = .ok (.iload_n 1, 1) := by decide +kernel
theorem dX5_pairResult_100 : decode cX5_pairResult 100 = .ok (.iload_n 2, 1) := by decide +kernel
theorem dX5_pairResult_101 : decode cX5_pairResult 101 = .ok (.if_icmp .le 7, 3) := by decide +kernel
theorem dX5_pairResult_104 : decode cX5_pairResult 104 = .ok (.iload_n 1, 1) := by decide +kernel
theorem dX5_pairResult_105 : decode cX5_pairResult 105 = .ok (.goto 4, 3) := by decide +kernel
theorem dX5_pairResult_108 : decode cX5_pairResult 108 = .ok (.iload_n 2, 1) := by decide +kernel
theorem dX5_pairResult_109 : decode cX5_pairResult 109 = .ok (.ireturn, 1) := by decide +kernel
theorem dX5_pairResult_110 : decode cX5_pairResult 110 = .ok (.iload_n 1, 1) := by decide +kernel
theorem dX5_pairResult_111 : decode cX5_pairResult 111 = .ok (.iload_n 2, 1) := by decide +kernel
theorem dX5_pairResult_112 : decode cX5_pairResult 112 = .ok (.if_icmp .ge 7, 3) := by decide +kernel
theorem dX5_pairResult_115 : decode cX5_pairResult 115 = .ok (.iconst 1, 1) := by decide +kernel
theorem dX5_pairResult_116 : decode cX5_pairResult 116 = .ok (.goto 4, 3) := by decide +kernel
theorem dX5_pairResult_119 : decode cX5_pairResult 119 = .ok (.iconst 0, 1) := by decide +kernel
theorem dX5_pairResult_120 : decode cX5_pairResult 120 = .ok (.ireturn, 1) := by decide +kernel
theorem dX5_pairResult_121 : decode cX5_pairResult 121 = .ok (.iload_n 1, 1) := by decide +kernel
theorem dX5_pairResult_122 : decode cX5_pairResult 122 = .ok (.iload_n 2, 1) := by decide +kernel
theorem dX5_pairResult_123 : decode cX5_pairResult 123 = .ok (.if_icmp .ne 7, 3) := by decide +kernel
theorem dX5_pairResult_126 : decode cX5_pairResult 126 = .ok (.iconst 1, 1) := by decide +kernel
theorem dX5_pairResult_127 : decode cX5_pairResult 127 = .ok (.goto 4, 3) := by decide +kernel
theorem dX5_pairResult_130 : decode cX5_pairResult 130 = .ok (.iconst 0, 1) := by decide +kernel
theorem dX5_pairResult_131 : decode cX5_pairResult 131 = .ok (.ireturn, 1) := by decide +kernel
theorem dX5_pairResult_132 : decode cX5_pairResult 132 = .ok (.iconst 1, 1) := by decide +kernel
theorem dX5_pairResult_133 : decode cX5_pairResult 133 = .ok (.iload_n 1, 1) := by decide +kernel
theorem dX5_pairResult_134 : decode cX5_pairResult 134 = .ok (.isub, 1) := by decide +kernel
theorem dX5_pairResult_135 : decode cX5_pairResult 135 = .ok (.ireturn, 1) := by decide +kernel
theorem dX5_pairResult_136 : decode cX5_pairResult 136 = .ok (.iconst 0, 1) := by decide +kernel
theorem dX5_pairResult_137 : decode cX5_pairResult 137 = .ok (.ireturn, 1) := by decide +kernel
theorem dX5_limited_0 : decode cX5_limited 0 = .ok (.iload_n 0, 1) := by decide +kernel
theorem dX5_limited_1 : decode cX5_limited 1 = .ok (.sipush 9999, 3) := by decide +kernel
theorem dX5_limited_4 : decode cX5_limited 4 = .ok (.if_icmp .le 7, 3) := by decide +kernel
theorem dX5_limited_7 : decode cX5_limited 7 = .ok (.sipush 9999, 3) := by decide +kernel
theorem dX5_limited_10 : decode cX5_limited 10 = .ok (.ireturn, 1) := by decide +kernel
theorem dX5_limited_11 : decode cX5_limited 11 = .ok (.iload_n 0, 1) := by decide +kernel
theorem dX5_limited_12 : decode cX5_limited 12 = .ok (.sipush (-9999), 3) := by decide +kernel
theorem dX5_limited_15 : decode cX5_limited 15 = .ok (.if_icmp .ge 9, 3) := by decide +kernel
theorem dX5_limited_18 : decode cX5_limited 18 = .ok (.sipush (-9999), 3) := by decide +kernel
theorem dX5_limited_21 : decode cX5_limited 21 = .ok (.goto 4, 3) := by decide +kernel
theorem dX5_limited_24 : decode cX5_limited 24 = .ok (.iload_n 0, 1) := by decide +kernel
theorem dX5_limited_25 : decode cX5_limited 25 = .ok (.ireturn, 1) := by decide +kernel
end
section
theorem dX6_init_0 : decode cX6_init 0 = .ok (.aload_n 0, 1) := by decide +kernel
theorem dX6_init_1 : decode cX6_init 1 = .ok (.invokespecial 3, 3) := by decide +kernel
theorem dX6_init_4 : decode cX6_init 4 = .ok (.aload_n 0, 1) := by decide +kernel
theorem dX6_init_5 : decode cX6_init 5 = .ok (.new 9, 3) := by decide +kernel
theorem dX6_init_8 : decode cX6_init 8 = .ok (.dup, 1) := by decide +kernel
theorem dX6_init_9 : decode cX6_init 9 = .ok (.invokespecial 11, 3) := by decide +kernel
theorem dX6_init_12 : decode cX6_init 12 = .ok (.putfield 12, 3) := by decide +kernel
theorem dX6_init_15 : decode cX6_init 15 = .ok (.return_, 1) := by decide +kernel
theorem dX6_finish_0 : decode cX6_finish 0 = .ok (.iconst 0, 1) := by decide +kernel
theorem dX6_finish_1 : decode cX6_finish 1 = .ok (.istore_n 2, 1) := by decide +kernel
theorem dX6_finish_2 : decode cX6_finish 2 = .ok (.iconst 0, 1) := by decide +kernel
theorem dX6_finish_3 : decode cX6_finish 3 = .ok (.istore_n 3, 1) := by decide +kernel
theorem dX6_finish_4 : decode cX6_finish 4 = .ok (.iload_n 3, 1) := by decide +kernel
theorem dX6_finish_5 : decode cX6_finish 5 = .ok (.sipush 1640, 3) := by decide +kernel
theorem dX6_finish_8 : decode cX6_finish 8 = .ok (.if_icmp .ge 34, 3) := by decide +kernel
theorem dX6_finish_11 : decode cX6_finish 11 = .ok (.iload_n 2, 1) := by decide +kernel
theorem dX6_finish_12 : decode cX6_finish 12 = .ok (.aload_n 1, 1) := by decide +kernel
theorem dX6_finish_13 : decode cX6_finish 13 = .ok (.getfield 18, 3) := by decide +kernel
theorem dX6_finish_16 : decode cX6_finish 16 = .ok (.if_icmp .ge 26, 3) := by decide +kernel
theorem dX6_finish_19 : decode cX6_finish 19 = .ok (.aload_n 0, 1) := by decide +kernel
theorem dX6_finish_20 : decode cX6_finish 20 = .ok (.aload_n 1, 1) := by decide +kernel
theorem dX6_finish_21 : decode cX6_finish 21 = .ok (.iload_n 2, 1) := by decide +kernel
theorem dX6_finish_22 : decode cX6_finish 22 = .ok (.invokevirtual 24, 3) := by decide +kernel
theorem dX6_finish_25 : decode cX6_finish 25 = .ok (.ifCond .eq 7, 3) := by decide +kernel
theorem dX6_finish_28 : decode cX6_finish 28 = .ok (.iconst 0, 1) := by decide +kernel
theorem dX6_finish_29 : decode cX6_finish 29 = .ok (.goto 6, 3) := by decide +kernel
theorem dX6_finish_32 : decode cX6_finish 32 = .ok (.iload_n 2, 1) := by decide +kernel
theorem dX6_finish_33 : decode cX6_finish 33 = .ok (.iconst 1, 1) := by decide +kernel
theorem dX6_finish_34 : decode cX6_finish 34 = .ok (.iadd, 1) := by decide +kernel
theorem dX6_finish_35 : decode cX6_finish 35 = .ok (.istore_n 2, 1) := by decide +kernel
theorem dX6_finish_36 : decode cX6_finish 36 = .ok (.iinc 3 1, 3) := by decide +kernel
theorem dX6_finish_39 : decode cX6_finish 39 = .ok (.goto (-35), 3) := by decide +kernel
theorem dX6_finish_42 : decode cX6_finish 42 = .ok (.return_, 1) := by decide +kernel
theorem dX6_changeAt_0 : decode cX6_changeAt 0 = .ok (.aload_n 1, 1) := by decide +kernel
theorem dX6_changeAt_1 : decode cX6_changeAt 1 = .ok (.iload_n 2, 1) := by decide +kernel
theorem dX6_changeAt_2 : decode cX6_changeAt 2 = .ok (.invokestatic 28, 3) := by decide +kernel
theorem dX6_changeAt_5 : decode cX6_changeAt 5 = .ok (.ifCond .eq 33, 3) := by decide +kernel
theorem dX6_changeAt_8 : decode cX6_changeAt 8 = .ok (.aload_n 0, 1) := by decide +kernel
theorem dX6_changeAt_9 : decode cX6_changeAt 9 = .ok (.getfield 12, 3) := by decide +kernel
theorem dX6_changeAt_12 : decode cX6_changeAt 12 = .ok (.aload_n 1, 1) := by decide +kernel
theorem dX6_changeAt_13 : decode cX6_changeAt 13 = .ok (.iload_n 2, 1) := by decide +kernel
theorem dX6_changeAt_14 : decode cX6_changeAt 14 = .ok (.invokevirtual 31, 3) := by decide +kernel
theorem dX6_changeAt_17 : decode cX6_changeAt 17 = .ok (.istore_n 3, 1) := by decide +kernel
theorem dX6_changeAt_18 : decode cX6_changeAt 18 = .ok (.iload_n 3, 1) := by decide +kernel
theorem dX6_changeAt_19 : decode cX6_changeAt 19 = .ok (.bipush (-99), 2) := by decide +kernel
theorem dX6_changeAt_21 : decode cX6_changeAt 21 = .ok (.if_icmp .lt 17, 3) := by decide +kernel
theorem dX6_changeAt_24 : decode cX6_changeAt 24 = .ok (.iload_n 3, 1) := by decide +kernel
theorem dX6_changeAt_25 : decode cX6_changeAt 25 = .ok (.bipush 99, 2) := by decide +kernel
theorem dX6_changeAt_27 : decode cX6_changeAt 27 = .ok (.if_icmp .gt 11, 3) := by decide +kernel
theorem dX6_changeAt_30 : decode cX6_changeAt 30 = .ok (.aload_n 1, 1) := by decide +kernel
theorem dX6_changeAt_31 : decode cX6_changeAt 31 = .ok (.iload_n 2, 1) := by decide +kernel
theorem dX6_changeAt_32 : decode cX6_changeAt 32 = .ok (.iload_n 3, 1) := by decide +kernel
theorem dX6_changeAt_33 : decode cX6_changeAt 33 = .ok (.invokevirtual 35, 3) := by decide +kernel
theorem dX6_changeAt_36 : decode cX6_changeAt 36 = .ok (.iconst 1, 1) := by decide +kernel
theorem dX6_changeAt_37 : decode cX6_changeAt 37 = .ok (.ireturn, 1) := by decide +kernel
theorem dX6_changeAt_38 : decode cX6_changeAt 38 = .ok (.aload_n 1, 1) := by decide +kernel
theorem dX6_changeAt_39 : decode cX6_changeAt 39 = .ok (.iload_n 2, 1) := by decide +kernel
theorem dX6_changeAt_40 : decode cX6_changeAt 40 = .ok (.invokestatic 39, 3) := by decide +kernel
theorem dX6_changeAt_43 : decode cX6_changeAt 43 = .ok (.istore_n 3, 1) := by decide +kernel
theorem dX6_changeAt_44 : decode cX6_changeAt 44 = .ok (.iload_n 3, 1) := by decide +kernel
theorem dX6_changeAt_45 : decode cX6_changeAt 45 = .ok (.iconst (-1), 1) := by decide +kernel
theorem dX6_changeAt_46 : decode cX6_changeAt 46 = .ok (.if_icmp .eq 11, 3) := by decide +kernel
theorem dX6_changeAt_49 : decode cX6_changeAt 49 = .ok (.aload_n 1, 1) := by decide +kernel
theorem dX6_changeAt_50 : decode cX6_changeAt 50 = .ok (.iload_n 2, 1) := by decide +kernel
theorem dX6_changeAt_51 : decode cX6_changeAt 51 = .ok (.iload_n 3, 1) := by decide +kernel
theorem dX6_changeAt_52 : decode cX6_changeAt 52 = .ok (.invokevirtual 42, 3) := by decide +kernel
theorem dX6_changeAt_55 : decode cX6_changeAt 55 = .ok (.iconst 1, 1) := by decide +kernel
theorem dX6_changeAt_56 : decode cX6_changeAt 56 = .ok (.ireturn, 1) := by decide +kernel
theorem dX6_changeAt_57 : decode cX6_changeAt 57 = .ok (.aload_n 1, 1) := by decide +kernel
theorem dX6_changeAt_58 : decode cX6_changeAt 58 = .ok (.iload_n 2, 1) := by decide +kernel
theorem dX6_changeAt_59 : decode cX6_changeAt 59 = .ok (.invokestatic 45, 3) := by decide +kernel
theorem dX6_changeAt_62 : decode cX6_changeAt 62 = .ok (.ifCond .eq 11, 3) := by decide +kernel
theorem dX6_changeAt_65 : decode cX6_changeAt 65 = .ok (.aload_n 1, 1) := by decide +kernel
theorem dX6_changeAt_66 : decode cX6_changeAt 66 = .ok (.iload_n 2, 1) := by decide +kernel
theorem dX6_changeAt_67 : decode cX6_changeAt 67 = .ok (.iconst 0, 1) := by decide +kernel
theorem dX6_changeAt_68 : decode cX6_changeAt 68 = .ok (.invokevirtual 35, 3) := by decide +kernel
theorem dX6_changeAt_71 : decode cX6_changeAt 71 = .ok (.iconst 1, 1) := by decide +kernel
theorem dX6_changeAt_72 : decode cX6_changeAt 72 = .ok (.ireturn, 1) := by decide +kernel
theorem dX6_changeAt_73 : decode cX6_changeAt 73 = .ok (.iconst 0, 1) := by decide +kernel
theorem dX6_changeAt_74 : decode cX6_changeAt 74 = .ok (.ireturn, 1) := by decide +kernel
theorem dX6_isFoldable_0 : decode cX6_isFoldable 0 = .ok (.aload_n 0, 1) := by decide +kernel
theorem dX6_isFoldable_1 : decode cX6_isFoldable 1 = .ok (.iload_n 1, 1) := by decide +kernel
theorem dX6_isFoldable_2 : decode cX6_isFoldable 2 = .ok (.invokevirtual 48, 3) := by decide +kernel
theorem dX6_isFoldable_5 : decode cX6_isFoldable 5 = .ok (.ifCond .eq 24, 3) := by decide +kernel
theorem dX6_isFoldable_8 : decode cX6_isFoldable 8 = .ok (.aload_n 0, 1) := by decide +kernel
theorem dX6_isFoldable_9 : decode cX6_isFoldable 9 = .ok (.iload_n 1, 1) := by decide +kernel
theorem dX6_isFoldable_10 : decode cX6_isFoldable 10 = .ok (.invokevirtual 52, 3) := by decide +kernel
theorem dX6_isFoldable_13 : decode cX6_isFoldable 13 = .ok (.iconst 1, 1) := by decide +kernel
theorem dX6_isFoldable_14 : decode cX6_isFoldable 14 = .ok (.if_icmp .le 15, 3) := by decide +kernel
theorem dX6_isFoldable_17 : decode cX6_isFoldable 17 = .ok (.aload_n 0, 1) := by decide +kernel
theorem dX6_isFoldable_18 : decode cX6_isFoldable 18 = .ok (.iload_n 1, 1) := by decide +kernel
theorem dX6_isFoldable_19 : decode cX6_isFoldable 19 = .ok (.invokevirtual 56, 3) := by decide +kernel
theorem dX6_isFoldable_22 : decode cX6_isFoldable 22 = .ok (.ifCond .ne 7, 3) := by decide +kernel
theorem dX6_isFoldable_25 : decode cX6_isFoldable 25 = .ok (.iconst 1, 1) := by decide +kernel
theorem dX6_isFoldable_26 : decode cX6_isFoldable 26 = .ok (.goto 4, 3) := by decide +kernel
theorem dX6_isFoldable_29 : decode cX6_isFoldable 29 = .ok (.iconst 0, 1) := by decide +kernel
theorem dX6_isFoldable_30 : decode cX6_isFoldable 30 = .ok (.ireturn, 1) := by decide +kernel
theorem dX6_partThatStays_0 : decode cX6_partThatStays 0 = .ok (.iload_n 1, 1) := by decide +kernel
theorem dX6_partThatStays_1 : decode cX6_partThatStays 1 = .ok (.iconst 1, 1) := by decide +kernel
theorem dX6_partThatStays_2 : decode cX6_partThatStays 2 = .ok (.iadd, 1) := by decide +kernel
theorem dX6_partThatStays_3 : decode cX6_partThatStays 3 = .ok (.istore_n 2, 1) := by decide +kernel
theorem dX6_partThatStays_4 : decode cX6_partThatStays 4 = .ok (.aload_n 0, 1) := by decide +kernel
theorem dX6_partThatStays_5 : decode cX6_partThatStays 5 = .ok (.iload_n 2, 1) := by decide +kernel
theorem dX6_partThatStays_6 : decode cX6_partThatStays 6 = .ok (.invokevirtual 59, 3) := by decide +kernel
theorem dX6_partThatStays_9 : decode cX6_partThatStays 9 = .ok (.istore_n 3, 1) := by decide +kernel
theorem dX6_partThatStays_10 : decode cX6_partThatStays 10 = .ok (.aload_n 0, 1) := by decide +kernel
theorem dX6_partThatStays_11 : decode cX6_partThatStays 11 = .ok (.iload_n 1, 1) := by decide +kernel
theorem dX6_partThatStays_12 : decode cX6_partThatStays 12 = .ok (.invokevirtual 62, 3) := by decide +kernel
theorem dX6_partThatStays_15 : decode cX6_partThatStays 15 = .ok (.tableswitch 199 2 13 #[61, 89, 104, 132, 147, 147, 162, 199, 199, 147, 147, 181], 61) := by decide +kernel
theorem dX6_partThatStays_76 : decode cX6_partThatStays 76 = .ok (.aload_n 0, 1) := by decide +kernel
theorem dX6_partThatStays_77 : decode cX6_partThatStays 77 = .ok (.iload_n 3, 1) := by decide +kernel
theorem dX6_partThatStays_78 : decode cX6_partThatStays 78 = .ok (.iconst 0, 1) := by decide +kernel
theorem dX6_partThatStays_79 : decode cX6_partThatStays 79 = .ok (.invokevirtual 65, 3) := by decide +kernel
theorem dX6_partThatStays_82 : decode cX6_partThatStays 82 = .ok (.ifCond .eq 7, 3) := by decide +kernel
theorem dX6_partThatStays_85 : decode cX6_partThatStays 85 = .ok (.iload_n 2, 1) := by decide +kernel
theorem dX6_partThatStays_86 : decode cX6_partThatStays 86 = .ok (.goto 17, 3) := by decide +kernel
theorem dX6_partThatStays_89 : decode cX6_partThatStays 89 = .ok (.aload_n 0, 1) := by decide +kernel
theorem dX6_partThatStays_90 : decode cX6_partThatStays 90 = .ok (.iload_n 2, 1) := by decide +kernel
theorem dX6_partThatStays_91 : decode cX6_partThatStays 91 = .ok (.iconst 0, 1) := by decide +kernel
theorem dX6_partThatStays_92 : decode cX6_partThatStays 92 = .ok (.invokevirtual 65, 3) := by decide +kernel
theorem dX6_partThatStays_95 : decode cX6_partThatStays 95 = .ok (.ifCond .eq 7, 3) := by decide +kernel
theorem dX6_partThatStays_98 : decode cX6_partThatStays 98 = .ok (.iload_n 3, 1) := by decide +kernel
theorem dX6_partThatStays_99 : decode cX6_partThatStays 99 = .ok (.goto 4, 3) := by decide +kernel
theorem dX6_partThatStays_102 : decode cX6_partThatStays 102 = .ok (.iconst (-1), 1) := by decide +kernel
theorem dX6_partThatStays_103 : decode cX6_partThatStays 103 = .ok (.ireturn, 1) := by decide +kernel
theorem dX6_partThatStays_104 : decode cX6_partThatStays 104 = .ok (.aload_n 0, 1) := by decide +kernel
theorem dX6_partThatStays_105 : decode cX6_partThatStays 105 = .ok (.iload_n 3, 1) := by decide +kernel
theorem dX6_partThatStays_106 : decode cX6_partThatStays 106 = .ok (.iconst 0, 1) := by decide +kernel
theorem dX6_partThatStays_107 : decode cX6_partThatStays 107 = .ok (.invokevirtual 65, 3) := by decide +kernel
theorem dX6_partThatStays_110 : decode cX6_partThatStays 110 = .ok (.ifCond .eq 7, 3) := by decide +kernel
theorem dX6_partThatStays_113 : decode cX6_partThatStays 113 = .ok (.iload_n 2, 1) := by decide +kernel
theorem dX6_partThatStays_114 : decode cX6_partThatStays 114 = .ok (.goto 4, 3) := by decide +kernel
theorem dX6_partThatStays_117 : decode cX6_partThatStays 117 = .ok (.iconst (-1), 1) := by decide +kernel
theorem dX6_partThatStays_118 : decode cX6_partThatStays 118 = .ok (.ireturn, 1) := by decide +kernel
theorem dX6_partThatStays_119 : decode cX6_partThatStays 119 = .ok (.aload_n 0, 1) := by decide +kernel
theorem dX6_partThatStays_120 : decode cX6_partThatStays 120 = .ok (.iload_n 3, 1) := by decide +kernel
theorem dX6_partThatStays_121 : decode cX6_partThatStays 121 = .ok (.iconst 1, 1) := by decide +kernel
theorem dX6_partThatStays_122 : decode cX6_partThatStays 122 = .ok (.invokevirtual 65, 3) := by decide +kernel
theorem dX6_partThatStays_125 : decode cX6_partThatStays 125 = .ok (.ifCond .eq 7, 3) := by decide +kernel
theorem dX6_partThatStays_128 : decode cX6_partThatStays 128 = .ok (.iload_n 2, 1) := by decide +kernel
theorem dX6_partThatStays_129 : decode cX6_partThatStays 129 = .ok (.goto 17, 3) := by decide +kernel
theorem dX6_partThatStays_132 : decode cX6_partThatStays 132 = .ok (.aload_n 0, 1) := by decide +kernel
theorem dX6_partThatStays_133 : decode cX6_partThatStays 133 = .ok (.iload_n 2, 1) := by decide +kernel
theorem dX6_partThatStays_134 : decode cX6_partThatStays 134 = .ok (.iconst 1, 1) := by decide +kernel
theorem dX6_partThatStays_135 : decode cX6_partThatStays 135 = .ok (.invokevirtual 65, 3) := by decide +kernel
theorem dX6_partThatStays_138 : decode cX6_partThatStays 138 = .ok (.ifCond .eq 7, 3) := by decide +kernel
theorem dX6_partThatStays_141 : decode cX6_partThatStays 141 = .ok (.iload_n 3, 1) := by decide +kernel
theorem dX6_partThatStays_142 : decode cX6_partThatStays 142 = .ok (.goto 4, 3) := by decide +kernel
theorem dX6_partThatStays_145 : decode cX6_partThatStays 145 = .ok (.iconst (-1), 1) := by decide +kernel
theorem dX6_partThatStays_146 : decode cX6_partThatStays 146 = .ok (.ireturn, 1) := by decide +kernel
theorem dX6_partThatStays_147 : decode cX6_partThatStays 147 = .ok (.aload_n 0, 1) := by decide +kernel
theorem dX6_partThatStays_148 : decode cX6_partThatStays 148 = .ok (.iload_n 3, 1) := by decide +kernel
theorem dX6_partThatStays_149 : decode cX6_partThatStays 149 = .ok (.iconst 1, 1) := by decide +kernel
theorem dX6_partThatStays_150 : decode cX6_partThatStays 150 = .ok (.invokevirtual 65, 3) := by decide +kernel
theorem dX6_partThatStays_153 : decode cX6_partThatStays 153 = .ok (.ifCond .eq 7, 3) := by decide +kernel
theorem dX6_partThatStays_156 : decode cX6_partThatStays 156 = .ok (.iload_n 2, 1) := by decide +kernel
theorem dX6_partThatStays_157 : decode cX6_partThatStays 157 = .ok (.goto 4, 3) := by decide +kernel
theorem dX6_partThatStays_160 : decode cX6_partThatStays 160 = .ok (.iconst (-1), 1) := by decide +kernel
theorem dX6_partThatStays_161 : decode cX6_partThatStays 161 = .ok (.ireturn, 1) := by decide +kernel
theorem dX6_partThatStays_162 : decode cX6_partThatStays 162 = .ok (.aload_n 0, 1) := by decide +kernel
theorem dX6_partThatStays_163 : decode cX6_partThatStays 163 = .ok (.iload_n 2, 1) := by decide +kernel
theorem dX6_partThatStays_164 : decode cX6_partThatStays 164 = .ok (.iload_n 3, 1) := by decide +kernel
theorem dX6_partThatStays_165 : decode cX6_partThatStays 165 = .ok (.invokevirtual 69, 3) := by decide +kernel
theorem dX6_partThatStays_168 : decode cX6_partThatStays 168 = .ok (.ifCond .eq 7, 3) := by decide +kernel
theorem dX6_partThatStays_171 : decode cX6_partThatStays 171 = .ok (.iload_n 2, 1) := by decide +kernel
theorem dX6_partThatStays_172 : decode cX6_partThatStays 172 = .ok (.goto 4, 3) := by decide +kernel
theorem dX6_partThatStays_175 : decode cX6_partThatStays 175 = .ok (.iconst (-1), 1) := by decide +kernel
theorem dX6_partThatStays_176 : decode cX6_partThatStays 176 = .ok (.ireturn, 1) := by decide +kernel
theorem dX6_partThatStays_177 : decode cX6_partThatStays 177 = .ok (.aload_n 0, 1) := by decide +kernel
theorem dX6_partThatStays_178 : decode cX6_partThatStays 178 = .ok (.iload_n 3, 1) := by decide +kernel
theorem dX6_partThatStays_179 : decode cX6_partThatStays 179 = .ok (.aload_n 0, 1) := by decide +kernel
theorem dX6_partThatStays_180 : decode cX6_partThatStays 180 = .ok (.iload_n 3, 1) := by decide +kernel
theorem dX6_partThatStays_181 : decode cX6_partThatStays 181 = .ok (.invokevirtual 59, 3) := by decide +kernel
theorem dX6_partThatStays_184 : decode cX6_partThatStays 184 = .ok (.invokevirtual 69, 3) := by decide +kernel
theorem dX6_partThatStays_187 : decode cX6_partThatStays 187 = .ok (.ifCond .eq 7, 3) := by decide +kernel
theorem dX6_partThatStays_190 : decode cX6_partThatStays 190 = .ok (.iload_n 3, 1) := by decide +kernel
theorem dX6_partThatStays_191 : decode cX6_partThatStays 191 = .ok (.goto 4, 3) := by decide +kernel
theorem dX6_partThatStays_194 : decode cX6_partThatStays 194 = .ok (.iconst (-1), 1) := by decide +kernel
theorem dX6_partThatStays_195 : decode cX6_partThatStays 195 = .ok (.ireturn, 1) := by decide +kernel
theorem dX6_partThatStays_196 : decode cX6_partThatStays 196 = .ok (.aload_n 0, 1) := by decide +kernel
theorem dX6_partThatStays_197 : decode cX6_partThatStays 197 = .ok (.iload_n 2, 1) := by decide +kernel
theorem dX6_partThatStays_198 : decode cX6_partThatStays 198 = .ok (.invokevirtual 62, 3) := by decide +kernel
theorem dX6_partThatStays_201 : decode cX6_partThatStays 201 = .ok (.bipush 13, 2) := by decide +kernel
theorem dX6_partThatStays_203 : decode cX6_partThatStays 203 = .ok (.if_icmp .ne 9, 3) := by decide +kernel
theorem dX6_partThatStays_206 : decode cX6_partThatStays 206 = .ok (.iload_n 2, 1) := by decide +kernel
theorem dX6_partThatStays_207 : decode cX6_partThatStays 207 = .ok (.iconst 1, 1) := by decide +kernel
theorem dX6_partThatStays_208 : decode cX6_partThatStays 208 = .ok (.iadd, 1) := by decide +kernel
theorem dX6_partThatStays_209 : decode cX6_partThatStays 209 = .ok (.goto 4, 3) := by decide +kernel
theorem dX6_partThatStays_212 : decode cX6_partThatStays 212 = .ok (.iconst (-1), 1) := by decide +kernel
theorem dX6_partThatStays_213 : decode cX6_partThatStays 213 = .ok (.ireturn, 1) := by decide +kernel
theorem dX6_partThatStays_214 : decode cX6_partThatStays 214 = .ok (.iconst (-1), 1) := by decide +kernel
theorem dX6_partThatStays_215 : decode cX6_partThatStays 215 = .ok (.ireturn, 1) := by decide +kernel
theorem dX6_isNothing_0 : decode cX6_isNothing 0 = .ok (.iload_n 1, 1) := by decide +kernel
theorem dX6_isNothing_1 : decode cX6_isNothing 1 = .ok (.iconst 1, 1) := by decide +kernel
theorem dX6_isNothing_2 : decode cX6_isNothing 2 = .ok (.iadd, 1) := by decide +kernel
theorem dX6_isNothing_3 : decode cX6_isNothing 3 = .ok (.istore_n 2, 1) := by decide +kernel
theorem dX6_isNothing_4 : decode cX6_isNothing 4 = .ok (.aload_n 0, 1) := by decide +kernel
theorem dX6_isNothing_5 : decode cX6_isNothing 5 = .ok (.iload_n 2, 1) := by decide +kernel
theorem dX6_isNothing_6 : decode cX6_isNothing 6 = .ok (.invokevirtual 59, 3) := by decide +kernel
theorem dX6_isNothing_9 : decode cX6_isNothing 9 = .ok (.istore_n 3, 1) := by decide +kernel
theorem dX6_isNothing_10 : decode cX6_isNothing 10 = .ok (.aload_n 0, 1) := by decide +kernel
theorem dX6_isNothing_11 : decode cX6_isNothing 11 = .ok (.iload_n 1, 1) := by decide +kernel
theorem dX6_isNothing_12 : decode cX6_isNothing 12 = .ok (.invokevirtual 62, 3) := by decide +kernel
theorem dX6_isNothing_15 : decode cX6_isNothing 15 = .ok (.istore 4, 2) := by decide +kernel
theorem dX6_isNothing_17 : decode cX6_isNothing 17 = .ok (.iload 4, 2) := by decide +kernel
theorem dX6_isNothing_19 : decode cX6_isNothing 19 = .ok (.iconst 3, 1) := by decide +kernel
theorem dX6_isNothing_20 : decode cX6_isNothing 20 = .ok (.if_icmp .ne 12, 3) := by decide +kernel
theorem dX6_isNothing_23 : decode cX6_isNothing 23 = .ok (.aload_n 0, 1) := by decide +kernel
theorem dX6_isNothing_24 : decode cX6_isNothing 24 = .ok (.iload_n 2, 1) := by decide +kernel
theorem dX6_isNothing_25 : decode cX6_isNothing 25 = .ok (.iload_n 3, 1) := by decide +kernel
theorem dX6_isNothing_26 : decode cX6_isNothing 26 = .ok (.invokevirtual 69, 3) := by decide +kernel
theorem dX6_isNothing_29 : decode cX6_isNothing 29 = .ok (.ifCond .ne 27, 3) := by decide +kernel
theorem dX6_isNothing_32 : decode cX6_isNothing 32 = .ok (.iload 4, 2) := by decide +kernel
theorem dX6_isNothing_34 : decode cX6_isNothing 34 = .ok (.iconst 4, 1) := by decide +kernel
theorem dX6_isNothing_35 : decode cX6_isNothing 35 = .ok (.if_icmp .ne 25, 3) := by decide +kernel
theorem dX6_isNothing_38 : decode cX6_isNothing 38 = .ok (.aload_n 0, 1) := by decide +kernel
theorem dX6_isNothing_39 : decode cX6_isNothing 39 = .ok (.iload_n 2, 1) := by decide +kernel
theorem dX6_isNothing_40 : decode cX6_isNothing 40 = .ok (.iconst 0, 1) := by decide +kernel
theorem dX6_isNothing_41 : decode cX6_isNothing 41 = .ok (.invokevirtual 65, 3) := by decide +kernel
theorem dX6_isNothing_44 : decode cX6_isNothing 44 = .ok (.ifCond .ne 12, 3) := by decide +kernel
theorem dX6_isNothing_47 : decode cX6_isNothing 47 = .ok (.aload_n 0, 1) := by decide +kernel
theorem dX6_isNothing_48 : decode cX6_isNothing 48 = .ok (.iload_n 3, 1) := by decide +kernel
theorem dX6_isNothing_49 : decode cX6_isNothing 49 = .ok (.iconst 0, 1) := by decide +kernel
theorem dX6_isNothing_50 : decode cX6_isNothing 50 = .ok (.invokevirtual 65, 3) := by decide +kernel
theorem dX6_isNothing_53 : decode cX6_isNothing 53 = .ok (.ifCond .eq 7, 3) := by decide +kernel
theorem dX6_isNothing_56 : decode cX6_isNothing 56 = .ok (.iconst 1, 1) := by decide +kernel
theorem dX6_isNothing_57 : decode cX6_isNothing 57 = .ok (.goto 4, 3) := by decide +kernel
theorem dX6_isNothing_60 : decode cX6_isNothing 60 = .ok (.iconst 0, 1) := by decide +kernel
theorem dX6_isNothing_61 : decode cX6_isNothing 61 = .ok (.ireturn, 1) := by decide +kernel
end
section
theorem dX7_init_0 : decode cX7_init 0 = .ok (.aload_n 0, 1) := by decide +kernel
theorem dX7_init_1 : decode cX7_init 1 = .ok (.invokespecial 3, 3) := by decide +kernel
theorem dX7_init_4 : decode cX7_init 4 = .ok (.aload_n 0, 1) := by decide +kernel
theorem dX7_init_5 : decode cX7_init 5 = .ok (.new 9, 3) := by decide +kernel
theorem dX7_init_8 : decode cX7_init 8 = .ok (.dup, 1) := by decide +kernel
theorem dX7_init_9 : decode cX7_init 9 = .ok (.invokespecial 11, 3) := by decide +kernel
theorem dX7_init_12 : decode cX7_init 12 = .ok (.putfield 12, 3) := by decide +kernel
theorem dX7_init_15 : decode cX7_init 15 = .ok (.aload_n 0, 1) := by decide +kernel
theorem dX7_init_16 : decode cX7_init 16 = .ok (.bipush 40, 2) := by decide +kernel
theorem dX7_init_18 : decode cX7_init 18 = .ok (.newarray .int, 2) := by decide +kernel
theorem dX7_init_20 : decode cX7_init 20 = .ok (.putfield 18, 3) := by decide +kernel
theorem dX7_init_23 : decode cX7_init 23 = .ok (.aload_n 0, 1) := by decide +kernel
theorem dX7_init_24 : decode cX7_init 24 = .ok (.bipush 40, 2) := by decide +kernel
theorem dX7_init_26 : decode cX7_init 26 = .ok (.newarray .int, 2) := by decide +kernel
theorem dX7_init_28 : decode cX7_init 28 = .ok (.putfield 22, 3) := by decide +kernel
theorem dX7_init_31 : decode cX7_init 31 = .ok (.aload_n 0, 1) := by decide +kernel
theorem dX7_init_32 : decode cX7_init 32 = .ok (.invokevirtual 25, 3) := by decide +kernel
theorem dX7_init_35 : decode cX7_init 35 = .ok (.return_, 1) := by decide +kernel
theorem dX7_clear_0 : decode cX7_clear 0 = .ok (.aload_n 0, 1) := by decide +kernel
theorem dX7_clear_1 : decode cX7_clear 1 = .ok (.getfield 12, 3) := by decide +kernel
theorem dX7_clear_4 : decode cX7_clear 4 = .ok (.iconst 0, 1) := by decide +kernel
theorem dX7_clear_5 : decode cX7_clear 5 = .ok (.putfield 28, 3) := by decide +kernel
theorem dX7_clear_8 : decode cX7_clear 8 = .ok (.aload_n 0, 1) := by decide +kernel
theorem dX7_clear_9 : decode cX7_clear 9 = .ok (.iconst 0, 1) := by decide +kernel
theorem dX7_clear_10 : decode cX7_clear 10 = .ok (.putfield 32, 3) := by decide +kernel
theorem dX7_clear_13 : decode cX7_clear 13 = .ok (.aload_n 0, 1) := by decide +kernel
theorem dX7_clear_14 : decode cX7_clear 14 = .ok (.iconst 0, 1) := by decide +kernel
theorem dX7_clear_15 : decode cX7_clear 15 = .ok (.putfield 35, 3) := by decide +kernel
theorem dX7_clear_18 : decode cX7_clear 18 = .ok (.aload_n 0, 1) := by decide +kernel
theorem dX7_clear_19 : decode cX7_clear 19 = .ok (.iconst 1, 1) := by decide +kernel
theorem dX7_clear_20 : decode cX7_clear 20 = .ok (.iconst 1, 1) := by decide +kernel
theorem dX7_clear_21 : decode cX7_clear 21 = .ok (.invokevirtual 38, 3) := by decide +kernel
theorem dX7_clear_24 : decode cX7_clear 24 = .ok (.return_, 1) := by decide +kernel
theorem dX7_accepts_0 : decode cX7_accepts 0 = .ok (.aload_n 0, 1) := by decide +kernel
theorem dX7_accepts_1 : decode cX7_accepts 1 = .ok (.getfield 32, 3) := by decide +kernel
theorem dX7_accepts_4 : decode cX7_accepts 4 = .ok (.iconst 1, 1) := by decide +kernel
theorem dX7_accepts_5 : decode cX7_accepts 5 = .ok (.isub, 1) := by decide +kernel
theorem dX7_accepts_6 : decode cX7_accepts 6 = .ok (.istore_n 2, 1) := by decide +kernel
theorem dX7_accepts_7 : decode cX7_accepts 7 = .ok (.iload_n 2, 1) := by decide +kernel
theorem dX7_accepts_8 : decode cX7_accepts 8 = .ok (.ifCond .lt 28, 3) := by decide +kernel
theorem dX7_accepts_11 : decode cX7_accepts 11 = .ok (.aload_n 0, 1) := by decide +kernel
theorem dX7_accepts_12 : decode cX7_accepts 12 = .ok (.getfield 18, 3) := by decide +kernel
theorem dX7_accepts_15 : decode cX7_accepts 15 = .ok (.iload_n 2, 1) := by decide +kernel
theorem dX7_accepts_16 : decode cX7_accepts 16 = .ok (.invokestatic 42, 3) := by decide +kernel
theorem dX7_accepts_19 : decode cX7_accepts 19 = .ok (.iload_n 1, 1) := by decide +kernel
theorem dX7_accepts_20 : decode cX7_accepts 20 = .ok (.bipush 8, 2) := by decide +kernel
theorem dX7_accepts_22 : decode cX7_accepts 22 = .ok (.if_icmp .gt 7, 3) := by decide +kernel
theorem dX7_accepts_25 : decode cX7_accepts 25 = .ok (.iconst 1, 1) := by decide +kernel
theorem dX7_accepts_26 : decode cX7_accepts 26 = .ok (.goto 4, 3) := by decide +kernel
theorem dX7_accepts_29 : decode cX7_accepts 29 = .ok (.iconst 0, 1) := by decide +kernel
theorem dX7_accepts_30 : decode cX7_accepts 30 = .ok (.invokestatic 46, 3) := by decide +kernel
theorem dX7_accepts_33 : decode cX7_accepts 33 = .ok (.if_icmp .eq 5, 3) := by decide +kernel
theorem dX7_accepts_36 : decode cX7_accepts 36 = .ok (.iconst 0, 1) := by decide +kernel
theorem dX7_accepts_37 : decode cX7_accepts 37 = .ok (.ireturn, 1) := by decide +kernel
theorem dX7_accepts_38 : decode cX7_accepts 38 = .ok (.aload_n 0, 1) := by decide +kernel
theorem dX7_accepts_39 : decode cX7_accepts 39 = .ok (.getfield 35, 3) := by decide +kernel
theorem dX7_accepts_42 : decode cX7_accepts 42 = .ok (.aload_n 0, 1) := by decide +kernel
theorem dX7_accepts_43 : decode cX7_accepts 43 = .ok (.getfield 18, 3) := by decide +kernel
theorem dX7_accepts_46 : decode cX7_accepts 46 = .ok (.iload_n 2, 1) := by decide +kernel
theorem dX7_accepts_47 : decode cX7_accepts 47 = .ok (.invokestatic 42, 3) := by decide +kernel
theorem dX7_accepts_50 : decode cX7_accepts 50 = .ok (.isub, 1) := by decide +kernel
theorem dX7_accepts_51 : decode cX7_accepts 51 = .ok (.iconst 1, 1) := by decide +kernel
theorem dX7_accepts_52 : decode cX7_accepts 52 = .ok (.iadd, 1) := by decide +kernel
theorem dX7_accepts_53 : decode cX7_accepts 53 = .ok (.istore_n 3, 1) := by decide +kernel
theorem dX7_accepts_54 : decode cX7_accepts 54 = .ok (.getstatic 50, 3) := by decide +kernel
theorem dX7_accepts_57 : decode cX7_accepts 57 = .ok (.iload_n 1, 1) := by decide +kernel
theorem dX7_accepts_58 : decode cX7_accepts 58 = .ok (.invokestatic 42, 3) := by decide +kernel
theorem dX7_accepts_61 : decode cX7_accepts 61 = .ok (.istore 4, 2) := by decide +kernel
theorem dX7_accepts_63 : decode cX7_accepts 63 = .ok (.iconst 0, 1) := by decide +kernel
theorem dX7_accepts_64 : decode cX7_accepts 64 = .ok (.istore 5, 2) := by decide +kernel
theorem dX7_accepts_66 : decode cX7_accepts 66 = .ok (.iload 5, 2) := by decide +kernel
theorem dX7_accepts_68 : decode cX7_accepts 68 = .ok (.iload 4, 2) := by decide +kernel
theorem dX7_accepts_70 : decode cX7_accepts 70 = .ok (.if_icmp .ge 51, 3) := by decide +kernel
theorem dX7_accepts_73 : decode cX7_accepts 73 = .ok (.iload_n 1, 1) := by decide +kernel
theorem dX7_accepts_74 : decode cX7_accepts 74 = .ok (.iload 5, 2) := by decide +kernel
theorem dX7_accepts_76 : decode cX7_accepts 76 = .ok (.invokestatic 53, 3) := by decide +kernel
theorem dX7_accepts_79 : decode cX7_accepts 79 = .ok (.istore 6, 2) := by decide +kernel
theorem dX7_accepts_81 : decode cX7_accepts 81 = .ok (.iload_n 3, 1) := by decide +kernel
theorem dX7_accepts_82 : decode cX7_accepts 82 = .ok (.iload 6, 2) := by decide +kernel
theorem dX7_accepts_84 : decode cX7_accepts 84 = .ok (.invokestatic 46, 3) := by decide +kernel
theorem dX7_accepts_87 : decode cX7_accepts 87 = .ok (.iadd, 1) := by decide +kernel
theorem dX7_accepts_88 : decode cX7_accepts 88 = .ok (.istore_n 3, 1) := by decide +kernel
theorem dX7_accepts_89 : decode cX7_accepts 89 = .ok (.aload_n 0, 1) := by decide +kernel
theorem dX7_accepts_90 : decode cX7_accepts 90 = .ok (.getfield 22, 3) := by decide +kernel
theorem dX7_accepts_93 : decode cX7_accepts 93 = .ok (.iload_n 2, 1) := by decide +kernel
theorem dX7_accepts_94 : decode cX7_accepts 94 = .ok (.invokestatic 42, 3) := by decide +kernel
theorem dX7_accepts_97 : decode cX7_accepts 97 = .ok (.iload 6, 2) := by decide +kernel
theorem dX7_accepts_99 : decode cX7_accepts 99 = .ok (.ifCond .eq 7, 3) := by decide +kernel
theorem dX7_accepts_102 : decode cX7_accepts 102 = .ok (.iconst 1, 1) := by decide +kernel
theorem dX7_accepts_103 : decode cX7_accepts 103 = .ok (.goto 4, 3) := by decide +kernel
theorem dX7_accepts_106 : decode cX7_accepts 106 = .ok (.iconst 2, 1) := by decide +kernel
theorem dX7_accepts_107 : decode cX7_accepts 107 = .ok (.iadd, 1) := by decide +kernel
theorem dX7_accepts_108 : decode cX7_accepts 108 = .ok (.bipush 8, 2) := by decide +kernel
theorem dX7_accepts_110 : decode cX7_accepts 110 = .ok (.if_icmp .le 5, 3) := by decide +kernel
theorem dX7_accepts_113 : decode cX7_accepts 113 = .ok (.iconst 0, 1) := by decide +kernel
theorem dX7_accepts_114 : decode cX7_accepts 114 = .ok (.ireturn, 1) := by decide +kernel
theorem dX7_accepts_115 : decode cX7_accepts 115 = .ok (.iinc 5 1, 3) := by decide +kernel
theorem dX7_accepts_118 : decode cX7_accepts 118 = .ok (.goto (-52), 3) := by decide +kernel
theorem dX7_accepts_121 : decode cX7_accepts 121 = .ok (.iload_n 3, 1) := by decide +kernel
theorem dX7_accepts_122 : decode cX7_accepts 122 = .ok (.bipush 40, 2) := by decide +kernel
theorem dX7_accepts_124 : decode cX7_accepts 124 = .ok (.if_icmp .gt 7, 3) := by decide +kernel
theorem dX7_accepts_127 : decode cX7_accepts 127 = .ok (.iconst 1, 1) := by decide +kernel
theorem dX7_accepts_128 : decode cX7_accepts 128 = .ok (.goto 4, 3) := by decide +kernel
theorem dX7_accepts_131 : decode cX7_accepts 131 = .ok (.iconst 0, 1) := by decide +kernel
theorem dX7_accepts_132 : decode cX7_accepts 132 = .ok (.ireturn, 1) := by decide +kernel
theorem dX7_take_0 : decode cX7_take 0 = .ok (.aload_n 0, 1) := by decide +kernel
theorem dX7_take_1 : decode cX7_take 1 = .ok (.getfield 22, 3) := by decide +kernel
theorem dX7_take_4 : decode cX7_take 4 = .ok (.aload_n 0, 1) := by decide +kernel
theorem dX7_take_5 : decode cX7_take 5 = .ok (.getfield 32, 3) := by decide +kernel
theorem dX7_take_8 : decode cX7_take 8 = .ok (.iconst 1, 1) := by decide +kernel
theorem dX7_take_9 : decode cX7_take 9 = .ok (.isub, 1) := by decide +kernel
theorem dX7_take_10 : decode cX7_take 10 = .ok (.invokestatic 42, 3) := by decide +kernel
theorem dX7_take_13 : decode cX7_take 13 = .ok (.istore_n 3, 1) := by decide +kernel
theorem dX7_take_14 : decode cX7_take 14 = .ok (.aload_n 0, 1) := by decide +kernel
theorem dX7_take_15 : decode cX7_take 15 = .ok (.dup, 1) := by decide +kernel
theorem dX7_take_16 : decode cX7_take 16 = .ok (.getfield 35, 3) := by decide +kernel
theorem dX7_take_19 : decode cX7_take 19 = .ok (.iconst 1, 1) := by decide +kernel
theorem dX7_take_20 : decode cX7_take 20 = .ok (.aload_n 0, 1) := by decide +kernel
theorem dX7_take_21 : decode cX7_take 21 = .ok (.getfield 18, 3) := by decide +kernel
theorem dX7_take_24 : decode cX7_take 24 = .ok (.aload_n 0, 1) := by decide +kernel
theorem dX7_take_25 : decode cX7_take 25 = .ok (.getfield 32, 3) := by decide +kernel
theorem dX7_take_28 : decode cX7_take 28 = .ok (.iconst 1, 1) := by decide +kernel
theorem dX7_take_29 : decode cX7_take 29 = .ok (.isub, 1) := by decide +kernel
theorem dX7_take_30 : decode cX7_take 30 = .ok (.invokestatic 42, 3) := by decide +kernel
theorem dX7_take_33 : decode cX7_take 33 = .ok (.isub, 1) := by decide +kernel
theorem dX7_take_34 : decode cX7_take 34 = .ok (.iadd, 1) := by decide +kernel
theorem dX7_take_35 : decode cX7_take 35 = .ok (.putfield 35, 3) := by decide +kernel
theorem dX7_take_38 : decode cX7_take 38 = .ok (.aload_n 0, 1) := by decide +kernel
theorem dX7_take_39 : decode cX7_take 39 = .ok (.dup, 1) := by decide +kernel
theorem dX7_take_40 : decode cX7_take 40 = .ok (.getfield 32, 3) := by decide +kernel
theorem dX7_take_43 : decode cX7_take 43 = .ok (.iconst 1, 1) := by decide +kernel
theorem dX7_take_44 : decode cX7_take 44 = .ok (.isub, 1) := by decide +kernel
theorem dX7_take_45 : decode cX7_take 45 = .ok (.putfield 32, 3) := by decide +kernel
theorem dX7_take_48 : decode cX7_take 48 = .ok (.aload_n 0, 1) := by decide +kernel
theorem dX7_take_49 : decode cX7_take 49 = .ok (.getfield 12, 3) := by decide +kernel
theorem dX7_take_52 : decode cX7_take 52 = .ok (.iload_n 1, 1) := by decide +kernel
theorem dX7_take_53 : decode cX7_take 53 = .ok (.iload_n 2, 1) := by decide +kernel
theorem dX7_take_54 : decode cX7_take 54 = .ok (.invokevirtual 57, 3) := by decide +kernel
theorem dX7_take_57 : decode cX7_take 57 = .ok (.getstatic 50, 3) := by decide +kernel
theorem dX7_take_60 : decode cX7_take 60 = .ok (.iload_n 1, 1) := by decide +kernel
theorem dX7_take_61 : decode cX7_take 61 = .ok (.invokestatic 42, 3) := by decide +kernel
theorem dX7_take_64 : decode cX7_take 64 = .ok (.iconst 1, 1) := by decide +kernel
theorem dX7_take_65 : decode cX7_take 65 = .ok (.isub, 1) := by decide +kernel
theorem dX7_take_66 : decode cX7_take 66 = .ok (.istore 4, 2) := by decide +kernel
theorem dX7_take_68 : decode cX7_take 68 = .ok (.iload 4, 2) := by decide +kernel
theorem dX7_take_70 : decode cX7_take 70 = .ok (.ifCond .lt 22, 3) := by decide +kernel
theorem dX7_take_73 : decode cX7_take 73 = .ok (.aload_n 0, 1) := by decide +kernel
theorem dX7_take_74 : decode cX7_take 74 = .ok (.iload_n 1, 1) := by decide +kernel
theorem dX7_take_75 : decode cX7_take 75 = .ok (.iload 4, 2) := by decide +kernel
theorem dX7_take_77 : decode cX7_take 77 = .ok (.invokestatic 53, 3) := by decide +kernel
theorem dX7_take_80 : decode cX7_take 80 = .ok (.iload_n 3, 1) := by decide +kernel
theorem dX7_take_81 : decode cX7_take 81 = .ok (.iconst 1, 1) := by decide +kernel
theorem dX7_take_82 : decode cX7_take 82 = .ok (.iadd, 1) := by decide +kernel
theorem dX7_take_83 : decode cX7_take 83 = .ok (.invokevirtual 38, 3) := by decide +kernel
theorem dX7_take_86 : decode cX7_take 86 = .ok (.iinc 4 (-1), 3) := by decide +kernel
theorem dX7_take_89 : decode cX7_take 89 = .ok (.goto (-21), 3) := by decide +kernel
theorem dX7_take_92 : decode cX7_take 92 = .ok (.return_, 1) := by decide +kernel
theorem dX7_miss_0 : decode cX7_miss 0 = .ok (.aload_n 0, 1) := by decide +kernel
theorem dX7_miss_1 : decode cX7_miss 1 = .ok (.getfield 18, 3) := by decide +kernel
theorem dX7_miss_4 : decode cX7_miss 4 = .ok (.aload_n 0, 1) := by decide +kernel
theorem dX7_miss_5 : decode cX7_miss 5 = .ok (.getfield 32, 3) := by decide +kernel
theorem dX7_miss_8 : decode cX7_miss 8 = .ok (.iload_n 1, 1) := by decide +kernel
theorem dX7_miss_9 : decode cX7_miss 9 = .ok (.invokestatic 46, 3) := by decide +kernel
theorem dX7_miss_12 : decode cX7_miss 12 = .ok (.invokestatic 61, 3) := by decide +kernel
theorem dX7_miss_15 : decode cX7_miss 15 = .ok (.aload_n 0, 1) := by decide +kernel
theorem dX7_miss_16 : decode cX7_miss 16 = .ok (.getfield 22, 3) := by decide +kernel
theorem dX7_miss_19 : decode cX7_miss 19 = .ok (.aload_n 0, 1) := by decide +kernel
theorem dX7_miss_20 : decode cX7_miss 20 = .ok (.getfield 32, 3) := by decide +kernel
theorem dX7_miss_23 : decode cX7_miss 23 = .ok (.iload_n 2, 1) := by decide +kernel
theorem dX7_miss_24 : decode cX7_miss 24 = .ok (.invokestatic 61, 3) := by decide +kernel
theorem dX7_miss_27 : decode cX7_miss 27 = .ok (.aload_n 0, 1) := by decide +kernel
theorem dX7_miss_28 : decode cX7_miss 28 = .ok (.dup, 1) := by decide +kernel
theorem dX7_miss_29 : decode cX7_miss 29 = .ok (.getfield 32, 3) := by decide +kernel
theorem dX7_miss_32 : decode cX7_miss 32 = .ok (.iconst 1, 1) := by decide +kernel
theorem dX7_miss_33 : decode cX7_miss 33 = .ok (.iadd, 1) := by decide +kernel
theorem dX7_miss_34 : decode cX7_miss 34 = .ok (.putfield 32, 3) := by decide +kernel
theorem dX7_miss_37 : decode cX7_miss 37 = .ok (.aload_n 0, 1) := by decide +kernel
theorem dX7_miss_38 : decode cX7_miss 38 = .ok (.dup, 1) := by decide +kernel
theorem dX7_miss_39 : decode cX7_miss 39 = .ok (.getfield 35, 3) := by decide +kernel
theorem dX7_miss_42 : decode cX7_miss 42 = .ok (.iload_n 1, 1) := by decide +kernel
theorem dX7_miss_43 : decode cX7_miss 43 = .ok (.invokestatic 46, 3) := by decide +kernel
theorem dX7_miss_46 : decode cX7_miss 46 = .ok (.iadd, 1) := by decide +kernel
theorem dX7_miss_47 : decode cX7_miss 47 = .ok (.putfield 35, 3) := by decide +kernel
theorem dX7_miss_50 : decode cX7_miss 50 = .ok (.return_, 1) := by decide +kernel
theorem dX7_needOf_0 : decode cX7_needOf 0 = .ok (.iload_n 0, 1) := by decide +kernel
theorem dX7_needOf_1 : decode cX7_needOf 1 = .ok (.ifCond .eq 7, 3) := by decide +kernel
theorem dX7_needOf_4 : decode cX7_needOf 4 = .ok (.iconst 1, 1) := by decide +kernel
theorem dX7_needOf_5 : decode cX7_needOf 5 = .ok (.goto 4, 3) := by decide +kernel
theorem dX7_needOf_8 : decode cX7_needOf 8 = .ok (.iconst 3, 1) := by decide +kernel
theorem dX7_needOf_9 : decode cX7_needOf 9 = .ok (.ireturn, 1) := by decide +kernel
end
section
theorem dX8_init_0 : decode cX8_init 0 = .ok (.aload_n 0, 1) := by decide +kernel
theorem dX8_init_1 : decode cX8_init 1 = .ok (.invokespecial 3, 3) := by decide +kernel
theorem dX8_init_4 : decode cX8_init 4 = .ok (.aload_n 0, 1) := by decide +kernel
theorem dX8_init_5 : decode cX8_init 5 = .ok (.bipush 40, 2) := by decide +kernel
theorem dX8_init_7 : decode cX8_init 7 = .ok (.newarray .int, 2) := by decide +kernel
theorem dX8_init_9 : decode cX8_init 9 = .ok (.putfield 9, 3) := by decide +kernel
theorem dX8_init_12 : decode cX8_init 12 = .ok (.aload_n 0, 1) := by decide +kernel
theorem dX8_init_13 : decode cX8_init 13 = .ok (.bipush 40, 2) := by decide +kernel
theorem dX8_init_15 : decode cX8_init 15 = .ok (.newarray .int, 2) := by decide +kernel
theorem dX8_init_17 : decode cX8_init 17 = .ok (.putfield 15, 3) := by decide +kernel
theorem dX8_init_20 : decode cX8_init 20 = .ok (.aload_n 0, 1) := by decide +kernel
theorem dX8_init_21 : decode cX8_init 21 = .ok (.bipush 40, 2) := by decide +kernel
theorem dX8_init_23 : decode cX8_init 23 = .ok (.newarray .int, 2) := by decide +kernel
theorem dX8_init_25 : decode cX8_init 25 = .ok (.putfield 18, 3) := by decide +kernel
theorem dX8_init_28 : decode cX8_init 28 = .ok (.aload_n 0, 1) := by decide +kernel
theorem dX8_init_29 : decode cX8_init 29 = .ok (.bipush 40, 2) := by decide +kernel
theorem dX8_init_31 : decode cX8_init 31 = .ok (.newarray .int, 2) := by decide +kernel
theorem dX8_init_33 : decode cX8_init 33 = .ok (.putfield 21, 3) := by decide +kernel
theorem dX8_init_36 : decode cX8_init 36 = .ok (.return_, 1) := by decide +kernel
theorem dX8_code_0 : decode cX8_code 0 = .ok (.aload_n 0, 1) := by decide +kernel
theorem dX8_code_1 : decode cX8_code 1 = .ok (.getfield 9, 3) := by decide +kernel
theorem dX8_code_4 : decode cX8_code 4 = .ok (.iload_n 1, 1) := by decide +kernel
theorem dX8_code_5 : decode cX8_code 5 = .ok (.invokestatic 24, 3) := by decide +kernel
theorem dX8_code_8 : decode cX8_code 8 = .ok (.ireturn, 1) := by decide +kernel
theorem dX8_value_0 : decode cX8_value 0 = .ok (.aload_n 0, 1) := by decide +kernel
theorem dX8_value_1 : decode cX8_value 1 = .ok (.getfield 15, 3) := by decide +kernel
theorem dX8_value_4 : decode cX8_value 4 = .ok (.iload_n 1, 1) := by decide +kernel
theorem dX8_value_5 : decode cX8_value 5 = .ok (.invokestatic 24, 3) := by decide +kernel
theorem dX8_value_8 : decode cX8_value 8 = .ok (.ireturn, 1) := by decide +kernel
theorem dX8_span_0 : decode cX8_span 0 = .ok (.aload_n 0, 1) := by decide +kernel
theorem dX8_span_1 : decode cX8_span 1 = .ok (.getfield 18, 3) := by decide +kernel
theorem dX8_span_4 : decode cX8_span 4 = .ok (.iload_n 1, 1) := by decide +kernel
theorem dX8_span_5 : decode cX8_span 5 = .ok (.invokestatic 24, 3) := by decide +kernel
theorem dX8_span_8 : decode cX8_span 8 = .ok (.ireturn, 1) := by decide +kernel
theorem dX8_isNumber_0 : decode cX8_isNumber 0 = .ok (.aload_n 0, 1) := by decide +kernel
theorem dX8_isNumber_1 : decode cX8_isNumber 1 = .ok (.getfield 9, 3) := by decide +kernel
theorem dX8_isNumber_4 : decode cX8_isNumber 4 = .ok (.iload_n 1, 1) := by decide +kernel
theorem dX8_isNumber_5 : decode cX8_isNumber 5 = .ok (.invokestatic 24, 3) := by decide +kernel
theorem dX8_isNumber_8 : decode cX8_isNumber 8 = .ok (.bipush 8, 2) := by decide +kernel
theorem dX8_isNumber_10 : decode cX8_isNumber 10 = .ok (.if_icmp .gt 7, 3) := by decide +kernel
theorem dX8_isNumber_13 : decode cX8_isNumber 13 = .ok (.iconst 1, 1) := by decide +kernel
theorem dX8_isNumber_14 : decode cX8_isNumber 14 = .ok (.goto 4, 3) := by decide +kernel
theorem dX8_isNumber_17 : decode cX8_isNumber 17 = .ok (.iconst 0, 1) := by decide +kernel
theorem dX8_isNumber_18 : decode cX8_isNumber 18 = .ok (.ireturn, 1) := by decide +kernel
theorem dX8_isConstant_0 : decode cX8_isConstant 0 = .ok (.aload_n 0, 1) := by decide +kernel
theorem dX8_isConstant_1 : decode cX8_isConstant 1 = .ok (.iload_n 1, 1) := by decide +kernel
theorem dX8_isConstant_2 : decode cX8_isConstant 2 = .ok (.invokevirtual 28, 3) := by decide +kernel
theorem dX8_isConstant_5 : decode cX8_isConstant 5 = .ok (.ifCond .ne 16, 3) := by decide +kernel
theorem dX8_isConstant_8 : decode cX8_isConstant 8 = .ok (.aload_n 0, 1) := by decide +kernel
theorem dX8_isConstant_9 : decode cX8_isConstant 9 = .ok (.iload_n 1, 1) := by decide +kernel
theorem dX8_isConstant_10 : decode cX8_isConstant 10 = .ok (.invokevirtual 32, 3) := by decide +kernel
theorem dX8_isConstant_13 : decode cX8_isConstant 13 = .ok (.iload_n 2, 1) := by decide +kernel
theorem dX8_isConstant_14 : decode cX8_isConstant 14 = .ok (.if_icmp .ne 7, 3) := by decide +kernel
theorem dX8_isConstant_17 : decode cX8_isConstant 17 = .ok (.iconst 1, 1) := by decide +kernel
theorem dX8_isConstant_18 : decode cX8_isConstant 18 = .ok (.goto 4, 3) := by decide +kernel
theorem dX8_isConstant_21 : decode cX8_isConstant 21 = .ok (.iconst 0, 1) := by decide +kernel
theorem dX8_isConstant_22 : decode cX8_isConstant 22 = .ok (.ireturn, 1) := by decide +kernel
theorem dX8_behind_0 : decode cX8_behind 0 = .ok (.iload_n 1, 1) := by decide +kernel
theorem dX8_behind_1 : decode cX8_behind 1 = .ok (.aload_n 0, 1) := by decide +kernel
theorem dX8_behind_2 : decode cX8_behind 2 = .ok (.getfield 18, 3) := by decide +kernel
theorem dX8_behind_5 : decode cX8_behind 5 = .ok (.iload_n 1, 1) := by decide +kernel
theorem dX8_behind_6 : decode cX8_behind 6 = .ok (.invokestatic 24, 3) := by decide +kernel
theorem dX8_behind_9 : decode cX8_behind 9 = .ok (.iadd, 1) := by decide +kernel
theorem dX8_behind_10 : decode cX8_behind 10 = .ok (.ireturn, 1) := by decide +kernel
theorem dX8_placeAbove_0 : decode cX8_placeAbove 0 = .ok (.iload_n 1, 1) := by decide +kernel
theorem dX8_placeAbove_1 : decode cX8_placeAbove 1 = .ok (.iconst 1, 1) := by decide +kernel
theorem dX8_placeAbove_2 : decode cX8_placeAbove 2 = .ok (.isub, 1) := by decide +kernel
theorem dX8_placeAbove_3 : decode cX8_placeAbove 3 = .ok (.istore_n 2, 1) := by decide +kernel
theorem dX8_placeAbove_4 : decode cX8_placeAbove 4 = .ok (.iload_n 2, 1) := by decide +kernel
theorem dX8_placeAbove_5 : decode cX8_placeAbove 5 = .ok (.ifCond .lt 20, 3) := by decide +kernel
theorem dX8_placeAbove_8 : decode cX8_placeAbove 8 = .ok (.aload_n 0, 1) := by decide +kernel
theorem dX8_placeAbove_9 : decode cX8_placeAbove 9 = .ok (.iload_n 2, 1) := by decide +kernel
theorem dX8_placeAbove_10 : decode cX8_placeAbove 10 = .ok (.invokevirtual 35, 3) := by decide +kernel
theorem dX8_placeAbove_13 : decode cX8_placeAbove 13 = .ok (.iload_n 1, 1) := by decide +kernel
theorem dX8_placeAbove_14 : decode cX8_placeAbove 14 = .ok (.if_icmp .le 5, 3) := by decide +kernel
theorem dX8_placeAbove_17 : decode cX8_placeAbove 17 = .ok (.iload_n 2, 1) := by decide +kernel
theorem dX8_placeAbove_18 : decode cX8_placeAbove 18 = .ok (.ireturn, 1) := by decide +kernel
theorem dX8_placeAbove_19 : decode cX8_placeAbove 19 = .ok (.iinc 2 (-1), 3) := by decide +kernel
theorem dX8_placeAbove_22 : decode cX8_placeAbove 22 = .ok (.goto (-18), 3) := by decide +kernel
theorem dX8_placeAbove_25 : decode cX8_placeAbove 25 = .ok (.iconst (-1), 1) := by decide +kernel
theorem dX8_placeAbove_26 : decode cX8_placeAbove 26 = .ok (.ireturn, 1) := by decide +kernel
theorem dX8_hasInput_0 : decode cX8_hasInput 0 = .ok (.aload_n 0, 1) := by decide +kernel
theorem dX8_hasInput_1 : decode cX8_hasInput 1 = .ok (.iload_n 1, 1) := by decide +kernel
theorem dX8_hasInput_2 : decode cX8_hasInput 2 = .ok (.invokevirtual 35, 3) := by decide +kernel
theorem dX8_hasInput_5 : decode cX8_hasInput 5 = .ok (.istore_n 2, 1) := by decide +kernel
theorem dX8_hasInput_6 : decode cX8_hasInput 6 = .ok (.iload_n 1, 1) := by decide +kernel
theorem dX8_hasInput_7 : decode cX8_hasInput 7 = .ok (.istore_n 3, 1) := by decide +kernel
theorem dX8_hasInput_8 : decode cX8_hasInput 8 = .ok (.iload_n 3, 1) := by decide +kernel
theorem dX8_hasInput_9 : decode cX8_hasInput 9 = .ok (.iload_n 2, 1) := by decide +kernel
theorem dX8_hasInput_10 : decode cX8_hasInput 10 = .ok (.if_icmp .ge 20, 3) := by decide +kernel
theorem dX8_hasInput_13 : decode cX8_hasInput 13 = .ok (.aload_n 0, 1) := by decide +kernel
theorem dX8_hasInput_14 : decode cX8_hasInput 14 = .ok (.iload_n 3, 1) := by decide +kernel
theorem dX8_hasInput_15 : decode cX8_hasInput 15 = .ok (.invokevirtual 28, 3) := by decide +kernel
theorem dX8_hasInput_18 : decode cX8_hasInput 18 = .ok (.iconst 1, 1) := by decide +kernel
theorem dX8_hasInput_19 : decode cX8_hasInput 19 = .ok (.if_icmp .ne 5, 3) := by decide +kernel
theorem dX8_hasInput_22 : decode cX8_hasInput 22 = .ok (.iconst 1, 1) := by decide +kernel
theorem dX8_hasInput_23 : decode cX8_hasInput 23 = .ok (.ireturn, 1) := by decide +kernel
theorem dX8_hasInput_24 : decode cX8_hasInput 24 = .ok (.iinc 3 1, 3) := by decide +kernel
theorem dX8_hasInput_27 : decode cX8_hasInput 27 = .ok (.goto (-19), 3) := by decide +kernel
theorem dX8_hasInput_30 : decode cX8_hasInput 30 = .ok (.iconst 0, 1) := by decide +kernel
theorem dX8_hasInput_31 : decode cX8_hasInput 31 = .ok (.ireturn, 1) := by decide +kernel
theorem dX8_sameParts_0 : decode cX8_sameParts 0 = .ok (.aload_n 0, 1) := by decide +kernel
theorem dX8_sameParts_1 : decode cX8_sameParts 1 = .ok (.iload_n 1, 1) := by decide +kernel
theorem dX8_sameParts_2 : decode cX8_sameParts 2 = .ok (.invokevirtual 38, 3) := by decide +kernel
theorem dX8_sameParts_5 : decode cX8_sameParts 5 = .ok (.istore_n 3, 1) := by decide +kernel
theorem dX8_sameParts_6 : decode cX8_sameParts 6 = .ok (.iconst 0, 1) := by decide +kernel
theorem dX8_sameParts_7 : decode cX8_sameParts 7 = .ok (.istore 4, 2) := by decide +kernel
theorem dX8_sameParts_9 : decode cX8_sameParts 9 = .ok (.iload 4, 2) := by decide +kernel
theorem dX8_sameParts_11 : decode cX8_sameParts 11 = .ok (.iload_n 3, 1) := by decide +kernel
theorem dX8_sameParts_12 : decode cX8_sameParts 12 = .ok (.if_icmp .ge 49, 3) := by decide +kernel
theorem dX8_sameParts_15 : decode cX8_sameParts 15 = .ok (.aload_n 0, 1) := by decide +kernel
theorem dX8_sameParts_16 : decode cX8_sameParts 16 = .ok (.iload_n 1, 1) := by decide +kernel
theorem dX8_sameParts_17 : decode cX8_sameParts 17 = .ok (.iload 4, 2) := by decide +kernel
theorem dX8_sameParts_19 : decode cX8_sameParts 19 = .ok (.iadd, 1) := by decide +kernel
theorem dX8_sameParts_20 : decode cX8_sameParts 20 = .ok (.invokevirtual 28, 3) := by decide +kernel
theorem dX8_sameParts_23 : decode cX8_sameParts 23 = .ok (.aload_n 0, 1) := by decide +kernel
theorem dX8_sameParts_24 : decode cX8_sameParts 24 = .ok (.iload_n 2, 1) := by decide +kernel
theorem dX8_sameParts_25 : decode cX8_sameParts 25 = .ok (.iload 4, 2) := by decide +kernel
theorem dX8_sameParts_27 : decode cX8_sameParts 27 = .ok (.iadd, 1) := by decide +kernel
theorem dX8_sameParts_28 : decode cX8_sameParts 28 = .ok (.invokevirtual 28, 3) := by decide +kernel
theorem dX8_sameParts_31 : decode cX8_sameParts 31 = .ok (.if_icmp .ne 22, 3) := by decide +kernel
theorem dX8_sameParts_34 : decode cX8_sameParts 34 = .ok (.aload_n 0, 1) := by decide +kernel
theorem dX8_sameParts_35 : decode cX8_sameParts 35 = .ok (.iload_n 1, 1) := by decide +kernel
theorem dX8_sameParts_36 : decode cX8_sameParts 36 = .ok (.iload 4, 2) := by decide +kernel
theorem dX8_sameParts_38 : decode cX8_sameParts 38 = .ok (.iadd, 1) := by decide +kernel
theorem dX8_sameParts_39 : decode cX8_sameParts 39 = .ok (.invokevirtual 32, 3) := by decide +kernel
theorem dX8_sameParts_42 : decode cX8_sameParts 42 = .ok (.aload_n 0, 1) := by decide +kernel
theorem dX8_sameParts_43 : decode cX8_sameParts 43 = .ok (.iload_n 2, 1) := by decide +kernel
theorem dX8_sameParts_44 : decode cX8_sameParts 44 = .ok (.iload 4, 2) := by decide +kernel
theorem dX8_sameParts_46 : decode cX8_sameParts 46 = .ok (.iadd, 1) := by decide +kernel
theorem dX8_sameParts_47 : decode cX8_sameParts 47 = .ok (.invokevirtual 32, 3) := by decide +kernel
theorem dX8_sameParts_50 : decode cX8_sameParts 50 = .ok (.if_icmp .eq 5, 3) := by decide +kernel
theorem dX8_sameParts_53 : decode cX8_sameParts 53 = .ok (.iconst 0, 1) := by decide +kernel
theorem dX8_sameParts_54 : decode cX8_sameParts 54 = .ok (.ireturn, 1) := by decide +kernel
theorem dX8_sameParts_55 : decode cX8_sameParts 55 = .ok (.iinc 4 1, 3) := by decide +kernel
theorem dX8_sameParts_58 : decode cX8_sameParts 58 = .ok (.goto (-49), 3) := by decide +kernel
theorem dX8_sameParts_61 : decode cX8_sameParts 61 = .ok (.iconst 1, 1) := by decide +kernel
theorem dX8_sameParts_62 : decode cX8_sameParts 62 = .ok (.ireturn, 1) := by decide +kernel
theorem dX8_sameNodes_0 : decode cX8_sameNodes 0 = .ok (.aload_n 0, 1) := by decide +kernel
theorem dX8_sameNodes_1 : decode cX8_sameNodes 1 = .ok (.getfield 41, 3) := by decide +kernel
theorem dX8_sameNodes_4 : decode cX8_sameNodes 4 = .ok (.aload_n 1, 1) := by decide +kernel
theorem dX8_sameNodes_5 : decode cX8_sameNodes 5 = .ok (.getfield 41, 3) := by decide +kernel
theorem dX8_sameNodes_8 : decode cX8_sameNodes 8 = .ok (.invokestatic 45, 3) := by decide +kernel
theorem dX8_sameNodes_11 : decode cX8_sameNodes 11 = .ok (.istore_n 2, 1) := by decide +kernel
theorem dX8_sameNodes_12 : decode cX8_sameNodes 12 = .ok (.iconst 0, 1) := by decide +kernel
theorem dX8_sameNodes_13 : decode cX8_sameNodes 13 = .ok (.istore_n 3, 1) := by decide +kernel
theorem dX8_sameNodes_14 : decode cX8_sameNodes 14 = .ok (.iload_n 3, 1) := by decide +kernel
theorem dX8_sameNodes_15 : decode cX8_sameNodes 15 = .ok (.iload_n 2, 1) := by decide +kernel
theorem dX8_sameNodes_16 : decode cX8_sameNodes 16 = .ok (.if_icmp .ge 37, 3) := by decide +kernel
theorem dX8_sameNodes_19 : decode cX8_sameNodes 19 = .ok (.aload_n 0, 1) := by decide +kernel
theorem dX8_sameNodes_20 : decode cX8_sameNodes 20 = .ok (.iload_n 3, 1) := by decide +kernel
theorem dX8_sameNodes_21 : decode cX8_sameNodes 21 = .ok (.invokevirtual 28, 3) := by decide +kernel
theorem dX8_sameNodes_24 : decode cX8_sameNodes 24 = .ok (.aload_n 1, 1) := by decide +kernel
theorem dX8_sameNodes_25 : decode cX8_sameNodes 25 = .ok (.iload_n 3, 1) := by decide +kernel
theorem dX8_sameNodes_26 : decode cX8_sameNodes 26 = .ok (.invokevirtual 28, 3) := by decide +kernel
theorem dX8_sameNodes_29 : decode cX8_sameNodes 29 = .ok (.if_icmp .ne 16, 3) := by decide +kernel
theorem dX8_sameNodes_32 : decode cX8_sameNodes 32 = .ok (.aload_n 0, 1) := by decide +kernel
theorem dX8_sameNodes_33 : decode cX8_sameNodes 33 = .ok (.iload_n 3, 1) := by decide +kernel
theorem dX8_sameNodes_34 : decode cX8_sameNodes 34 = .ok (.invokevirtual 32, 3) := by decide +kernel
theorem dX8_sameNodes_37 : decode cX8_sameNodes 37 = .ok (.aload_n 1, 1) := by decide +kernel
theorem dX8_sameNodes_38 : decode cX8_sameNodes 38 = .ok (.iload_n 3, 1) := by decide +kernel
theorem dX8_sameNodes_39 : decode cX8_sameNodes 39 = .ok (.invokevirtual 32, 3) := by decide +kernel
theorem dX8_sameNodes_42 : decode cX8_sameNodes 42 = .ok (.if_icmp .eq 5, 3) := by decide +kernel
theorem dX8_sameNodes_45 : decode cX8_sameNodes 45 = .ok (.iload_n 3, 1) := by decide +kernel
theorem dX8_sameNodes_46 : decode cX8_sameNodes 46 = .ok (.ireturn, 1) := by decide +kernel
theorem dX8_sameNodes_47 : decode cX8_sameNodes 47 = .ok (.iinc 3 1, 3) := by decide +kernel
theorem dX8_sameNodes_50 : decode cX8_sameNodes 50 = .ok (.goto (-36), 3) := by decide +kernel
theorem dX8_sameNodes_53 : decode cX8_sameNodes 53 = .ok (.iload_n 2, 1) := by decide +kernel
theorem dX8_sameNodes_54 : decode cX8_sameNodes 54 = .ok (.ireturn, 1) := by decide +kernel
theorem dX8_countOfType_0 : decode cX8_countOfType 0 = .ok (.iconst 0, 1) := by decide +kernel
theorem dX8_countOfType_1 : decode cX8_countOfType 1 = .ok (.istore_n 2, 1) := by decide +kernel
theorem dX8_countOfType_2 : decode cX8_countOfType 2 = .ok (.iconst 0, 1) := by decide +kernel
theorem dX8_countOfType_3 : decode cX8_countOfType 3 = .ok (.istore_n 3, 1) := by decide +kernel
theorem dX8_countOfType_4 : decode cX8_countOfType 4 = .ok (.iload_n 3, 1) := by decide +kernel
theorem dX8_countOfType_5 : decode cX8_countOfType 5 = .ok (.aload_n 0, 1) := by decide +kernel
theorem dX8_countOfType_6 : decode cX8_countOfType 6 = .ok (.getfield 41, 3) := by decide +kernel
theorem dX8_countOfType_9 : decode cX8_countOfType 9 = .ok (.if_icmp .ge 21, 3) := by decide +kernel
theorem dX8_countOfType_12 : decode cX8_countOfType 12 = .ok (.aload_n 0, 1) := by decide +kernel
theorem dX8_countOfType_13 : decode cX8_countOfType 13 = .ok (.iload_n 3, 1) := by decide +kernel
theorem dX8_countOfType_14 : decode cX8_countOfType 14 = .ok (.invokevirtual 51, 3) := by decide +kernel
theorem dX8_countOfType_17 : decode cX8_countOfType 17 = .ok (.iload_n 1, 1) := by decide +kernel
theorem dX8_countOfType_18 : decode cX8_countOfType 18 = .ok (.if_icmp .ne 6, 3) := by decide +kernel
theorem dX8_countOfType_21 : decode cX8_countOfType 21 = .ok (.iinc 2 1, 3) := by decide +kernel
theorem dX8_countOfType_24 : decode cX8_countOfType 24 = .ok (.iinc 3 1, 3) := by decide +kernel
theorem dX8_countOfType_27 : decode cX8_countOfType 27 = .ok (.goto (-23), 3) := by decide +kernel
theorem dX8_countOfType_30 : decode cX8_countOfType 30 = .ok (.iload_n 2, 1) := by decide +kernel
theorem dX8_countOfType_31 : decode cX8_countOfType 31 = .ok (.ireturn, 1) := by decide +kernel
theorem dX8_placeOfType_0 : decode cX8_placeOfType 0 = .ok (.iconst 0, 1) := by decide +kernel
theorem dX8_placeOfType_1 : decode cX8_placeOfType 1 = .ok (.istore_n 3, 1) := by decide +kernel
theorem dX8_placeOfType_2 : decode cX8_placeOfType 2 = .ok (.iconst 0, 1) := by decide +kernel
theorem dX8_placeOfType_3 : decode cX8_placeOfType 3 = .ok (.istore 4, 2) := by decide +kernel
theorem dX8_placeOfType_5 : decode cX8_placeOfType 5 = .ok (.iload 4, 2) := by decide +kernel
theorem dX8_placeOfType_7 : decode cX8_placeOfType 7 = .ok (.aload_n 0, 1) := by decide +kernel
theorem dX8_placeOfType_8 : decode cX8_placeOfType 8 = .ok (.getfield 41, 3) := by decide +kernel
theorem dX8_placeOfType_11 : decode cX8_placeOfType 11 = .ok (.if_icmp .ge 30, 3) := by decide +kernel
theorem dX8_placeOfType_14 : decode cX8_placeOfType 14 = .ok (.aload_n 0, 1) := by decide +kernel
theorem dX8_placeOfType_15 : decode cX8_placeOfType 15 = .ok (.iload 4, 2) := by decide +kernel
theorem dX8_placeOfType_17 : decode cX8_placeOfType 17 = .ok (.invokevirtual 51, 3) := by decide +kernel
theorem dX8_placeOfType_20 : decode cX8_placeOfType 20 = .ok (.iload_n 1, 1) := by decide +kernel
theorem dX8_placeOfType_21 : decode cX8_placeOfType 21 = .ok (.if_icmp .ne 14, 3) := by decide +kernel
theorem dX8_placeOfType_24 : decode cX8_placeOfType 24 = .ok (.iload_n 3, 1) := by decide +kernel
theorem dX8_placeOfType_25 : decode cX8_placeOfType 25 = .ok (.iload_n 2, 1) := by decide +kernel
theorem dX8_placeOfType_26 : decode cX8_placeOfType 26 = .ok (.if_icmp .ne 6, 3) := by decide +kernel
theorem dX8_placeOfType_29 : decode cX8_placeOfType 29 = .ok (.iload 4, 2) := by decide +kernel
theorem dX8_placeOfType_31 : decode cX8_placeOfType 31 = .ok (.ireturn, 1) := by decide +kernel
theorem dX8_placeOfType_32 : decode cX8_placeOfType 32 = .ok (.iinc 3 1, 3) := by decide +kernel
theorem dX8_placeOfType_35 : decode cX8_placeOfType 35 = .ok (.iinc 4 1, 3) := by decide +kernel
theorem dX8_placeOfType_38 : decode cX8_placeOfType 38 = .ok (.goto (-33), 3) := by decide +kernel
theorem dX8_placeOfType_41 : decode cX8_placeOfType 41 = .ok (.iconst 0, 1) := by decide +kernel
theorem dX8_placeOfType_42 : decode cX8_placeOfType 42 = .ok (.ireturn, 1) := by decide +kernel
theorem dX8_write_0 : decode cX8_write 0 = .ok (.aload_n 0, 1) := by decide +kernel
theorem dX8_write_1 : decode cX8_write 1 = .ok (.getfield 9, 3) := by decide +kernel
theorem dX8_write_4 : decode cX8_write 4 = .ok (.iload_n 1, 1) := by decide +kernel
theorem dX8_write_5 : decode cX8_write 5 = .ok (.iload_n 2, 1) := by decide +kernel
theorem dX8_write_6 : decode cX8_write 6 = .ok (.invokestatic 55, 3) := by decide +kernel
theorem dX8_write_9 : decode cX8_write 9 = .ok (.aload_n 0, 1) := by decide +kernel
theorem dX8_write_10 : decode cX8_write 10 = .ok (.getfield 15, 3) := by decide +kernel
theorem dX8_write_13 : decode cX8_write 13 = .ok (.iload_n 1, 1) := by decide +kernel
theorem dX8_write_14 : decode cX8_write 14 = .ok (.iload_n 2, 1) := by decide +kernel
theorem dX8_write_15 : decode cX8_write 15 = .ok (.iconst 1, 1) := by decide +kernel
theorem dX8_write_16 : decode cX8_write 16 = .ok (.if_icmp .gt 7, 3) := by decide +kernel
theorem dX8_write_19 : decode cX8_write 19 = .ok (.iload_n 3, 1) := by decide +kernel
theorem dX8_write_20 : decode cX8_write 20 = .ok (.goto 4, 3) := by decide +kernel
theorem dX8_write_23 : decode cX8_write 23 = .ok (.iconst 0, 1) := by decide +kernel
theorem dX8_write_24 : decode cX8_write 24 = .ok (.invokestatic 55, 3) := by decide +kernel
theorem dX8_write_27 : decode cX8_write 27 = .ok (.return_, 1) := by decide +kernel
theorem dX8_append_0 : decode cX8_append 0 = .ok (.aload_n 0, 1) := by decide +kernel
theorem dX8_append_1 : decode cX8_append 1 = .ok (.getfield 41, 3) := by decide +kernel
theorem dX8_append_4 : decode cX8_append 4 = .ok (.bipush 40, 2) := by decide +kernel
theorem dX8_append_6 : decode cX8_append 6 = .ok (.if_icmp .ge 23, 3) := by decide +kernel
theorem dX8_append_9 : decode cX8_append 9 = .ok (.aload_n 0, 1) := by decide +kernel
theorem dX8_append_10 : decode cX8_append 10 = .ok (.aload_n 0, 1) := by decide +kernel
theorem dX8_append_11 : decode cX8_append 11 = .ok (.getfield 41, 3) := by decide +kernel
theorem dX8_append_14 : decode cX8_append 14 = .ok (.iload_n 1, 1) := by decide +kernel
theorem dX8_append_15 : decode cX8_append 15 = .ok (.iload_n 2, 1) := by decide +kernel
theorem dX8_append_16 : decode cX8_append 16 = .ok (.invokevirtual 59, 3) := by decide +kernel
theorem dX8_append_19 : decode cX8_append 19 = .ok (.aload_n 0, 1) := by decide +kernel
theorem dX8_append_20 : decode cX8_append 20 = .ok (.dup, 1) := by decide +kernel
theorem dX8_append_21 : decode cX8_append 21 = .ok (.getfield 41, 3) := by decide +kernel
theorem dX8_append_24 : decode cX8_append 24 = .ok (.iconst 1, 1) := by decide +kernel
theorem dX8_append_25 : decode cX8_append 25 = .ok (.iadd, 1) := by decide +kernel
theorem dX8_append_26 : decode cX8_append 26 = .ok (.putfield 41, 3) := by decide +kernel
theorem dX8_append_29 : decode cX8_append 29 = .ok (.return_, 1) := by decide +kernel
theorem dX8_copyFrom_0 : decode cX8_copyFrom 0 = .ok (.aload_n 0, 1) := by decide +kernel
theorem dX8_copyFrom_1 : decode cX8_copyFrom 1 = .ok (.iconst 0, 1) := by decide +kernel
theorem dX8_copyFrom_2 : decode cX8_copyFrom 2 = .ok (.putfield 41, 3) := by decide +kernel
theorem dX8_copyFrom_5 : decode cX8_copyFrom 5 = .ok (.aload_n 0, 1) := by decide +kernel
theorem dX8_copyFrom_6 : decode cX8_copyFrom 6 = .ok (.aload_n 1, 1) := by decide +kernel
theorem dX8_copyFrom_7 : decode cX8_copyFrom 7 = .ok (.iconst 0, 1) := by decide +kernel
theorem dX8_copyFrom_8 : decode cX8_copyFrom 8 = .ok (.aload_n 1, 1) := by decide +kernel
theorem dX8_copyFrom_9 : decode cX8_copyFrom 9 = .ok (.getfield 41, 3) := by decide +kernel
theorem dX8_copyFrom_12 : decode cX8_copyFrom 12 = .ok (.invokevirtual 63, 3) := by decide +kernel
theorem dX8_copyFrom_15 : decode cX8_copyFrom 15 = .ok (.aload_n 0, 1) := by decide +kernel
theorem dX8_copyFrom_16 : decode cX8_copyFrom 16 = .ok (.invokevirtual 67, 3) := by decide +kernel
theorem dX8_copyFrom_19 : decode cX8_copyFrom 19 = .ok (.return_, 1) := by decide +kernel
theorem dX8_makeConstant_0 : decode cX8_makeConstant 0 = .ok (.aload_n 0, 1) := by decide +kernel
theorem dX8_makeConstant_1 : decode cX8_makeConstant 1 = .ok (.iload_n 1, 1) := by decide +kernel
theorem dX8_makeConstant_2 : decode cX8_makeConstant 2 = .ok (.invokevirtual 35, 3) := by decide +kernel
theorem dX8_makeConstant_5 : decode cX8_makeConstant 5 = .ok (.istore_n 3, 1) := by decide +kernel
theorem dX8_makeConstant_6 : decode cX8_makeConstant 6 = .ok (.aload_n 0, 1) := by decide +kernel
theorem dX8_makeConstant_7 : decode cX8_makeConstant 7 = .ok (.iload_n 1, 1) := by decide +kernel
theorem dX8_makeConstant_8 : decode cX8_makeConstant 8 = .ok (.iconst 0, 1) := by decide +kernel
theorem dX8_makeConstant_9 : decode cX8_makeConstant 9 = .ok (.iload_n 2, 1) := by decide +kernel
theorem dX8_makeConstant_10 : decode cX8_makeConstant 10 = .ok (.invokevirtual 59, 3) := by decide +kernel
theorem dX8_makeConstant_13 : decode cX8_makeConstant 13 = .ok (.aload_n 0, 1) := by decide +kernel
theorem dX8_makeConstant_14 : decode cX8_makeConstant 14 = .ok (.iload_n 1, 1) := by decide +kernel
theorem dX8_makeConstant_15 : decode cX8_makeConstant 15 = .ok (.iconst 1, 1) := by decide +kernel
theorem dX8_makeConstant_16 : decode cX8_makeConstant 16 = .ok (.iadd, 1) := by decide +kernel
theorem dX8_makeConstant_17 : decode cX8_makeConstant 17 = .ok (.iload_n 3, 1) := by decide +kernel
theorem dX8_makeConstant_18 : decode cX8_makeConstant 18 = .ok (.invokevirtual 70, 3) := by decide +kernel
theorem dX8_makeConstant_21 : decode cX8_makeConstant 21 = .ok (.aload_n 0, 1) := by decide +kernel
theorem dX8_makeConstant_22 : decode cX8_makeConstant 22 = .ok (.invokevirtual 67, 3) := by decide +kernel
theorem dX8_makeConstant_25 : decode cX8_makeConstant 25 = .ok (.return_, 1) := by decide +kernel
theorem dX8_keepPart_0 : decode cX8_keepPart 0 = .ok (.aload_n 0, 1) := by decide +kernel
theorem dX8_keepPart_1 : decode cX8_keepPart 1 = .ok (.iload_n 1, 1) := by decide +kernel
theorem dX8_keepPart_2 : decode cX8_keepPart 2 = .ok (.invokevirtual 35, 3) := by decide +kernel
theorem dX8_keepPart_5 : decode cX8_keepPart 5 = .ok (.istore_n 3, 1) := by decide +kernel
theorem dX8_keepPart_6 : decode cX8_keepPart 6 = .ok (.aload_n 0, 1) := by decide +kernel
theorem dX8_keepPart_7 : decode cX8_keepPart 7 = .ok (.iload_n 2, 1) := by decide +kernel
theorem dX8_keepPart_8 : decode cX8_keepPart 8 = .ok (.invokevirtual 38, 3) := by decide +kernel
theorem dX8_keepPart_11 : decode cX8_keepPart 11 = .ok (.istore 4, 2) := by decide +kernel
theorem dX8_keepPart_13 : decode cX8_keepPart 13 = .ok (.iconst 0, 1) := by decide +kernel
theorem dX8_keepPart_14 : decode cX8_keepPart 14 = .ok (.istore 5, 2) := by decide +kernel
theorem dX8_keepPart_16 : decode cX8_keepPart 16 = .ok (.iload 5, 2) := by decide +kernel
theorem dX8_keepPart_18 : decode cX8_keepPart 18 = .ok (.iload 4, 2) := by decide +kernel
theorem dX8_keepPart_20 : decode cX8_keepPart 20 = .ok (.if_icmp .ge 33, 3) := by decide +kernel
theorem dX8_keepPart_23 : decode cX8_keepPart 23 = .ok (.aload_n 0, 1) := by decide +kernel
theorem dX8_keepPart_24 : decode cX8_keepPart 24 = .ok (.iload_n 1, 1) := by decide +kernel
theorem dX8_keepPart_25 : decode cX8_keepPart 25 = .ok (.iload 5, 2) := by decide +kernel
theorem dX8_keepPart_27 : decode cX8_keepPart 27 = .ok (.iadd, 1) := by decide +kernel
theorem dX8_keepPart_28 : decode cX8_keepPart 28 = .ok (.aload_n 0, 1) := by decide +kernel
theorem dX8_keepPart_29 : decode cX8_keepPart 29 = .ok (.iload_n 2, 1) := by decide +kernel
theorem dX8_keepPart_30 : decode cX8_keepPart 30 = .ok (.iload 5, 2) := by decide +kernel
theorem dX8_keepPart_32 : decode cX8_keepPart 32 = .ok (.iadd, 1) := by decide +kernel
theorem dX8_keepPart_33 : decode cX8_keepPart 33 = .ok (.invokevirtual 28, 3) := by decide +kernel
theorem dX8_keepPart_36 : decode cX8_keepPart 36 = .ok (.aload_n 0, 1) := by decide +kernel
theorem dX8_keepPart_37 : decode cX8_keepPart 37 = .ok (.iload_n 2, 1) := by decide +kernel
theorem dX8_keepPart_38 : decode cX8_keepPart 38 = .ok (.iload 5, 2) := by decide +kernel
theorem dX8_keepPart_40 : decode cX8_keepPart 40 = .ok (.iadd, 1) := by decide +kernel
theorem dX8_keepPart_41 : decode cX8_keepPart 41 = .ok (.invokevirtual 32, 3) := by decide +kernel
theorem dX8_keepPart_44 : decode cX8_keepPart 44 = .ok (.invokevirtual 59, 3) := by decide +kernel
theorem dX8_keepPart_47 : decode cX8_keepPart 47 = .ok (.iinc 5 1, 3) := by decide +kernel
theorem dX8_keepPart_50 : decode cX8_keepPart 50 = .ok (.goto (-34), 3) := by decide +kernel
theorem dX8_keepPart_53 : decode cX8_keepPart 53 = .ok (.aload_n 0, 1) := by decide +kernel
theorem dX8_keepPart_54 : decode cX8_keepPart 54 = .ok (.iload_n 1, 1) := by decide +kernel
theorem dX8_keepPart_55 : decode cX8_keepPart 55 = .ok (.iload 4, 2) := by decide +kernel
theorem dX8_keepPart_57 : decode cX8_keepPart 57 = .ok (.iadd, 1) := by decide +kernel
theorem dX8_keepPart_58 : decode cX8_keepPart 58 = .ok (.iload_n 3, 1) := by decide +kernel
theorem dX8_keepPart_59 : decode cX8_keepPart 59 = .ok (.invokevirtual 70, 3) := by decide +kernel
theorem dX8_keepPart_62 : decode cX8_keepPart 62 = .ok (.aload_n 0, 1) := by decide +kernel
theorem dX8_keepPart_63 : decode cX8_keepPart 63 = .ok (.invokevirtual 67, 3) := by decide +kernel
theorem dX8_keepPart_66 : decode cX8_keepPart 66 = .ok (.return_, 1) := by decide +kernel
theorem dX8_becomeCrossed_0 : decode cX8_becomeCrossed 0 = .ok (.aload_n 1, 1) := by decide +kernel
theorem dX8_becomeCrossed_1 : decode cX8_becomeCrossed 1 = .ok (.getfield 41, 3) := by decide +kernel
theorem dX8_becomeCrossed_4 : decode cX8_becomeCrossed 4 = .ok (.aload_n 1, 1) := by decide +kernel
theorem dX8_becomeCrossed_5 : decode cX8_becomeCrossed 5 = .ok (.iload_n 2, 1) := by decide +kernel
theorem dX8_becomeCrossed_6 : decode cX8_becomeCrossed 6 = .ok (.invokevirtual 38, 3) := by decide +kernel
theorem dX8_becomeCrossed_9 : decode cX8_becomeCrossed 9 = .ok (.isub, 1) := by decide +kernel
theorem dX8_becomeCrossed_10 : decode cX8_becomeCrossed 10 = .ok (.aload_n 3, 1) := by decide +kernel
theorem dX8_becomeCrossed_11 : decode cX8_becomeCrossed 11 = .ok (.iload 4, 2) := by decide +kernel
theorem dX8_becomeCrossed_13 : decode cX8_becomeCrossed 13 = .ok (.invokevirtual 38, 3) := by decide +kernel
theorem dX8_becomeCrossed_16 : decode cX8_becomeCrossed 16 = .ok (.iadd, 1) := by decide +kernel
theorem dX8_becomeCrossed_17 : decode cX8_becomeCrossed 17 = .ok (.istore 5, 2) := by decide +kernel
theorem dX8_becomeCrossed_19 : decode cX8_becomeCrossed 19 = .ok (.aload_n 1, 1) := by decide +kernel
theorem dX8_becomeCrossed_20 : decode cX8_becomeCrossed 20 = .ok (.iload_n 2, 1) := by decide +kernel
theorem dX8_becomeCrossed_21 : decode cX8_becomeCrossed 21 = .ok (.invokevirtual 51, 3) := by decide +kernel
theorem dX8_becomeCrossed_24 : decode cX8_becomeCrossed 24 = .ok (.aload_n 3, 1) := by decide +kernel
theorem dX8_becomeCrossed_25 : decode cX8_becomeCrossed 25 = .ok (.iload 4, 2) := by decide +kernel
theorem dX8_becomeCrossed_27 : decode cX8_becomeCrossed 27 = .ok (.invokevirtual 51, 3) := by decide +kernel
theorem dX8_becomeCrossed_30 : decode cX8_becomeCrossed 30 = .ok (.if_icmp .ne 10, 3) := by decide +kernel
theorem dX8_becomeCrossed_33 : decode cX8_becomeCrossed 33 = .ok (.iload 5, 2) := by decide +kernel
theorem dX8_becomeCrossed_35 : decode cX8_becomeCrossed 35 = .ok (.bipush 40, 2) := by decide +kernel
theorem dX8_becomeCrossed_37 : decode cX8_becomeCrossed 37 = .ok (.if_icmp .le 5, 3) := by decide +kernel
theorem dX8_becomeCrossed_40 : decode cX8_becomeCrossed 40 = .ok (.iconst 0, 1) := by decide +kernel
theorem dX8_becomeCrossed_41 : decode cX8_becomeCrossed 41 = .ok (.ireturn, 1) := by decide +kernel
theorem dX8_becomeCrossed_42 : decode cX8_becomeCrossed 42 = .ok (.aload_n 0, 1) := by decide +kernel
theorem dX8_becomeCrossed_43 : decode cX8_becomeCrossed 43 = .ok (.iconst 0, 1) := by decide +kernel
theorem dX8_becomeCrossed_44 : decode cX8_becomeCrossed 44 = .ok (.putfield 41, 3) := by decide +kernel
theorem dX8_becomeCrossed_47 : decode cX8_becomeCrossed 47 = .ok (.aload_n 0, 1) := by decide +kernel
theorem dX8_becomeCrossed_48 : decode cX8_becomeCrossed 48 = .ok (.aload_n 1, 1) := by decide +kernel
theorem dX8_becomeCrossed_49 : decode cX8_becomeCrossed 49 = .ok (.iconst 0, 1) := by decide +kernel
theorem dX8_becomeCrossed_50 : decode cX8_becomeCrossed 50 = .ok (.iload_n 2, 1) := by decide +kernel
theorem dX8_becomeCrossed_51 : decode cX8_becomeCrossed 51 = .ok (.invokevirtual 63, 3) := by decide +kernel
theorem dX8_becomeCrossed_54 : decode cX8_becomeCrossed 54 = .ok (.aload_n 0, 1) := by decide +kernel
theorem dX8_becomeCrossed_55 : decode cX8_becomeCrossed 55 = .ok (.aload_n 3, 1) := by decide +kernel
theorem dX8_becomeCrossed_56 : decode cX8_becomeCrossed 56 = .ok (.iload 4, 2) := by decide +kernel
theorem dX8_becomeCrossed_58 : decode cX8_becomeCrossed 58 = .ok (.aload_n 3, 1) := by decide +kernel
theorem dX8_becomeCrossed_59 : decode cX8_becomeCrossed 59 = .ok (.iload 4, 2) := by decide +kernel
theorem dX8_becomeCrossed_61 : decode cX8_becomeCrossed 61 = .ok (.invokevirtual 35, 3) := by decide +kernel
theorem dX8_becomeCrossed_64 : decode cX8_becomeCrossed 64 = .ok (.invokevirtual 63, 3) := by decide +kernel
theorem dX8_becomeCrossed_67 : decode cX8_becomeCrossed 67 = .ok (.aload_n 0, 1) := by decide +kernel
theorem dX8_becomeCrossed_68 : decode cX8_becomeCrossed 68 = .ok (.aload_n 1, 1) := by decide +kernel
theorem dX8_becomeCrossed_69 : decode cX8_becomeCrossed 69 = .ok (.aload_n 1, 1) := by decide +kernel
theorem dX8_becomeCrossed_70 : decode cX8_becomeCrossed 70 = .ok (.iload_n 2, 1) := by decide +kernel
theorem dX8_becomeCrossed_71 : decode cX8_becomeCrossed 71 = .ok (.invokevirtual 35, 3) := by decide +kernel
theorem dX8_becomeCrossed_74 : decode cX8_becomeCrossed 74 = .ok (.aload_n 1, 1) := by decide +kernel
theorem dX8_becomeCrossed_75 : decode cX8_becomeCrossed 75 = .ok (.getfield 41, 3) := by decide +kernel
theorem dX8_becomeCrossed_78 : decode cX8_becomeCrossed 78 = .ok (.invokevirtual 63, 3) := by decide +kernel
theorem dX8_becomeCrossed_81 : decode cX8_becomeCrossed 81 = .ok (.aload_n 0, 1) := by decide +kernel
theorem dX8_becomeCrossed_82 : decode cX8_becomeCrossed 82 = .ok (.invokevirtual 67, 3) := by decide +kernel
theorem dX8_becomeCrossed_85 : decode cX8_becomeCrossed 85 = .ok (.aload_n 0, 1) := by decide +kernel
theorem dX8_becomeCrossed_86 : decode cX8_becomeCrossed 86 = .ok (.getfield 74, 3) := by decide +kernel
theorem dX8_becomeCrossed_89 : decode cX8_becomeCrossed 89 = .ok (.bipush 8, 2) := by decide +kernel
theorem dX8_becomeCrossed_91 : decode cX8_becomeCrossed 91 = .ok (.if_icmp .gt 7, 3) := by decide +kernel
theorem dX8_becomeCrossed_94 : decode cX8_becomeCrossed 94 = .ok (.iconst 1, 1) := by decide +kernel
theorem dX8_becomeCrossed_95 : decode cX8_becomeCrossed 95 = .ok (.goto 4, 3) := by decide +kernel
theorem dX8_becomeCrossed_98 : decode cX8_becomeCrossed 98 = .ok (.iconst 0, 1) := by decide +kernel
theorem dX8_becomeCrossed_99 : decode cX8_becomeCrossed 99 = .ok (.ireturn, 1) := by decide +kernel
theorem dX8_appendFrom_0 : decode cX8_appendFrom 0 = .ok (.iload_n 2, 1) := by decide +kernel
theorem dX8_appendFrom_1 : decode cX8_appendFrom 1 = .ok (.istore 4, 2) := by decide +kernel
theorem dX8_appendFrom_3 : decode cX8_appendFrom 3 = .ok (.iload 4, 2) := by decide +kernel
theorem dX8_appendFrom_5 : decode cX8_appendFrom 5 = .ok (.iload_n 3, 1) := by decide +kernel
theorem dX8_appendFrom_6 : decode cX8_appendFrom 6 = .ok (.if_icmp .ge 59, 3) := by decide +kernel
theorem dX8_appendFrom_9 : decode cX8_appendFrom 9 = .ok (.aload_n 0, 1) := by decide +kernel
theorem dX8_appendFrom_10 : decode cX8_appendFrom 10 = .ok (.getfield 9, 3) := by decide +kernel
theorem dX8_appendFrom_13 : decode cX8_appendFrom 13 = .ok (.aload_n 0, 1) := by decide +kernel
theorem dX8_appendFrom_14 : decode cX8_appendFrom 14 = .ok (.getfield 41, 3) := by decide +kernel
theorem dX8_appendFrom_17 : decode cX8_appendFrom 17 = .ok (.aload_n 1, 1) := by decide +kernel
theorem dX8_appendFrom_18 : decode cX8_appendFrom 18 = .ok (.getfield 9, 3) := by decide +kernel
theorem dX8_appendFrom_21 : decode cX8_appendFrom 21 = .ok (.iload 4, 2) := by decide +kernel
theorem dX8_appendFrom_23 : decode cX8_appendFrom 23 = .ok (.invokestatic 24, 3) := by decide +kernel
theorem dX8_appendFrom_26 : decode cX8_appendFrom 26 = .ok (.invokestatic 55, 3) := by decide +kernel
theorem dX8_appendFrom_29 : decode cX8_appendFrom 29 = .ok (.aload_n 0, 1) := by decide +kernel
theorem dX8_appendFrom_30 : decode cX8_appendFrom 30 = .ok (.getfield 15, 3) := by decide +kernel
theorem dX8_appendFrom_33 : decode cX8_appendFrom 33 = .ok (.aload_n 0, 1) := by decide +kernel
theorem dX8_appendFrom_34 : decode cX8_appendFrom 34 = .ok (.getfield 41, 3) := by decide +kernel
theorem dX8_appendFrom_37 : decode cX8_appendFrom 37 = .ok (.aload_n 1, 1) := by decide +kernel
theorem dX8_appendFrom_38 : decode cX8_appendFrom 38 = .ok (.getfield 15, 3) := by decide +kernel
theorem dX8_appendFrom_41 : decode cX8_appendFrom 41 = .ok (.iload 4, 2) := by decide +kernel
theorem dX8_appendFrom_43 : decode cX8_appendFrom 43 = .ok (.invokestatic 24, 3) := by decide +kernel
theorem dX8_appendFrom_46 : decode cX8_appendFrom 46 = .ok (.invokestatic 55, 3) := by decide +kernel
theorem dX8_appendFrom_49 : decode cX8_appendFrom 49 = .ok (.aload_n 0, 1) := by decide +kernel
theorem dX8_appendFrom_50 : decode cX8_appendFrom 50 = .ok (.dup, 1) := by decide +kernel
theorem dX8_appendFrom_51 : decode cX8_appendFrom 51 = .ok (.getfield 41, 3) := by decide +kernel
theorem dX8_appendFrom_54 : decode cX8_appendFrom 54 = .ok (.iconst 1, 1) := by decide +kernel
theorem dX8_appendFrom_55 : decode cX8_appendFrom 55 = .ok (.iadd, 1) := by decide +kernel
theorem dX8_appendFrom_56 : decode cX8_appendFrom 56 = .ok (.putfield 41, 3) := by decide +kernel
theorem dX8_appendFrom_59 : decode cX8_appendFrom 59 = .ok (.iinc 4 1, 3) := by decide +kernel
theorem dX8_appendFrom_62 : decode cX8_appendFrom 62 = .ok (.goto (-59), 3) := by decide +kernel
theorem dX8_appendFrom_65 : decode cX8_appendFrom 65 = .ok (.return_, 1) := by decide +kernel
end
section
theorem dX8_closeGap_0 : decode cX8_closeGap 0 = .ok (.iload_n 2, 1) := by decide +kernel
theorem dX8_closeGap_1 : decode cX8_closeGap 1 = .ok (.iload_n 1, 1) := by decide +kernel
theorem dX8_closeGap_2 : decode cX8_closeGap 2 = .ok (.isub, 1) := by decide +kernel
theorem dX8_closeGap_3 : decode cX8_closeGap 3 = .ok (.istore_n 3, 1) := by decide +kernel
theorem dX8_closeGap_4 : decode cX8_closeGap 4 = .ok (.iload_n 2, 1) := by decide +kernel
theorem dX8_closeGap_5 : decode cX8_closeGap 5 = .ok (.istore 4, 2) := by decide +kernel
theorem dX8_closeGap_7 : decode cX8_closeGap 7 = .ok (.iload 4, 2) := by decide +kernel
theorem dX8_closeGap_9 : decode cX8_closeGap 9 = .ok (.aload_n 0, 1) := by decide +kernel
theorem dX8_closeGap_10 : decode cX8_closeGap 10 = .ok (.getfield 41, 3) := by decide +kernel
theorem dX8_closeGap_13 : decode cX8_closeGap 13 = .ok (.if_icmp .ge 49, 3) := by decide +kernel
theorem dX8_closeGap_16 : decode cX8_closeGap 16 = .ok (.aload_n 0, 1) := by decide +kernel
theorem dX8_closeGap_17 : decode cX8_closeGap 17 = .ok (.getfield 9, 3) := by decide +kernel
theorem dX8_closeGap_20 : decode cX8_closeGap 20 = .ok (.iload 4, 2) := by decide +kernel
theorem dX8_closeGap_22 : decode cX8_closeGap 22 = .ok (.iload_n 3, 1) := by decide +kernel
theorem dX8_closeGap_23 : decode cX8_closeGap 23 = .ok (.isub, 1) := by decide +kernel
theorem dX8_closeGap_24 : decode cX8_closeGap 24 = .ok (.aload_n 0, 1) := by decide +kernel
theorem dX8_closeGap_25 : decode cX8_closeGap 25 = .ok (.getfield 9, 3) := by decide +kernel
theorem dX8_closeGap_28 : decode cX8_closeGap 28 = .ok (.iload 4, 2) := by decide +kernel
theorem dX8_closeGap_30 : decode cX8_closeGap 30 = .ok (.invokestatic 24, 3) := by decide +kernel
theorem dX8_closeGap_33 : decode cX8_closeGap 33 = .ok (.invokestatic 55, 3) := by decide +kernel
theorem dX8_closeGap_36 : decode cX8_closeGap 36 = .ok (.aload_n 0, 1) := by decide +kernel
theorem dX8_closeGap_37 : decode cX8_closeGap 37 = .ok (.getfield 15, 3) := by decide +kernel
theorem dX8_closeGap_40 : decode cX8_closeGap 40 = .ok (.iload 4, 2) := by decide +kernel
theorem dX8_closeGap_42 : decode cX8_closeGap 42 = .ok (.iload_n 3, 1) := by decide +kernel
theorem dX8_closeGap_43 : decode cX8_closeGap 43 = .ok (.isub, 1) := by decide +kernel
theorem dX8_closeGap_44 : decode cX8_closeGap 44 = .ok (.aload_n 0, 1) := by decide +kernel
theorem dX8_closeGap_45 : decode cX8_closeGap 45 = .ok (.getfield 15, 3) := by decide +kernel
theorem dX8_closeGap_48 : decode cX8_closeGap 48 = .ok (.iload 4, 2) := by decide +kernel
theorem dX8_closeGap_50 : decode cX8_closeGap 50 = .ok (.invokestatic 24, 3) := by decide +kernel
theorem dX8_closeGap_53 : decode cX8_closeGap 53 = .ok (.invokestatic 55, 3) := by decide +kernel
theorem dX8_closeGap_56 : decode cX8_closeGap 56 = .ok (.iinc 4 1, 3) := by decide +kernel
theorem dX8_closeGap_59 : decode cX8_closeGap 59 = .ok (.goto (-52), 3) := by decide +kernel
theorem dX8_closeGap_62 : decode cX8_closeGap 62 = .ok (.aload_n 0, 1) := by decide +kernel
theorem dX8_closeGap_63 : decode cX8_closeGap 63 = .ok (.dup, 1) := by decide +kernel
theorem dX8_closeGap_64 : decode cX8_closeGap 64 = .ok (.getfield 41, 3) := by decide +kernel
theorem dX8_closeGap_67 : decode cX8_closeGap 67 = .ok (.iload_n 3, 1) := by decide +kernel
theorem dX8_closeGap_68 : decode cX8_closeGap 68 = .ok (.isub, 1) := by decide +kernel
theorem dX8_closeGap_69 : decode cX8_closeGap 69 = .ok (.putfield 41, 3) := by decide +kernel
theorem dX8_closeGap_72 : decode cX8_closeGap 72 = .ok (.return_, 1) := by decide +kernel
theorem dX8_measure_0 : decode cX8_measure 0 = .ok (.aload_n 0, 1) := by decide +kernel
theorem dX8_measure_1 : decode cX8_measure 1 = .ok (.getfield 41, 3) := by decide +kernel
theorem dX8_measure_4 : decode cX8_measure 4 = .ok (.iconst 1, 1) := by decide +kernel
theorem dX8_measure_5 : decode cX8_measure 5 = .ok (.isub, 1) := by decide +kernel
theorem dX8_measure_6 : decode cX8_measure 6 = .ok (.istore_n 1, 1) := by decide +kernel
theorem dX8_measure_7 : decode cX8_measure 7 = .ok (.iload_n 1, 1) := by decide +kernel
theorem dX8_measure_8 : decode cX8_measure 8 = .ok (.ifCond .lt 95, 3) := by decide +kernel
theorem dX8_measure_11 : decode cX8_measure 11 = .ok (.getstatic 77, 3) := by decide +kernel
theorem dX8_measure_14 : decode cX8_measure 14 = .ok (.aload_n 0, 1) := by decide +kernel
theorem dX8_measure_15 : decode cX8_measure 15 = .ok (.getfield 9, 3) := by decide +kernel
theorem dX8_measure_18 : decode cX8_measure 18 = .ok (.iload_n 1, 1) := by decide +kernel
theorem dX8_measure_19 : decode cX8_measure 19 = .ok (.invokestatic 24, 3) := by decide +kernel
theorem dX8_measure_22 : decode cX8_measure 22 = .ok (.invokestatic 24, 3) := by decide +kernel
theorem dX8_measure_25 : decode cX8_measure 25 = .ok (.istore_n 2, 1) := by decide +kernel
theorem dX8_measure_26 : decode cX8_measure 26 = .ok (.iload_n 1, 1) := by decide +kernel
theorem dX8_measure_27 : decode cX8_measure 27 = .ok (.iconst 1, 1) := by decide +kernel
theorem dX8_measure_28 : decode cX8_measure 28 = .ok (.iadd, 1) := by decide +kernel
theorem dX8_measure_29 : decode cX8_measure 29 = .ok (.istore_n 3, 1) := by decide +kernel
theorem dX8_measure_30 : decode cX8_measure 30 = .ok (.iconst 0, 1) := by decide +kernel
theorem dX8_measure_31 : decode cX8_measure 31 = .ok (.istore 4, 2) := by decide +kernel
theorem dX8_measure_33 : decode cX8_measure 33 = .ok (.iconst 0, 1) := by decide +kernel
theorem dX8_measure_34 : decode cX8_measure 34 = .ok (.istore 5, 2) := by decide +kernel
theorem dX8_measure_36 : decode cX8_measure 36 = .ok (.iload 5, 2) := by decide +kernel
theorem dX8_measure_38 : decode cX8_measure 38 = .ok (.iload_n 2, 1) := by decide +kernel
theorem dX8_measure_39 : decode cX8_measure 39 = .ok (.if_icmp .ge 35, 3) := by decide +kernel
theorem dX8_measure_42 : decode cX8_measure 42 = .ok (.iload 4, 2) := by decide +kernel
theorem dX8_measure_44 : decode cX8_measure 44 = .ok (.aload_n 0, 1) := by decide +kernel
theorem dX8_measure_45 : decode cX8_measure 45 = .ok (.getfield 21, 3) := by decide +kernel
theorem dX8_measure_48 : decode cX8_measure 48 = .ok (.iload_n 3, 1) := by decide +kernel
theorem dX8_measure_49 : decode cX8_measure 49 = .ok (.invokestatic 24, 3) := by decide +kernel
theorem dX8_measure_52 : decode cX8_measure 52 = .ok (.invokestatic 80, 3) := by decide +kernel
theorem dX8_measure_55 : decode cX8_measure 55 = .ok (.istore 4, 2) := by decide +kernel
theorem dX8_measure_57 : decode cX8_measure 57 = .ok (.iload_n 3, 1) := by decide +kernel
theorem dX8_measure_58 : decode cX8_measure 58 = .ok (.aload_n 0, 1) := by decide +kernel
theorem dX8_measure_59 : decode cX8_measure 59 = .ok (.getfield 18, 3) := by decide +kernel
theorem dX8_measure_62 : decode cX8_measure 62 = .ok (.iload_n 3, 1) := by decide +kernel
theorem dX8_measure_63 : decode cX8_measure 63 = .ok (.invokestatic 24, 3) := by decide +kernel
theorem dX8_measure_66 : decode cX8_measure 66 = .ok (.iadd, 1) := by decide +kernel
theorem dX8_measure_67 : decode cX8_measure 67 = .ok (.istore_n 3, 1) := by decide +kernel
theorem dX8_measure_68 : decode cX8_measure 68 = .ok (.iinc 5 1, 3) := by decide +kernel
theorem dX8_measure_71 : decode cX8_measure 71 = .ok (.goto (-35), 3) := by decide +kernel
theorem dX8_measure_74 : decode cX8_measure 74 = .ok (.aload_n 0, 1) := by decide +kernel
theorem dX8_measure_75 : decode cX8_measure 75 = .ok (.getfield 18, 3) := by decide +kernel
theorem dX8_measure_78 : decode cX8_measure 78 = .ok (.iload_n 1, 1) := by decide +kernel
theorem dX8_measure_79 : decode cX8_measure 79 = .ok (.iload_n 3, 1) := by decide +kernel
theorem dX8_measure_80 : decode cX8_measure 80 = .ok (.iload_n 1, 1) := by decide +kernel
theorem dX8_measure_81 : decode cX8_measure 81 = .ok (.isub, 1) := by decide +kernel
theorem dX8_measure_82 : decode cX8_measure 82 = .ok (.invokestatic 55, 3) := by decide +kernel
theorem dX8_measure_85 : decode cX8_measure 85 = .ok (.aload_n 0, 1) := by decide +kernel
theorem dX8_measure_86 : decode cX8_measure 86 = .ok (.getfield 21, 3) := by decide +kernel
theorem dX8_measure_89 : decode cX8_measure 89 = .ok (.iload_n 1, 1) := by decide +kernel
theorem dX8_measure_90 : decode cX8_measure 90 = .ok (.iload 4, 2) := by decide +kernel
theorem dX8_measure_92 : decode cX8_measure 92 = .ok (.iconst 1, 1) := by decide +kernel
theorem dX8_measure_93 : decode cX8_measure 93 = .ok (.iadd, 1) := by decide +kernel
theorem dX8_measure_94 : decode cX8_measure 94 = .ok (.invokestatic 55, 3) := by decide +kernel
theorem dX8_measure_97 : decode cX8_measure 97 = .ok (.iinc 1 (-1), 3) := by decide +kernel
theorem dX8_measure_100 : decode cX8_measure 100 = .ok (.goto (-93), 3) := by decide +kernel
theorem dX8_measure_103 : decode cX8_measure 103 = .ok (.aload_n 0, 1) := by decide +kernel
theorem dX8_measure_104 : decode cX8_measure 104 = .ok (.aload_n 0, 1) := by decide +kernel
theorem dX8_measure_105 : decode cX8_measure 105 = .ok (.getfield 41, 3) := by decide +kernel
theorem dX8_measure_108 : decode cX8_measure 108 = .ok (.ifCond .ne 7, 3) := by decide +kernel
theorem dX8_measure_111 : decode cX8_measure 111 = .ok (.iconst 0, 1) := by decide +kernel
theorem dX8_measure_112 : decode cX8_measure 112 = .ok (.goto 11, 3) := by decide +kernel
theorem dX8_measure_115 : decode cX8_measure 115 = .ok (.aload_n 0, 1) := by decide +kernel
theorem dX8_measure_116 : decode cX8_measure 116 = .ok (.getfield 21, 3) := by decide +kernel
theorem dX8_measure_119 : decode cX8_measure 119 = .ok (.iconst 0, 1) := by decide +kernel
theorem dX8_measure_120 : decode cX8_measure 120 = .ok (.invokestatic 24, 3) := by decide +kernel
theorem dX8_measure_123 : decode cX8_measure 123 = .ok (.putfield 74, 3) := by decide +kernel
theorem dX8_measure_126 : decode cX8_measure 126 = .ok (.return_, 1) := by decide +kernel
end
section
theorem dX9_init_0 : decode cX9_init 0 = .ok (.aload_n 0, 1) := by decide +kernel
theorem dX9_init_1 : decode cX9_init 1 = .ok (.invokespecial 1, 3) := by decide +kernel
theorem dX9_init_4 : decode cX9_init 4 = .ok (.aload_n 0, 1) := by decide +kernel
theorem dX9_init_5 : decode cX9_init 5 = .ok (.new 7, 3) := by decide +kernel
theorem dX9_init_8 : decode cX9_init 8 = .ok (.dup, 1) := by decide +kernel
theorem dX9_init_9 : decode cX9_init 9 = .ok (.invokespecial 9, 3) := by decide +kernel
theorem dX9_init_12 : decode cX9_init 12 = .ok (.putfield 10, 3) := by decide +kernel
theorem dX9_init_15 : decode cX9_init 15 = .ok (.aload_n 0, 1) := by decide +kernel
theorem dX9_init_16 : decode cX9_init 16 = .ok (.new 16, 3) := by decide +kernel
theorem dX9_init_19 : decode cX9_init 19 = .ok (.dup, 1) := by decide +kernel
theorem dX9_init_20 : decode cX9_init 20 = .ok (.invokespecial 18, 3) := by decide +kernel
theorem dX9_init_23 : decode cX9_init 23 = .ok (.putfield 19, 3) := by decide +kernel
theorem dX9_init_26 : decode cX9_init 26 = .ok (.aload_n 0, 1) := by decide +kernel
theorem dX9_init_27 : decode cX9_init 27 = .ok (.new 23, 3) := by decide +kernel
theorem dX9_init_30 : decode cX9_init 30 = .ok (.dup, 1) := by decide +kernel
theorem dX9_init_31 : decode cX9_init 31 = .ok (.invokespecial 25, 3) := by decide +kernel
theorem dX9_init_34 : decode cX9_init 34 = .ok (.putfield 26, 3) := by decide +kernel
theorem dX9_init_37 : decode cX9_init 37 = .ok (.aload_n 0, 1) := by decide +kernel
theorem dX9_init_38 : decode cX9_init 38 = .ok (.new 30, 3) := by decide +kernel
theorem dX9_init_41 : decode cX9_init 41 = .ok (.dup, 1) := by decide +kernel
theorem dX9_init_42 : decode cX9_init 42 = .ok (.invokespecial 32, 3) := by decide +kernel
theorem dX9_init_45 : decode cX9_init 45 = .ok (.putfield 33, 3) := by decide +kernel
theorem dX9_init_48 : decode cX9_init 48 = .ok (.aload_n 0, 1) := by decide +kernel
theorem dX9_init_49 : decode cX9_init 49 = .ok (.new 37, 3) := by decide +kernel
theorem dX9_init_52 : decode cX9_init 52 = .ok (.dup, 1) := by decide +kernel
theorem dX9_init_53 : decode cX9_init 53 = .ok (.invokespecial 39, 3) := by decide +kernel
theorem dX9_init_56 : decode cX9_init 56 = .ok (.putfield 40, 3) := by decide +kernel
theorem dX9_init_59 : decode cX9_init 59 = .ok (.aload_n 0, 1) := by decide +kernel
theorem dX9_init_60 : decode cX9_init 60 = .ok (.new 44, 3) := by decide +kernel
theorem dX9_init_63 : decode cX9_init 63 = .ok (.dup, 1) := by decide +kernel
theorem dX9_init_64 : decode cX9_init 64 = .ok (.invokespecial 46, 3) := by decide +kernel
theorem dX9_init_67 : decode cX9_init 67 = .ok (.putfield 47, 3) := by decide +kernel
theorem dX9_init_70 : decode cX9_init 70 = .ok (.aload_n 0, 1) := by decide +kernel
theorem dX9_init_71 : decode cX9_init 71 = .ok (.new 51, 3) := by decide +kernel
theorem dX9_init_74 : decode cX9_init 74 = .ok (.dup, 1) := by decide +kernel
theorem dX9_init_75 : decode cX9_init 75 = .ok (.invokespecial 53, 3) := by decide +kernel
theorem dX9_init_78 : decode cX9_init 78 = .ok (.putfield 54, 3) := by decide +kernel
theorem dX9_init_81 : decode cX9_init 81 = .ok (.aload_n 0, 1) := by decide +kernel
theorem dX9_init_82 : decode cX9_init 82 = .ok (.new 51, 3) := by decide +kernel
theorem dX9_init_85 : decode cX9_init 85 = .ok (.dup, 1) := by decide +kernel
theorem dX9_init_86 : decode cX9_init 86 = .ok (.invokespecial 53, 3) := by decide +kernel
theorem dX9_init_89 : decode cX9_init 89 = .ok (.putfield 58, 3) := by decide +kernel
theorem dX9_init_92 : decode cX9_init 92 = .ok (.aload_n 0, 1) := by decide +kernel
theorem dX9_init_93 : decode cX9_init 93 = .ok (.new 61, 3) := by decide +kernel
theorem dX9_init_96 : decode cX9_init 96 = .ok (.dup, 1) := by decide +kernel
theorem dX9_init_97 : decode cX9_init 97 = .ok (.invokespecial 63, 3) := by decide +kernel
theorem dX9_init_100 : decode cX9_init 100 = .ok (.putfield 64, 3) := by decide +kernel
theorem dX9_init_103 : decode cX9_init 103 = .ok (.return_, 1) := by decide +kernel
theorem dX9_sketch_0 : decode cX9_sketch 0 = .ok (.iload_n 1, 1) := by decide +kernel
theorem dX9_sketch_1 : decode cX9_sketch 1 = .ok (.iload_n 2, 1) := by decide +kernel
theorem dX9_sketch_2 : decode cX9_sketch 2 = .ok (.invokestatic 68, 3) := by decide +kernel
theorem dX9_sketch_5 : decode cX9_sketch 5 = .ok (.aload_n 0, 1) := by decide +kernel
theorem dX9_sketch_6 : decode cX9_sketch 6 = .ok (.getfield 10, 3) := by decide +kernel
theorem dX9_sketch_9 : decode cX9_sketch 9 = .ok (.iload_n 1, 1) := by decide +kernel
theorem dX9_sketch_10 : decode cX9_sketch 10 = .ok (.invokevirtual 72, 3) := by decide +kernel
theorem dX9_sketch_13 : decode cX9_sketch 13 = .ok (.ifCond .ne 13, 3) := by decide +kernel
theorem dX9_sketch_16 : decode cX9_sketch 16 = .ok (.new 76, 3) := by decide +kernel
theorem dX9_sketch_19 : decode cX9_sketch 19 = .ok (.dup, 1) := by decide +kernel
theorem dX9_sketch_20 : decode cX9_sketch 20 = .ok (.ldc 78, 2) := by decide +kernel
theorem dX9_sketch_22 : decode cX9_sketch 22 = .ok (.invokespecial 80, 3) := by decide +kernel
theorem dX9_sketch_25 : decode cX9_sketch 25 = .ok (.athrow, 1) := by decide +kernel
theorem dX9_sketch_26 : decode cX9_sketch 26 = .ok (.aload_n 0, 1) := by decide +kernel
theorem dX9_sketch_27 : decode cX9_sketch 27 = .ok (.getfield 10, 3) := by decide +kernel
theorem dX9_sketch_30 : decode cX9_sketch 30 = .ok (.iload_n 1, 1) := by decide +kernel
theorem dX9_sketch_31 : decode cX9_sketch 31 = .ok (.iload_n 2, 1) := by decide +kernel
theorem dX9_sketch_32 : decode cX9_sketch 32 = .ok (.invokevirtual 83, 3) := by decide +kernel
theorem dX9_sketch_35 : decode cX9_sketch 35 = .ok (.aload_n 0, 1) := by decide +kernel
theorem dX9_sketch_36 : decode cX9_sketch 36 = .ok (.getfield 10, 3) := by decide +kernel
theorem dX9_sketch_39 : decode cX9_sketch 39 = .ok (.getfield 86, 3) := by decide +kernel
theorem dX9_sketch_42 : decode cX9_sketch 42 = .ok (.ireturn, 1) := by decide +kernel
theorem dX9_plant_0 : decode cX9_plant 0 = .ok (.aload_n 0, 1) := by decide +kernel
theorem dX9_plant_1 : decode cX9_plant 1 = .ok (.getfield 10, 3) := by decide +kernel
theorem dX9_plant_4 : decode cX9_plant 4 = .ok (.getfield 86, 3) := by decide +kernel
theorem dX9_plant_7 : decode cX9_plant 7 = .ok (.ifCond .ne 15, 3) := by decide +kernel
theorem dX9_plant_10 : decode cX9_plant 10 = .ok (.aload_n 0, 1) := by decide +kernel
theorem dX9_plant_11 : decode cX9_plant 11 = .ok (.getfield 54, 3) := by decide +kernel
theorem dX9_plant_14 : decode cX9_plant 14 = .ok (.getfield 99, 3) := by decide +kernel
theorem dX9_plant_17 : decode cX9_plant 17 = .ok (.bipush 16, 2) := by decide +kernel
theorem dX9_plant_19 : decode cX9_plant 19 = .ok (.if_icmp .lt 13, 3) := by decide +kernel
theorem dX9_plant_22 : decode cX9_plant 22 = .ok (.new 76, 3) := by decide +kernel
theorem dX9_plant_25 : decode cX9_plant 25 = .ok (.dup, 1) := by decide +kernel
theorem dX9_plant_26 : decode cX9_plant 26 = .ok (.ldc 102, 2) := by decide +kernel
theorem dX9_plant_28 : decode cX9_plant 28 = .ok (.invokespecial 80, 3) := by decide +kernel
theorem dX9_plant_31 : decode cX9_plant 31 = .ok (.athrow, 1) := by decide +kernel
theorem dX9_plant_32 : decode cX9_plant 32 = .ok (.aload_n 0, 1) := by decide +kernel
theorem dX9_plant_33 : decode cX9_plant 33 = .ok (.getfield 54, 3) := by decide +kernel
theorem dX9_plant_36 : decode cX9_plant 36 = .ok (.getfield 99, 3) := by decide +kernel
theorem dX9_plant_39 : decode cX9_plant 39 = .ok (.istore_n 1, 1) := by decide +kernel
theorem dX9_plant_40 : decode cX9_plant 40 = .ok (.aload_n 0, 1) := by decide +kernel
theorem dX9_plant_41 : decode cX9_plant 41 = .ok (.getfield 54, 3) := by decide +kernel
theorem dX9_plant_44 : decode cX9_plant 44 = .ok (.aload_n 0, 1) := by decide +kernel
theorem dX9_plant_45 : decode cX9_plant 45 = .ok (.getfield 10, 3) := by decide +kernel
theorem dX9_plant_48 : decode cX9_plant 48 = .ok (.getfield 90, 3) := by decide +kernel
theorem dX9_plant_51 : decode cX9_plant 51 = .ok (.invokevirtual 104, 3) := by decide +kernel
theorem dX9_plant_54 : decode cX9_plant 54 = .ok (.aload_n 0, 1) := by decide +kernel
theorem dX9_plant_55 : decode cX9_plant 55 = .ok (.getfield 10, 3) := by decide +kernel
theorem dX9_plant_58 : decode cX9_plant 58 = .ok (.invokevirtual 96, 3) := by decide +kernel
theorem dX9_plant_61 : decode cX9_plant 61 = .ok (.iload_n 1, 1) := by decide +kernel
theorem dX9_plant_62 : decode cX9_plant 62 = .ok (.ireturn, 1) := by decide +kernel
theorem dX9_addCase_0 : decode cX9_addCase 0 = .ok (.iload_n 1, 1) := by decide +kernel
theorem dX9_addCase_1 : decode cX9_addCase 1 = .ok (.iload_n 2, 1) := by decide +kernel
theorem dX9_addCase_2 : decode cX9_addCase 2 = .ok (.iload_n 3, 1) := by decide +kernel
theorem dX9_addCase_3 : decode cX9_addCase 3 = .ok (.invokestatic 116, 3) := by decide +kernel
theorem dX9_addCase_6 : decode cX9_addCase 6 = .ok (.iload 4, 2) := by decide +kernel
theorem dX9_addCase_8 : decode cX9_addCase 8 = .ok (.sipush (-9999), 3) := by decide +kernel
theorem dX9_addCase_11 : decode cX9_addCase 11 = .ok (.if_icmp .lt 11, 3) := by decide +kernel
theorem dX9_addCase_14 : decode cX9_addCase 14 = .ok (.iload 4, 2) := by decide +kernel
theorem dX9_addCase_16 : decode cX9_addCase 16 = .ok (.sipush 9999, 3) := by decide +kernel
theorem dX9_addCase_19 : decode cX9_addCase 19 = .ok (.if_icmp .le 13, 3) := by decide +kernel
theorem dX9_addCase_22 : decode cX9_addCase 22 = .ok (.new 120, 3) := by decide +kernel
theorem dX9_addCase_25 : decode cX9_addCase 25 = .ok (.dup, 1) := by decide +kernel
theorem dX9_addCase_26 : decode cX9_addCase 26 = .ok (.ldc 122, 2) := by decide +kernel
theorem dX9_addCase_28 : decode cX9_addCase 28 = .ok (.invokespecial 124, 3) := by decide +kernel
theorem dX9_addCase_31 : decode cX9_addCase 31 = .ok (.athrow, 1) := by decide +kernel
theorem dX9_addCase_32 : decode cX9_addCase 32 = .ok (.aload_n 0, 1) := by decide +kernel
theorem dX9_addCase_33 : decode cX9_addCase 33 = .ok (.getfield 19, 3) := by decide +kernel
theorem dX9_addCase_36 : decode cX9_addCase 36 = .ok (.getfield 125, 3) := by decide +kernel
theorem dX9_addCase_39 : decode cX9_addCase 39 = .ok (.bipush 12, 2) := by decide +kernel
theorem dX9_addCase_41 : decode cX9_addCase 41 = .ok (.if_icmp .lt 13, 3) := by decide +kernel
theorem dX9_addCase_44 : decode cX9_addCase 44 = .ok (.new 76, 3) := by decide +kernel
theorem dX9_addCase_47 : decode cX9_addCase 47 = .ok (.dup, 1) := by decide +kernel
theorem dX9_addCase_48 : decode cX9_addCase 48 = .ok (.ldc 128, 2) := by decide +kernel
theorem dX9_addCase_50 : decode cX9_addCase 50 = .ok (.invokespecial 80, 3) := by decide +kernel
theorem dX9_addCase_53 : decode cX9_addCase 53 = .ok (.athrow, 1) := by decide +kernel
theorem dX9_addCase_54 : decode cX9_addCase 54 = .ok (.aload_n 0, 1) := by decide +kernel
theorem dX9_addCase_55 : decode cX9_addCase 55 = .ok (.getfield 19, 3) := by decide +kernel
theorem dX9_addCase_58 : decode cX9_addCase 58 = .ok (.getfield 125, 3) := by decide +kernel
theorem dX9_addCase_61 : decode cX9_addCase 61 = .ok (.istore 5, 2) := by decide +kernel
theorem dX9_addCase_63 : decode cX9_addCase 63 = .ok (.aload_n 0, 1) := by decide +kernel
theorem dX9_addCase_64 : decode cX9_addCase 64 = .ok (.getfield 19, 3) := by decide +kernel
theorem dX9_addCase_67 : decode cX9_addCase 67 = .ok (.iload_n 1, 1) := by decide +kernel
theorem dX9_addCase_68 : decode cX9_addCase 68 = .ok (.iload_n 2, 1) := by decide +kernel
theorem dX9_addCase_69 : decode cX9_addCase 69 = .ok (.iload_n 3, 1) := by decide +kernel
theorem dX9_addCase_70 : decode cX9_addCase 70 = .ok (.iload 4, 2) := by decide +kernel
theorem dX9_addCase_72 : decode cX9_addCase 72 = .ok (.invokevirtual 130, 3) := by decide +kernel
theorem dX9_addCase_75 : decode cX9_addCase 75 = .ok (.iload 5, 2) := by decide +kernel
theorem dX9_addCase_77 : decode cX9_addCase 77 = .ok (.ireturn, 1) := by decide +kernel
theorem dX9_setWay_0 : decode cX9_setWay 0 = .ok (.iload_n 1, 1) := by decide +kernel
theorem dX9_setWay_1 : decode cX9_setWay 1 = .ok (.ifCond .lt 18, 3) := by decide +kernel
theorem dX9_setWay_4 : decode cX9_setWay 4 = .ok (.iload_n 1, 1) := by decide +kernel
theorem dX9_setWay_5 : decode cX9_setWay 5 = .ok (.iconst 2, 1) := by decide +kernel
theorem dX9_setWay_6 : decode cX9_setWay 6 = .ok (.if_icmp .gt 13, 3) := by decide +kernel
theorem dX9_setWay_9 : decode cX9_setWay 9 = .ok (.iload_n 2, 1) := by decide +kernel
theorem dX9_setWay_10 : decode cX9_setWay 10 = .ok (.ifCond .lt 9, 3) := by decide +kernel
theorem dX9_setWay_13 : decode cX9_setWay 13 = .ok (.iload_n 2, 1) := by decide +kernel
theorem dX9_setWay_14 : decode cX9_setWay 14 = .ok (.bipush 99, 2) := by decide +kernel
theorem dX9_setWay_16 : decode cX9_setWay 16 = .ok (.if_icmp .le 13, 3) := by decide +kernel
theorem dX9_setWay_19 : decode cX9_setWay 19 = .ok (.new 120, 3) := by decide +kernel
theorem dX9_setWay_22 : decode cX9_setWay 22 = .ok (.dup, 1) := by decide +kernel
theorem dX9_setWay_23 : decode cX9_setWay 23 = .ok (.ldc 133, 2) := by decide +kernel
theorem dX9_setWay_25 : decode cX9_setWay 25 = .ok (.invokespecial 124, 3) := by decide +kernel
theorem dX9_setWay_28 : decode cX9_setWay 28 = .ok (.athrow, 1) := by decide +kernel
theorem dX9_setWay_29 : decode cX9_setWay 29 = .ok (.aload_n 0, 1) := by decide +kernel
theorem dX9_setWay_30 : decode cX9_setWay 30 = .ok (.getfield 19, 3) := by decide +kernel
theorem dX9_setWay_33 : decode cX9_setWay 33 = .ok (.getfield 135, 3) := by decide +kernel
theorem dX9_setWay_36 : decode cX9_setWay 36 = .ok (.istore_n 3, 1) := by decide +kernel
theorem dX9_setWay_37 : decode cX9_setWay 37 = .ok (.aload_n 0, 1) := by decide +kernel
theorem dX9_setWay_38 : decode cX9_setWay 38 = .ok (.getfield 19, 3) := by decide +kernel
theorem dX9_setWay_41 : decode cX9_setWay 41 = .ok (.iload_n 1, 1) := by decide +kernel
theorem dX9_setWay_42 : decode cX9_setWay 42 = .ok (.putfield 135, 3) := by decide +kernel
theorem dX9_setWay_45 : decode cX9_setWay 45 = .ok (.aload_n 0, 1) := by decide +kernel
theorem dX9_setWay_46 : decode cX9_setWay 46 = .ok (.getfield 19, 3) := by decide +kernel
theorem dX9_setWay_49 : decode cX9_setWay 49 = .ok (.iload_n 2, 1) := by decide +kernel
theorem dX9_setWay_50 : decode cX9_setWay 50 = .ok (.putfield 138, 3) := by decide +kernel
theorem dX9_setWay_53 : decode cX9_setWay 53 = .ok (.iload_n 3, 1) := by decide +kernel
theorem dX9_setWay_54 : decode cX9_setWay 54 = .ok (.ireturn, 1) := by decide +kernel
theorem dX9_cross_0 : decode cX9_cross 0 = .ok (.aload_n 0, 1) := by decide +kernel
theorem dX9_cross_1 : decode cX9_cross 1 = .ok (.iload_n 1, 1) := by decide +kernel
theorem dX9_cross_2 : decode cX9_cross 2 = .ok (.iload_n 2, 1) := by decide +kernel
theorem dX9_cross_3 : decode cX9_cross 3 = .ok (.invokevirtual 141, 3) := by decide +kernel
theorem dX9_cross_6 : decode cX9_cross 6 = .ok (.astore 5, 2) := by decide +kernel
theorem dX9_cross_8 : decode cX9_cross 8 = .ok (.aload_n 0, 1) := by decide +kernel
theorem dX9_cross_9 : decode cX9_cross 9 = .ok (.iload_n 3, 1) := by decide +kernel
theorem dX9_cross_10 : decode cX9_cross 10 = .ok (.iload 4, 2) := by decide +kernel
theorem dX9_cross_12 : decode cX9_cross 12 = .ok (.invokevirtual 141, 3) := by decide +kernel
theorem dX9_cross_15 : decode cX9_cross 15 = .ok (.astore 6, 2) := by decide +kernel
theorem dX9_cross_17 : decode cX9_cross 17 = .ok (.aload_n 0, 1) := by decide +kernel
theorem dX9_cross_18 : decode cX9_cross 18 = .ok (.getfield 64, 3) := by decide +kernel
theorem dX9_cross_21 : decode cX9_cross 21 = .ok (.aload 5, 2) := by decide +kernel
theorem dX9_cross_23 : decode cX9_cross 23 = .ok (.iload_n 2, 1) := by decide +kernel
theorem dX9_cross_24 : decode cX9_cross 24 = .ok (.aload 6, 2) := by decide +kernel
theorem dX9_cross_26 : decode cX9_cross 26 = .ok (.iload 4, 2) := by decide +kernel
theorem dX9_cross_28 : decode cX9_cross 28 = .ok (.invokevirtual 145, 3) := by decide +kernel
theorem dX9_cross_31 : decode cX9_cross 31 = .ok (.ifCond .ne 5, 3) := by decide +kernel
theorem dX9_cross_34 : decode cX9_cross 34 = .ok (.iconst (-1), 1) := by decide +kernel
theorem dX9_cross_35 : decode cX9_cross 35 = .ok (.ireturn, 1) := by decide +kernel
theorem dX9_cross_36 : decode cX9_cross 36 = .ok (.aload 5, 2) := by decide +kernel
theorem dX9_cross_38 : decode cX9_cross 38 = .ok (.aload_n 0, 1) := by decide +kernel
theorem dX9_cross_39 : decode cX9_cross 39 = .ok (.getfield 64, 3) := by decide +kernel
theorem dX9_cross_42 : decode cX9_cross 42 = .ok (.invokevirtual 149, 3) := by decide +kernel
theorem dX9_cross_45 : decode cX9_cross 45 = .ok (.aload 5, 2) := by decide +kernel
theorem dX9_cross_47 : decode cX9_cross 47 = .ok (.getfield 93, 3) := by decide +kernel
theorem dX9_cross_50 : decode cX9_cross 50 = .ok (.ireturn, 1) := by decide +kernel
theorem dX9_hoist_0 : decode cX9_hoist 0 = .ok (.aload_n 0, 1) := by decide +kernel
theorem dX9_hoist_1 : decode cX9_hoist 1 = .ok (.iload_n 1, 1) := by decide +kernel
theorem dX9_hoist_2 : decode cX9_hoist 2 = .ok (.iload_n 2, 1) := by decide +kernel
theorem dX9_hoist_3 : decode cX9_hoist 3 = .ok (.invokevirtual 141, 3) := by decide +kernel
theorem dX9_hoist_6 : decode cX9_hoist 6 = .ok (.astore_n 3, 1) := by decide +kernel
theorem dX9_hoist_7 : decode cX9_hoist 7 = .ok (.aload_n 3, 1) := by decide +kernel
theorem dX9_hoist_8 : decode cX9_hoist 8 = .ok (.iload_n 2, 1) := by decide +kernel
theorem dX9_hoist_9 : decode cX9_hoist 9 = .ok (.invokevirtual 152, 3) := by decide +kernel
theorem dX9_hoist_12 : decode cX9_hoist 12 = .ok (.ifCond .ne 5, 3) := by decide +kernel
theorem dX9_hoist_15 : decode cX9_hoist 15 = .ok (.iconst (-1), 1) := by decide +kernel
theorem dX9_hoist_16 : decode cX9_hoist 16 = .ok (.ireturn, 1) := by decide +kernel
theorem dX9_hoist_17 : decode cX9_hoist 17 = .ok (.aload_n 3, 1) := by decide +kernel
theorem dX9_hoist_18 : decode cX9_hoist 18 = .ok (.iconst 0, 1) := by decide +kernel
theorem dX9_hoist_19 : decode cX9_hoist 19 = .ok (.iload_n 2, 1) := by decide +kernel
theorem dX9_hoist_20 : decode cX9_hoist 20 = .ok (.invokevirtual 155, 3) := by decide +kernel
theorem dX9_hoist_23 : decode cX9_hoist 23 = .ok (.aload_n 3, 1) := by decide +kernel
theorem dX9_hoist_24 : decode cX9_hoist 24 = .ok (.getfield 93, 3) := by decide +kernel
theorem dX9_hoist_27 : decode cX9_hoist 27 = .ok (.ireturn, 1) := by decide +kernel
theorem dX9_wither_0 : decode cX9_wither 0 = .ok (.aload_n 0, 1) := by decide +kernel
theorem dX9_wither_1 : decode cX9_wither 1 = .ok (.iload_n 1, 1) := by decide +kernel
theorem dX9_wither_2 : decode cX9_wither 2 = .ok (.iload_n 2, 1) := by decide +kernel
theorem dX9_wither_3 : decode cX9_wither 3 = .ok (.invokevirtual 141, 3) := by decide +kernel
theorem dX9_wither_6 : decode cX9_wither 6 = .ok (.astore 4, 2) := by decide +kernel
theorem dX9_wither_8 : decode cX9_wither 8 = .ok (.iload_n 3, 1) := by decide +kernel
theorem dX9_wither_9 : decode cX9_wither 9 = .ok (.bipush (-99), 2) := by decide +kernel
theorem dX9_wither_11 : decode cX9_wither 11 = .ok (.if_icmp .lt 9, 3) := by decide +kernel
theorem dX9_wither_14 : decode cX9_wither 14 = .ok (.iload_n 3, 1) := by decide +kernel
theorem dX9_wither_15 : decode cX9_wither 15 = .ok (.bipush 99, 2) := by decide +kernel
theorem dX9_wither_17 : decode cX9_wither 17 = .ok (.if_icmp .le 13, 3) := by decide +kernel
theorem dX9_wither_20 : decode cX9_wither 20 = .ok (.new 120, 3) := by decide +kernel
theorem dX9_wither_23 : decode cX9_wither 23 = .ok (.dup, 1) := by decide +kernel
theorem dX9_wither_24 : decode cX9_wither 24 = .ok (.ldc 173, 2) := by decide +kernel
theorem dX9_wither_26 : decode cX9_wither 26 = .ok (.invokespecial 124, 3) := by decide +kernel
theorem dX9_wither_29 : decode cX9_wither 29 = .ok (.athrow, 1) := by decide +kernel
theorem dX9_wither_30 : decode cX9_wither 30 = .ok (.aload 4, 2) := by decide +kernel
theorem dX9_wither_32 : decode cX9_wither 32 = .ok (.iload_n 2, 1) := by decide +kernel
theorem dX9_wither_33 : decode cX9_wither 33 = .ok (.invokevirtual 152, 3) := by decide +kernel
theorem dX9_wither_36 : decode cX9_wither 36 = .ok (.ifCond .ne 5, 3) := by decide +kernel
theorem dX9_wither_39 : decode cX9_wither 39 = .ok (.iconst (-1), 1) := by decide +kernel
theorem dX9_wither_40 : decode cX9_wither 40 = .ok (.ireturn, 1) := by decide +kernel
theorem dX9_wither_41 : decode cX9_wither 41 = .ok (.aload 4, 2) := by decide +kernel
theorem dX9_wither_43 : decode cX9_wither 43 = .ok (.iload_n 2, 1) := by decide +kernel
theorem dX9_wither_44 : decode cX9_wither 44 = .ok (.iload_n 3, 1) := by decide +kernel
theorem dX9_wither_45 : decode cX9_wither 45 = .ok (.invokevirtual 175, 3) := by decide +kernel
theorem dX9_wither_48 : decode cX9_wither 48 = .ok (.aload 4, 2) := by decide +kernel
theorem dX9_wither_50 : decode cX9_wither 50 = .ok (.getfield 93, 3) := by decide +kernel
theorem dX9_wither_53 : decode cX9_wither 53 = .ok (.ireturn, 1) := by decide +kernel
theorem dX9_simplify_0 : decode cX9_simplify 0 = .ok (.aload_n 0, 1) := by decide +kernel
theorem dX9_simplify_1 : decode cX9_simplify 1 = .ok (.iload_n 1, 1) := by decide +kernel
theorem dX9_simplify_2 : decode cX9_simplify 2 = .ok (.invokevirtual 108, 3) := by decide +kernel
theorem dX9_simplify_5 : decode cX9_simplify 5 = .ok (.astore_n 2, 1) := by decide +kernel
theorem dX9_simplify_6 : decode cX9_simplify 6 = .ok (.aload_n 2, 1) := by decide +kernel
theorem dX9_simplify_7 : decode cX9_simplify 7 = .ok (.getfield 93, 3) := by decide +kernel
theorem dX9_simplify_10 : decode cX9_simplify 10 = .ok (.istore_n 3, 1) := by decide +kernel
theorem dX9_simplify_11 : decode cX9_simplify 11 = .ok (.aload_n 0, 1) := by decide +kernel
theorem dX9_simplify_12 : decode cX9_simplify 12 = .ok (.getfield 40, 3) := by decide +kernel
theorem dX9_simplify_15 : decode cX9_simplify 15 = .ok (.aload_n 2, 1) := by decide +kernel
theorem dX9_simplify_16 : decode cX9_simplify 16 = .ok (.invokevirtual 178, 3) := by decide +kernel
theorem dX9_simplify_19 : decode cX9_simplify 19 = .ok (.iload_n 3, 1) := by decide +kernel
theorem dX9_simplify_20 : decode cX9_simplify 20 = .ok (.aload_n 2, 1) := by decide +kernel
theorem dX9_simplify_21 : decode cX9_simplify 21 = .ok (.getfield 93, 3) := by decide +kernel
theorem dX9_simplify_24 : decode cX9_simplify 24 = .ok (.isub, 1) := by decide +kernel
theorem dX9_simplify_25 : decode cX9_simplify 25 = .ok (.ireturn, 1) := by decide +kernel
theorem dX9_setChoosing_0 : decode cX9_setChoosing 0 = .ok (.iload_n 1, 1) := by decide +kernel
theorem dX9_setChoosing_1 : decode cX9_setChoosing 1 = .ok (.iconst 1, 1) := by decide +kernel
theorem dX9_setChoosing_2 : decode cX9_setChoosing 2 = .ok (.if_icmp .lt 17, 3) := by decide +kernel
theorem dX9_setChoosing_5 : decode cX9_setChoosing 5 = .ok (.iload_n 1, 1) := by decide +kernel
theorem dX9_setChoosing_6 : decode cX9_setChoosing 6 = .ok (.iconst 5, 1) := by decide +kernel
theorem dX9_setChoosing_7 : decode cX9_setChoosing 7 = .ok (.if_icmp .gt 12, 3) := by decide +kernel
theorem dX9_setChoosing_10 : decode cX9_setChoosing 10 = .ok (.iload_n 2, 1) := by decide +kernel
theorem dX9_setChoosing_11 : decode cX9_setChoosing 11 = .ok (.ifCond .lt 8, 3) := by decide +kernel
theorem dX9_setChoosing_14 : decode cX9_setChoosing 14 = .ok (.iload_n 2, 1) := by decide +kernel
theorem dX9_setChoosing_15 : decode cX9_setChoosing 15 = .ok (.iconst 4, 1) := by decide +kernel
theorem dX9_setChoosing_16 : decode cX9_setChoosing 16 = .ok (.if_icmp .le 13, 3) := by decide +kernel
theorem dX9_setChoosing_19 : decode cX9_setChoosing 19 = .ok (.new 120, 3) := by decide +kernel
theorem dX9_setChoosing_22 : decode cX9_setChoosing 22 = .ok (.dup, 1) := by decide +kernel
theorem dX9_setChoosing_23 : decode cX9_setChoosing 23 = .ok (.ldc 195, 2) := by decide +kernel
theorem dX9_setChoosing_25 : decode cX9_setChoosing 25 = .ok (.invokespecial 124, 3) := by decide +kernel
theorem dX9_setChoosing_28 : decode cX9_setChoosing 28 = .ok (.athrow, 1) := by decide +kernel
theorem dX9_setChoosing_29 : decode cX9_setChoosing 29 = .ok (.aload_n 0, 1) := by decide +kernel
theorem dX9_setChoosing_30 : decode cX9_setChoosing 30 = .ok (.getfield 33, 3) := by decide +kernel
theorem dX9_setChoosing_33 : decode cX9_setChoosing 33 = .ok (.getfield 197, 3) := by decide +kernel
theorem dX9_setChoosing_36 : decode cX9_setChoosing 36 = .ok (.istore_n 3, 1) := by decide +kernel
theorem dX9_setChoosing_37 : decode cX9_setChoosing 37 = .ok (.aload_n 0, 1) := by decide +kernel
theorem dX9_setChoosing_38 : decode cX9_setChoosing 38 = .ok (.getfield 33, 3) := by decide +kernel
theorem dX9_setChoosing_41 : decode cX9_setChoosing 41 = .ok (.iload_n 1, 1) := by decide +kernel
theorem dX9_setChoosing_42 : decode cX9_setChoosing 42 = .ok (.putfield 197, 3) := by decide +kernel
theorem dX9_setChoosing_45 : decode cX9_setChoosing 45 = .ok (.aload_n 0, 1) := by decide +kernel
theorem dX9_setChoosing_46 : decode cX9_setChoosing 46 = .ok (.getfield 33, 3) := by decide +kernel
theorem dX9_setChoosing_49 : decode cX9_setChoosing 49 = .ok (.iload_n 2, 1) := by decide +kernel
theorem dX9_setChoosing_50 : decode cX9_setChoosing 50 = .ok (.putfield 200, 3) := by decide +kernel
theorem dX9_setChoosing_53 : decode cX9_setChoosing 53 = .ok (.iload_n 3, 1) := by decide +kernel
theorem dX9_setChoosing_54 : decode cX9_setChoosing 54 = .ok (.ireturn, 1) := by decide +kernel
theorem dX9_setLuck_0 : decode cX9_setLuck 0 = .ok (.iload_n 1, 1) := by decide +kernel
theorem dX9_setLuck_1 : decode cX9_setLuck 1 = .ok (.ifCond .lt 10, 3) := by decide +kernel
theorem dX9_setLuck_4 : decode cX9_setLuck 4 = .ok (.iload_n 1, 1) := by decide +kernel
theorem dX9_setLuck_5 : decode cX9_setLuck 5 = .ok (.sipush 10000, 3) := by decide +kernel
theorem dX9_setLuck_8 : decode cX9_setLuck 8 = .ok (.if_icmp .lt 13, 3) := by decide +kernel
theorem dX9_setLuck_11 : decode cX9_setLuck 11 = .ok (.new 120, 3) := by decide +kernel
theorem dX9_setLuck_14 : decode cX9_setLuck 14 = .ok (.dup, 1) := by decide +kernel
theorem dX9_setLuck_15 : decode cX9_setLuck 15 = .ok (.ldc 203, 2) := by decide +kernel
theorem dX9_setLuck_17 : decode cX9_setLuck 17 = .ok (.invokespecial 124, 3) := by decide +kernel
theorem dX9_setLuck_20 : decode cX9_setLuck 20 = .ok (.athrow, 1) := by decide +kernel
theorem dX9_setLuck_21 : decode cX9_setLuck 21 = .ok (.aload_n 0, 1) := by decide +kernel
theorem dX9_setLuck_22 : decode cX9_setLuck 22 = .ok (.getfield 54, 3) := by decide +kernel
theorem dX9_setLuck_25 : decode cX9_setLuck 25 = .ok (.getfield 205, 3) := by decide +kernel
theorem dX9_setLuck_28 : decode cX9_setLuck 28 = .ok (.getfield 209, 3) := by decide +kernel
theorem dX9_setLuck_31 : decode cX9_setLuck 31 = .ok (.istore_n 2, 1) := by decide +kernel
theorem dX9_setLuck_32 : decode cX9_setLuck 32 = .ok (.aload_n 0, 1) := by decide +kernel
theorem dX9_setLuck_33 : decode cX9_setLuck 33 = .ok (.getfield 54, 3) := by decide +kernel
theorem dX9_setLuck_36 : decode cX9_setLuck 36 = .ok (.getfield 205, 3) := by decide +kernel
theorem dX9_setLuck_39 : decode cX9_setLuck 39 = .ok (.iload_n 1, 1) := by decide +kernel
theorem dX9_setLuck_40 : decode cX9_setLuck 40 = .ok (.putfield 209, 3) := by decide +kernel
theorem dX9_setLuck_43 : decode cX9_setLuck 43 = .ok (.iload_n 2, 1) := by decide +kernel
theorem dX9_setLuck_44 : decode cX9_setLuck 44 = .ok (.ireturn, 1) := by decide +kernel
theorem dX9_breed_0 : decode cX9_breed 0 = .ok (.aload_n 0, 1) := by decide +kernel
theorem dX9_breed_1 : decode cX9_breed 1 = .ok (.iload_n 1, 1) := by decide +kernel
theorem dX9_breed_2 : decode cX9_breed 2 = .ok (.invokevirtual 223, 3) := by decide +kernel
theorem dX9_breed_5 : decode cX9_breed 5 = .ok (.aload_n 0, 1) := by decide +kernel
theorem dX9_breed_6 : decode cX9_breed 6 = .ok (.getfield 33, 3) := by decide +kernel
theorem dX9_breed_9 : decode cX9_breed 9 = .ok (.iload_n 1, 1) := by decide +kernel
theorem dX9_breed_10 : decode cX9_breed 10 = .ok (.aload_n 0, 1) := by decide +kernel
theorem dX9_breed_11 : decode cX9_breed 11 = .ok (.getfield 54, 3) := by decide +kernel
theorem dX9_breed_14 : decode cX9_breed 14 = .ok (.aload_n 0, 1) := by decide +kernel
theorem dX9_breed_15 : decode cX9_breed 15 = .ok (.getfield 19, 3) := by decide +kernel
theorem dX9_breed_18 : decode cX9_breed 18 = .ok (.invokevirtual 226, 3) := by decide +kernel
theorem dX9_breed_21 : decode cX9_breed 21 = .ok (.ireturn, 1) := by decide +kernel
theorem dX9_sketched_0 : decode cX9_sketched 0 = .ok (.aload_n 0, 1) := by decide +kernel
theorem dX9_sketched_1 : decode cX9_sketched 1 = .ok (.getfield 10, 3) := by decide +kernel
theorem dX9_sketched_4 : decode cX9_sketched 4 = .ok (.getfield 90, 3) := by decide +kernel
theorem dX9_sketched_7 : decode cX9_sketched 7 = .ok (.getfield 93, 3) := by decide +kernel
theorem dX9_sketched_10 : decode cX9_sketched 10 = .ok (.ireturn, 1) := by decide +kernel
theorem dX9_trees_0 : decode cX9_trees 0 = .ok (.aload_n 0, 1) := by decide +kernel
theorem dX9_trees_1 : decode cX9_trees 1 = .ok (.getfield 54, 3) := by decide +kernel
theorem dX9_trees_4 : decode cX9_trees 4 = .ok (.getfield 99, 3) := by decide +kernel
theorem dX9_trees_7 : decode cX9_trees 7 = .ok (.ireturn, 1) := by decide +kernel
theorem dX9_size_0 : decode cX9_size 0 = .ok (.aload_n 0, 1) := by decide +kernel
theorem dX9_size_1 : decode cX9_size 1 = .ok (.iload_n 1, 1) := by decide +kernel
theorem dX9_size_2 : decode cX9_size 2 = .ok (.invokevirtual 108, 3) := by decide +kernel
theorem dX9_size_5 : decode cX9_size 5 = .ok (.getfield 93, 3) := by decide +kernel
theorem dX9_size_8 : decode cX9_size 8 = .ok (.ireturn, 1) := by decide +kernel
theorem dX9_depth_0 : decode cX9_depth 0 = .ok (.aload_n 0, 1) := by decide +kernel
theorem dX9_depth_1 : decode cX9_depth 1 = .ok (.iload_n 1, 1) := by decide +kernel
theorem dX9_depth_2 : decode cX9_depth 2 = .ok (.invokevirtual 108, 3) := by decide +kernel
theorem dX9_depth_5 : decode cX9_depth 5 = .ok (.getfield 230, 3) := by decide +kernel
theorem dX9_depth_8 : decode cX9_depth 8 = .ok (.ireturn, 1) := by decide +kernel
theorem dX9_codeAt_0 : decode cX9_codeAt 0 = .ok (.aload_n 0, 1) := by decide +kernel
theorem dX9_codeAt_1 : decode cX9_codeAt 1 = .ok (.iload_n 1, 1) := by decide +kernel
theorem dX9_codeAt_2 : decode cX9_codeAt 2 = .ok (.iload_n 2, 1) := by decide +kernel
theorem dX9_codeAt_3 : decode cX9_codeAt 3 = .ok (.invokevirtual 141, 3) := by decide +kernel
theorem dX9_codeAt_6 : decode cX9_codeAt 6 = .ok (.iload_n 2, 1) := by decide +kernel
theorem dX9_codeAt_7 : decode cX9_codeAt 7 = .ok (.invokevirtual 158, 3) := by decide +kernel
theorem dX9_codeAt_10 : decode cX9_codeAt 10 = .ok (.ireturn, 1) := by decide +kernel
theorem dX9_valueAt_0 : decode cX9_valueAt 0 = .ok (.aload_n 0, 1) := by decide +kernel
theorem dX9_valueAt_1 : decode cX9_valueAt 1 = .ok (.iload_n 1, 1) := by decide +kernel
theorem dX9_valueAt_2 : decode cX9_valueAt 2 = .ok (.iload_n 2, 1) := by decide +kernel
theorem dX9_valueAt_3 : decode cX9_valueAt 3 = .ok (.invokevirtual 141, 3) := by decide +kernel
theorem dX9_valueAt_6 : decode cX9_valueAt 6 = .ok (.iload_n 2, 1) := by decide +kernel
theorem dX9_valueAt_7 : decode cX9_valueAt 7 = .ok (.invokevirtual 233, 3) := by decide +kernel
theorem dX9_valueAt_10 : decode cX9_valueAt 10 = .ok (.ireturn, 1) := by decide +kernel
theorem dX9_sizeAt_0 : decode cX9_sizeAt 0 = .ok (.aload_n 0, 1) := by decide +kernel
theorem dX9_sizeAt_1 : decode cX9_sizeAt 1 = .ok (.iload_n 1, 1) := by decide +kernel
theorem dX9_sizeAt_2 : decode cX9_sizeAt 2 = .ok (.iload_n 2, 1) := by decide +kernel
theorem dX9_sizeAt_3 : decode cX9_sizeAt 3 = .ok (.invokevirtual 141, 3) := by decide +kernel
theorem dX9_sizeAt_6 : decode cX9_sizeAt 6 = .ok (.iload_n 2, 1) := by decide +kernel
theorem dX9_sizeAt_7 : decode cX9_sizeAt 7 = .ok (.invokevirtual 236, 3) := by decide +kernel
theorem dX9_sizeAt_10 : decode cX9_sizeAt 10 = .ok (.ireturn, 1) := by decide +kernel
theorem dX9_above_0 : decode cX9_above 0 = .ok (.aload_n 0, 1) := by decide +kernel
theorem dX9_above_1 : decode cX9_above 1 = .ok (.iload_n 1, 1) := by decide +kernel
theorem dX9_above_2 : decode cX9_above 2 = .ok (.iload_n 2, 1) := by decide +kernel
theorem dX9_above_3 : decode cX9_above 3 = .ok (.invokevirtual 141, 3) := by decide +kernel
theorem dX9_above_6 : decode cX9_above 6 = .ok (.iload_n 2, 1) := by decide +kernel
theorem dX9_above_7 : decode cX9_above 7 = .ok (.invokevirtual 239, 3) := by decide +kernel
theorem dX9_above_10 : decode cX9_above 10 = .ok (.ireturn, 1) := by decide +kernel
theorem dX9_gives_0 : decode cX9_gives 0 = .ok (.aload_n 0, 1) := by decide +kernel
theorem dX9_gives_1 : decode cX9_gives 1 = .ok (.iload_n 1, 1) := by decide +kernel
theorem dX9_gives_2 : decode cX9_gives 2 = .ok (.invokevirtual 108, 3) := by decide +kernel
theorem dX9_gives_5 : decode cX9_gives 5 = .ok (.astore 5, 2) := by decide +kernel
theorem dX9_gives_7 : decode cX9_gives 7 = .ok (.iload_n 2, 1) := by decide +kernel
theorem dX9_gives_8 : decode cX9_gives 8 = .ok (.iload_n 3, 1) := by decide +kernel
theorem dX9_gives_9 : decode cX9_gives 9 = .ok (.iload 4, 2) := by decide +kernel
theorem dX9_gives_11 : decode cX9_gives 11 = .ok (.invokestatic 116, 3) := by decide +kernel
theorem dX9_gives_14 : decode cX9_gives 14 = .ok (.aload_n 0, 1) := by decide +kernel
theorem dX9_gives_15 : decode cX9_gives 15 = .ok (.getfield 47, 3) := by decide +kernel
theorem dX9_gives_18 : decode cX9_gives 18 = .ok (.iload_n 2, 1) := by decide +kernel
theorem dX9_gives_19 : decode cX9_gives 19 = .ok (.iload_n 3, 1) := by decide +kernel
theorem dX9_gives_20 : decode cX9_gives 20 = .ok (.iload 4, 2) := by decide +kernel
theorem dX9_gives_22 : decode cX9_gives 22 = .ok (.invokevirtual 242, 3) := by decide +kernel
theorem dX9_gives_25 : decode cX9_gives 25 = .ok (.aload_n 0, 1) := by decide +kernel
theorem dX9_gives_26 : decode cX9_gives 26 = .ok (.getfield 47, 3) := by decide +kernel
theorem dX9_gives_29 : decode cX9_gives 29 = .ok (.aload 5, 2) := by decide +kernel
theorem dX9_gives_31 : decode cX9_gives 31 = .ok (.iconst 0, 1) := by decide +kernel
theorem dX9_gives_32 : decode cX9_gives 32 = .ok (.invokevirtual 245, 3) := by decide +kernel
theorem dX9_gives_35 : decode cX9_gives 35 = .ok (.ireturn, 1) := by decide +kernel
theorem dX9_error_0 : decode cX9_error 0 = .ok (.aload_n 0, 1) := by decide +kernel
theorem dX9_error_1 : decode cX9_error 1 = .ok (.getfield 19, 3) := by decide +kernel
theorem dX9_error_4 : decode cX9_error 4 = .ok (.aload_n 0, 1) := by decide +kernel
theorem dX9_error_5 : decode cX9_error 5 = .ok (.iload_n 1, 1) := by decide +kernel
theorem dX9_error_6 : decode cX9_error 6 = .ok (.invokevirtual 108, 3) := by decide +kernel
theorem dX9_error_9 : decode cX9_error 9 = .ok (.iconst 0, 1) := by decide +kernel
theorem dX9_error_10 : decode cX9_error 10 = .ok (.invokevirtual 249, 3) := by decide +kernel
theorem dX9_error_13 : decode cX9_error 13 = .ok (.ireturn, 1) := by decide +kernel
theorem dX9_merit_0 : decode cX9_merit 0 = .ok (.aload_n 0, 1) := by decide +kernel
theorem dX9_merit_1 : decode cX9_merit 1 = .ok (.getfield 19, 3) := by decide +kernel
theorem dX9_merit_4 : decode cX9_merit 4 = .ok (.aload_n 0, 1) := by decide +kernel
theorem dX9_merit_5 : decode cX9_merit 5 = .ok (.iload_n 1, 1) := by decide +kernel
theorem dX9_merit_6 : decode cX9_merit 6 = .ok (.invokevirtual 108, 3) := by decide +kernel
end
section
theorem dX9_merit_9 : decode cX9_merit 9 = .ok (.invokevirtual 252, 3) := by decide +kernel
theorem dX9_merit_12 : decode cX9_merit 12 = .ok (.ireturn, 1) := by decide +kernel
theorem dX9_ranked_0 : decode cX9_ranked 0 = .ok (.iload_n 1, 1) := by decide +kernel
theorem dX9_ranked_1 : decode cX9_ranked 1 = .ok (.ifCond .lt 14, 3) := by decide +kernel
theorem dX9_ranked_4 : decode cX9_ranked 4 = .ok (.iload_n 1, 1) := by decide +kernel
theorem dX9_ranked_5 : decode cX9_ranked 5 = .ok (.aload_n 0, 1) := by decide +kernel
theorem dX9_ranked_6 : decode cX9_ranked 6 = .ok (.getfield 54, 3) := by decide +kernel
theorem dX9_ranked_9 : decode cX9_ranked 9 = .ok (.getfield 99, 3) := by decide +kernel
theorem dX9_ranked_12 : decode cX9_ranked 12 = .ok (.if_icmp .lt 14, 3) := by decide +kernel
theorem dX9_ranked_15 : decode cX9_ranked 15 = .ok (.new 259, 3) := by decide +kernel
theorem dX9_ranked_18 : decode cX9_ranked 18 = .ok (.dup, 1) := by decide +kernel
theorem dX9_ranked_19 : decode cX9_ranked 19 = .ok (.ldc_w 261, 3) := by decide +kernel
theorem dX9_ranked_22 : decode cX9_ranked 22 = .ok (.invokespecial 263, 3) := by decide +kernel
theorem dX9_ranked_25 : decode cX9_ranked 25 = .ok (.athrow, 1) := by decide +kernel
theorem dX9_ranked_26 : decode cX9_ranked 26 = .ok (.aload_n 0, 1) := by decide +kernel
theorem dX9_ranked_27 : decode cX9_ranked 27 = .ok (.getfield 26, 3) := by decide +kernel
theorem dX9_ranked_30 : decode cX9_ranked 30 = .ok (.aload_n 0, 1) := by decide +kernel
theorem dX9_ranked_31 : decode cX9_ranked 31 = .ok (.getfield 54, 3) := by decide +kernel
theorem dX9_ranked_34 : decode cX9_ranked 34 = .ok (.aload_n 0, 1) := by decide +kernel
theorem dX9_ranked_35 : decode cX9_ranked 35 = .ok (.getfield 19, 3) := by decide +kernel
theorem dX9_ranked_38 : decode cX9_ranked 38 = .ok (.invokevirtual 264, 3) := by decide +kernel
theorem dX9_ranked_41 : decode cX9_ranked 41 = .ok (.aload_n 0, 1) := by decide +kernel
theorem dX9_ranked_42 : decode cX9_ranked 42 = .ok (.getfield 26, 3) := by decide +kernel
theorem dX9_ranked_45 : decode cX9_ranked 45 = .ok (.iload_n 1, 1) := by decide +kernel
theorem dX9_ranked_46 : decode cX9_ranked 46 = .ok (.invokevirtual 268, 3) := by decide +kernel
theorem dX9_ranked_49 : decode cX9_ranked 49 = .ok (.ireturn, 1) := by decide +kernel
theorem dX9_different_0 : decode cX9_different 0 = .ok (.iconst 0, 1) := by decide +kernel
theorem dX9_different_1 : decode cX9_different 1 = .ok (.istore_n 1, 1) := by decide +kernel
theorem dX9_different_2 : decode cX9_different 2 = .ok (.iconst 0, 1) := by decide +kernel
theorem dX9_different_3 : decode cX9_different 3 = .ok (.istore_n 2, 1) := by decide +kernel
theorem dX9_different_4 : decode cX9_different 4 = .ok (.iload_n 2, 1) := by decide +kernel
theorem dX9_different_5 : decode cX9_different 5 = .ok (.aload_n 0, 1) := by decide +kernel
theorem dX9_different_6 : decode cX9_different 6 = .ok (.getfield 54, 3) := by decide +kernel
theorem dX9_different_9 : decode cX9_different 9 = .ok (.getfield 99, 3) := by decide +kernel
theorem dX9_different_12 : decode cX9_different 12 = .ok (.if_icmp .ge 23, 3) := by decide +kernel
theorem dX9_different_15 : decode cX9_different 15 = .ok (.aload_n 0, 1) := by decide +kernel
theorem dX9_different_16 : decode cX9_different 16 = .ok (.getfield 54, 3) := by decide +kernel
theorem dX9_different_19 : decode cX9_different 19 = .ok (.iload_n 2, 1) := by decide +kernel
theorem dX9_different_20 : decode cX9_different 20 = .ok (.invokevirtual 271, 3) := by decide +kernel
theorem dX9_different_23 : decode cX9_different 23 = .ok (.ifCond .ne 6, 3) := by decide +kernel
theorem dX9_different_26 : decode cX9_different 26 = .ok (.iinc 1 1, 3) := by decide +kernel
theorem dX9_different_29 : decode cX9_different 29 = .ok (.iinc 2 1, 3) := by decide +kernel
theorem dX9_different_32 : decode cX9_different 32 = .ok (.goto (-28), 3) := by decide +kernel
theorem dX9_different_35 : decode cX9_different 35 = .ok (.iload_n 1, 1) := by decide +kernel
theorem dX9_different_36 : decode cX9_different 36 = .ok (.ireturn, 1) := by decide +kernel
theorem dX9_alike_0 : decode cX9_alike 0 = .ok (.aload_n 0, 1) := by decide +kernel
theorem dX9_alike_1 : decode cX9_alike 1 = .ok (.iload_n 1, 1) := by decide +kernel
theorem dX9_alike_2 : decode cX9_alike 2 = .ok (.invokevirtual 108, 3) := by decide +kernel
theorem dX9_alike_5 : decode cX9_alike 5 = .ok (.aload_n 0, 1) := by decide +kernel
theorem dX9_alike_6 : decode cX9_alike 6 = .ok (.iload_n 2, 1) := by decide +kernel
theorem dX9_alike_7 : decode cX9_alike 7 = .ok (.invokevirtual 108, 3) := by decide +kernel
theorem dX9_alike_10 : decode cX9_alike 10 = .ok (.invokevirtual 274, 3) := by decide +kernel
theorem dX9_alike_13 : decode cX9_alike 13 = .ok (.ireturn, 1) := by decide +kernel
theorem dX9_errorCrossed_0 : decode cX9_errorCrossed 0 = .ok (.aload_n 0, 1) := by decide +kernel
theorem dX9_errorCrossed_1 : decode cX9_errorCrossed 1 = .ok (.iload_n 1, 1) := by decide +kernel
theorem dX9_errorCrossed_2 : decode cX9_errorCrossed 2 = .ok (.iload_n 2, 1) := by decide +kernel
theorem dX9_errorCrossed_3 : decode cX9_errorCrossed 3 = .ok (.invokevirtual 141, 3) := by decide +kernel
theorem dX9_errorCrossed_6 : decode cX9_errorCrossed 6 = .ok (.astore 5, 2) := by decide +kernel
theorem dX9_errorCrossed_8 : decode cX9_errorCrossed 8 = .ok (.aload_n 0, 1) := by decide +kernel
theorem dX9_errorCrossed_9 : decode cX9_errorCrossed 9 = .ok (.iload_n 3, 1) := by decide +kernel
theorem dX9_errorCrossed_10 : decode cX9_errorCrossed 10 = .ok (.iload 4, 2) := by decide +kernel
theorem dX9_errorCrossed_12 : decode cX9_errorCrossed 12 = .ok (.invokevirtual 141, 3) := by decide +kernel
theorem dX9_errorCrossed_15 : decode cX9_errorCrossed 15 = .ok (.astore 6, 2) := by decide +kernel
theorem dX9_errorCrossed_17 : decode cX9_errorCrossed 17 = .ok (.aload_n 0, 1) := by decide +kernel
theorem dX9_errorCrossed_18 : decode cX9_errorCrossed 18 = .ok (.getfield 64, 3) := by decide +kernel
theorem dX9_errorCrossed_21 : decode cX9_errorCrossed 21 = .ok (.aload 5, 2) := by decide +kernel
theorem dX9_errorCrossed_23 : decode cX9_errorCrossed 23 = .ok (.iload_n 2, 1) := by decide +kernel
theorem dX9_errorCrossed_24 : decode cX9_errorCrossed 24 = .ok (.aload 6, 2) := by decide +kernel
theorem dX9_errorCrossed_26 : decode cX9_errorCrossed 26 = .ok (.iload 4, 2) := by decide +kernel
theorem dX9_errorCrossed_28 : decode cX9_errorCrossed 28 = .ok (.invokevirtual 145, 3) := by decide +kernel
theorem dX9_errorCrossed_31 : decode cX9_errorCrossed 31 = .ok (.ifCond .ne 5, 3) := by decide +kernel
theorem dX9_errorCrossed_34 : decode cX9_errorCrossed 34 = .ok (.iconst (-1), 1) := by decide +kernel
theorem dX9_errorCrossed_35 : decode cX9_errorCrossed 35 = .ok (.ireturn, 1) := by decide +kernel
theorem dX9_errorCrossed_36 : decode cX9_errorCrossed 36 = .ok (.aload_n 0, 1) := by decide +kernel
theorem dX9_errorCrossed_37 : decode cX9_errorCrossed 37 = .ok (.getfield 19, 3) := by decide +kernel
theorem dX9_errorCrossed_40 : decode cX9_errorCrossed 40 = .ok (.aload_n 0, 1) := by decide +kernel
theorem dX9_errorCrossed_41 : decode cX9_errorCrossed 41 = .ok (.getfield 64, 3) := by decide +kernel
theorem dX9_errorCrossed_44 : decode cX9_errorCrossed 44 = .ok (.iconst 0, 1) := by decide +kernel
theorem dX9_errorCrossed_45 : decode cX9_errorCrossed 45 = .ok (.invokevirtual 249, 3) := by decide +kernel
theorem dX9_errorCrossed_48 : decode cX9_errorCrossed 48 = .ok (.ireturn, 1) := by decide +kernel
theorem dX9_bestHoist_0 : decode cX9_bestHoist 0 = .ok (.aload_n 0, 1) := by decide +kernel
theorem dX9_bestHoist_1 : decode cX9_bestHoist 1 = .ok (.iload_n 1, 1) := by decide +kernel
theorem dX9_bestHoist_2 : decode cX9_bestHoist 2 = .ok (.invokevirtual 108, 3) := by decide +kernel
theorem dX9_bestHoist_5 : decode cX9_bestHoist 5 = .ok (.astore_n 2, 1) := by decide +kernel
theorem dX9_bestHoist_6 : decode cX9_bestHoist 6 = .ok (.iconst 0, 1) := by decide +kernel
theorem dX9_bestHoist_7 : decode cX9_bestHoist 7 = .ok (.istore_n 3, 1) := by decide +kernel
theorem dX9_bestHoist_8 : decode cX9_bestHoist 8 = .ok (.aload_n 0, 1) := by decide +kernel
theorem dX9_bestHoist_9 : decode cX9_bestHoist 9 = .ok (.getfield 19, 3) := by decide +kernel
theorem dX9_bestHoist_12 : decode cX9_bestHoist 12 = .ok (.aload_n 2, 1) := by decide +kernel
theorem dX9_bestHoist_13 : decode cX9_bestHoist 13 = .ok (.iconst 0, 1) := by decide +kernel
theorem dX9_bestHoist_14 : decode cX9_bestHoist 14 = .ok (.invokevirtual 249, 3) := by decide +kernel
theorem dX9_bestHoist_17 : decode cX9_bestHoist 17 = .ok (.istore 4, 2) := by decide +kernel
theorem dX9_bestHoist_19 : decode cX9_bestHoist 19 = .ok (.iconst 1, 1) := by decide +kernel
theorem dX9_bestHoist_20 : decode cX9_bestHoist 20 = .ok (.istore 5, 2) := by decide +kernel
theorem dX9_bestHoist_22 : decode cX9_bestHoist 22 = .ok (.iload 5, 2) := by decide +kernel
theorem dX9_bestHoist_24 : decode cX9_bestHoist 24 = .ok (.aload_n 2, 1) := by decide +kernel
theorem dX9_bestHoist_25 : decode cX9_bestHoist 25 = .ok (.getfield 93, 3) := by decide +kernel
theorem dX9_bestHoist_28 : decode cX9_bestHoist 28 = .ok (.if_icmp .ge 65, 3) := by decide +kernel
theorem dX9_bestHoist_31 : decode cX9_bestHoist 31 = .ok (.aload_n 2, 1) := by decide +kernel
theorem dX9_bestHoist_32 : decode cX9_bestHoist 32 = .ok (.iload 5, 2) := by decide +kernel
theorem dX9_bestHoist_34 : decode cX9_bestHoist 34 = .ok (.invokevirtual 152, 3) := by decide +kernel
theorem dX9_bestHoist_37 : decode cX9_bestHoist 37 = .ok (.ifCond .eq 50, 3) := by decide +kernel
theorem dX9_bestHoist_40 : decode cX9_bestHoist 40 = .ok (.aload_n 0, 1) := by decide +kernel
theorem dX9_bestHoist_41 : decode cX9_bestHoist 41 = .ok (.getfield 19, 3) := by decide +kernel
theorem dX9_bestHoist_44 : decode cX9_bestHoist 44 = .ok (.aload_n 2, 1) := by decide +kernel
theorem dX9_bestHoist_45 : decode cX9_bestHoist 45 = .ok (.iload 5, 2) := by decide +kernel
theorem dX9_bestHoist_47 : decode cX9_bestHoist 47 = .ok (.invokevirtual 249, 3) := by decide +kernel
theorem dX9_bestHoist_50 : decode cX9_bestHoist 50 = .ok (.istore 6, 2) := by decide +kernel
theorem dX9_bestHoist_52 : decode cX9_bestHoist 52 = .ok (.iload 6, 2) := by decide +kernel
theorem dX9_bestHoist_54 : decode cX9_bestHoist 54 = .ok (.iload 4, 2) := by decide +kernel
theorem dX9_bestHoist_56 : decode cX9_bestHoist 56 = .ok (.if_icmp .lt 24, 3) := by decide +kernel
theorem dX9_bestHoist_59 : decode cX9_bestHoist 59 = .ok (.iload 6, 2) := by decide +kernel
theorem dX9_bestHoist_61 : decode cX9_bestHoist 61 = .ok (.iload 4, 2) := by decide +kernel
theorem dX9_bestHoist_63 : decode cX9_bestHoist 63 = .ok (.if_icmp .ne 24, 3) := by decide +kernel
theorem dX9_bestHoist_66 : decode cX9_bestHoist 66 = .ok (.aload_n 2, 1) := by decide +kernel
theorem dX9_bestHoist_67 : decode cX9_bestHoist 67 = .ok (.iload 5, 2) := by decide +kernel
theorem dX9_bestHoist_69 : decode cX9_bestHoist 69 = .ok (.invokevirtual 236, 3) := by decide +kernel
theorem dX9_bestHoist_72 : decode cX9_bestHoist 72 = .ok (.aload_n 2, 1) := by decide +kernel
theorem dX9_bestHoist_73 : decode cX9_bestHoist 73 = .ok (.iload_n 3, 1) := by decide +kernel
theorem dX9_bestHoist_74 : decode cX9_bestHoist 74 = .ok (.invokevirtual 236, 3) := by decide +kernel
theorem dX9_bestHoist_77 : decode cX9_bestHoist 77 = .ok (.if_icmp .ge 10, 3) := by decide +kernel
theorem dX9_bestHoist_80 : decode cX9_bestHoist 80 = .ok (.iload 5, 2) := by decide +kernel
theorem dX9_bestHoist_82 : decode cX9_bestHoist 82 = .ok (.istore_n 3, 1) := by decide +kernel
theorem dX9_bestHoist_83 : decode cX9_bestHoist 83 = .ok (.iload 6, 2) := by decide +kernel
theorem dX9_bestHoist_85 : decode cX9_bestHoist 85 = .ok (.istore 4, 2) := by decide +kernel
theorem dX9_bestHoist_87 : decode cX9_bestHoist 87 = .ok (.iinc 5 1, 3) := by decide +kernel
theorem dX9_bestHoist_90 : decode cX9_bestHoist 90 = .ok (.goto (-68), 3) := by decide +kernel
theorem dX9_bestHoist_93 : decode cX9_bestHoist 93 = .ok (.iload_n 3, 1) := by decide +kernel
theorem dX9_bestHoist_94 : decode cX9_bestHoist 94 = .ok (.ireturn, 1) := by decide +kernel
theorem dX9_errorBred_0 : decode cX9_errorBred 0 = .ok (.aload_n 0, 1) := by decide +kernel
theorem dX9_errorBred_1 : decode cX9_errorBred 1 = .ok (.iload_n 1, 1) := by decide +kernel
theorem dX9_errorBred_2 : decode cX9_errorBred 2 = .ok (.invokevirtual 223, 3) := by decide +kernel
theorem dX9_errorBred_5 : decode cX9_errorBred 5 = .ok (.aload_n 0, 1) := by decide +kernel
theorem dX9_errorBred_6 : decode cX9_errorBred 6 = .ok (.getfield 58, 3) := by decide +kernel
theorem dX9_errorBred_9 : decode cX9_errorBred 9 = .ok (.aload_n 0, 1) := by decide +kernel
theorem dX9_errorBred_10 : decode cX9_errorBred 10 = .ok (.getfield 54, 3) := by decide +kernel
theorem dX9_errorBred_13 : decode cX9_errorBred 13 = .ok (.invokevirtual 286, 3) := by decide +kernel
theorem dX9_errorBred_16 : decode cX9_errorBred 16 = .ok (.aload_n 0, 1) := by decide +kernel
theorem dX9_errorBred_17 : decode cX9_errorBred 17 = .ok (.getfield 33, 3) := by decide +kernel
theorem dX9_errorBred_20 : decode cX9_errorBred 20 = .ok (.iload_n 1, 1) := by decide +kernel
theorem dX9_errorBred_21 : decode cX9_errorBred 21 = .ok (.aload_n 0, 1) := by decide +kernel
theorem dX9_errorBred_22 : decode cX9_errorBred 22 = .ok (.getfield 58, 3) := by decide +kernel
theorem dX9_errorBred_25 : decode cX9_errorBred 25 = .ok (.aload_n 0, 1) := by decide +kernel
theorem dX9_errorBred_26 : decode cX9_errorBred 26 = .ok (.getfield 19, 3) := by decide +kernel
theorem dX9_errorBred_29 : decode cX9_errorBred 29 = .ok (.invokevirtual 226, 3) := by decide +kernel
theorem dX9_errorBred_32 : decode cX9_errorBred 32 = .ok (.ireturn, 1) := by decide +kernel
theorem dX9_digest_0 : decode cX9_digest 0 = .ok (.ldc2_w 289, 3) := by decide +kernel
theorem dX9_digest_3 : decode cX9_digest 3 = .ok (.lstore_n 1, 1) := by decide +kernel
theorem dX9_digest_4 : decode cX9_digest 4 = .ok (.lload_n 1, 1) := by decide +kernel
theorem dX9_digest_5 : decode cX9_digest 5 = .ok (.ldc2_w 291, 3) := by decide +kernel
theorem dX9_digest_8 : decode cX9_digest 8 = .ok (.lmul, 1) := by decide +kernel
theorem dX9_digest_9 : decode cX9_digest 9 = .ok (.aload_n 0, 1) := by decide +kernel
theorem dX9_digest_10 : decode cX9_digest 10 = .ok (.getfield 10, 3) := by decide +kernel
theorem dX9_digest_13 : decode cX9_digest 13 = .ok (.getfield 90, 3) := by decide +kernel
theorem dX9_digest_16 : decode cX9_digest 16 = .ok (.getfield 93, 3) := by decide +kernel
theorem dX9_digest_19 : decode cX9_digest 19 = .ok (.i2l, 1) := by decide +kernel
theorem dX9_digest_20 : decode cX9_digest 20 = .ok (.ladd, 1) := by decide +kernel
theorem dX9_digest_21 : decode cX9_digest 21 = .ok (.lstore_n 1, 1) := by decide +kernel
theorem dX9_digest_22 : decode cX9_digest 22 = .ok (.lload_n 1, 1) := by decide +kernel
theorem dX9_digest_23 : decode cX9_digest 23 = .ok (.ldc2_w 291, 3) := by decide +kernel
theorem dX9_digest_26 : decode cX9_digest 26 = .ok (.lmul, 1) := by decide +kernel
theorem dX9_digest_27 : decode cX9_digest 27 = .ok (.aload_n 0, 1) := by decide +kernel
theorem dX9_digest_28 : decode cX9_digest 28 = .ok (.getfield 54, 3) := by decide +kernel
theorem dX9_digest_31 : decode cX9_digest 31 = .ok (.getfield 99, 3) := by decide +kernel
theorem dX9_digest_34 : decode cX9_digest 34 = .ok (.i2l, 1) := by decide +kernel
theorem dX9_digest_35 : decode cX9_digest 35 = .ok (.ladd, 1) := by decide +kernel
theorem dX9_digest_36 : decode cX9_digest 36 = .ok (.lstore_n 1, 1) := by decide +kernel
theorem dX9_digest_37 : decode cX9_digest 37 = .ok (.lload_n 1, 1) := by decide +kernel
theorem dX9_digest_38 : decode cX9_digest 38 = .ok (.ldc2_w 291, 3) := by decide +kernel
theorem dX9_digest_41 : decode cX9_digest 41 = .ok (.lmul, 1) := by decide +kernel
theorem dX9_digest_42 : decode cX9_digest 42 = .ok (.aload_n 0, 1) := by decide +kernel
theorem dX9_digest_43 : decode cX9_digest 43 = .ok (.getfield 19, 3) := by decide +kernel
theorem dX9_digest_46 : decode cX9_digest 46 = .ok (.getfield 125, 3) := by decide +kernel
theorem dX9_digest_49 : decode cX9_digest 49 = .ok (.i2l, 1) := by decide +kernel
theorem dX9_digest_50 : decode cX9_digest 50 = .ok (.ladd, 1) := by decide +kernel
theorem dX9_digest_51 : decode cX9_digest 51 = .ok (.lstore_n 1, 1) := by decide +kernel
theorem dX9_digest_52 : decode cX9_digest 52 = .ok (.lload_n 1, 1) := by decide +kernel
theorem dX9_digest_53 : decode cX9_digest 53 = .ok (.ldc2_w 291, 3) := by decide +kernel
theorem dX9_digest_56 : decode cX9_digest 56 = .ok (.lmul, 1) := by decide +kernel
theorem dX9_digest_57 : decode cX9_digest 57 = .ok (.aload_n 0, 1) := by decide +kernel
theorem dX9_digest_58 : decode cX9_digest 58 = .ok (.getfield 54, 3) := by decide +kernel
theorem dX9_digest_61 : decode cX9_digest 61 = .ok (.getfield 280, 3) := by decide +kernel
theorem dX9_digest_64 : decode cX9_digest 64 = .ok (.i2l, 1) := by decide +kernel
theorem dX9_digest_65 : decode cX9_digest 65 = .ok (.ladd, 1) := by decide +kernel
theorem dX9_digest_66 : decode cX9_digest 66 = .ok (.lstore_n 1, 1) := by decide +kernel
theorem dX9_digest_67 : decode cX9_digest 67 = .ok (.lload_n 1, 1) := by decide +kernel
theorem dX9_digest_68 : decode cX9_digest 68 = .ok (.ldc2_w 291, 3) := by decide +kernel
theorem dX9_digest_71 : decode cX9_digest 71 = .ok (.lmul, 1) := by decide +kernel
theorem dX9_digest_72 : decode cX9_digest 72 = .ok (.aload_n 0, 1) := by decide +kernel
theorem dX9_digest_73 : decode cX9_digest 73 = .ok (.getfield 54, 3) := by decide +kernel
theorem dX9_digest_76 : decode cX9_digest 76 = .ok (.getfield 283, 3) := by decide +kernel
theorem dX9_digest_79 : decode cX9_digest 79 = .ok (.i2l, 1) := by decide +kernel
theorem dX9_digest_80 : decode cX9_digest 80 = .ok (.ladd, 1) := by decide +kernel
theorem dX9_digest_81 : decode cX9_digest 81 = .ok (.lstore_n 1, 1) := by decide +kernel
theorem dX9_digest_82 : decode cX9_digest 82 = .ok (.lload_n 1, 1) := by decide +kernel
theorem dX9_digest_83 : decode cX9_digest 83 = .ok (.ldc2_w 291, 3) := by decide +kernel
theorem dX9_digest_86 : decode cX9_digest 86 = .ok (.lmul, 1) := by decide +kernel
theorem dX9_digest_87 : decode cX9_digest 87 = .ok (.aload_n 0, 1) := by decide +kernel
theorem dX9_digest_88 : decode cX9_digest 88 = .ok (.getfield 54, 3) := by decide +kernel
theorem dX9_digest_91 : decode cX9_digest 91 = .ok (.getfield 205, 3) := by decide +kernel
theorem dX9_digest_94 : decode cX9_digest 94 = .ok (.getfield 209, 3) := by decide +kernel
theorem dX9_digest_97 : decode cX9_digest 97 = .ok (.i2l, 1) := by decide +kernel
theorem dX9_digest_98 : decode cX9_digest 98 = .ok (.ladd, 1) := by decide +kernel
theorem dX9_digest_99 : decode cX9_digest 99 = .ok (.lstore_n 1, 1) := by decide +kernel
theorem dX9_digest_100 : decode cX9_digest 100 = .ok (.lload_n 1, 1) := by decide +kernel
theorem dX9_digest_101 : decode cX9_digest 101 = .ok (.ldc2_w 291, 3) := by decide +kernel
theorem dX9_digest_104 : decode cX9_digest 104 = .ok (.lmul, 1) := by decide +kernel
theorem dX9_digest_105 : decode cX9_digest 105 = .ok (.aload_n 0, 1) := by decide +kernel
theorem dX9_digest_106 : decode cX9_digest 106 = .ok (.getfield 54, 3) := by decide +kernel
theorem dX9_digest_109 : decode cX9_digest 109 = .ok (.getfield 205, 3) := by decide +kernel
theorem dX9_digest_112 : decode cX9_digest 112 = .ok (.getfield 216, 3) := by decide +kernel
theorem dX9_digest_115 : decode cX9_digest 115 = .ok (.i2l, 1) := by decide +kernel
theorem dX9_digest_116 : decode cX9_digest 116 = .ok (.ladd, 1) := by decide +kernel
theorem dX9_digest_117 : decode cX9_digest 117 = .ok (.lstore_n 1, 1) := by decide +kernel
theorem dX9_digest_118 : decode cX9_digest 118 = .ok (.lload_n 1, 1) := by decide +kernel
theorem dX9_digest_119 : decode cX9_digest 119 = .ok (.ldc2_w 291, 3) := by decide +kernel
theorem dX9_digest_122 : decode cX9_digest 122 = .ok (.lmul, 1) := by decide +kernel
theorem dX9_digest_123 : decode cX9_digest 123 = .ok (.aload_n 0, 1) := by decide +kernel
theorem dX9_digest_124 : decode cX9_digest 124 = .ok (.invokevirtual 293, 3) := by decide +kernel
theorem dX9_digest_127 : decode cX9_digest 127 = .ok (.i2l, 1) := by decide +kernel
theorem dX9_digest_128 : decode cX9_digest 128 = .ok (.ladd, 1) := by decide +kernel
theorem dX9_digest_129 : decode cX9_digest 129 = .ok (.lstore_n 1, 1) := by decide +kernel
theorem dX9_digest_130 : decode cX9_digest 130 = .ok (.iconst 0, 1) := by decide +kernel
theorem dX9_digest_131 : decode cX9_digest 131 = .ok (.istore_n 3, 1) := by decide +kernel
theorem dX9_digest_132 : decode cX9_digest 132 = .ok (.iload_n 3, 1) := by decide +kernel
theorem dX9_digest_133 : decode cX9_digest 133 = .ok (.aload_n 0, 1) := by decide +kernel
theorem dX9_digest_134 : decode cX9_digest 134 = .ok (.getfield 54, 3) := by decide +kernel
theorem dX9_digest_137 : decode cX9_digest 137 = .ok (.getfield 99, 3) := by decide +kernel
theorem dX9_digest_140 : decode cX9_digest 140 = .ok (.if_icmp .ge 23, 3) := by decide +kernel
theorem dX9_digest_143 : decode cX9_digest 143 = .ok (.aload_n 0, 1) := by decide +kernel
theorem dX9_digest_144 : decode cX9_digest 144 = .ok (.lload_n 1, 1) := by decide +kernel
theorem dX9_digest_145 : decode cX9_digest 145 = .ok (.aload_n 0, 1) := by decide +kernel
theorem dX9_digest_146 : decode cX9_digest 146 = .ok (.getfield 54, 3) := by decide +kernel
theorem dX9_digest_149 : decode cX9_digest 149 = .ok (.iload_n 3, 1) := by decide +kernel
theorem dX9_digest_150 : decode cX9_digest 150 = .ok (.invokevirtual 277, 3) := by decide +kernel
theorem dX9_digest_153 : decode cX9_digest 153 = .ok (.invokevirtual 297, 3) := by decide +kernel
theorem dX9_digest_156 : decode cX9_digest 156 = .ok (.lstore_n 1, 1) := by decide +kernel
theorem dX9_digest_157 : decode cX9_digest 157 = .ok (.iinc 3 1, 3) := by decide +kernel
theorem dX9_digest_160 : decode cX9_digest 160 = .ok (.goto (-28), 3) := by decide +kernel
theorem dX9_digest_163 : decode cX9_digest 163 = .ok (.aload_n 0, 1) := by decide +kernel
theorem dX9_digest_164 : decode cX9_digest 164 = .ok (.getfield 26, 3) := by decide +kernel
theorem dX9_digest_167 : decode cX9_digest 167 = .ok (.aload_n 0, 1) := by decide +kernel
theorem dX9_digest_168 : decode cX9_digest 168 = .ok (.getfield 54, 3) := by decide +kernel
theorem dX9_digest_171 : decode cX9_digest 171 = .ok (.aload_n 0, 1) := by decide +kernel
theorem dX9_digest_172 : decode cX9_digest 172 = .ok (.getfield 19, 3) := by decide +kernel
theorem dX9_digest_175 : decode cX9_digest 175 = .ok (.invokevirtual 264, 3) := by decide +kernel
theorem dX9_digest_178 : decode cX9_digest 178 = .ok (.iconst 0, 1) := by decide +kernel
theorem dX9_digest_179 : decode cX9_digest 179 = .ok (.istore_n 3, 1) := by decide +kernel
theorem dX9_digest_180 : decode cX9_digest 180 = .ok (.iload_n 3, 1) := by decide +kernel
theorem dX9_digest_181 : decode cX9_digest 181 = .ok (.aload_n 0, 1) := by decide +kernel
theorem dX9_digest_182 : decode cX9_digest 182 = .ok (.getfield 54, 3) := by decide +kernel
theorem dX9_digest_185 : decode cX9_digest 185 = .ok (.getfield 99, 3) := by decide +kernel
theorem dX9_digest_188 : decode cX9_digest 188 = .ok (.if_icmp .ge 25, 3) := by decide +kernel
theorem dX9_digest_191 : decode cX9_digest 191 = .ok (.lload_n 1, 1) := by decide +kernel
theorem dX9_digest_192 : decode cX9_digest 192 = .ok (.ldc2_w 291, 3) := by decide +kernel
theorem dX9_digest_195 : decode cX9_digest 195 = .ok (.lmul, 1) := by decide +kernel
theorem dX9_digest_196 : decode cX9_digest 196 = .ok (.aload_n 0, 1) := by decide +kernel
theorem dX9_digest_197 : decode cX9_digest 197 = .ok (.getfield 26, 3) := by decide +kernel
theorem dX9_digest_200 : decode cX9_digest 200 = .ok (.iload_n 3, 1) := by decide +kernel
theorem dX9_digest_201 : decode cX9_digest 201 = .ok (.invokevirtual 268, 3) := by decide +kernel
theorem dX9_digest_204 : decode cX9_digest 204 = .ok (.i2l, 1) := by decide +kernel
theorem dX9_digest_205 : decode cX9_digest 205 = .ok (.ladd, 1) := by decide +kernel
theorem dX9_digest_206 : decode cX9_digest 206 = .ok (.lstore_n 1, 1) := by decide +kernel
theorem dX9_digest_207 : decode cX9_digest 207 = .ok (.iinc 3 1, 3) := by decide +kernel
theorem dX9_digest_210 : decode cX9_digest 210 = .ok (.goto (-30), 3) := by decide +kernel
theorem dX9_digest_213 : decode cX9_digest 213 = .ok (.lload_n 1, 1) := by decide +kernel
theorem dX9_digest_214 : decode cX9_digest 214 = .ok (.lreturn, 1) := by decide +kernel
theorem dX9_digestWith_0 : decode cX9_digestWith 0 = .ok (.lload_n 1, 1) := by decide +kernel
theorem dX9_digestWith_1 : decode cX9_digestWith 1 = .ok (.lstore 4, 2) := by decide +kernel
theorem dX9_digestWith_3 : decode cX9_digestWith 3 = .ok (.lload 4, 2) := by decide +kernel
theorem dX9_digestWith_5 : decode cX9_digestWith 5 = .ok (.ldc2_w 291, 3) := by decide +kernel
theorem dX9_digestWith_8 : decode cX9_digestWith 8 = .ok (.lmul, 1) := by decide +kernel
theorem dX9_digestWith_9 : decode cX9_digestWith 9 = .ok (.aload_n 3, 1) := by decide +kernel
theorem dX9_digestWith_10 : decode cX9_digestWith 10 = .ok (.getfield 93, 3) := by decide +kernel
theorem dX9_digestWith_13 : decode cX9_digestWith 13 = .ok (.i2l, 1) := by decide +kernel
theorem dX9_digestWith_14 : decode cX9_digestWith 14 = .ok (.ladd, 1) := by decide +kernel
theorem dX9_digestWith_15 : decode cX9_digestWith 15 = .ok (.lstore 4, 2) := by decide +kernel
theorem dX9_digestWith_17 : decode cX9_digestWith 17 = .ok (.lload 4, 2) := by decide +kernel
theorem dX9_digestWith_19 : decode cX9_digestWith 19 = .ok (.ldc2_w 291, 3) := by decide +kernel
theorem dX9_digestWith_22 : decode cX9_digestWith 22 = .ok (.lmul, 1) := by decide +kernel
theorem dX9_digestWith_23 : decode cX9_digestWith 23 = .ok (.aload_n 3, 1) := by decide +kernel
theorem dX9_digestWith_24 : decode cX9_digestWith 24 = .ok (.getfield 230, 3) := by decide +kernel
theorem dX9_digestWith_27 : decode cX9_digestWith 27 = .ok (.i2l, 1) := by decide +kernel
theorem dX9_digestWith_28 : decode cX9_digestWith 28 = .ok (.ladd, 1) := by decide +kernel
theorem dX9_digestWith_29 : decode cX9_digestWith 29 = .ok (.lstore 4, 2) := by decide +kernel
theorem dX9_digestWith_31 : decode cX9_digestWith 31 = .ok (.lload 4, 2) := by decide +kernel
theorem dX9_digestWith_33 : decode cX9_digestWith 33 = .ok (.ldc2_w 291, 3) := by decide +kernel
theorem dX9_digestWith_36 : decode cX9_digestWith 36 = .ok (.lmul, 1) := by decide +kernel
theorem dX9_digestWith_37 : decode cX9_digestWith 37 = .ok (.aload_n 0, 1) := by decide +kernel
theorem dX9_digestWith_38 : decode cX9_digestWith 38 = .ok (.getfield 19, 3) := by decide +kernel
theorem dX9_digestWith_41 : decode cX9_digestWith 41 = .ok (.aload_n 3, 1) := by decide +kernel
theorem dX9_digestWith_42 : decode cX9_digestWith 42 = .ok (.iconst 0, 1) := by decide +kernel
theorem dX9_digestWith_43 : decode cX9_digestWith 43 = .ok (.invokevirtual 249, 3) := by decide +kernel
theorem dX9_digestWith_46 : decode cX9_digestWith 46 = .ok (.i2l, 1) := by decide +kernel
theorem dX9_digestWith_47 : decode cX9_digestWith 47 = .ok (.ladd, 1) := by decide +kernel
theorem dX9_digestWith_48 : decode cX9_digestWith 48 = .ok (.lstore 4, 2) := by decide +kernel
theorem dX9_digestWith_50 : decode cX9_digestWith 50 = .ok (.lload 4, 2) := by decide +kernel
theorem dX9_digestWith_52 : decode cX9_digestWith 52 = .ok (.ldc2_w 291, 3) := by decide +kernel
theorem dX9_digestWith_55 : decode cX9_digestWith 55 = .ok (.lmul, 1) := by decide +kernel
theorem dX9_digestWith_56 : decode cX9_digestWith 56 = .ok (.aload_n 0, 1) := by decide +kernel
theorem dX9_digestWith_57 : decode cX9_digestWith 57 = .ok (.getfield 19, 3) := by decide +kernel
theorem dX9_digestWith_60 : decode cX9_digestWith 60 = .ok (.aload_n 3, 1) := by decide +kernel
theorem dX9_digestWith_61 : decode cX9_digestWith 61 = .ok (.invokevirtual 252, 3) := by decide +kernel
theorem dX9_digestWith_64 : decode cX9_digestWith 64 = .ok (.i2l, 1) := by decide +kernel
theorem dX9_digestWith_65 : decode cX9_digestWith 65 = .ok (.ladd, 1) := by decide +kernel
theorem dX9_digestWith_66 : decode cX9_digestWith 66 = .ok (.lstore 4, 2) := by decide +kernel
theorem dX9_digestWith_68 : decode cX9_digestWith 68 = .ok (.lload 4, 2) := by decide +kernel
theorem dX9_digestWith_70 : decode cX9_digestWith 70 = .ok (.ldc2_w 291, 3) := by decide +kernel
theorem dX9_digestWith_73 : decode cX9_digestWith 73 = .ok (.lmul, 1) := by decide +kernel
theorem dX9_digestWith_74 : decode cX9_digestWith 74 = .ok (.aload_n 0, 1) := by decide +kernel
theorem dX9_digestWith_75 : decode cX9_digestWith 75 = .ok (.getfield 19, 3) := by decide +kernel
theorem dX9_digestWith_78 : decode cX9_digestWith 78 = .ok (.aload_n 3, 1) := by decide +kernel
theorem dX9_digestWith_79 : decode cX9_digestWith 79 = .ok (.invokevirtual 256, 3) := by decide +kernel
theorem dX9_digestWith_82 : decode cX9_digestWith 82 = .ok (.i2l, 1) := by decide +kernel
theorem dX9_digestWith_83 : decode cX9_digestWith 83 = .ok (.ladd, 1) := by decide +kernel
theorem dX9_digestWith_84 : decode cX9_digestWith 84 = .ok (.lstore 4, 2) := by decide +kernel
theorem dX9_digestWith_86 : decode cX9_digestWith 86 = .ok (.iconst 0, 1) := by decide +kernel
theorem dX9_digestWith_87 : decode cX9_digestWith 87 = .ok (.istore 6, 2) := by decide +kernel
theorem dX9_digestWith_89 : decode cX9_digestWith 89 = .ok (.iload 6, 2) := by decide +kernel
theorem dX9_digestWith_91 : decode cX9_digestWith 91 = .ok (.aload_n 3, 1) := by decide +kernel
theorem dX9_digestWith_92 : decode cX9_digestWith 92 = .ok (.getfield 93, 3) := by decide +kernel
theorem dX9_digestWith_95 : decode cX9_digestWith 95 = .ok (.if_icmp .ge 41, 3) := by decide +kernel
theorem dX9_digestWith_98 : decode cX9_digestWith 98 = .ok (.lload 4, 2) := by decide +kernel
theorem dX9_digestWith_100 : decode cX9_digestWith 100 = .ok (.ldc2_w 291, 3) := by decide +kernel
theorem dX9_digestWith_103 : decode cX9_digestWith 103 = .ok (.lmul, 1) := by decide +kernel
theorem dX9_digestWith_104 : decode cX9_digestWith 104 = .ok (.aload_n 3, 1) := by decide +kernel
theorem dX9_digestWith_105 : decode cX9_digestWith 105 = .ok (.iload 6, 2) := by decide +kernel
theorem dX9_digestWith_107 : decode cX9_digestWith 107 = .ok (.invokevirtual 158, 3) := by decide +kernel
theorem dX9_digestWith_110 : decode cX9_digestWith 110 = .ok (.i2l, 1) := by decide +kernel
theorem dX9_digestWith_111 : decode cX9_digestWith 111 = .ok (.ladd, 1) := by decide +kernel
theorem dX9_digestWith_112 : decode cX9_digestWith 112 = .ok (.lstore 4, 2) := by decide +kernel
theorem dX9_digestWith_114 : decode cX9_digestWith 114 = .ok (.lload 4, 2) := by decide +kernel
theorem dX9_digestWith_116 : decode cX9_digestWith 116 = .ok (.ldc2_w 291, 3) := by decide +kernel
theorem dX9_digestWith_119 : decode cX9_digestWith 119 = .ok (.lmul, 1) := by decide +kernel
theorem dX9_digestWith_120 : decode cX9_digestWith 120 = .ok (.aload_n 3, 1) := by decide +kernel
theorem dX9_digestWith_121 : decode cX9_digestWith 121 = .ok (.iload 6, 2) := by decide +kernel
theorem dX9_digestWith_123 : decode cX9_digestWith 123 = .ok (.invokevirtual 233, 3) := by decide +kernel
theorem dX9_digestWith_126 : decode cX9_digestWith 126 = .ok (.i2l, 1) := by decide +kernel
theorem dX9_digestWith_127 : decode cX9_digestWith 127 = .ok (.ladd, 1) := by decide +kernel
theorem dX9_digestWith_128 : decode cX9_digestWith 128 = .ok (.lstore 4, 2) := by decide +kernel
theorem dX9_digestWith_130 : decode cX9_digestWith 130 = .ok (.iinc 6 1, 3) := by decide +kernel
theorem dX9_digestWith_133 : decode cX9_digestWith 133 = .ok (.goto (-44), 3) := by decide +kernel
theorem dX9_digestWith_136 : decode cX9_digestWith 136 = .ok (.lload 4, 2) := by decide +kernel
theorem dX9_digestWith_138 : decode cX9_digestWith 138 = .ok (.lreturn, 1) := by decide +kernel
theorem dX9_requireTree_0 : decode cX9_requireTree 0 = .ok (.iload_n 1, 1) := by decide +kernel
theorem dX9_requireTree_1 : decode cX9_requireTree 1 = .ok (.ifCond .lt 14, 3) := by decide +kernel
theorem dX9_requireTree_4 : decode cX9_requireTree 4 = .ok (.iload_n 1, 1) := by decide +kernel
theorem dX9_requireTree_5 : decode cX9_requireTree 5 = .ok (.aload_n 0, 1) := by decide +kernel
theorem dX9_requireTree_6 : decode cX9_requireTree 6 = .ok (.getfield 54, 3) := by decide +kernel
theorem dX9_requireTree_9 : decode cX9_requireTree 9 = .ok (.getfield 99, 3) := by decide +kernel
theorem dX9_requireTree_12 : decode cX9_requireTree 12 = .ok (.if_icmp .lt 14, 3) := by decide +kernel
theorem dX9_requireTree_15 : decode cX9_requireTree 15 = .ok (.new 259, 3) := by decide +kernel
theorem dX9_requireTree_18 : decode cX9_requireTree 18 = .ok (.dup, 1) := by decide +kernel
theorem dX9_requireTree_19 : decode cX9_requireTree 19 = .ok (.ldc_w 301, 3) := by decide +kernel
theorem dX9_requireTree_22 : decode cX9_requireTree 22 = .ok (.invokespecial 263, 3) := by decide +kernel
theorem dX9_requireTree_25 : decode cX9_requireTree 25 = .ok (.athrow, 1) := by decide +kernel
theorem dX9_requireTree_26 : decode cX9_requireTree 26 = .ok (.aload_n 0, 1) := by decide +kernel
theorem dX9_requireTree_27 : decode cX9_requireTree 27 = .ok (.getfield 54, 3) := by decide +kernel
theorem dX9_requireTree_30 : decode cX9_requireTree 30 = .ok (.iload_n 1, 1) := by decide +kernel
theorem dX9_requireTree_31 : decode cX9_requireTree 31 = .ok (.invokevirtual 277, 3) := by decide +kernel
theorem dX9_requireTree_34 : decode cX9_requireTree 34 = .ok (.areturn, 1) := by decide +kernel
theorem dX9_requirePlace_0 : decode cX9_requirePlace 0 = .ok (.aload_n 0, 1) := by decide +kernel
theorem dX9_requirePlace_1 : decode cX9_requirePlace 1 = .ok (.iload_n 1, 1) := by decide +kernel
theorem dX9_requirePlace_2 : decode cX9_requirePlace 2 = .ok (.invokevirtual 108, 3) := by decide +kernel
theorem dX9_requirePlace_5 : decode cX9_requirePlace 5 = .ok (.astore_n 3, 1) := by decide +kernel
theorem dX9_requirePlace_6 : decode cX9_requirePlace 6 = .ok (.iload_n 2, 1) := by decide +kernel
theorem dX9_requirePlace_7 : decode cX9_requirePlace 7 = .ok (.ifCond .lt 11, 3) := by decide +kernel
theorem dX9_requirePlace_10 : decode cX9_requirePlace 10 = .ok (.iload_n 2, 1) := by decide +kernel
theorem dX9_requirePlace_11 : decode cX9_requirePlace 11 = .ok (.aload_n 3, 1) := by decide +kernel
theorem dX9_requirePlace_12 : decode cX9_requirePlace 12 = .ok (.getfield 93, 3) := by decide +kernel
theorem dX9_requirePlace_15 : decode cX9_requirePlace 15 = .ok (.if_icmp .lt 14, 3) := by decide +kernel
theorem dX9_requirePlace_18 : decode cX9_requirePlace 18 = .ok (.new 259, 3) := by decide +kernel
theorem dX9_requirePlace_21 : decode cX9_requirePlace 21 = .ok (.dup, 1) := by decide +kernel
theorem dX9_requirePlace_22 : decode cX9_requirePlace 22 = .ok (.ldc_w 303, 3) := by decide +kernel
theorem dX9_requirePlace_25 : decode cX9_requirePlace 25 = .ok (.invokespecial 263, 3) := by decide +kernel
theorem dX9_requirePlace_28 : decode cX9_requirePlace 28 = .ok (.athrow, 1) := by decide +kernel
theorem dX9_requirePlace_29 : decode cX9_requirePlace 29 = .ok (.aload_n 3, 1) := by decide +kernel
theorem dX9_requirePlace_30 : decode cX9_requirePlace 30 = .ok (.areturn, 1) := by decide +kernel
theorem dX9_requireBreeding_0 : decode cX9_requireBreeding 0 = .ok (.iload_n 1, 1) := by decide +kernel
theorem dX9_requireBreeding_1 : decode cX9_requireBreeding 1 = .ok (.iconst 1, 1) := by decide +kernel
theorem dX9_requireBreeding_2 : decode cX9_requireBreeding 2 = .ok (.if_icmp .lt 9, 3) := by decide +kernel
theorem dX9_requireBreeding_5 : decode cX9_requireBreeding 5 = .ok (.iload_n 1, 1) := by decide +kernel
theorem dX9_requireBreeding_6 : decode cX9_requireBreeding 6 = .ok (.bipush 10, 2) := by decide +kernel
theorem dX9_requireBreeding_8 : decode cX9_requireBreeding 8 = .ok (.if_icmp .le 14, 3) := by decide +kernel
theorem dX9_requireBreeding_11 : decode cX9_requireBreeding 11 = .ok (.new 120, 3) := by decide +kernel
theorem dX9_requireBreeding_14 : decode cX9_requireBreeding 14 = .ok (.dup, 1) := by decide +kernel
theorem dX9_requireBreeding_15 : decode cX9_requireBreeding 15 = .ok (.ldc_w 305, 3) := by decide +kernel
theorem dX9_requireBreeding_18 : decode cX9_requireBreeding 18 = .ok (.invokespecial 124, 3) := by decide +kernel
theorem dX9_requireBreeding_21 : decode cX9_requireBreeding 21 = .ok (.athrow, 1) := by decide +kernel
theorem dX9_requireBreeding_22 : decode cX9_requireBreeding 22 = .ok (.aload_n 0, 1) := by decide +kernel
theorem dX9_requireBreeding_23 : decode cX9_requireBreeding 23 = .ok (.getfield 54, 3) := by decide +kernel
theorem dX9_requireBreeding_26 : decode cX9_requireBreeding 26 = .ok (.getfield 99, 3) := by decide +kernel
theorem dX9_requireBreeding_29 : decode cX9_requireBreeding 29 = .ok (.ifCond .ne 14, 3) := by decide +kernel
theorem dX9_requireBreeding_32 : decode cX9_requireBreeding 32 = .ok (.new 76, 3) := by decide +kernel
theorem dX9_requireBreeding_35 : decode cX9_requireBreeding 35 = .ok (.dup, 1) := by decide +kernel
theorem dX9_requireBreeding_36 : decode cX9_requireBreeding 36 = .ok (.ldc_w 307, 3) := by decide +kernel
theorem dX9_requireBreeding_39 : decode cX9_requireBreeding 39 = .ok (.invokespecial 80, 3) := by decide +kernel
theorem dX9_requireBreeding_42 : decode cX9_requireBreeding 42 = .ok (.athrow, 1) := by decide +kernel
theorem dX9_requireBreeding_43 : decode cX9_requireBreeding 43 = .ok (.return_, 1) := by decide +kernel
theorem dX9_requireNode_0 : decode cX9_requireNode 0 = .ok (.iload_n 0, 1) := by decide +kernel
end
section
theorem dX9_requireNode_1 : decode cX9_requireNode 1 = .ok (.ifCond .lt 9, 3) := by decide +kernel
theorem dX9_requireNode_4 : decode cX9_requireNode 4 = .ok (.iload_n 0, 1) := by decide +kernel
theorem dX9_requireNode_5 : decode cX9_requireNode 5 = .ok (.bipush 13, 2) := by decide +kernel
theorem dX9_requireNode_7 : decode cX9_requireNode 7 = .ok (.if_icmp .le 14, 3) := by decide +kernel
theorem dX9_requireNode_10 : decode cX9_requireNode 10 = .ok (.new 120, 3) := by decide +kernel
theorem dX9_requireNode_13 : decode cX9_requireNode 13 = .ok (.dup, 1) := by decide +kernel
theorem dX9_requireNode_14 : decode cX9_requireNode 14 = .ok (.ldc_w 309, 3) := by decide +kernel
theorem dX9_requireNode_17 : decode cX9_requireNode 17 = .ok (.invokespecial 124, 3) := by decide +kernel
theorem dX9_requireNode_20 : decode cX9_requireNode 20 = .ok (.athrow, 1) := by decide +kernel
theorem dX9_requireNode_21 : decode cX9_requireNode 21 = .ok (.iload_n 0, 1) := by decide +kernel
theorem dX9_requireNode_22 : decode cX9_requireNode 22 = .ok (.ifCond .ne 26, 3) := by decide +kernel
theorem dX9_requireNode_25 : decode cX9_requireNode 25 = .ok (.iload_n 1, 1) := by decide +kernel
theorem dX9_requireNode_26 : decode cX9_requireNode 26 = .ok (.bipush (-99), 2) := by decide +kernel
theorem dX9_requireNode_28 : decode cX9_requireNode 28 = .ok (.if_icmp .lt 9, 3) := by decide +kernel
theorem dX9_requireNode_31 : decode cX9_requireNode 31 = .ok (.iload_n 1, 1) := by decide +kernel
theorem dX9_requireNode_32 : decode cX9_requireNode 32 = .ok (.bipush 99, 2) := by decide +kernel
theorem dX9_requireNode_34 : decode cX9_requireNode 34 = .ok (.if_icmp .le 14, 3) := by decide +kernel
theorem dX9_requireNode_37 : decode cX9_requireNode 37 = .ok (.new 120, 3) := by decide +kernel
theorem dX9_requireNode_40 : decode cX9_requireNode 40 = .ok (.dup, 1) := by decide +kernel
theorem dX9_requireNode_41 : decode cX9_requireNode 41 = .ok (.ldc_w 311, 3) := by decide +kernel
theorem dX9_requireNode_44 : decode cX9_requireNode 44 = .ok (.invokespecial 124, 3) := by decide +kernel
theorem dX9_requireNode_47 : decode cX9_requireNode 47 = .ok (.athrow, 1) := by decide +kernel
theorem dX9_requireNode_48 : decode cX9_requireNode 48 = .ok (.iload_n 0, 1) := by decide +kernel
theorem dX9_requireNode_49 : decode cX9_requireNode 49 = .ok (.iconst 1, 1) := by decide +kernel
theorem dX9_requireNode_50 : decode cX9_requireNode 50 = .ok (.if_icmp .ne 23, 3) := by decide +kernel
theorem dX9_requireNode_53 : decode cX9_requireNode 53 = .ok (.iload_n 1, 1) := by decide +kernel
theorem dX9_requireNode_54 : decode cX9_requireNode 54 = .ok (.ifCond .lt 8, 3) := by decide +kernel
theorem dX9_requireNode_57 : decode cX9_requireNode 57 = .ok (.iload_n 1, 1) := by decide +kernel
theorem dX9_requireNode_58 : decode cX9_requireNode 58 = .ok (.iconst 3, 1) := by decide +kernel
theorem dX9_requireNode_59 : decode cX9_requireNode 59 = .ok (.if_icmp .lt 14, 3) := by decide +kernel
theorem dX9_requireNode_62 : decode cX9_requireNode 62 = .ok (.new 120, 3) := by decide +kernel
theorem dX9_requireNode_65 : decode cX9_requireNode 65 = .ok (.dup, 1) := by decide +kernel
theorem dX9_requireNode_66 : decode cX9_requireNode 66 = .ok (.ldc_w 313, 3) := by decide +kernel
theorem dX9_requireNode_69 : decode cX9_requireNode 69 = .ok (.invokespecial 124, 3) := by decide +kernel
theorem dX9_requireNode_72 : decode cX9_requireNode 72 = .ok (.athrow, 1) := by decide +kernel
theorem dX9_requireNode_73 : decode cX9_requireNode 73 = .ok (.return_, 1) := by decide +kernel
theorem dX9_requireInputs_0 : decode cX9_requireInputs 0 = .ok (.iload_n 0, 1) := by decide +kernel
theorem dX9_requireInputs_1 : decode cX9_requireInputs 1 = .ok (.invokestatic 315, 3) := by decide +kernel
theorem dX9_requireInputs_4 : decode cX9_requireInputs 4 = .ok (.ifCond .eq 17, 3) := by decide +kernel
theorem dX9_requireInputs_7 : decode cX9_requireInputs 7 = .ok (.iload_n 1, 1) := by decide +kernel
theorem dX9_requireInputs_8 : decode cX9_requireInputs 8 = .ok (.invokestatic 315, 3) := by decide +kernel
theorem dX9_requireInputs_11 : decode cX9_requireInputs 11 = .ok (.ifCond .eq 10, 3) := by decide +kernel
theorem dX9_requireInputs_14 : decode cX9_requireInputs 14 = .ok (.iload_n 2, 1) := by decide +kernel
theorem dX9_requireInputs_15 : decode cX9_requireInputs 15 = .ok (.invokestatic 315, 3) := by decide +kernel
theorem dX9_requireInputs_18 : decode cX9_requireInputs 18 = .ok (.ifCond .ne 14, 3) := by decide +kernel
theorem dX9_requireInputs_21 : decode cX9_requireInputs 21 = .ok (.new 120, 3) := by decide +kernel
theorem dX9_requireInputs_24 : decode cX9_requireInputs 24 = .ok (.dup, 1) := by decide +kernel
theorem dX9_requireInputs_25 : decode cX9_requireInputs 25 = .ok (.ldc_w 318, 3) := by decide +kernel
theorem dX9_requireInputs_28 : decode cX9_requireInputs 28 = .ok (.invokespecial 124, 3) := by decide +kernel
theorem dX9_requireInputs_31 : decode cX9_requireInputs 31 = .ok (.athrow, 1) := by decide +kernel
theorem dX9_requireInputs_32 : decode cX9_requireInputs 32 = .ok (.return_, 1) := by decide +kernel
theorem dX9_isInput_0 : decode cX9_isInput 0 = .ok (.iload_n 0, 1) := by decide +kernel
theorem dX9_isInput_1 : decode cX9_isInput 1 = .ok (.bipush (-99), 2) := by decide +kernel
theorem dX9_isInput_3 : decode cX9_isInput 3 = .ok (.if_icmp .lt 13, 3) := by decide +kernel
theorem dX9_isInput_6 : decode cX9_isInput 6 = .ok (.iload_n 0, 1) := by decide +kernel
theorem dX9_isInput_7 : decode cX9_isInput 7 = .ok (.bipush 99, 2) := by decide +kernel
theorem dX9_isInput_9 : decode cX9_isInput 9 = .ok (.if_icmp .gt 7, 3) := by decide +kernel
theorem dX9_isInput_12 : decode cX9_isInput 12 = .ok (.iconst 1, 1) := by decide +kernel
theorem dX9_isInput_13 : decode cX9_isInput 13 = .ok (.goto 4, 3) := by decide +kernel
theorem dX9_isInput_16 : decode cX9_isInput 16 = .ok (.iconst 0, 1) := by decide +kernel
theorem dX9_isInput_17 : decode cX9_isInput 17 = .ok (.ireturn, 1) := by decide +kernel
theorem dX9_isNumberPart_0 : decode cX9_isNumberPart 0 = .ok (.iload_n 0, 1) := by decide +kernel
theorem dX9_isNumberPart_1 : decode cX9_isNumberPart 1 = .ok (.bipush 11, 2) := by decide +kernel
theorem dX9_isNumberPart_3 : decode cX9_isNumberPart 3 = .ok (.if_icmp .ge 17, 3) := by decide +kernel
theorem dX9_isNumberPart_6 : decode cX9_isNumberPart 6 = .ok (.iload_n 0, 1) := by decide +kernel
theorem dX9_isNumberPart_7 : decode cX9_isNumberPart 7 = .ok (.bipush 8, 2) := by decide +kernel
theorem dX9_isNumberPart_9 : decode cX9_isNumberPart 9 = .ok (.if_icmp .ne 7, 3) := by decide +kernel
theorem dX9_isNumberPart_12 : decode cX9_isNumberPart 12 = .ok (.iload_n 1, 1) := by decide +kernel
theorem dX9_isNumberPart_13 : decode cX9_isNumberPart 13 = .ok (.ifCond .eq 7, 3) := by decide +kernel
theorem dX9_isNumberPart_16 : decode cX9_isNumberPart 16 = .ok (.iconst 1, 1) := by decide +kernel
theorem dX9_isNumberPart_17 : decode cX9_isNumberPart 17 = .ok (.goto 4, 3) := by decide +kernel
theorem dX9_isNumberPart_20 : decode cX9_isNumberPart 20 = .ok (.iconst 0, 1) := by decide +kernel
theorem dX9_isNumberPart_21 : decode cX9_isNumberPart 21 = .ok (.ireturn, 1) := by decide +kernel
theorem dX9_at_0 : decode cX9_at 0 = .ok (.iload_n 1, 1) := by decide +kernel
theorem dX9_at_1 : decode cX9_at 1 = .ok (.ifCond .lt 9, 3) := by decide +kernel
theorem dX9_at_4 : decode cX9_at 4 = .ok (.iload_n 1, 1) := by decide +kernel
theorem dX9_at_5 : decode cX9_at 5 = .ok (.aload_n 0, 1) := by decide +kernel
theorem dX9_at_6 : decode cX9_at 6 = .ok (.arraylength, 1) := by decide +kernel
theorem dX9_at_7 : decode cX9_at 7 = .ok (.if_icmp .lt 7, 3) := by decide +kernel
theorem dX9_at_10 : decode cX9_at 10 = .ok (.iconst 0, 1) := by decide +kernel
theorem dX9_at_11 : decode cX9_at 11 = .ok (.goto 6, 3) := by decide +kernel
theorem dX9_at_14 : decode cX9_at 14 = .ok (.aload_n 0, 1) := by decide +kernel
theorem dX9_at_15 : decode cX9_at 15 = .ok (.iload_n 1, 1) := by decide +kernel
theorem dX9_at_16 : decode cX9_at 16 = .ok (.iaload, 1) := by decide +kernel
theorem dX9_at_17 : decode cX9_at 17 = .ok (.ireturn, 1) := by decide +kernel
theorem dX9_put_0 : decode cX9_put 0 = .ok (.iload_n 1, 1) := by decide +kernel
theorem dX9_put_1 : decode cX9_put 1 = .ok (.ifCond .lt 13, 3) := by decide +kernel
theorem dX9_put_4 : decode cX9_put 4 = .ok (.iload_n 1, 1) := by decide +kernel
theorem dX9_put_5 : decode cX9_put 5 = .ok (.aload_n 0, 1) := by decide +kernel
theorem dX9_put_6 : decode cX9_put 6 = .ok (.arraylength, 1) := by decide +kernel
theorem dX9_put_7 : decode cX9_put 7 = .ok (.if_icmp .ge 7, 3) := by decide +kernel
theorem dX9_put_10 : decode cX9_put 10 = .ok (.aload_n 0, 1) := by decide +kernel
theorem dX9_put_11 : decode cX9_put 11 = .ok (.iload_n 1, 1) := by decide +kernel
theorem dX9_put_12 : decode cX9_put 12 = .ok (.iload_n 2, 1) := by decide +kernel
theorem dX9_put_13 : decode cX9_put 13 = .ok (.iastore, 1) := by decide +kernel
theorem dX9_put_14 : decode cX9_put 14 = .ok (.return_, 1) := by decide +kernel
end
section
/-- Barnacle.at, the index in its row -/
theorem k_at (l : Launch) (G : fw_G) (M : fw_M) (N : Nat) (a n : Nat) (g : Nat → Int) (z : Int) (k : Nat) (ha : M a = some (fI G n (fun j0 => iI (g j0)))) (hzk : z = ↑k) (hk : k < n) (hn : n < 2147483648) : fMet l yX9_at cX9_at 2 (some .int) 0 0 0 0 G M N [.ref a, .int (iI z)] (fw_pi (fun r M1 n1 => r = iI (g k) ∧ M1 = M ∧ n1 = N)) := by
  refine fw_met RX9 rfl (by decide +kernel) (Nat.le_of_ble_eq_true rfl) ?_
  intro pG e s m args below meth cG ls E hr hlk hnm hK hH hz hl
  refine lv_iload_n E.1 E.2.1 dX9_at_0 rfl (lv_at hl 1 rfl) ?_
  refine fw_if_lt (tgt := 10) E dX9_at_1 (by decide) (by omega) (by omega) (fun c1 => ?_) (fun c1 => ?_)
  · exact absurd c1 (by omega)
  · refine lv_iload_n E.1 E.2.1 dX9_at_4 rfl (lv_at hl 1 rfl) ?_
    refine lv_aload_n E.1 E.2.1 dX9_at_5 rfl (lv_at hl 0 rfl) ?_
    refine fw_alen E hK hH ha dX9_at_6 ?_
    refine fw_cv (y := iI (↑n)) (nI_iI _) ?_
    refine fw_icmp_lt (tgt := 14) E dX9_at_7 (by decide) (by omega) (by omega) (by omega) (by omega) (fun c2 => ?_) (fun c2 => ?_)
    · refine lv_aload_n E.1 E.2.1 dX9_at_14 rfl (lv_at hl 0 rfl) ?_
      refine lv_iload_n E.1 E.2.1 dX9_at_15 rfl (lv_at hl 1 rfl) ?_
      refine fw_iald E hK hH ha (iI_in (by omega) (by omega) (by omega)) dX9_at_16 ?_
      refine fw_cv (y := iI (g (z).toNat)) (by rw [iI_ix (by omega) (by omega)]) ?_
      refine fw_iret E hr hlk hH ?_ dX9_at_17
      exact ⟨by rw [hzk]; rfl, rfl, hz⟩
    · exact absurd c2 (by omega)
theorem k_put (l : Launch) (G : fw_G) (M : fw_M) (N : Nat) (a n : Nat) (g : Nat → Int) (z : Int) (k : Nat) (v : Int) (ha : M a = some (fI G n (fun j0 => iI (g j0)))) (hb : G.2.2.1 ≤ a) (hzk : z = ↑k) (hk : k < n) (hn : n < 2147483648) : fMet l yX9_put cX9_put 3 none 0 0 0 0 G M N [.ref a, .int (iI z), .int (iI v)] (fw_pv (fun M1 n1 => M1 = fw_up M a (fI G n (fun j => iI (zup g k v j))) ∧ n1 = N)) := by
  refine fw_met RX9 rfl (by decide +kernel) (Nat.le_of_ble_eq_true rfl) ?_
  intro pG e s m args below meth cG ls E hr hlk hnm hK hH hz hl
  refine lv_iload_n E.1 E.2.1 dX9_put_0 rfl (lv_at hl 1 rfl) ?_
  refine fw_if_lt (tgt := 14) E dX9_put_1 (by decide) (by omega) (by omega) (fun c1 => ?_) (fun c1 => ?_)
  · exact absurd c1 (by omega)
  · refine lv_iload_n E.1 E.2.1 dX9_put_4 rfl (lv_at hl 1 rfl) ?_
    refine lv_aload_n E.1 E.2.1 dX9_put_5 rfl (lv_at hl 0 rfl) ?_
    refine fw_alen E hK hH ha dX9_put_6 ?_
    refine fw_cv (y := iI (↑n)) (nI_iI _) ?_
    refine fw_icmp_ge (tgt := 14) E dX9_put_7 (by decide) (by omega) (by omega) (by omega) (by omega) (fun c2 => ?_) (fun c2 => ?_)
    · exact absurd c2 (by omega)
    · refine lv_aload_n E.1 E.2.1 dX9_put_10 rfl (lv_at hl 0 rfl) ?_
      refine lv_iload_n E.1 E.2.1 dX9_put_11 rfl (lv_at hl 1 rfl) ?_
      refine lv_iload_n E.1 E.2.1 dX9_put_12 rfl (lv_at hl 2 rfl) ?_
      refine fw_iast E hK hH (by omega) ha (iI_in (by omega) (by omega) (by omega)) dX9_put_13 (fun H1 locs1 hH hz1 => ?_)
      replace hz := hz1.trans hz; clear hz1
      rw [show upd (fun j0 => iI (g j0)) (iI (z)).toNatClampNeg (iI (v)) = fun j0 => iI ((zup g (k) (v)) j0) from by rw [iI_ix (by omega) (by omega), show (z : Int).toNat = k from by omega]; exact zup_upd _ _ _] at hH
      obtain ⟨M3, hM4⟩ : ∃ MX, MX = fw_up M a (fI G n (fun j0 => iI ((zup g (k) (v)) j0))) := ⟨_, rfl⟩
      replace hH := fw_H.nm hM4 hH
      have fr5 : ∀ q, q ≠ a → M3 q = M q := fun q h => by rw [hM4]; exact fw_up_ne h
      have ha : M3 a = some (fI G n (fun j0 => iI ((zup g (k) (v)) j0))) := by rw [hM4]; exact fw_up_eq
      refine fw_vret E hr hlk hH ?_ dX9_put_14
      exact ⟨hM4, hz⟩
end
section
def z0 : Nat → Int := fun _ => 0
/-- a TREE of the class: its object and its four rows, one behind the other -/
def trAt (G : fw_G) (M : fw_M) (a : Nat) (cs vs ss hs : Nat → Int) (n lv : Int) : Prop := G.2.2.1 ≤ a ∧ M a = some (.inr (8, [.ref (a + 1), .ref (a + 2), .ref (a + 3), .ref (a + 4), .int (iI n), .int (iI lv)])) ∧ M (a + 1) = some (fI G 40 (fun j0 => iI (cs j0))) ∧ M (a + 2) = some (fI G 40 (fun j0 => iI (vs j0))) ∧ M (a + 3) = some (fI G 40 (fun j0 => iI (ss j0))) ∧ M (a + 4) = some (fI G 40 (fun j0 => iI (hs j0)))
theorem trAt.fr {G : fw_G} {M M1 : fw_M} {a : Nat} {cs vs ss hs : Nat → Int} {n lv : Int} (h : trAt G M a cs vs ss hs n lv) (hf : ∀ q, a ≤ q → q < a + 5 → M1 q = M q) : trAt G M1 a cs vs ss hs n lv := by
  obtain ⟨h0, h1, h2, h3, h4, h5⟩ := h
  exact ⟨h0, (hf _ (by omega) (by omega)).trans h1, (hf _ (by omega) (by omega)).trans h2, (hf _ (by omega) (by omega)).trans h3, (hf _ (by omega) (by omega)).trans h4, (hf _ (by omega) (by omega)).trans h5⟩
theorem k_code (l : Launch) (G : fw_G) (M : fw_M) (N : Nat) (a : Nat) (cs vs ss hs : Nat → Int) (n lv : Int) (z : Int) (k : Nat) (hT : trAt G M a cs vs ss hs n lv) (hzk : z = ↑k) (hk : k < 40) : fMet l yX8_code cX8_code 2 (some .int) 1 30 0 0 G M N [.ref a, .int (iI z)] (fw_pi (fun r M1 n1 => r = iI (cs k) ∧ M1 = M ∧ n1 = N)) := by
  refine fw_met RX8 rfl (by decide +kernel) (Nat.le_of_ble_eq_true rfl) ?_
  intro pG e s m args below meth cG ls E hr hlk hnm hK hH hz hl
  refine lv_aload_n E.1 E.2.1 dX8_code_0 rfl (lv_at hl 0 rfl) ?_
  refine fw_get E hK hH hT.2.1 fc_X8 0 (by decide) ql_RX8_9 rfl rfl dX8_code_1 ?_
  refine lv_iload_n E.1 E.2.1 dX8_code_4 rfl (lv_at hl 1 rfl) ?_
  refine fw_cSN (As := [.ref (a + 1), .int (iI z)]) (rest := []) E hK hH hl fL_X9_at ql_RX8_24 qs_yX9_at (k_at l G _ _ (a + 1) 40 cs z k hT.2.2.1 (by omega) (by omega) (by omega)) rfl rfl (Nat.le_of_ble_eq_true rfl) ⟨Nat.le_of_ble_eq_true rfl, Nat.le_of_ble_eq_true rfl⟩ ⟨Nat.le_of_ble_eq_true rfl, Nat.le_of_ble_eq_true rfl⟩ dX8_code_5 (fw_ki fun r3 M2 H1 locs1 hp1 hH hz1 => ?_)
  obtain ⟨rfl, hM9, hz2⟩ := hp1
  replace hz := hz2.trans hz
  clear hz1 hz2
  rw [hM9] at hH
  refine fw_iret E hr hlk hH ?_ dX8_code_8
  exact ⟨rfl, rfl, hz⟩
theorem k_value (l : Launch) (G : fw_G) (M : fw_M) (N : Nat) (a : Nat) (cs vs ss hs : Nat → Int) (n lv : Int) (z : Int) (k : Nat) (hT : trAt G M a cs vs ss hs n lv) (hzk : z = ↑k) (hk : k < 40) : fMet l yX8_value cX8_value 2 (some .int) 1 30 0 0 G M N [.ref a, .int (iI z)] (fw_pi (fun r M1 n1 => r = iI (vs k) ∧ M1 = M ∧ n1 = N)) := by
  refine fw_met RX8 rfl (by decide +kernel) (Nat.le_of_ble_eq_true rfl) ?_
  intro pG e s m args below meth cG ls E hr hlk hnm hK hH hz hl
  refine lv_aload_n E.1 E.2.1 dX8_value_0 rfl (lv_at hl 0 rfl) ?_
  refine fw_get E hK hH hT.2.1 fc_X8 1 (by decide) ql_RX8_15 rfl rfl dX8_value_1 ?_
  refine lv_iload_n E.1 E.2.1 dX8_value_4 rfl (lv_at hl 1 rfl) ?_
  refine fw_cSN (As := [.ref (a + 2), .int (iI z)]) (rest := []) E hK hH hl fL_X9_at ql_RX8_24 qs_yX9_at (k_at l G _ _ (a + 2) 40 vs z k hT.2.2.2.1 (by omega) (by omega) (by omega)) rfl rfl (Nat.le_of_ble_eq_true rfl) ⟨Nat.le_of_ble_eq_true rfl, Nat.le_of_ble_eq_true rfl⟩ ⟨Nat.le_of_ble_eq_true rfl, Nat.le_of_ble_eq_true rfl⟩ dX8_value_5 (fw_ki fun r3 M2 H1 locs1 hp1 hH hz1 => ?_)
  obtain ⟨rfl, hM9, hz2⟩ := hp1
  replace hz := hz2.trans hz
  clear hz1 hz2
  rw [hM9] at hH
  refine fw_iret E hr hlk hH ?_ dX8_value_8
  exact ⟨rfl, rfl, hz⟩
theorem k_span (l : Launch) (G : fw_G) (M : fw_M) (N : Nat) (a : Nat) (cs vs ss hs : Nat → Int) (n lv : Int) (z : Int) (k : Nat) (hT : trAt G M a cs vs ss hs n lv) (hzk : z = ↑k) (hk : k < 40) : fMet l yX8_span cX8_span 2 (some .int) 1 30 0 0 G M N [.ref a, .int (iI z)] (fw_pi (fun r M1 n1 => r = iI (ss k) ∧ M1 = M ∧ n1 = N)) := by
  refine fw_met RX8 rfl (by decide +kernel) (Nat.le_of_ble_eq_true rfl) ?_
  intro pG e s m args below meth cG ls E hr hlk hnm hK hH hz hl
  refine lv_aload_n E.1 E.2.1 dX8_span_0 rfl (lv_at hl 0 rfl) ?_
  refine fw_get E hK hH hT.2.1 fc_X8 2 (by decide) ql_RX8_18 rfl rfl dX8_span_1 ?_
  refine lv_iload_n E.1 E.2.1 dX8_span_4 rfl (lv_at hl 1 rfl) ?_
  refine fw_cSN (As := [.ref (a + 3), .int (iI z)]) (rest := []) E hK hH hl fL_X9_at ql_RX8_24 qs_yX9_at (k_at l G _ _ (a + 3) 40 ss z k hT.2.2.2.2.1 (by omega) (by omega) (by omega)) rfl rfl (Nat.le_of_ble_eq_true rfl) ⟨Nat.le_of_ble_eq_true rfl, Nat.le_of_ble_eq_true rfl⟩ ⟨Nat.le_of_ble_eq_true rfl, Nat.le_of_ble_eq_true rfl⟩ dX8_span_5 (fw_ki fun r3 M2 H1 locs1 hp1 hH hz1 => ?_)
  obtain ⟨rfl, hM9, hz2⟩ := hp1
  replace hz := hz2.trans hz
  clear hz1 hz2
  rw [hM9] at hH
  refine fw_iret E hr hlk hH ?_ dX8_span_8
  exact ⟨rfl, rfl, hz⟩
theorem k_isNumber (l : Launch) (G : fw_G) (M : fw_M) (N : Nat) (a : Nat) (cs vs ss hs : Nat → Int) (n lv : Int) (z : Int) (k : Nat) (hT : trAt G M a cs vs ss hs n lv) (hzk : z = ↑k) (hk : k < 40) (hc : 0 ≤ cs k ∧ cs k ≤ 13) : fMet l yX8_isNumber cX8_isNumber 2 (some .boolean) 1 30 0 0 G M N [.ref a, .int (iI z)] (fw_pi (fun r M1 n1 => r = iI (if cs k ≤ 8 then 1 else 0) ∧ M1 = M ∧ n1 = N)) := by
  refine fw_met RX8 rfl (by decide +kernel) (Nat.le_of_ble_eq_true rfl) ?_
  intro pG e s m args below meth cG ls E hr hlk hnm hK hH hz hl
  have hc1 := hc.1
  have hc2 := hc.2
  refine lv_aload_n E.1 E.2.1 dX8_isNumber_0 rfl (lv_at hl 0 rfl) ?_
  refine fw_get E hK hH hT.2.1 fc_X8 0 (by decide) ql_RX8_9 rfl rfl dX8_isNumber_1 ?_
  refine lv_iload_n E.1 E.2.1 dX8_isNumber_4 rfl (lv_at hl 1 rfl) ?_
  refine fw_cSN (As := [.ref (a + 1), .int (iI z)]) (rest := []) E hK hH hl fL_X9_at ql_RX8_24 qs_yX9_at (k_at l G _ _ (a + 1) 40 cs z k hT.2.2.1 (by omega) (by omega) (by omega)) rfl rfl (Nat.le_of_ble_eq_true rfl) ⟨Nat.le_of_ble_eq_true rfl, Nat.le_of_ble_eq_true rfl⟩ ⟨Nat.le_of_ble_eq_true rfl, Nat.le_of_ble_eq_true rfl⟩ dX8_isNumber_5 (fw_ki fun r3 M2 H1 locs1 hp1 hH hz1 => ?_)
  obtain ⟨rfl, hM9, hz2⟩ := hp1
  replace hz := hz2.trans hz
  clear hz1 hz2
  rw [hM9] at hH
  refine lv_bipush (v := iI 8) E.1 E.2.1 dX8_isNumber_8 (by decide) ?_
  refine fw_icmp_gt (tgt := 17) E dX8_isNumber_10 (by decide) (by omega) (by omega) (by omega) (by omega) (fun c4 => ?_) (fun c4 => ?_)
  · refine lv_iconst (v := iI 0) E.1 E.2.1 dX8_isNumber_17 (by decide) ?_
    refine fw_zret (r := (iI 0)) E hr hlk hH (by rfl) ?_ dX8_isNumber_18
    exact ⟨by congr 1; split <;> omega, rfl, hz⟩
  · refine lv_iconst (v := iI 1) E.1 E.2.1 dX8_isNumber_13 (by decide) ?_
    refine lv_goto (tgt := 18) E.1 E.2.1 dX8_isNumber_14 (by decide) ?_
    refine fw_zret (r := (iI 1)) E hr hlk hH (by rfl) ?_ dX8_isNumber_18
    exact ⟨by congr 1; split <;> omega, rfl, hz⟩
theorem k_behind (l : Launch) (G : fw_G) (M : fw_M) (N : Nat) (a : Nat) (cs vs ss hs : Nat → Int) (n lv : Int) (z : Int) (k : Nat) (hT : trAt G M a cs vs ss hs n lv) (hzk : z = ↑k) (hk : k < 40) : fMet l yX8_behind cX8_behind 2 (some .int) 1 30 0 0 G M N [.ref a, .int (iI z)] (fw_pi (fun r M1 n1 => r = iI (z + ss k) ∧ M1 = M ∧ n1 = N)) := by
  refine fw_met RX8 rfl (by decide +kernel) (Nat.le_of_ble_eq_true rfl) ?_
  intro pG e s m args below meth cG ls E hr hlk hnm hK hH hz hl
  refine lv_iload_n E.1 E.2.1 dX8_behind_0 rfl (lv_at hl 1 rfl) ?_
  refine lv_aload_n E.1 E.2.1 dX8_behind_1 rfl (lv_at hl 0 rfl) ?_
  refine fw_get E hK hH hT.2.1 fc_X8 2 (by decide) ql_RX8_18 rfl rfl dX8_behind_2 ?_
  refine lv_iload_n E.1 E.2.1 dX8_behind_5 rfl (lv_at hl 1 rfl) ?_
  refine fw_cSN (As := [.ref (a + 3), .int (iI z)]) (rest := [.int (iI z)]) E hK hH hl fL_X9_at ql_RX8_24 qs_yX9_at (k_at l G _ _ (a + 3) 40 ss z k hT.2.2.2.2.1 (by omega) (by omega) (by omega)) rfl rfl (Nat.le_of_ble_eq_true rfl) ⟨Nat.le_of_ble_eq_true rfl, Nat.le_of_ble_eq_true rfl⟩ ⟨Nat.le_of_ble_eq_true rfl, Nat.le_of_ble_eq_true rfl⟩ dX8_behind_6 (fw_ki fun r3 M2 H1 locs1 hp1 hH hz1 => ?_)
  obtain ⟨rfl, hM9, hz2⟩ := hp1
  replace hz := hz2.trans hz
  clear hz1 hz2
  rw [hM9] at hH
  refine fw_iadd E dX8_behind_9 ?_
  refine fw_iret E hr hlk hH ?_ dX8_behind_10
  exact ⟨rfl, rfl, hz⟩
end
section
/-- a new TREE -/
theorem k_Tree_init (l : Launch) (G : fw_G) (M : fw_M) (N : Nat) (a : Nat) (hb : G.2.2.1 ≤ a) (ha : M a = some (.inr (8, [.null, .null, .null, .null, .int 0, .int 0]))) (hN : N = a + 1) : fMet l yX8_init cX8_init 1 none 1 14 4 160 G M N [.ref a] (fw_pv (fun M1 n1 => trAt G M1 a z0 z0 z0 z0 0 0 ∧ n1 = N + 4 ∧ ∀ q, q < a → M1 q = M q)) := by
  refine fw_met RX8 rfl (by decide +kernel) (Nat.le_of_ble_eq_true rfl) ?_
  intro pG e s m args below meth cG ls E hr hlk hnm hK hH hz hl
  have hz := hz.trans hN
  refine lv_aload_n E.1 E.2.1 dX8_init_0 rfl (lv_at hl 0 rfl) ?_
  refine fw_obj E ql_RX8_3 qi_obj qc_obj hl dX8_init_1 ⟨by decide, by decide⟩ ?_
  refine lv_aload_n E.1 E.2.1 dX8_init_4 rfl (lv_at hl 0 rfl) ?_
  refine lv_bipush (v := iI 40) E.1 E.2.1 dX8_init_5 (by decide) ?_
  refine fw_newI (N := 40) E hK hH hz qa_int (by decide) (by decide) (by decide) ⟨Nat.le_of_ble_eq_true rfl, Nat.le_of_ble_eq_true rfl⟩ dX8_init_7 (fun H1 hH hz1 => ?_)
  replace hz : H1.size = a + 2 := by omega
  clear hz1
  obtain ⟨M1, hM2⟩ : ∃ MX, MX = fw_up M (a + 1) (fI G 40 (fun j0 => iI (z0 j0))) := ⟨_, rfl⟩
  replace hH := fw_H.nm hM2 hH
  have fr3 : ∀ q, q ≠ a + 1 → M1 q = M q := fun q h => by rw [hM2]; exact fw_up_ne h
  replace ha : M1 a = some (.inr (8, [.null, .null, .null, .null, .int 0, .int 0])) := (fr3 _ (by omega)).trans ha
  have hn0 : M1 (a + 1) = some (fI G 40 (fun j0 => iI (z0 j0))) := by rw [hM2]; exact fw_up_eq
  refine fw_putF E hK hH (by omega) ha fc_X8 0 (by decide) ql_RX8_9 rfl rfl hnm rfl rfl (Nat.le_of_ble_eq_true rfl) dX8_init_9 (fun H1 locs1 hH hz1 => ?_)
  replace hz := hz1.trans hz; clear hz1
  obtain ⟨M4, hM5⟩ : ∃ MX, MX = fw_up M1 a (.inr (8, [.ref (a + 1), .null, .null, .null, .int 0, .int 0])) := ⟨_, rfl⟩
  replace hH := fw_H.nm hM5 hH
  have fr6 : ∀ q, q ≠ a → M4 q = M1 q := fun q h => by rw [hM5]; exact fw_up_ne h
  replace hn0 : M4 (a + 1) = some (fI G 40 (fun j0 => iI (z0 j0))) := (fr6 _ (by omega)).trans hn0
  have ha : M4 a = some (.inr (8, [.ref (a + 1), .null, .null, .null, .int 0, .int 0])) := by rw [hM5]; exact fw_up_eq
  refine lv_aload_n E.1 E.2.1 dX8_init_12 rfl (lv_at hl 0 rfl) ?_
  refine lv_bipush (v := iI 40) E.1 E.2.1 dX8_init_13 (by decide) ?_
  refine fw_newI (N := 40) E hK hH hz qa_int (by decide) (by decide) (by decide) ⟨Nat.le_of_ble_eq_true rfl, Nat.le_of_ble_eq_true rfl⟩ dX8_init_15 (fun H1 hH hz1 => ?_)
  replace hz : H1.size = a + 3 := by omega
  clear hz1
  obtain ⟨M7, hM8⟩ : ∃ MX, MX = fw_up M4 (a + 2) (fI G 40 (fun j0 => iI (z0 j0))) := ⟨_, rfl⟩
  replace hH := fw_H.nm hM8 hH
  have fr9 : ∀ q, q ≠ a + 2 → M7 q = M4 q := fun q h => by rw [hM8]; exact fw_up_ne h
  replace hn0 : M7 (a + 1) = some (fI G 40 (fun j0 => iI (z0 j0))) := (fr9 _ (by omega)).trans hn0
  replace ha : M7 a = some (.inr (8, [.ref (a + 1), .null, .null, .null, .int 0, .int 0])) := (fr9 _ (by omega)).trans ha
  have hn1 : M7 (a + 2) = some (fI G 40 (fun j0 => iI (z0 j0))) := by rw [hM8]; exact fw_up_eq
  refine fw_putF E hK hH (by omega) ha fc_X8 1 (by decide) ql_RX8_15 rfl rfl hnm rfl rfl (Nat.le_of_ble_eq_true rfl) dX8_init_17 (fun H1 locs1 hH hz1 => ?_)
  replace hz := hz1.trans hz; clear hz1
  obtain ⟨M10, hM11⟩ : ∃ MX, MX = fw_up M7 a (.inr (8, [.ref (a + 1), .ref (a + 2), .null, .null, .int 0, .int 0])) := ⟨_, rfl⟩
  replace hH := fw_H.nm hM11 hH
  have fr12 : ∀ q, q ≠ a → M10 q = M7 q := fun q h => by rw [hM11]; exact fw_up_ne h
  replace hn0 : M10 (a + 1) = some (fI G 40 (fun j0 => iI (z0 j0))) := (fr12 _ (by omega)).trans hn0
  replace hn1 : M10 (a + 2) = some (fI G 40 (fun j0 => iI (z0 j0))) := (fr12 _ (by omega)).trans hn1
  have ha : M10 a = some (.inr (8, [.ref (a + 1), .ref (a + 2), .null, .null, .int 0, .int 0])) := by rw [hM11]; exact fw_up_eq
  refine lv_aload_n E.1 E.2.1 dX8_init_20 rfl (lv_at hl 0 rfl) ?_
  refine lv_bipush (v := iI 40) E.1 E.2.1 dX8_init_21 (by decide) ?_
  refine fw_newI (N := 40) E hK hH hz qa_int (by decide) (by decide) (by decide) ⟨Nat.le_of_ble_eq_true rfl, Nat.le_of_ble_eq_true rfl⟩ dX8_init_23 (fun H1 hH hz1 => ?_)
  replace hz : H1.size = a + 4 := by omega
  clear hz1
  obtain ⟨M13, hM14⟩ : ∃ MX, MX = fw_up M10 (a + 3) (fI G 40 (fun j0 => iI (z0 j0))) := ⟨_, rfl⟩
  replace hH := fw_H.nm hM14 hH
  have fr15 : ∀ q, q ≠ a + 3 → M13 q = M10 q := fun q h => by rw [hM14]; exact fw_up_ne h
  replace hn0 : M13 (a + 1) = some (fI G 40 (fun j0 => iI (z0 j0))) := (fr15 _ (by omega)).trans hn0
  replace hn1 : M13 (a + 2) = some (fI G 40 (fun j0 => iI (z0 j0))) := (fr15 _ (by omega)).trans hn1
  replace ha : M13 a = some (.inr (8, [.ref (a + 1), .ref (a + 2), .null, .null, .int 0, .int 0])) := (fr15 _ (by omega)).trans ha
  have hn2 : M13 (a + 3) = some (fI G 40 (fun j0 => iI (z0 j0))) := by rw [hM14]; exact fw_up_eq
  refine fw_putF E hK hH (by omega) ha fc_X8 2 (by decide) ql_RX8_18 rfl rfl hnm rfl rfl (Nat.le_of_ble_eq_true rfl) dX8_init_25 (fun H1 locs1 hH hz1 => ?_)
  replace hz := hz1.trans hz; clear hz1
  obtain ⟨M16, hM17⟩ : ∃ MX, MX = fw_up M13 a (.inr (8, [.ref (a + 1), .ref (a + 2), .ref (a + 3), .null, .int 0, .int 0])) := ⟨_, rfl⟩
  replace hH := fw_H.nm hM17 hH
  have fr18 : ∀ q, q ≠ a → M16 q = M13 q := fun q h => by rw [hM17]; exact fw_up_ne h
  replace hn0 : M16 (a + 1) = some (fI G 40 (fun j0 => iI (z0 j0))) := (fr18 _ (by omega)).trans hn0
  replace hn1 : M16 (a + 2) = some (fI G 40 (fun j0 => iI (z0 j0))) := (fr18 _ (by omega)).trans hn1
  replace hn2 : M16 (a + 3) = some (fI G 40 (fun j0 => iI (z0 j0))) := (fr18 _ (by omega)).trans hn2
  have ha : M16 a = some (.inr (8, [.ref (a + 1), .ref (a + 2), .ref (a + 3), .null, .int 0, .int 0])) := by rw [hM17]; exact fw_up_eq
  refine lv_aload_n E.1 E.2.1 dX8_init_28 rfl (lv_at hl 0 rfl) ?_
  refine lv_bipush (v := iI 40) E.1 E.2.1 dX8_init_29 (by decide) ?_
  refine fw_newI (N := 40) E hK hH hz qa_int (by decide) (by decide) (by decide) ⟨Nat.le_of_ble_eq_true rfl, Nat.le_of_ble_eq_true rfl⟩ dX8_init_31 (fun H1 hH hz1 => ?_)
  replace hz : H1.size = a + 5 := by omega
  clear hz1
  obtain ⟨M19, hM20⟩ : ∃ MX, MX = fw_up M16 (a + 4) (fI G 40 (fun j0 => iI (z0 j0))) := ⟨_, rfl⟩
  replace hH := fw_H.nm hM20 hH
  have fr21 : ∀ q, q ≠ a + 4 → M19 q = M16 q := fun q h => by rw [hM20]; exact fw_up_ne h
  replace hn0 : M19 (a + 1) = some (fI G 40 (fun j0 => iI (z0 j0))) := (fr21 _ (by omega)).trans hn0
  replace hn1 : M19 (a + 2) = some (fI G 40 (fun j0 => iI (z0 j0))) := (fr21 _ (by omega)).trans hn1
  replace hn2 : M19 (a + 3) = some (fI G 40 (fun j0 => iI (z0 j0))) := (fr21 _ (by omega)).trans hn2
  replace ha : M19 a = some (.inr (8, [.ref (a + 1), .ref (a + 2), .ref (a + 3), .null, .int 0, .int 0])) := (fr21 _ (by omega)).trans ha
  have hn3 : M19 (a + 4) = some (fI G 40 (fun j0 => iI (z0 j0))) := by rw [hM20]; exact fw_up_eq
  refine fw_putF E hK hH (by omega) ha fc_X8 3 (by decide) ql_RX8_21 rfl rfl hnm rfl rfl (Nat.le_of_ble_eq_true rfl) dX8_init_33 (fun H1 locs1 hH hz1 => ?_)
  replace hz := hz1.trans hz; clear hz1
  obtain ⟨M22, hM23⟩ : ∃ MX, MX = fw_up M19 a (.inr (8, [.ref (a + 1), .ref (a + 2), .ref (a + 3), .ref (a + 4), .int 0, .int 0])) := ⟨_, rfl⟩
  replace hH := fw_H.nm hM23 hH
  have fr24 : ∀ q, q ≠ a → M22 q = M19 q := fun q h => by rw [hM23]; exact fw_up_ne h
  replace hn0 : M22 (a + 1) = some (fI G 40 (fun j0 => iI (z0 j0))) := (fr24 _ (by omega)).trans hn0
  replace hn1 : M22 (a + 2) = some (fI G 40 (fun j0 => iI (z0 j0))) := (fr24 _ (by omega)).trans hn1
  replace hn2 : M22 (a + 3) = some (fI G 40 (fun j0 => iI (z0 j0))) := (fr24 _ (by omega)).trans hn2
  replace hn3 : M22 (a + 4) = some (fI G 40 (fun j0 => iI (z0 j0))) := (fr24 _ (by omega)).trans hn3
  have ha : M22 a = some (.inr (8, [.ref (a + 1), .ref (a + 2), .ref (a + 3), .ref (a + 4), .int 0, .int 0])) := by rw [hM23]; exact fw_up_eq
  refine fw_vret E hr hlk hH ?_ dX8_init_36
  exact ⟨⟨hb, ha, hn0, hn1, hn2, hn3⟩, by omega, by intro q hq; rw [fr24 q (by omega), fr21 q (by omega), fr18 q (by omega), fr15 q (by omega), fr12 q (by omega), fr9 q (by omega), fr6 q (by omega), fr3 q (by omega)]⟩
def drAt (G : fw_G) (M : fw_M) (a : Nat) (tl : Nat → Int) (w lk : Int) : Prop := G.2.2.1 ≤ a ∧ M a = some (.inr (1, [.ref (a + 1), .int (iI w), .int (iI lk)])) ∧ M (a + 1) = some (fI G 40 (fun j0 => iI (tl j0)))
theorem drAt.fr {G : fw_G} {M M1 : fw_M} {a : Nat} {tl : Nat → Int} {w lk : Int} (h : drAt G M a tl w lk) (hf : ∀ q, a ≤ q → q < a + 2 → M1 q = M q) : drAt G M1 a tl w lk := by
  obtain ⟨h0, h1, h2⟩ := h
  exact ⟨h0, (hf _ (by omega) (by omega)).trans h1, (hf _ (by omega) (by omega)).trans h2⟩

def rkAt (G : fw_G) (M : fw_M) (a : Nat) (ip rs : Nat → Int) : Prop := G.2.2.1 ≤ a ∧ M a = some (.inr (5, [.ref (a + 1), .ref (a + 2)])) ∧ M (a + 1) = some (fI G 3 (fun j0 => iI (ip j0))) ∧ M (a + 2) = some (fI G 40 (fun j0 => iI (rs j0)))
theorem rkAt.fr {G : fw_G} {M M1 : fw_M} {a : Nat} {ip rs : Nat → Int} (h : rkAt G M a ip rs) (hf : ∀ q, a ≤ q → q < a + 3 → M1 q = M q) : rkAt G M1 a ip rs := by
  obtain ⟨h0, h1, h2, h3⟩ := h
  exact ⟨h0, (hf _ (by omega) (by omega)).trans h1, (hf _ (by omega) (by omega)).trans h2, (hf _ (by omega) (by omega)).trans h3⟩

def jdAt (G : fw_G) (M : fw_M) (a : Nat) (ip rs fi se th du : Nat → Int) (cn wy wt : Int) : Prop := G.2.2.1 ≤ a ∧ M a = some (.inr (3, [.ref (a + 1), .ref (a + 4), .ref (a + 5), .ref (a + 6), .ref (a + 7), .int (iI cn), .int (iI wy), .int (iI wt)])) ∧ rkAt G M (a + 1) ip rs ∧ M (a + 4) = some (fI G 12 (fun j0 => iI (fi j0))) ∧ M (a + 5) = some (fI G 12 (fun j0 => iI (se j0))) ∧ M (a + 6) = some (fI G 12 (fun j0 => iI (th j0))) ∧ M (a + 7) = some (fI G 12 (fun j0 => iI (du j0)))
theorem jdAt.fr {G : fw_G} {M M1 : fw_M} {a : Nat} {ip rs fi se th du : Nat → Int} {cn wy wt : Int} (h : jdAt G M a ip rs fi se th du cn wy wt) (hf : ∀ q, a ≤ q → q < a + 8 → M1 q = M q) : jdAt G M1 a ip rs fi se th du cn wy wt := by
  obtain ⟨h0, h1, h2, h3, h4, h5, h6⟩ := h
  exact ⟨h0, (hf _ (by omega) (by omega)).trans h1, h2.fr (fun q h8 h9 => hf q (by omega) (by omega)), (hf _ (by omega) (by omega)).trans h3, (hf _ (by omega) (by omega)).trans h4, (hf _ (by omega) (by omega)).trans h5, (hf _ (by omega) (by omega)).trans h6⟩

def rnAt (G : fw_G) (M : fw_M) (a : Nat) (me sz od : Nat → Int) : Prop := G.2.2.1 ≤ a ∧ M a = some (.inr (4, [.ref (a + 1), .ref (a + 2), .ref (a + 3)])) ∧ M (a + 1) = some (fI G 16 (fun j0 => iI (me j0))) ∧ M (a + 2) = some (fI G 16 (fun j0 => iI (sz j0))) ∧ M (a + 3) = some (fI G 16 (fun j0 => iI (od j0)))
theorem rnAt.fr {G : fw_G} {M M1 : fw_M} {a : Nat} {me sz od : Nat → Int} (h : rnAt G M a me sz od) (hf : ∀ q, a ≤ q → q < a + 4 → M1 q = M q) : rnAt G M1 a me sz od := by
  obtain ⟨h0, h1, h2, h3, h4⟩ := h
  exact ⟨h0, (hf _ (by omega) (by omega)).trans h1, (hf _ (by omega) (by omega)).trans h2, (hf _ (by omega) (by omega)).trans h3, (hf _ (by omega) (by omega)).trans h4⟩

def brAt (G : fw_G) (M : fw_M) (a : Nat) (me sz od : Nat → Int) (cr ch ho to el : Int) : Prop := G.2.2.1 ≤ a ∧ M a = some (.inr (0, [.ref (a + 1), .int (iI cr), .int (iI ch), .int (iI ho), .int (iI to), .int (iI el)])) ∧ rnAt G M (a + 1) me sz od
theorem brAt.fr {G : fw_G} {M M1 : fw_M} {a : Nat} {me sz od : Nat → Int} {cr ch ho to el : Int} (h : brAt G M a me sz od cr ch ho to el) (hf : ∀ q, a ≤ q → q < a + 5 → M1 q = M q) : brAt G M1 a me sz od cr ch ho to el := by
  obtain ⟨h0, h1, h2⟩ := h
  exact ⟨h0, (hf _ (by omega) (by omega)).trans h1, h2.fr (fun q h8 h9 => hf q (by omega) (by omega))⟩

def siAt (G : fw_G) (M : fw_M) (a : Nat) (ip rs : Nat → Int) : Prop := G.2.2.1 ≤ a ∧ M a = some (.inr (6, [.ref (a + 1)])) ∧ rkAt G M (a + 1) ip rs
theorem siAt.fr {G : fw_G} {M M1 : fw_M} {a : Nat} {ip rs : Nat → Int} (h : siAt G M a ip rs) (hf : ∀ q, a ≤ q → q < a + 4 → M1 q = M q) : siAt G M1 a ip rs := by
  obtain ⟨h0, h1, h2⟩ := h
  exact ⟨h0, (hf _ (by omega) (by omega)).trans h1, h2.fr (fun q h8 h9 => hf q (by omega) (by omega))⟩

def skAt (G : fw_G) (M : fw_M) (a : Nat) (cs vs ss hs : Nat → Int) (n lv : Int) (nd lw : Nat → Int) (ms le : Int) : Prop := G.2.2.1 ≤ a ∧ M a = some (.inr (7, [.ref (a + 1), .ref (a + 6), .ref (a + 7), .int (iI ms), .int (iI le)])) ∧ trAt G M (a + 1) cs vs ss hs n lv ∧ M (a + 6) = some (fI G 40 (fun j0 => iI (nd j0))) ∧ M (a + 7) = some (fI G 40 (fun j0 => iI (lw j0)))
theorem skAt.fr {G : fw_G} {M M1 : fw_M} {a : Nat} {cs vs ss hs : Nat → Int} {n lv : Int} {nd lw : Nat → Int} {ms le : Int} (h : skAt G M a cs vs ss hs n lv nd lw ms le) (hf : ∀ q, a ≤ q → q < a + 8 → M1 q = M q) : skAt G M1 a cs vs ss hs n lv nd lw ms le := by
  obtain ⟨h0, h1, h2, h3, h4⟩ := h
  exact ⟨h0, (hf _ (by omega) (by omega)).trans h1, h2.fr (fun q h8 h9 => hf q (by omega) (by omega)), (hf _ (by omega) (by omega)).trans h3, (hf _ (by omega) (by omega)).trans h4⟩
/-- new DRAWS -/
theorem k_Draws_init (l : Launch) (G : fw_G) (M : fw_M) (N : Nat) (a : Nat) (hb : G.2.2.1 ≤ a) (ha : M a = some (.inr (1, [.null, .int 0, .int 0]))) (hN : N = a + 1) : fMet l yX1_init cX1_init 1 none 1 14 1 40 G M N [.ref a] (fw_pv (fun M1 n1 => drAt G M1 a z0 0 0 ∧ n1 = N + 1 ∧ ∀ q, q < a → M1 q = M q)) := by
  refine fw_met RX1 rfl (by decide +kernel) (Nat.le_of_ble_eq_true rfl) ?_
  intro pG e s m args below meth cG ls E hr hlk hnm hK hH hz hl
  have hz := hz.trans hN
  refine lv_aload_n E.1 E.2.1 dX1_init_0 rfl (lv_at hl 0 rfl) ?_
  refine fw_obj E ql_RX1_3 qi_obj qc_obj hl dX1_init_1 ⟨by decide, by decide⟩ ?_
  refine lv_aload_n E.1 E.2.1 dX1_init_4 rfl (lv_at hl 0 rfl) ?_
  refine lv_bipush (v := iI 40) E.1 E.2.1 dX1_init_5 (by decide) ?_
  refine fw_newI (N := 40) E hK hH hz qa_int (by decide) (by decide) (by decide) ⟨Nat.le_of_ble_eq_true rfl, Nat.le_of_ble_eq_true rfl⟩ dX1_init_7 (fun H1 hH hz1 => ?_)
  replace hz : H1.size = a + 2 := by omega
  clear hz1
  obtain ⟨M1, hM2⟩ : ∃ MX, MX = fw_up M (a + 1) (fI G 40 (fun j0 => iI (z0 j0))) := ⟨_, rfl⟩
  replace hH := fw_H.nm hM2 hH
  have fr3 : ∀ q, q ≠ a + 1 → M1 q = M q := fun q h => by rw [hM2]; exact fw_up_ne h
  replace ha : M1 a = some (.inr (1, [.null, .int 0, .int 0])) := (fr3 _ (by omega)).trans ha
  have hn0 : M1 (a + 1) = some (fI G 40 (fun j0 => iI (z0 j0))) := by rw [hM2]; exact fw_up_eq
  refine fw_putF E hK hH (by omega) ha fc_X1 0 (by decide) ql_RX1_9 rfl rfl hnm rfl rfl (Nat.le_of_ble_eq_true rfl) dX1_init_9 (fun H1 locs1 hH hz1 => ?_)
  replace hz := hz1.trans hz; clear hz1
  obtain ⟨M4, hM5⟩ : ∃ MX, MX = fw_up M1 a (.inr (1, [.ref (a + 1), .int 0, .int 0])) := ⟨_, rfl⟩
  replace hH := fw_H.nm hM5 hH
  have fr6 : ∀ q, q ≠ a → M4 q = M1 q := fun q h => by rw [hM5]; exact fw_up_ne h
  replace hn0 : M4 (a + 1) = some (fI G 40 (fun j0 => iI (z0 j0))) := (fr6 _ (by omega)).trans hn0
  have ha : M4 a = some (.inr (1, [.ref (a + 1), .int 0, .int 0])) := by rw [hM5]; exact fw_up_eq
  refine fw_vret E hr hlk hH ?_ dX1_init_12
  exact ⟨⟨hb, ha, hn0⟩, by omega, by intro q hq; rw [fr6 q (by omega), fr3 q (by omega)]⟩
/-- a new Reckoner -/
theorem k_Reckoner_init (l : Launch) (G : fw_G) (M : fw_M) (N : Nat) (a : Nat) (hb : G.2.2.1 ≤ a) (ha : M a = some (.inr (5, [.null, .null]))) (hN : N = a + 1) : fMet l yX5_init cX5_init 1 none 1 14 2 43 G M N [.ref a] (fw_pv (fun M1 n1 => rkAt G M1 a z0 z0 ∧ n1 = N + 2 ∧ ∀ q, q < a → M1 q = M q)) := by
  refine fw_met RX5 rfl (by decide +kernel) (Nat.le_of_ble_eq_true rfl) ?_
  intro pG e s m args below meth cG ls E hr hlk hnm hK hH hz hl
  have hz := hz.trans hN
  refine lv_aload_n E.1 E.2.1 dX5_init_0 rfl (lv_at hl 0 rfl) ?_
  refine fw_obj E ql_RX5_3 qi_obj qc_obj hl dX5_init_1 ⟨by decide, by decide⟩ ?_
  refine lv_aload_n E.1 E.2.1 dX5_init_4 rfl (lv_at hl 0 rfl) ?_
  refine lv_iconst (v := iI 3) E.1 E.2.1 dX5_init_5 (by decide) ?_
  refine fw_newI (N := 3) E hK hH hz qa_int (by decide) (by decide) (by decide) ⟨Nat.le_of_ble_eq_true rfl, Nat.le_of_ble_eq_true rfl⟩ dX5_init_6 (fun H1 hH hz1 => ?_)
  replace hz : H1.size = a + 2 := by omega
  clear hz1
  obtain ⟨M1, hM2⟩ : ∃ MX, MX = fw_up M (a + 1) (fI G 3 (fun j0 => iI (z0 j0))) := ⟨_, rfl⟩
  replace hH := fw_H.nm hM2 hH
  have fr3 : ∀ q, q ≠ a + 1 → M1 q = M q := fun q h => by rw [hM2]; exact fw_up_ne h
  replace ha : M1 a = some (.inr (5, [.null, .null])) := (fr3 _ (by omega)).trans ha
  have hn0 : M1 (a + 1) = some (fI G 3 (fun j0 => iI (z0 j0))) := by rw [hM2]; exact fw_up_eq
  refine fw_putF E hK hH (by omega) ha fc_X5 0 (by decide) ql_RX5_9 rfl rfl hnm rfl rfl (Nat.le_of_ble_eq_true rfl) dX5_init_8 (fun H1 locs1 hH hz1 => ?_)
  replace hz := hz1.trans hz; clear hz1
  obtain ⟨M4, hM5⟩ : ∃ MX, MX = fw_up M1 a (.inr (5, [.ref (a + 1), .null])) := ⟨_, rfl⟩
  replace hH := fw_H.nm hM5 hH
  have fr6 : ∀ q, q ≠ a → M4 q = M1 q := fun q h => by rw [hM5]; exact fw_up_ne h
  replace hn0 : M4 (a + 1) = some (fI G 3 (fun j0 => iI (z0 j0))) := (fr6 _ (by omega)).trans hn0
  have ha : M4 a = some (.inr (5, [.ref (a + 1), .null])) := by rw [hM5]; exact fw_up_eq
  refine lv_aload_n E.1 E.2.1 dX5_init_11 rfl (lv_at hl 0 rfl) ?_
  refine lv_bipush (v := iI 40) E.1 E.2.1 dX5_init_12 (by decide) ?_
  refine fw_newI (N := 40) E hK hH hz qa_int (by decide) (by decide) (by decide) ⟨Nat.le_of_ble_eq_true rfl, Nat.le_of_ble_eq_true rfl⟩ dX5_init_14 (fun H1 hH hz1 => ?_)
  replace hz : H1.size = a + 3 := by omega
  clear hz1
  obtain ⟨M7, hM8⟩ : ∃ MX, MX = fw_up M4 (a + 2) (fI G 40 (fun j0 => iI (z0 j0))) := ⟨_, rfl⟩
  replace hH := fw_H.nm hM8 hH
  have fr9 : ∀ q, q ≠ a + 2 → M7 q = M4 q := fun q h => by rw [hM8]; exact fw_up_ne h
  replace hn0 : M7 (a + 1) = some (fI G 3 (fun j0 => iI (z0 j0))) := (fr9 _ (by omega)).trans hn0
  replace ha : M7 a = some (.inr (5, [.ref (a + 1), .null])) := (fr9 _ (by omega)).trans ha
  have hn1 : M7 (a + 2) = some (fI G 40 (fun j0 => iI (z0 j0))) := by rw [hM8]; exact fw_up_eq
  refine fw_putF E hK hH (by omega) ha fc_X5 1 (by decide) ql_RX5_15 rfl rfl hnm rfl rfl (Nat.le_of_ble_eq_true rfl) dX5_init_16 (fun H1 locs1 hH hz1 => ?_)
  replace hz := hz1.trans hz; clear hz1
  obtain ⟨M10, hM11⟩ : ∃ MX, MX = fw_up M7 a (.inr (5, [.ref (a + 1), .ref (a + 2)])) := ⟨_, rfl⟩
  replace hH := fw_H.nm hM11 hH
  have fr12 : ∀ q, q ≠ a → M10 q = M7 q := fun q h => by rw [hM11]; exact fw_up_ne h
  replace hn0 : M10 (a + 1) = some (fI G 3 (fun j0 => iI (z0 j0))) := (fr12 _ (by omega)).trans hn0
  replace hn1 : M10 (a + 2) = some (fI G 40 (fun j0 => iI (z0 j0))) := (fr12 _ (by omega)).trans hn1
  have ha : M10 a = some (.inr (5, [.ref (a + 1), .ref (a + 2)])) := by rw [hM11]; exact fw_up_eq
  refine fw_vret E hr hlk hH ?_ dX5_init_19
  exact ⟨⟨hb, ha, hn0, hn1⟩, by omega, by intro q hq; rw [fr12 q (by omega), fr9 q (by omega), fr6 q (by omega), fr3 q (by omega)]⟩
/-- a new Judge -/
theorem k_Judge_init (l : Launch) (G : fw_G) (M : fw_M) (N : Nat) (a : Nat) (hb : G.2.2.1 ≤ a) (ha : M a = some (.inr (3, [.null, .null, .null, .null, .null, .int 0, .int 0, .int 0]))) (hN : N = a + 1) : fMet l yX3_init cX3_init 1 none 2 40 7 93 G M N [.ref a] (fw_pv (fun M1 n1 => jdAt G M1 a z0 z0 z0 z0 z0 z0 0 0 1 ∧ n1 = N + 7 ∧ ∀ q, q < a → M1 q = M q)) := by
  refine fw_met RX3 rfl (by decide +kernel) (Nat.le_of_ble_eq_true rfl) ?_
  intro pG e s m args below meth cG ls E hr hlk hnm hK hH hz hl
  have hz := hz.trans hN
  refine lv_aload_n E.1 E.2.1 dX3_init_0 rfl (lv_at hl 0 rfl) ?_
  refine fw_obj E ql_RX3_3 qi_obj qc_obj hl dX3_init_1 ⟨by decide, by decide⟩ ?_
  refine lv_aload_n E.1 E.2.1 dX3_init_4 rfl (lv_at hl 0 rfl) ?_
  refine fw_new (fs := [.null, .null]) E hK hH hz fc_X5 ql_RX3_9 qt_RX5 qn_RX5 (fun j hj => by rcases (show j = 0 ∨ j = 1 by omega) with rfl | rfl <;> rfl) ⟨Nat.le_of_ble_eq_true rfl, Nat.le_of_ble_eq_true rfl⟩ dX3_init_5 (fun H1 hH hz1 => ?_)
  replace hz : H1.size = a + 2 := by omega
  clear hz1
  obtain ⟨M1, hM2⟩ : ∃ MX, MX = fw_up M (a + 1) (.inr (5, [.null, .null])) := ⟨_, rfl⟩
  replace hH := fw_H.nm hM2 hH
  have fr3 : ∀ q, q ≠ a + 1 → M1 q = M q := fun q h => by rw [hM2]; exact fw_up_ne h
  replace ha : M1 a = some (.inr (3, [.null, .null, .null, .null, .null, .int 0, .int 0, .int 0])) := (fr3 _ (by omega)).trans ha
  have hn0 : M1 (a + 1) = some (.inr (5, [.null, .null])) := by rw [hM2]; exact fw_up_eq
  refine lv_dup E.1 E.2.1 dX3_init_8 rfl ?_
  refine fw_cIN (As := []) (rest := [.ref (a + 1), .ref a]) E hK hH hl fL_X5_init rfl ql_RX3_11 qi_yX5_init (k_Reckoner_init l G _ _ (a + 1) (by omega) hn0 (by omega)) rfl rfl (Nat.le_of_ble_eq_true rfl) ⟨Nat.le_of_ble_eq_true rfl, Nat.le_of_ble_eq_true rfl⟩ ⟨Nat.le_of_ble_eq_true rfl, Nat.le_of_ble_eq_true rfl⟩ dX3_init_9 (fw_kv fun M5 H1 locs1 hp4 hH hz1 => ?_)
  obtain ⟨hrkAt2, hz2, hfr⟩ := hp4
  replace hz : H1.size = a + 4 := by omega
  clear hz1 hz2
  have fr6 := hfr
  replace ha : M5 a = some (.inr (3, [.null, .null, .null, .null, .null, .int 0, .int 0, .int 0])) := (fr6 _ (by omega)).trans ha
  refine fw_putF E hK hH (by omega) ha fc_X3 0 (by decide) ql_RX3_12 rfl rfl hnm rfl rfl (Nat.le_of_ble_eq_true rfl) dX3_init_12 (fun H1 locs1 hH hz1 => ?_)
  replace hz := hz1.trans hz; clear hz1
  obtain ⟨M7, hM8⟩ : ∃ MX, MX = fw_up M5 a (.inr (3, [.ref (a + 1), .null, .null, .null, .null, .int 0, .int 0, .int 0])) := ⟨_, rfl⟩
  replace hH := fw_H.nm hM8 hH
  have fr9 : ∀ q, q ≠ a → M7 q = M5 q := fun q h => by rw [hM8]; exact fw_up_ne h
  replace hrkAt2 := rkAt.fr hrkAt2 (fun q h1 h2 => fr9 q (by omega))
  have ha : M7 a = some (.inr (3, [.ref (a + 1), .null, .null, .null, .null, .int 0, .int 0, .int 0])) := by rw [hM8]; exact fw_up_eq
  refine lv_aload_n E.1 E.2.1 dX3_init_15 rfl (lv_at hl 0 rfl) ?_
  refine lv_bipush (v := iI 12) E.1 E.2.1 dX3_init_16 (by decide) ?_
  refine fw_newI (N := 12) E hK hH hz qa_int (by decide) (by decide) (by decide) ⟨Nat.le_of_ble_eq_true rfl, Nat.le_of_ble_eq_true rfl⟩ dX3_init_18 (fun H1 hH hz1 => ?_)
  replace hz : H1.size = a + 5 := by omega
  clear hz1
  obtain ⟨M10, hM11⟩ : ∃ MX, MX = fw_up M7 (a + 4) (fI G 12 (fun j0 => iI (z0 j0))) := ⟨_, rfl⟩
  replace hH := fw_H.nm hM11 hH
  have fr12 : ∀ q, q ≠ a + 4 → M10 q = M7 q := fun q h => by rw [hM11]; exact fw_up_ne h
  replace hrkAt2 := rkAt.fr hrkAt2 (fun q h1 h2 => fr12 q (by omega))
  replace ha : M10 a = some (.inr (3, [.ref (a + 1), .null, .null, .null, .null, .int 0, .int 0, .int 0])) := (fr12 _ (by omega)).trans ha
  have hn2 : M10 (a + 4) = some (fI G 12 (fun j0 => iI (z0 j0))) := by rw [hM11]; exact fw_up_eq
  refine fw_putF E hK hH (by omega) ha fc_X3 1 (by decide) ql_RX3_18 rfl rfl hnm rfl rfl (Nat.le_of_ble_eq_true rfl) dX3_init_20 (fun H1 locs1 hH hz1 => ?_)
  replace hz := hz1.trans hz; clear hz1
  obtain ⟨M13, hM14⟩ : ∃ MX, MX = fw_up M10 a (.inr (3, [.ref (a + 1), .ref (a + 4), .null, .null, .null, .int 0, .int 0, .int 0])) := ⟨_, rfl⟩
  replace hH := fw_H.nm hM14 hH
  have fr15 : ∀ q, q ≠ a → M13 q = M10 q := fun q h => by rw [hM14]; exact fw_up_ne h
  replace hrkAt2 := rkAt.fr hrkAt2 (fun q h1 h2 => fr15 q (by omega))
  replace hn2 : M13 (a + 4) = some (fI G 12 (fun j0 => iI (z0 j0))) := (fr15 _ (by omega)).trans hn2
  have ha : M13 a = some (.inr (3, [.ref (a + 1), .ref (a + 4), .null, .null, .null, .int 0, .int 0, .int 0])) := by rw [hM14]; exact fw_up_eq
  refine lv_aload_n E.1 E.2.1 dX3_init_23 rfl (lv_at hl 0 rfl) ?_
  refine lv_bipush (v := iI 12) E.1 E.2.1 dX3_init_24 (by decide) ?_
  refine fw_newI (N := 12) E hK hH hz qa_int (by decide) (by decide) (by decide) ⟨Nat.le_of_ble_eq_true rfl, Nat.le_of_ble_eq_true rfl⟩ dX3_init_26 (fun H1 hH hz1 => ?_)
  replace hz : H1.size = a + 6 := by omega
  clear hz1
  obtain ⟨M16, hM17⟩ : ∃ MX, MX = fw_up M13 (a + 5) (fI G 12 (fun j0 => iI (z0 j0))) := ⟨_, rfl⟩
  replace hH := fw_H.nm hM17 hH
  have fr18 : ∀ q, q ≠ a + 5 → M16 q = M13 q := fun q h => by rw [hM17]; exact fw_up_ne h
  replace hrkAt2 := rkAt.fr hrkAt2 (fun q h1 h2 => fr18 q (by omega))
  replace hn2 : M16 (a + 4) = some (fI G 12 (fun j0 => iI (z0 j0))) := (fr18 _ (by omega)).trans hn2
  replace ha : M16 a = some (.inr (3, [.ref (a + 1), .ref (a + 4), .null, .null, .null, .int 0, .int 0, .int 0])) := (fr18 _ (by omega)).trans ha
  have hn3 : M16 (a + 5) = some (fI G 12 (fun j0 => iI (z0 j0))) := by rw [hM17]; exact fw_up_eq
  refine fw_putF E hK hH (by omega) ha fc_X3 2 (by decide) ql_RX3_22 rfl rfl hnm rfl rfl (Nat.le_of_ble_eq_true rfl) dX3_init_28 (fun H1 locs1 hH hz1 => ?_)
  replace hz := hz1.trans hz; clear hz1
  obtain ⟨M19, hM20⟩ : ∃ MX, MX = fw_up M16 a (.inr (3, [.ref (a + 1), .ref (a + 4), .ref (a + 5), .null, .null, .int 0, .int 0, .int 0])) := ⟨_, rfl⟩
  replace hH := fw_H.nm hM20 hH
  have fr21 : ∀ q, q ≠ a → M19 q = M16 q := fun q h => by rw [hM20]; exact fw_up_ne h
  replace hrkAt2 := rkAt.fr hrkAt2 (fun q h1 h2 => fr21 q (by omega))
  replace hn2 : M19 (a + 4) = some (fI G 12 (fun j0 => iI (z0 j0))) := (fr21 _ (by omega)).trans hn2
  replace hn3 : M19 (a + 5) = some (fI G 12 (fun j0 => iI (z0 j0))) := (fr21 _ (by omega)).trans hn3
  have ha : M19 a = some (.inr (3, [.ref (a + 1), .ref (a + 4), .ref (a + 5), .null, .null, .int 0, .int 0, .int 0])) := by rw [hM20]; exact fw_up_eq
  refine lv_aload_n E.1 E.2.1 dX3_init_31 rfl (lv_at hl 0 rfl) ?_
  refine lv_bipush (v := iI 12) E.1 E.2.1 dX3_init_32 (by decide) ?_
  refine fw_newI (N := 12) E hK hH hz qa_int (by decide) (by decide) (by decide) ⟨Nat.le_of_ble_eq_true rfl, Nat.le_of_ble_eq_true rfl⟩ dX3_init_34 (fun H1 hH hz1 => ?_)
  replace hz : H1.size = a + 7 := by omega
  clear hz1
  obtain ⟨M22, hM23⟩ : ∃ MX, MX = fw_up M19 (a + 6) (fI G 12 (fun j0 => iI (z0 j0))) := ⟨_, rfl⟩
  replace hH := fw_H.nm hM23 hH
  have fr24 : ∀ q, q ≠ a + 6 → M22 q = M19 q := fun q h => by rw [hM23]; exact fw_up_ne h
  replace hrkAt2 := rkAt.fr hrkAt2 (fun q h1 h2 => fr24 q (by omega))
  replace hn2 : M22 (a + 4) = some (fI G 12 (fun j0 => iI (z0 j0))) := (fr24 _ (by omega)).trans hn2
  replace hn3 : M22 (a + 5) = some (fI G 12 (fun j0 => iI (z0 j0))) := (fr24 _ (by omega)).trans hn3
  replace ha : M22 a = some (.inr (3, [.ref (a + 1), .ref (a + 4), .ref (a + 5), .null, .null, .int 0, .int 0, .int 0])) := (fr24 _ (by omega)).trans ha
  have hn4 : M22 (a + 6) = some (fI G 12 (fun j0 => iI (z0 j0))) := by rw [hM23]; exact fw_up_eq
  refine fw_putF E hK hH (by omega) ha fc_X3 3 (by decide) ql_RX3_25 rfl rfl hnm rfl rfl (Nat.le_of_ble_eq_true rfl) dX3_init_36 (fun H1 locs1 hH hz1 => ?_)
  replace hz := hz1.trans hz; clear hz1
  obtain ⟨M25, hM26⟩ : ∃ MX, MX = fw_up M22 a (.inr (3, [.ref (a + 1), .ref (a + 4), .ref (a + 5), .ref (a + 6), .null, .int 0, .int 0, .int 0])) := ⟨_, rfl⟩
  replace hH := fw_H.nm hM26 hH
  have fr27 : ∀ q, q ≠ a → M25 q = M22 q := fun q h => by rw [hM26]; exact fw_up_ne h
  replace hrkAt2 := rkAt.fr hrkAt2 (fun q h1 h2 => fr27 q (by omega))
  replace hn2 : M25 (a + 4) = some (fI G 12 (fun j0 => iI (z0 j0))) := (fr27 _ (by omega)).trans hn2
  replace hn3 : M25 (a + 5) = some (fI G 12 (fun j0 => iI (z0 j0))) := (fr27 _ (by omega)).trans hn3
  replace hn4 : M25 (a + 6) = some (fI G 12 (fun j0 => iI (z0 j0))) := (fr27 _ (by omega)).trans hn4
  have ha : M25 a = some (.inr (3, [.ref (a + 1), .ref (a + 4), .ref (a + 5), .ref (a + 6), .null, .int 0, .int 0, .int 0])) := by rw [hM26]; exact fw_up_eq
  refine lv_aload_n E.1 E.2.1 dX3_init_39 rfl (lv_at hl 0 rfl) ?_
  refine lv_bipush (v := iI 12) E.1 E.2.1 dX3_init_40 (by decide) ?_
  refine fw_newI (N := 12) E hK hH hz qa_int (by decide) (by decide) (by decide) ⟨Nat.le_of_ble_eq_true rfl, Nat.le_of_ble_eq_true rfl⟩ dX3_init_42 (fun H1 hH hz1 => ?_)
  replace hz : H1.size = a + 8 := by omega
  clear hz1
  obtain ⟨M28, hM29⟩ : ∃ MX, MX = fw_up M25 (a + 7) (fI G 12 (fun j0 => iI (z0 j0))) := ⟨_, rfl⟩
  replace hH := fw_H.nm hM29 hH
  have fr30 : ∀ q, q ≠ a + 7 → M28 q = M25 q := fun q h => by rw [hM29]; exact fw_up_ne h
  replace hrkAt2 := rkAt.fr hrkAt2 (fun q h1 h2 => fr30 q (by omega))
  replace hn2 : M28 (a + 4) = some (fI G 12 (fun j0 => iI (z0 j0))) := (fr30 _ (by omega)).trans hn2
  replace hn3 : M28 (a + 5) = some (fI G 12 (fun j0 => iI (z0 j0))) := (fr30 _ (by omega)).trans hn3
  replace hn4 : M28 (a + 6) = some (fI G 12 (fun j0 => iI (z0 j0))) := (fr30 _ (by omega)).trans hn4
  replace ha : M28 a = some (.inr (3, [.ref (a + 1), .ref (a + 4), .ref (a + 5), .ref (a + 6), .null, .int 0, .int 0, .int 0])) := (fr30 _ (by omega)).trans ha
  have hn5 : M28 (a + 7) = some (fI G 12 (fun j0 => iI (z0 j0))) := by rw [hM29]; exact fw_up_eq
  refine fw_putF E hK hH (by omega) ha fc_X3 4 (by decide) ql_RX3_28 rfl rfl hnm rfl rfl (Nat.le_of_ble_eq_true rfl) dX3_init_44 (fun H1 locs1 hH hz1 => ?_)
  replace hz := hz1.trans hz; clear hz1
  obtain ⟨M31, hM32⟩ : ∃ MX, MX = fw_up M28 a (.inr (3, [.ref (a + 1), .ref (a + 4), .ref (a + 5), .ref (a + 6), .ref (a + 7), .int 0, .int 0, .int 0])) := ⟨_, rfl⟩
  replace hH := fw_H.nm hM32 hH
  have fr33 : ∀ q, q ≠ a → M31 q = M28 q := fun q h => by rw [hM32]; exact fw_up_ne h
  replace hrkAt2 := rkAt.fr hrkAt2 (fun q h1 h2 => fr33 q (by omega))
  replace hn2 : M31 (a + 4) = some (fI G 12 (fun j0 => iI (z0 j0))) := (fr33 _ (by omega)).trans hn2
  replace hn3 : M31 (a + 5) = some (fI G 12 (fun j0 => iI (z0 j0))) := (fr33 _ (by omega)).trans hn3
  replace hn4 : M31 (a + 6) = some (fI G 12 (fun j0 => iI (z0 j0))) := (fr33 _ (by omega)).trans hn4
  replace hn5 : M31 (a + 7) = some (fI G 12 (fun j0 => iI (z0 j0))) := (fr33 _ (by omega)).trans hn5
  have ha : M31 a = some (.inr (3, [.ref (a + 1), .ref (a + 4), .ref (a + 5), .ref (a + 6), .ref (a + 7), .int 0, .int 0, .int 0])) := by rw [hM32]; exact fw_up_eq
  refine lv_aload_n E.1 E.2.1 dX3_init_47 rfl (lv_at hl 0 rfl) ?_
  refine lv_iconst (v := iI 1) E.1 E.2.1 dX3_init_48 (by decide) ?_
  refine fw_put E hK hH (by omega) ha fc_X3 7 (by decide) ql_RX3_31 rfl rfl rfl rfl (Nat.le_of_ble_eq_true rfl) dX3_init_49 (fun H1 locs1 hH hz1 => ?_)
  replace hz := hz1.trans hz; clear hz1
  obtain ⟨M34, hM35⟩ : ∃ MX, MX = fw_up M31 a (.inr (3, [.ref (a + 1), .ref (a + 4), .ref (a + 5), .ref (a + 6), .ref (a + 7), .int 0, .int 0, .int (iI 1)])) := ⟨_, rfl⟩
  replace hH := fw_H.nm hM35 hH
  have fr36 : ∀ q, q ≠ a → M34 q = M31 q := fun q h => by rw [hM35]; exact fw_up_ne h
  replace hrkAt2 := rkAt.fr hrkAt2 (fun q h1 h2 => fr36 q (by omega))
  replace hn2 : M34 (a + 4) = some (fI G 12 (fun j0 => iI (z0 j0))) := (fr36 _ (by omega)).trans hn2
  replace hn3 : M34 (a + 5) = some (fI G 12 (fun j0 => iI (z0 j0))) := (fr36 _ (by omega)).trans hn3
  replace hn4 : M34 (a + 6) = some (fI G 12 (fun j0 => iI (z0 j0))) := (fr36 _ (by omega)).trans hn4
  replace hn5 : M34 (a + 7) = some (fI G 12 (fun j0 => iI (z0 j0))) := (fr36 _ (by omega)).trans hn5
  have ha : M34 a = some (.inr (3, [.ref (a + 1), .ref (a + 4), .ref (a + 5), .ref (a + 6), .ref (a + 7), .int 0, .int 0, .int (iI 1)])) := by rw [hM35]; exact fw_up_eq
  refine fw_vret E hr hlk hH ?_ dX3_init_52
  exact ⟨⟨hb, ha, hrkAt2, hn2, hn3, hn4, hn5⟩, by omega, by intro q hq; rw [fr36 q (by omega), fr33 q (by omega), fr30 q (by omega), fr27 q (by omega), fr24 q (by omega), fr21 q (by omega), fr18 q (by omega), fr15 q (by omega), fr12 q (by omega), fr9 q (by omega), fr6 q (by omega), fr3 q (by omega)]⟩
/-- a new Ranking -/
theorem k_Ranking_init (l : Launch) (G : fw_G) (M : fw_M) (N : Nat) (a : Nat) (hb : G.2.2.1 ≤ a) (ha : M a = some (.inr (4, [.null, .null, .null]))) (hN : N = a + 1) : fMet l yX4_init cX4_init 1 none 1 14 3 48 G M N [.ref a] (fw_pv (fun M1 n1 => rnAt G M1 a z0 z0 z0 ∧ n1 = N + 3 ∧ ∀ q, q < a → M1 q = M q)) := by
  refine fw_met RX4 rfl (by decide +kernel) (Nat.le_of_ble_eq_true rfl) ?_
  intro pG e s m args below meth cG ls E hr hlk hnm hK hH hz hl
  have hz := hz.trans hN
  refine lv_aload_n E.1 E.2.1 dX4_init_0 rfl (lv_at hl 0 rfl) ?_
  refine fw_obj E ql_RX4_3 qi_obj qc_obj hl dX4_init_1 ⟨by decide, by decide⟩ ?_
  refine lv_aload_n E.1 E.2.1 dX4_init_4 rfl (lv_at hl 0 rfl) ?_
  refine lv_bipush (v := iI 16) E.1 E.2.1 dX4_init_5 (by decide) ?_
  refine fw_newI (N := 16) E hK hH hz qa_int (by decide) (by decide) (by decide) ⟨Nat.le_of_ble_eq_true rfl, Nat.le_of_ble_eq_true rfl⟩ dX4_init_7 (fun H1 hH hz1 => ?_)
  replace hz : H1.size = a + 2 := by omega
  clear hz1
  obtain ⟨M1, hM2⟩ : ∃ MX, MX = fw_up M (a + 1) (fI G 16 (fun j0 => iI (z0 j0))) := ⟨_, rfl⟩
  replace hH := fw_H.nm hM2 hH
  have fr3 : ∀ q, q ≠ a + 1 → M1 q = M q := fun q h => by rw [hM2]; exact fw_up_ne h
  replace ha : M1 a = some (.inr (4, [.null, .null, .null])) := (fr3 _ (by omega)).trans ha
  have hn0 : M1 (a + 1) = some (fI G 16 (fun j0 => iI (z0 j0))) := by rw [hM2]; exact fw_up_eq
  refine fw_putF E hK hH (by omega) ha fc_X4 0 (by decide) ql_RX4_9 rfl rfl hnm rfl rfl (Nat.le_of_ble_eq_true rfl) dX4_init_9 (fun H1 locs1 hH hz1 => ?_)
  replace hz := hz1.trans hz; clear hz1
  obtain ⟨M4, hM5⟩ : ∃ MX, MX = fw_up M1 a (.inr (4, [.ref (a + 1), .null, .null])) := ⟨_, rfl⟩
  replace hH := fw_H.nm hM5 hH
  have fr6 : ∀ q, q ≠ a → M4 q = M1 q := fun q h => by rw [hM5]; exact fw_up_ne h
  replace hn0 : M4 (a + 1) = some (fI G 16 (fun j0 => iI (z0 j0))) := (fr6 _ (by omega)).trans hn0
  have ha : M4 a = some (.inr (4, [.ref (a + 1), .null, .null])) := by rw [hM5]; exact fw_up_eq
  refine lv_aload_n E.1 E.2.1 dX4_init_12 rfl (lv_at hl 0 rfl) ?_
  refine lv_bipush (v := iI 16) E.1 E.2.1 dX4_init_13 (by decide) ?_
  refine fw_newI (N := 16) E hK hH hz qa_int (by decide) (by decide) (by decide) ⟨Nat.le_of_ble_eq_true rfl, Nat.le_of_ble_eq_true rfl⟩ dX4_init_15 (fun H1 hH hz1 => ?_)
  replace hz : H1.size = a + 3 := by omega
  clear hz1
  obtain ⟨M7, hM8⟩ : ∃ MX, MX = fw_up M4 (a + 2) (fI G 16 (fun j0 => iI (z0 j0))) := ⟨_, rfl⟩
  replace hH := fw_H.nm hM8 hH
  have fr9 : ∀ q, q ≠ a + 2 → M7 q = M4 q := fun q h => by rw [hM8]; exact fw_up_ne h
  replace hn0 : M7 (a + 1) = some (fI G 16 (fun j0 => iI (z0 j0))) := (fr9 _ (by omega)).trans hn0
  replace ha : M7 a = some (.inr (4, [.ref (a + 1), .null, .null])) := (fr9 _ (by omega)).trans ha
  have hn1 : M7 (a + 2) = some (fI G 16 (fun j0 => iI (z0 j0))) := by rw [hM8]; exact fw_up_eq
  refine fw_putF E hK hH (by omega) ha fc_X4 1 (by decide) ql_RX4_15 rfl rfl hnm rfl rfl (Nat.le_of_ble_eq_true rfl) dX4_init_17 (fun H1 locs1 hH hz1 => ?_)
  replace hz := hz1.trans hz; clear hz1
  obtain ⟨M10, hM11⟩ : ∃ MX, MX = fw_up M7 a (.inr (4, [.ref (a + 1), .ref (a + 2), .null])) := ⟨_, rfl⟩
  replace hH := fw_H.nm hM11 hH
  have fr12 : ∀ q, q ≠ a → M10 q = M7 q := fun q h => by rw [hM11]; exact fw_up_ne h
  replace hn0 : M10 (a + 1) = some (fI G 16 (fun j0 => iI (z0 j0))) := (fr12 _ (by omega)).trans hn0
  replace hn1 : M10 (a + 2) = some (fI G 16 (fun j0 => iI (z0 j0))) := (fr12 _ (by omega)).trans hn1
  have ha : M10 a = some (.inr (4, [.ref (a + 1), .ref (a + 2), .null])) := by rw [hM11]; exact fw_up_eq
  refine lv_aload_n E.1 E.2.1 dX4_init_20 rfl (lv_at hl 0 rfl) ?_
  refine lv_bipush (v := iI 16) E.1 E.2.1 dX4_init_21 (by decide) ?_
  refine fw_newI (N := 16) E hK hH hz qa_int (by decide) (by decide) (by decide) ⟨Nat.le_of_ble_eq_true rfl, Nat.le_of_ble_eq_true rfl⟩ dX4_init_23 (fun H1 hH hz1 => ?_)
  replace hz : H1.size = a + 4 := by omega
  clear hz1
  obtain ⟨M13, hM14⟩ : ∃ MX, MX = fw_up M10 (a + 3) (fI G 16 (fun j0 => iI (z0 j0))) := ⟨_, rfl⟩
  replace hH := fw_H.nm hM14 hH
  have fr15 : ∀ q, q ≠ a + 3 → M13 q = M10 q := fun q h => by rw [hM14]; exact fw_up_ne h
  replace hn0 : M13 (a + 1) = some (fI G 16 (fun j0 => iI (z0 j0))) := (fr15 _ (by omega)).trans hn0
  replace hn1 : M13 (a + 2) = some (fI G 16 (fun j0 => iI (z0 j0))) := (fr15 _ (by omega)).trans hn1
  replace ha : M13 a = some (.inr (4, [.ref (a + 1), .ref (a + 2), .null])) := (fr15 _ (by omega)).trans ha
  have hn2 : M13 (a + 3) = some (fI G 16 (fun j0 => iI (z0 j0))) := by rw [hM14]; exact fw_up_eq
  refine fw_putF E hK hH (by omega) ha fc_X4 2 (by decide) ql_RX4_18 rfl rfl hnm rfl rfl (Nat.le_of_ble_eq_true rfl) dX4_init_25 (fun H1 locs1 hH hz1 => ?_)
  replace hz := hz1.trans hz; clear hz1
  obtain ⟨M16, hM17⟩ : ∃ MX, MX = fw_up M13 a (.inr (4, [.ref (a + 1), .ref (a + 2), .ref (a + 3)])) := ⟨_, rfl⟩
  replace hH := fw_H.nm hM17 hH
  have fr18 : ∀ q, q ≠ a → M16 q = M13 q := fun q h => by rw [hM17]; exact fw_up_ne h
  replace hn0 : M16 (a + 1) = some (fI G 16 (fun j0 => iI (z0 j0))) := (fr18 _ (by omega)).trans hn0
  replace hn1 : M16 (a + 2) = some (fI G 16 (fun j0 => iI (z0 j0))) := (fr18 _ (by omega)).trans hn1
  replace hn2 : M16 (a + 3) = some (fI G 16 (fun j0 => iI (z0 j0))) := (fr18 _ (by omega)).trans hn2
  have ha : M16 a = some (.inr (4, [.ref (a + 1), .ref (a + 2), .ref (a + 3)])) := by rw [hM17]; exact fw_up_eq
  refine fw_vret E hr hlk hH ?_ dX4_init_28
  exact ⟨⟨hb, ha, hn0, hn1, hn2⟩, by omega, by intro q hq; rw [fr18 q (by omega), fr15 q (by omega), fr12 q (by omega), fr9 q (by omega), fr6 q (by omega), fr3 q (by omega)]⟩
/-- a new Breeder -/
theorem k_Breeder_init (l : Launch) (G : fw_G) (M : fw_M) (N : Nat) (a : Nat) (hb : G.2.2.1 ≤ a) (ha : M a = some (.inr (0, [.null, .int 0, .int 0, .int 0, .int 0, .int 0]))) (hN : N = a + 1) : fMet l yX0_init cX0_init 1 none 2 40 4 51 G M N [.ref a] (fw_pv (fun M1 n1 => brAt G M1 a z0 z0 z0 70 20 5 2 1 ∧ n1 = N + 4 ∧ ∀ q, q < a → M1 q = M q)) := by
  refine fw_met RX0 rfl (by decide +kernel) (Nat.le_of_ble_eq_true rfl) ?_
  intro pG e s m args below meth cG ls E hr hlk hnm hK hH hz hl
  have hz := hz.trans hN
  refine lv_aload_n E.1 E.2.1 dX0_init_0 rfl (lv_at hl 0 rfl) ?_
  refine fw_obj E ql_RX0_3 qi_obj qc_obj hl dX0_init_1 ⟨by decide, by decide⟩ ?_
  refine lv_aload_n E.1 E.2.1 dX0_init_4 rfl (lv_at hl 0 rfl) ?_
  refine fw_new (fs := [.null, .null, .null]) E hK hH hz fc_X4 ql_RX0_9 qt_RX4 qn_RX4 (fun j hj => by rcases (show j = 0 ∨ j = 1 ∨ j = 2 by omega) with rfl | rfl | rfl <;> rfl) ⟨Nat.le_of_ble_eq_true rfl, Nat.le_of_ble_eq_true rfl⟩ dX0_init_5 (fun H1 hH hz1 => ?_)
  replace hz : H1.size = a + 2 := by omega
  clear hz1
  obtain ⟨M1, hM2⟩ : ∃ MX, MX = fw_up M (a + 1) (.inr (4, [.null, .null, .null])) := ⟨_, rfl⟩
  replace hH := fw_H.nm hM2 hH
  have fr3 : ∀ q, q ≠ a + 1 → M1 q = M q := fun q h => by rw [hM2]; exact fw_up_ne h
  replace ha : M1 a = some (.inr (0, [.null, .int 0, .int 0, .int 0, .int 0, .int 0])) := (fr3 _ (by omega)).trans ha
  have hn0 : M1 (a + 1) = some (.inr (4, [.null, .null, .null])) := by rw [hM2]; exact fw_up_eq
  refine lv_dup E.1 E.2.1 dX0_init_8 rfl ?_
  refine fw_cIN (As := []) (rest := [.ref (a + 1), .ref a]) E hK hH hl fL_X4_init rfl ql_RX0_11 qi_yX4_init (k_Ranking_init l G _ _ (a + 1) (by omega) hn0 (by omega)) rfl rfl (Nat.le_of_ble_eq_true rfl) ⟨Nat.le_of_ble_eq_true rfl, Nat.le_of_ble_eq_true rfl⟩ ⟨Nat.le_of_ble_eq_true rfl, Nat.le_of_ble_eq_true rfl⟩ dX0_init_9 (fw_kv fun M5 H1 locs1 hp4 hH hz1 => ?_)
  obtain ⟨hrnAt2, hz2, hfr⟩ := hp4
  replace hz : H1.size = a + 5 := by omega
  clear hz1 hz2
  have fr6 := hfr
  replace ha : M5 a = some (.inr (0, [.null, .int 0, .int 0, .int 0, .int 0, .int 0])) := (fr6 _ (by omega)).trans ha
  refine fw_putF E hK hH (by omega) ha fc_X0 0 (by decide) ql_RX0_12 rfl rfl hnm rfl rfl (Nat.le_of_ble_eq_true rfl) dX0_init_12 (fun H1 locs1 hH hz1 => ?_)
  replace hz := hz1.trans hz; clear hz1
  obtain ⟨M7, hM8⟩ : ∃ MX, MX = fw_up M5 a (.inr (0, [.ref (a + 1), .int 0, .int 0, .int 0, .int 0, .int 0])) := ⟨_, rfl⟩
  replace hH := fw_H.nm hM8 hH
  have fr9 : ∀ q, q ≠ a → M7 q = M5 q := fun q h => by rw [hM8]; exact fw_up_ne h
  replace hrnAt2 := rnAt.fr hrnAt2 (fun q h1 h2 => fr9 q (by omega))
  have ha : M7 a = some (.inr (0, [.ref (a + 1), .int 0, .int 0, .int 0, .int 0, .int 0])) := by rw [hM8]; exact fw_up_eq
  refine lv_aload_n E.1 E.2.1 dX0_init_15 rfl (lv_at hl 0 rfl) ?_
  refine lv_bipush (v := iI 70) E.1 E.2.1 dX0_init_16 (by decide) ?_
  refine fw_put E hK hH (by omega) ha fc_X0 1 (by decide) ql_RX0_18 rfl rfl rfl rfl (Nat.le_of_ble_eq_true rfl) dX0_init_18 (fun H1 locs1 hH hz1 => ?_)
  replace hz := hz1.trans hz; clear hz1
  obtain ⟨M10, hM11⟩ : ∃ MX, MX = fw_up M7 a (.inr (0, [.ref (a + 1), .int (iI 70), .int 0, .int 0, .int 0, .int 0])) := ⟨_, rfl⟩
  replace hH := fw_H.nm hM11 hH
  have fr12 : ∀ q, q ≠ a → M10 q = M7 q := fun q h => by rw [hM11]; exact fw_up_ne h
  replace hrnAt2 := rnAt.fr hrnAt2 (fun q h1 h2 => fr12 q (by omega))
  have ha : M10 a = some (.inr (0, [.ref (a + 1), .int (iI 70), .int 0, .int 0, .int 0, .int 0])) := by rw [hM11]; exact fw_up_eq
  refine lv_aload_n E.1 E.2.1 dX0_init_21 rfl (lv_at hl 0 rfl) ?_
  refine lv_bipush (v := iI 20) E.1 E.2.1 dX0_init_22 (by decide) ?_
  refine fw_put E hK hH (by omega) ha fc_X0 2 (by decide) ql_RX0_22 rfl rfl rfl rfl (Nat.le_of_ble_eq_true rfl) dX0_init_24 (fun H1 locs1 hH hz1 => ?_)
  replace hz := hz1.trans hz; clear hz1
  obtain ⟨M13, hM14⟩ : ∃ MX, MX = fw_up M10 a (.inr (0, [.ref (a + 1), .int (iI 70), .int (iI 20), .int 0, .int 0, .int 0])) := ⟨_, rfl⟩
  replace hH := fw_H.nm hM14 hH
  have fr15 : ∀ q, q ≠ a → M13 q = M10 q := fun q h => by rw [hM14]; exact fw_up_ne h
  replace hrnAt2 := rnAt.fr hrnAt2 (fun q h1 h2 => fr15 q (by omega))
  have ha : M13 a = some (.inr (0, [.ref (a + 1), .int (iI 70), .int (iI 20), .int 0, .int 0, .int 0])) := by rw [hM14]; exact fw_up_eq
  refine lv_aload_n E.1 E.2.1 dX0_init_27 rfl (lv_at hl 0 rfl) ?_
  refine lv_iconst (v := iI 5) E.1 E.2.1 dX0_init_28 (by decide) ?_
  refine fw_put E hK hH (by omega) ha fc_X0 3 (by decide) ql_RX0_25 rfl rfl rfl rfl (Nat.le_of_ble_eq_true rfl) dX0_init_29 (fun H1 locs1 hH hz1 => ?_)
  replace hz := hz1.trans hz; clear hz1
  obtain ⟨M16, hM17⟩ : ∃ MX, MX = fw_up M13 a (.inr (0, [.ref (a + 1), .int (iI 70), .int (iI 20), .int (iI 5), .int 0, .int 0])) := ⟨_, rfl⟩
  replace hH := fw_H.nm hM17 hH
  have fr18 : ∀ q, q ≠ a → M16 q = M13 q := fun q h => by rw [hM17]; exact fw_up_ne h
  replace hrnAt2 := rnAt.fr hrnAt2 (fun q h1 h2 => fr18 q (by omega))
  have ha : M16 a = some (.inr (0, [.ref (a + 1), .int (iI 70), .int (iI 20), .int (iI 5), .int 0, .int 0])) := by rw [hM17]; exact fw_up_eq
  refine lv_aload_n E.1 E.2.1 dX0_init_32 rfl (lv_at hl 0 rfl) ?_
  refine lv_iconst (v := iI 2) E.1 E.2.1 dX0_init_33 (by decide) ?_
  refine fw_put E hK hH (by omega) ha fc_X0 4 (by decide) ql_RX0_28 rfl rfl rfl rfl (Nat.le_of_ble_eq_true rfl) dX0_init_34 (fun H1 locs1 hH hz1 => ?_)
  replace hz := hz1.trans hz; clear hz1
  obtain ⟨M19, hM20⟩ : ∃ MX, MX = fw_up M16 a (.inr (0, [.ref (a + 1), .int (iI 70), .int (iI 20), .int (iI 5), .int (iI 2), .int 0])) := ⟨_, rfl⟩
  replace hH := fw_H.nm hM20 hH
  have fr21 : ∀ q, q ≠ a → M19 q = M16 q := fun q h => by rw [hM20]; exact fw_up_ne h
  replace hrnAt2 := rnAt.fr hrnAt2 (fun q h1 h2 => fr21 q (by omega))
  have ha : M19 a = some (.inr (0, [.ref (a + 1), .int (iI 70), .int (iI 20), .int (iI 5), .int (iI 2), .int 0])) := by rw [hM20]; exact fw_up_eq
  refine lv_aload_n E.1 E.2.1 dX0_init_37 rfl (lv_at hl 0 rfl) ?_
  refine lv_iconst (v := iI 1) E.1 E.2.1 dX0_init_38 (by decide) ?_
  refine fw_put E hK hH (by omega) ha fc_X0 5 (by decide) ql_RX0_31 rfl rfl rfl rfl (Nat.le_of_ble_eq_true rfl) dX0_init_39 (fun H1 locs1 hH hz1 => ?_)
  replace hz := hz1.trans hz; clear hz1
  obtain ⟨M22, hM23⟩ : ∃ MX, MX = fw_up M19 a (.inr (0, [.ref (a + 1), .int (iI 70), .int (iI 20), .int (iI 5), .int (iI 2), .int (iI 1)])) := ⟨_, rfl⟩
  replace hH := fw_H.nm hM23 hH
  have fr24 : ∀ q, q ≠ a → M22 q = M19 q := fun q h => by rw [hM23]; exact fw_up_ne h
  replace hrnAt2 := rnAt.fr hrnAt2 (fun q h1 h2 => fr24 q (by omega))
  have ha : M22 a = some (.inr (0, [.ref (a + 1), .int (iI 70), .int (iI 20), .int (iI 5), .int (iI 2), .int (iI 1)])) := by rw [hM23]; exact fw_up_eq
  refine fw_vret E hr hlk hH ?_ dX0_init_42
  exact ⟨⟨hb, ha, hrnAt2⟩, by omega, by intro q hq; rw [fr24 q (by omega), fr21 q (by omega), fr18 q (by omega), fr15 q (by omega), fr12 q (by omega), fr9 q (by omega), fr6 q (by omega), fr3 q (by omega)]⟩
/-- a new Simplifier -/
theorem k_Simplifier_init (l : Launch) (G : fw_G) (M : fw_M) (N : Nat) (a : Nat) (hb : G.2.2.1 ≤ a) (ha : M a = some (.inr (6, [.null]))) (hN : N = a + 1) : fMet l yX6_init cX6_init 1 none 2 40 3 45 G M N [.ref a] (fw_pv (fun M1 n1 => siAt G M1 a z0 z0 ∧ n1 = N + 3 ∧ ∀ q, q < a → M1 q = M q)) := by
  refine fw_met RX6 rfl (by decide +kernel) (Nat.le_of_ble_eq_true rfl) ?_
  intro pG e s m args below meth cG ls E hr hlk hnm hK hH hz hl
  have hz := hz.trans hN
  refine lv_aload_n E.1 E.2.1 dX6_init_0 rfl (lv_at hl 0 rfl) ?_
  refine fw_obj E ql_RX6_3 qi_obj qc_obj hl dX6_init_1 ⟨by decide, by decide⟩ ?_
  refine lv_aload_n E.1 E.2.1 dX6_init_4 rfl (lv_at hl 0 rfl) ?_
  refine fw_new (fs := [.null, .null]) E hK hH hz fc_X5 ql_RX6_9 qt_RX5 qn_RX5 (fun j hj => by rcases (show j = 0 ∨ j = 1 by omega) with rfl | rfl <;> rfl) ⟨Nat.le_of_ble_eq_true rfl, Nat.le_of_ble_eq_true rfl⟩ dX6_init_5 (fun H1 hH hz1 => ?_)
  replace hz : H1.size = a + 2 := by omega
  clear hz1
  obtain ⟨M1, hM2⟩ : ∃ MX, MX = fw_up M (a + 1) (.inr (5, [.null, .null])) := ⟨_, rfl⟩
  replace hH := fw_H.nm hM2 hH
  have fr3 : ∀ q, q ≠ a + 1 → M1 q = M q := fun q h => by rw [hM2]; exact fw_up_ne h
  replace ha : M1 a = some (.inr (6, [.null])) := (fr3 _ (by omega)).trans ha
  have hn0 : M1 (a + 1) = some (.inr (5, [.null, .null])) := by rw [hM2]; exact fw_up_eq
  refine lv_dup E.1 E.2.1 dX6_init_8 rfl ?_
  refine fw_cIN (As := []) (rest := [.ref (a + 1), .ref a]) E hK hH hl fL_X5_init rfl ql_RX6_11 qi_yX5_init (k_Reckoner_init l G _ _ (a + 1) (by omega) hn0 (by omega)) rfl rfl (Nat.le_of_ble_eq_true rfl) ⟨Nat.le_of_ble_eq_true rfl, Nat.le_of_ble_eq_true rfl⟩ ⟨Nat.le_of_ble_eq_true rfl, Nat.le_of_ble_eq_true rfl⟩ dX6_init_9 (fw_kv fun M5 H1 locs1 hp4 hH hz1 => ?_)
  obtain ⟨hrkAt2, hz2, hfr⟩ := hp4
  replace hz : H1.size = a + 4 := by omega
  clear hz1 hz2
  have fr6 := hfr
  replace ha : M5 a = some (.inr (6, [.null])) := (fr6 _ (by omega)).trans ha
  refine fw_putF E hK hH (by omega) ha fc_X6 0 (by decide) ql_RX6_12 rfl rfl hnm rfl rfl (Nat.le_of_ble_eq_true rfl) dX6_init_12 (fun H1 locs1 hH hz1 => ?_)
  replace hz := hz1.trans hz; clear hz1
  obtain ⟨M7, hM8⟩ : ∃ MX, MX = fw_up M5 a (.inr (6, [.ref (a + 1)])) := ⟨_, rfl⟩
  replace hH := fw_H.nm hM8 hH
  have fr9 : ∀ q, q ≠ a → M7 q = M5 q := fun q h => by rw [hM8]; exact fw_up_ne h
  replace hrkAt2 := rkAt.fr hrkAt2 (fun q h1 h2 => fr9 q (by omega))
  have ha : M7 a = some (.inr (6, [.ref (a + 1)])) := by rw [hM8]; exact fw_up_eq
  refine fw_vret E hr hlk hH ?_ dX6_init_15
  exact ⟨⟨hb, ha, hrkAt2⟩, by omega, by intro q hq; rw [fr9 q (by omega), fr6 q (by omega), fr3 q (by omega)]⟩
end
section
theorem k_needOf (l : Launch) (G : fw_G) (M : fw_M) (N : Nat) (b : Int) (hb0 : 0 ≤ b) (hb1 : b ≤ 1) : fMet l yX7_needOf cX7_needOf 1 (some .int) 0 0 0 0 G M N [.int (iI b)] (fw_pi (fun r M1 n1 => r = iI (if b = 0 then 3 else 1) ∧ M1 = M ∧ n1 = N)) := by
  refine fw_met RX7 rfl (by decide +kernel) (Nat.le_of_ble_eq_true rfl) ?_
  intro pG e s m args below meth cG ls E hr hlk hnm hK hH hz hl
  refine lv_iload_n E.1 E.2.1 dX7_needOf_0 rfl (lv_at hl 0 rfl) ?_
  refine fw_if_eq (tgt := 8) E dX7_needOf_1 (by decide) (by omega) (by omega) (fun c1 => ?_) (fun c1 => ?_)
  · refine lv_iconst (v := iI 3) E.1 E.2.1 dX7_needOf_8 (by decide) ?_
    refine fw_iret E hr hlk hH ?_ dX7_needOf_9
    exact ⟨by congr 1; split <;> omega, rfl, hz⟩
  · refine lv_iconst (v := iI 1) E.1 E.2.1 dX7_needOf_4 (by decide) ?_
    refine lv_goto (tgt := 9) E.1 E.2.1 dX7_needOf_5 (by decide) ?_
    refine fw_iret E hr hlk hH ?_ dX7_needOf_9
    exact ⟨by congr 1; split <;> omega, rfl, hz⟩
/-- one more is missing -/
theorem k_miss (l : Launch) (G : fw_G) (M : fw_M) (N : Nat) (a : Nat) (cs vs ss hs : Nat → Int) (n lv : Int) (nd lw : Nat → Int) (ms le : Int) (k : Nat) (b w : Int) (hS : skAt G M a cs vs ss hs n lv nd lw ms le) (hms : ms = ↑k) (hk : k < 40) (hb0 : 0 ≤ b) (hb1 : b ≤ 1) : fMet l yX7_miss cX7_miss 3 none 1 30 0 0 G M N [.ref a, .int (iI b), .int (iI w)] (fw_pv (fun M1 n1 => skAt G M1 a cs vs ss hs n lv (zup nd k (if b = 0 then 3 else 1)) (zup lw k w) (ms + 1) (le + (if b = 0 then 3 else 1)) ∧ n1 = N ∧ ∀ q, q < a ∨ a + 8 ≤ q → M1 q = M q)) := by
  refine fw_met RX7 rfl (by decide +kernel) (Nat.le_of_ble_eq_true rfl) ?_
  intro pG e s m args below meth cG ls E hr hlk hnm hK hH hz hl
  obtain ⟨hb, h0, h1, h6, h7⟩ := hS
  refine lv_aload_n E.1 E.2.1 dX7_miss_0 rfl (lv_at hl 0 rfl) ?_
  refine fw_get E hK hH h0 fc_X7 1 (by decide) ql_RX7_18 rfl rfl dX7_miss_1 ?_
  refine lv_aload_n E.1 E.2.1 dX7_miss_4 rfl (lv_at hl 0 rfl) ?_
  refine fw_get E hK hH h0 fc_X7 3 (by decide) ql_RX7_32 rfl rfl dX7_miss_5 ?_
  refine lv_iload_n E.1 E.2.1 dX7_miss_8 rfl (lv_at hl 1 rfl) ?_
  refine fw_cS (As := [.int (iI b)]) (rest := [.int (iI ms), .ref (a + 6)]) E hK hH hl fL_X7_needOf ql_RX7_46 qs_yX7_needOf (k_needOf l G _ _ b (by omega) (by omega)) rfl rfl (Nat.le_of_ble_eq_true rfl) ⟨Nat.le_of_ble_eq_true rfl, Nat.le_of_ble_eq_true rfl⟩ ⟨Nat.le_of_ble_eq_true rfl, Nat.le_of_ble_eq_true rfl⟩ dX7_miss_9 (fw_ki fun r3 M2 H1 locs1 hp1 hH hz1 => ?_)
  obtain ⟨rfl, hM9, hz2⟩ := hp1
  replace hz := hz2.trans hz
  clear hz1 hz2
  rw [hM9] at hH
  refine fw_cSN (As := [.ref (a + 6), .int (iI ms), .int (iI (if b = 0 then 3 else 1))]) (rest := []) E hK hH hl fL_X9_put ql_RX7_61 qs_yX9_put (k_put l G _ _ (a + 6) 40 nd ms k (if b = 0 then 3 else 1) h6 (by omega) (by omega) (by omega) (by omega)) rfl rfl (Nat.le_of_ble_eq_true rfl) ⟨Nat.le_of_ble_eq_true rfl, Nat.le_of_ble_eq_true rfl⟩ ⟨Nat.le_of_ble_eq_true rfl, Nat.le_of_ble_eq_true rfl⟩ dX7_miss_12 (fw_kv fun M5 H1 locs1 hp4 hH hz1 => ?_)
  obtain ⟨hM8, hz2⟩ := hp4
  have hfr : ∀ q, q ≠ a + 6 → M5 q = M q := fun q h => by rw [hM8]; exact fw_up_ne h
  have h6 : M5 (a + 6) = some (fI G 40 (fun j0 => iI ((zup nd k (if b = 0 then 3 else 1)) j0))) := by rw [hM8]; exact fw_up_eq
  replace hz := hz2.trans hz
  clear hz1 hz2
  have fr6 := hfr
  replace h0 : M5 a = some (.inr (7, [.ref (a + 1), .ref (a + 6), .ref (a + 7), .int (iI ms), .int (iI le)])) := (fr6 _ (by omega)).trans h0
  replace h1 := trAt.fr h1 (fun q h1 h2 => fr6 q (by omega))
  replace h7 : M5 (a + 7) = some (fI G 40 (fun j0 => iI (lw j0))) := (fr6 _ (by omega)).trans h7
  refine lv_aload_n E.1 E.2.1 dX7_miss_15 rfl (lv_at hl 0 rfl) ?_
  refine fw_get E hK hH h0 fc_X7 2 (by decide) ql_RX7_22 rfl rfl dX7_miss_16 ?_
  refine lv_aload_n E.1 E.2.1 dX7_miss_19 rfl (lv_at hl 0 rfl) ?_
  refine fw_get E hK hH h0 fc_X7 3 (by decide) ql_RX7_32 rfl rfl dX7_miss_20 ?_
  refine lv_iload_n E.1 E.2.1 dX7_miss_23 rfl (lv_at hl 2 rfl) ?_
  refine fw_cSN (As := [.ref (a + 7), .int (iI ms), .int (iI w)]) (rest := []) E hK hH hl fL_X9_put ql_RX7_61 qs_yX9_put (k_put l G _ _ (a + 7) 40 lw ms k w h7 (by omega) (by omega) (by omega) (by omega)) rfl rfl (Nat.le_of_ble_eq_true rfl) ⟨Nat.le_of_ble_eq_true rfl, Nat.le_of_ble_eq_true rfl⟩ ⟨Nat.le_of_ble_eq_true rfl, Nat.le_of_ble_eq_true rfl⟩ dX7_miss_24 (fw_kv fun M8 H1 locs1 hp7 hH hz1 => ?_)
  obtain ⟨hM8, hz2⟩ := hp7
  have hfr : ∀ q, q ≠ a + 7 → M8 q = M5 q := fun q h => by rw [hM8]; exact fw_up_ne h
  have h7 : M8 (a + 7) = some (fI G 40 (fun j0 => iI ((zup lw k w) j0))) := by rw [hM8]; exact fw_up_eq
  replace hz := hz2.trans hz
  clear hz1 hz2
  have fr9 := hfr
  replace h0 : M8 a = some (.inr (7, [.ref (a + 1), .ref (a + 6), .ref (a + 7), .int (iI ms), .int (iI le)])) := (fr9 _ (by omega)).trans h0
  replace h1 := trAt.fr h1 (fun q h1 h2 => fr9 q (by omega))
  replace h6 : M8 (a + 6) = some (fI G 40 (fun j0 => iI ((zup nd k (if b = 0 then 3 else 1)) j0))) := (fr9 _ (by omega)).trans h6
  refine lv_aload_n E.1 E.2.1 dX7_miss_27 rfl (lv_at hl 0 rfl) ?_
  refine lv_dup E.1 E.2.1 dX7_miss_28 rfl ?_
  refine fw_get E hK hH h0 fc_X7 3 (by decide) ql_RX7_32 rfl rfl dX7_miss_29 ?_
  refine lv_iconst (v := iI 1) E.1 E.2.1 dX7_miss_32 (by decide) ?_
  refine fw_iadd E dX7_miss_33 ?_
  refine fw_put E hK hH (by omega) h0 fc_X7 3 (by decide) ql_RX7_32 rfl rfl rfl rfl (Nat.le_of_ble_eq_true rfl) dX7_miss_34 (fun H1 locs1 hH hz1 => ?_)
  replace hz := hz1.trans hz; clear hz1
  obtain ⟨M10, hM11⟩ : ∃ MX, MX = fw_up M8 a (.inr (7, [.ref (a + 1), .ref (a + 6), .ref (a + 7), .int (iI (ms + 1)), .int (iI le)])) := ⟨_, rfl⟩
  replace hH := fw_H.nm hM11 hH
  have fr12 : ∀ q, q ≠ a → M10 q = M8 q := fun q h => by rw [hM11]; exact fw_up_ne h
  replace h1 := trAt.fr h1 (fun q h1 h2 => fr12 q (by omega))
  replace h6 : M10 (a + 6) = some (fI G 40 (fun j0 => iI ((zup nd k (if b = 0 then 3 else 1)) j0))) := (fr12 _ (by omega)).trans h6
  replace h7 : M10 (a + 7) = some (fI G 40 (fun j0 => iI ((zup lw k w) j0))) := (fr12 _ (by omega)).trans h7
  have h0 : M10 a = some (.inr (7, [.ref (a + 1), .ref (a + 6), .ref (a + 7), .int (iI (ms + 1)), .int (iI le)])) := by rw [hM11]; exact fw_up_eq
  refine lv_aload_n E.1 E.2.1 dX7_miss_37 rfl (lv_at hl 0 rfl) ?_
  refine lv_dup E.1 E.2.1 dX7_miss_38 rfl ?_
  refine fw_get E hK hH h0 fc_X7 4 (by decide) ql_RX7_35 rfl rfl dX7_miss_39 ?_
  refine lv_iload_n E.1 E.2.1 dX7_miss_42 rfl (lv_at hl 1 rfl) ?_
  refine fw_cS (As := [.int (iI b)]) (rest := [.int (iI le), .ref a]) E hK hH hl fL_X7_needOf ql_RX7_46 qs_yX7_needOf (k_needOf l G _ _ b (by omega) (by omega)) rfl rfl (Nat.le_of_ble_eq_true rfl) ⟨Nat.le_of_ble_eq_true rfl, Nat.le_of_ble_eq_true rfl⟩ ⟨Nat.le_of_ble_eq_true rfl, Nat.le_of_ble_eq_true rfl⟩ dX7_miss_43 (fw_ki fun r15 M14 H1 locs1 hp13 hH hz1 => ?_)
  obtain ⟨rfl, hM9, hz2⟩ := hp13
  replace hz := hz2.trans hz
  clear hz1 hz2
  rw [hM9] at hH
  refine fw_iadd E dX7_miss_46 ?_
  refine fw_put E hK hH (by omega) h0 fc_X7 4 (by decide) ql_RX7_35 rfl rfl rfl rfl (Nat.le_of_ble_eq_true rfl) dX7_miss_47 (fun H1 locs1 hH hz1 => ?_)
  replace hz := hz1.trans hz; clear hz1
  obtain ⟨M16, hM17⟩ : ∃ MX, MX = fw_up M10 a (.inr (7, [.ref (a + 1), .ref (a + 6), .ref (a + 7), .int (iI (ms + 1)), .int (iI (le + (if b = 0 then 3 else 1)))])) := ⟨_, rfl⟩
  replace hH := fw_H.nm hM17 hH
  have fr18 : ∀ q, q ≠ a → M16 q = M10 q := fun q h => by rw [hM17]; exact fw_up_ne h
  replace h1 := trAt.fr h1 (fun q h1 h2 => fr18 q (by omega))
  replace h6 : M16 (a + 6) = some (fI G 40 (fun j0 => iI ((zup nd k (if b = 0 then 3 else 1)) j0))) := (fr18 _ (by omega)).trans h6
  replace h7 : M16 (a + 7) = some (fI G 40 (fun j0 => iI ((zup lw k w) j0))) := (fr18 _ (by omega)).trans h7
  have h0 : M16 a = some (.inr (7, [.ref (a + 1), .ref (a + 6), .ref (a + 7), .int (iI (ms + 1)), .int (iI (le + (if b = 0 then 3 else 1)))])) := by rw [hM17]; exact fw_up_eq
  refine fw_vret E hr hlk hH ?_ dX7_miss_50
  exact ⟨⟨hb, h0, h1, h6, h7⟩, hz, by intro q hq; rw [fr18 q (by omega), fr12 q (by omega), fr9 q (by omega), fr6 q (by omega)]⟩
/-- an empty SKETCH -/
theorem k_clear (l : Launch) (G : fw_G) (M : fw_M) (N : Nat) (a : Nat) (cs vs ss hs : Nat → Int) (n lv : Int) (nd lw : Nat → Int) (ms le : Int) (hS : skAt G M a cs vs ss hs n lv nd lw ms le) : fMet l yX7_clear cX7_clear 1 none 2 60 0 0 G M N [.ref a] (fw_pv (fun M1 n1 => skAt G M1 a cs vs ss hs 0 lv (zup nd 0 1) (zup lw 0 1) 1 1 ∧ n1 = N ∧ ∀ q, q < a ∨ a + 8 ≤ q → M1 q = M q)) := by
  refine fw_met RX7 rfl (by decide +kernel) (Nat.le_of_ble_eq_true rfl) ?_
  intro pG e s m args below meth cG ls E hr hlk hnm hK hH hz hl
  obtain ⟨hb, h0, h1, h6, h7⟩ := hS
  refine lv_aload_n E.1 E.2.1 dX7_clear_0 rfl (lv_at hl 0 rfl) ?_
  refine fw_get E hK hH h0 fc_X7 0 (by decide) ql_RX7_12 rfl rfl dX7_clear_1 ?_
  refine lv_iconst (v := iI 0) E.1 E.2.1 dX7_clear_4 (by decide) ?_
  obtain ⟨_, t0, t1, t2, t3, t4⟩ := h1
  refine fw_putN E hK hH (by omega) t0 fc_X8 4 (by decide) ql_RX7_28 rfl rfl rfl rfl (Nat.le_of_ble_eq_true rfl) dX7_clear_5 (fun H1 locs1 hH hz1 => ?_)
  replace hz := hz1.trans hz; clear hz1
  obtain ⟨M1, hM2⟩ : ∃ MX, MX = fw_up M (a + 1) (.inr (8, [.ref (a + 1 + 1), .ref (a + 1 + 2), .ref (a + 1 + 3), .ref (a + 1 + 4), .int (iI 0), .int (iI lv)])) := ⟨_, rfl⟩
  replace hH := fw_H.nm hM2 hH
  have fr3 : ∀ q, q ≠ (a + 1) → M1 q = M q := fun q h => by rw [hM2]; exact fw_up_ne h
  replace h0 : M1 a = some (.inr (7, [.ref (a + 1), .ref (a + 6), .ref (a + 7), .int (iI ms), .int (iI le)])) := (fr3 _ (by omega)).trans h0
  replace h6 : M1 (a + 6) = some (fI G 40 (fun j0 => iI (nd j0))) := (fr3 _ (by omega)).trans h6
  replace h7 : M1 (a + 7) = some (fI G 40 (fun j0 => iI (lw j0))) := (fr3 _ (by omega)).trans h7
  replace t1 : M1 (a + 1 + 1) = some (fI G 40 (fun j0 => iI (cs j0))) := (fr3 _ (by omega)).trans t1
  replace t2 : M1 (a + 1 + 2) = some (fI G 40 (fun j0 => iI (vs j0))) := (fr3 _ (by omega)).trans t2
  replace t3 : M1 (a + 1 + 3) = some (fI G 40 (fun j0 => iI (ss j0))) := (fr3 _ (by omega)).trans t3
  replace t4 : M1 (a + 1 + 4) = some (fI G 40 (fun j0 => iI (hs j0))) := (fr3 _ (by omega)).trans t4
  have t0 : M1 (a + 1) = some (.inr (8, [.ref (a + 1 + 1), .ref (a + 1 + 2), .ref (a + 1 + 3), .ref (a + 1 + 4), .int (iI 0), .int (iI lv)])) := by rw [hM2]; exact fw_up_eq
  refine lv_aload_n E.1 E.2.1 dX7_clear_8 rfl (lv_at hl 0 rfl) ?_
  refine lv_iconst (v := iI 0) E.1 E.2.1 dX7_clear_9 (by decide) ?_
  refine fw_put E hK hH (by omega) h0 fc_X7 3 (by decide) ql_RX7_32 rfl rfl rfl rfl (Nat.le_of_ble_eq_true rfl) dX7_clear_10 (fun H1 locs1 hH hz1 => ?_)
  replace hz := hz1.trans hz; clear hz1
  obtain ⟨M4, hM5⟩ : ∃ MX, MX = fw_up M1 a (.inr (7, [.ref (a + 1), .ref (a + 6), .ref (a + 7), .int (iI 0), .int (iI le)])) := ⟨_, rfl⟩
  replace hH := fw_H.nm hM5 hH
  have fr6 : ∀ q, q ≠ a → M4 q = M1 q := fun q h => by rw [hM5]; exact fw_up_ne h
  replace h6 : M4 (a + 6) = some (fI G 40 (fun j0 => iI (nd j0))) := (fr6 _ (by omega)).trans h6
  replace h7 : M4 (a + 7) = some (fI G 40 (fun j0 => iI (lw j0))) := (fr6 _ (by omega)).trans h7
  replace t1 : M4 (a + 1 + 1) = some (fI G 40 (fun j0 => iI (cs j0))) := (fr6 _ (by omega)).trans t1
  replace t2 : M4 (a + 1 + 2) = some (fI G 40 (fun j0 => iI (vs j0))) := (fr6 _ (by omega)).trans t2
  replace t3 : M4 (a + 1 + 3) = some (fI G 40 (fun j0 => iI (ss j0))) := (fr6 _ (by omega)).trans t3
  replace t4 : M4 (a + 1 + 4) = some (fI G 40 (fun j0 => iI (hs j0))) := (fr6 _ (by omega)).trans t4
  replace t0 : M4 (a + 1) = some (.inr (8, [.ref (a + 1 + 1), .ref (a + 1 + 2), .ref (a + 1 + 3), .ref (a + 1 + 4), .int (iI 0), .int (iI lv)])) := (fr6 _ (by omega)).trans t0
  have h0 : M4 a = some (.inr (7, [.ref (a + 1), .ref (a + 6), .ref (a + 7), .int (iI 0), .int (iI le)])) := by rw [hM5]; exact fw_up_eq
  refine lv_aload_n E.1 E.2.1 dX7_clear_13 rfl (lv_at hl 0 rfl) ?_
  refine lv_iconst (v := iI 0) E.1 E.2.1 dX7_clear_14 (by decide) ?_
  refine fw_put E hK hH (by omega) h0 fc_X7 4 (by decide) ql_RX7_35 rfl rfl rfl rfl (Nat.le_of_ble_eq_true rfl) dX7_clear_15 (fun H1 locs1 hH hz1 => ?_)
  replace hz := hz1.trans hz; clear hz1
  obtain ⟨M7, hM8⟩ : ∃ MX, MX = fw_up M4 a (.inr (7, [.ref (a + 1), .ref (a + 6), .ref (a + 7), .int (iI 0), .int (iI 0)])) := ⟨_, rfl⟩
  replace hH := fw_H.nm hM8 hH
  have fr9 : ∀ q, q ≠ a → M7 q = M4 q := fun q h => by rw [hM8]; exact fw_up_ne h
  replace h6 : M7 (a + 6) = some (fI G 40 (fun j0 => iI (nd j0))) := (fr9 _ (by omega)).trans h6
  replace h7 : M7 (a + 7) = some (fI G 40 (fun j0 => iI (lw j0))) := (fr9 _ (by omega)).trans h7
  replace t1 : M7 (a + 1 + 1) = some (fI G 40 (fun j0 => iI (cs j0))) := (fr9 _ (by omega)).trans t1
  replace t2 : M7 (a + 1 + 2) = some (fI G 40 (fun j0 => iI (vs j0))) := (fr9 _ (by omega)).trans t2
  replace t3 : M7 (a + 1 + 3) = some (fI G 40 (fun j0 => iI (ss j0))) := (fr9 _ (by omega)).trans t3
  replace t4 : M7 (a + 1 + 4) = some (fI G 40 (fun j0 => iI (hs j0))) := (fr9 _ (by omega)).trans t4
  replace t0 : M7 (a + 1) = some (.inr (8, [.ref (a + 1 + 1), .ref (a + 1 + 2), .ref (a + 1 + 3), .ref (a + 1 + 4), .int (iI 0), .int (iI lv)])) := (fr9 _ (by omega)).trans t0
  have h0 : M7 a = some (.inr (7, [.ref (a + 1), .ref (a + 6), .ref (a + 7), .int (iI 0), .int (iI 0)])) := by rw [hM8]; exact fw_up_eq
  refine lv_aload_n E.1 E.2.1 dX7_clear_18 rfl (lv_at hl 0 rfl) ?_
  refine lv_iconst (v := iI 1) E.1 E.2.1 dX7_clear_19 (by decide) ?_
  refine lv_iconst (v := iI 1) E.1 E.2.1 dX7_clear_20 (by decide) ?_
  have h1 : trAt G M7 (a + 1) cs vs ss hs 0 lv := ⟨by omega, t0, t1, t2, t3, t4⟩
  have hS : skAt G M7 a cs vs ss hs 0 lv nd lw 0 0 := ⟨hb, h0, h1, h6, h7⟩
  refine fw_cV (As := [.int (iI 1), .int (iI 1)]) (rest := []) E hK hH hl hS.2.1 fc_X7 fL_X7_miss ql_RX7_38 qi_yX7_miss qv_yX7_miss (k_miss l G _ _ a cs vs ss hs 0 lv nd lw 0 0 0 1 1 hS (by omega) (by omega) (by omega) (by omega)) rfl rfl (Nat.le_of_ble_eq_true rfl) ⟨Nat.le_of_ble_eq_true rfl, Nat.le_of_ble_eq_true rfl⟩ ⟨Nat.le_of_ble_eq_true rfl, Nat.le_of_ble_eq_true rfl⟩ dX7_clear_21 (fw_kv fun M11 H1 locs1 hp10 hH hz1 => ?_)
  obtain ⟨hS, hz2, hfr⟩ := hp10
  replace hz := hz2.trans hz
  clear hz1 hz2
  have fr12 := hfr
  refine fw_vret E hr hlk hH ?_ dX7_clear_24
  exact ⟨hS, hz, by intro q hq; rw [fr12 q (by omega), fr9 q (by omega), fr6 q (by omega), fr3 q (by omega)]⟩
/-- a new SKETCH -/
theorem k_Sketch_init (l : Launch) (G : fw_G) (M : fw_M) (N : Nat) (a : Nat) (hb : G.2.2.1 ≤ a) (ha : M a = some (.inr (7, [.null, .null, .null, .int 0, .int 0]))) (hN : N = a + 1) : fMet l yX7_init cX7_init 1 none 3 90 7 246 G M N [.ref a] (fw_pv (fun M1 n1 => skAt G M1 a z0 z0 z0 z0 0 0 (zup z0 0 1) (zup z0 0 1) 1 1 ∧ n1 = N + 7 ∧ ∀ q, q < a → M1 q = M q)) := by
  refine fw_met RX7 rfl (by decide +kernel) (Nat.le_of_ble_eq_true rfl) ?_
  intro pG e s m args below meth cG ls E hr hlk hnm hK hH hz hl
  have hz := hz.trans hN
  refine lv_aload_n E.1 E.2.1 dX7_init_0 rfl (lv_at hl 0 rfl) ?_
  refine fw_obj E ql_RX7_3 qi_obj qc_obj hl dX7_init_1 ⟨by decide, by decide⟩ ?_
  refine lv_aload_n E.1 E.2.1 dX7_init_4 rfl (lv_at hl 0 rfl) ?_
  refine fw_new (fs := [.null, .null, .null, .null, .int 0, .int 0]) E hK hH hz fc_X8 ql_RX7_9 qt_RX8 qn_RX8 (fun j hj => by rcases (show j = 0 ∨ j = 1 ∨ j = 2 ∨ j = 3 ∨ j = 4 ∨ j = 5 by omega) with rfl | rfl | rfl | rfl | rfl | rfl <;> rfl) ⟨Nat.le_of_ble_eq_true rfl, Nat.le_of_ble_eq_true rfl⟩ dX7_init_5 (fun H1 hH hz1 => ?_)
  replace hz : H1.size = a + 2 := by omega
  clear hz1
  obtain ⟨M1, hM2⟩ : ∃ MX, MX = fw_up M (a + 1) (.inr (8, [.null, .null, .null, .null, .int 0, .int 0])) := ⟨_, rfl⟩
  replace hH := fw_H.nm hM2 hH
  have fr3 : ∀ q, q ≠ a + 1 → M1 q = M q := fun q h => by rw [hM2]; exact fw_up_ne h
  replace ha : M1 a = some (.inr (7, [.null, .null, .null, .int 0, .int 0])) := (fr3 _ (by omega)).trans ha
  have hn0 : M1 (a + 1) = some (.inr (8, [.null, .null, .null, .null, .int 0, .int 0])) := by rw [hM2]; exact fw_up_eq
  refine lv_dup E.1 E.2.1 dX7_init_8 rfl ?_
  refine fw_cIN (As := []) (rest := [.ref (a + 1), .ref a]) E hK hH hl fL_X8_init rfl ql_RX7_11 qi_yX8_init (k_Tree_init l G _ _ (a + 1) (by omega) hn0 (by omega)) rfl rfl (Nat.le_of_ble_eq_true rfl) ⟨Nat.le_of_ble_eq_true rfl, Nat.le_of_ble_eq_true rfl⟩ ⟨Nat.le_of_ble_eq_true rfl, Nat.le_of_ble_eq_true rfl⟩ dX7_init_9 (fw_kv fun M5 H1 locs1 hp4 hH hz1 => ?_)
  obtain ⟨htrAt2, hz2, hfr⟩ := hp4
  replace hz : H1.size = a + 6 := by omega
  clear hz1 hz2
  have fr6 := hfr
  replace ha : M5 a = some (.inr (7, [.null, .null, .null, .int 0, .int 0])) := (fr6 _ (by omega)).trans ha
  refine fw_putF E hK hH (by omega) ha fc_X7 0 (by decide) ql_RX7_12 rfl rfl hnm rfl rfl (Nat.le_of_ble_eq_true rfl) dX7_init_12 (fun H1 locs1 hH hz1 => ?_)
  replace hz := hz1.trans hz; clear hz1
  obtain ⟨M7, hM8⟩ : ∃ MX, MX = fw_up M5 a (.inr (7, [.ref (a + 1), .null, .null, .int 0, .int 0])) := ⟨_, rfl⟩
  replace hH := fw_H.nm hM8 hH
  have fr9 : ∀ q, q ≠ a → M7 q = M5 q := fun q h => by rw [hM8]; exact fw_up_ne h
  replace htrAt2 := trAt.fr htrAt2 (fun q h1 h2 => fr9 q (by omega))
  have ha : M7 a = some (.inr (7, [.ref (a + 1), .null, .null, .int 0, .int 0])) := by rw [hM8]; exact fw_up_eq
  refine lv_aload_n E.1 E.2.1 dX7_init_15 rfl (lv_at hl 0 rfl) ?_
  refine lv_bipush (v := iI 40) E.1 E.2.1 dX7_init_16 (by decide) ?_
  refine fw_newI (N := 40) E hK hH hz qa_int (by decide) (by decide) (by decide) ⟨Nat.le_of_ble_eq_true rfl, Nat.le_of_ble_eq_true rfl⟩ dX7_init_18 (fun H1 hH hz1 => ?_)
  replace hz : H1.size = a + 7 := by omega
  clear hz1
  obtain ⟨M10, hM11⟩ : ∃ MX, MX = fw_up M7 (a + 6) (fI G 40 (fun j0 => iI (z0 j0))) := ⟨_, rfl⟩
  replace hH := fw_H.nm hM11 hH
  have fr12 : ∀ q, q ≠ a + 6 → M10 q = M7 q := fun q h => by rw [hM11]; exact fw_up_ne h
  replace htrAt2 := trAt.fr htrAt2 (fun q h1 h2 => fr12 q (by omega))
  replace ha : M10 a = some (.inr (7, [.ref (a + 1), .null, .null, .int 0, .int 0])) := (fr12 _ (by omega)).trans ha
  have hn2 : M10 (a + 6) = some (fI G 40 (fun j0 => iI (z0 j0))) := by rw [hM11]; exact fw_up_eq
  refine fw_putF E hK hH (by omega) ha fc_X7 1 (by decide) ql_RX7_18 rfl rfl hnm rfl rfl (Nat.le_of_ble_eq_true rfl) dX7_init_20 (fun H1 locs1 hH hz1 => ?_)
  replace hz := hz1.trans hz; clear hz1
  obtain ⟨M13, hM14⟩ : ∃ MX, MX = fw_up M10 a (.inr (7, [.ref (a + 1), .ref (a + 6), .null, .int 0, .int 0])) := ⟨_, rfl⟩
  replace hH := fw_H.nm hM14 hH
  have fr15 : ∀ q, q ≠ a → M13 q = M10 q := fun q h => by rw [hM14]; exact fw_up_ne h
  replace htrAt2 := trAt.fr htrAt2 (fun q h1 h2 => fr15 q (by omega))
  replace hn2 : M13 (a + 6) = some (fI G 40 (fun j0 => iI (z0 j0))) := (fr15 _ (by omega)).trans hn2
  have ha : M13 a = some (.inr (7, [.ref (a + 1), .ref (a + 6), .null, .int 0, .int 0])) := by rw [hM14]; exact fw_up_eq
  refine lv_aload_n E.1 E.2.1 dX7_init_23 rfl (lv_at hl 0 rfl) ?_
  refine lv_bipush (v := iI 40) E.1 E.2.1 dX7_init_24 (by decide) ?_
  refine fw_newI (N := 40) E hK hH hz qa_int (by decide) (by decide) (by decide) ⟨Nat.le_of_ble_eq_true rfl, Nat.le_of_ble_eq_true rfl⟩ dX7_init_26 (fun H1 hH hz1 => ?_)
  replace hz : H1.size = a + 8 := by omega
  clear hz1
  obtain ⟨M16, hM17⟩ : ∃ MX, MX = fw_up M13 (a + 7) (fI G 40 (fun j0 => iI (z0 j0))) := ⟨_, rfl⟩
  replace hH := fw_H.nm hM17 hH
  have fr18 : ∀ q, q ≠ a + 7 → M16 q = M13 q := fun q h => by rw [hM17]; exact fw_up_ne h
  replace htrAt2 := trAt.fr htrAt2 (fun q h1 h2 => fr18 q (by omega))
  replace hn2 : M16 (a + 6) = some (fI G 40 (fun j0 => iI (z0 j0))) := (fr18 _ (by omega)).trans hn2
  replace ha : M16 a = some (.inr (7, [.ref (a + 1), .ref (a + 6), .null, .int 0, .int 0])) := (fr18 _ (by omega)).trans ha
  have hn3 : M16 (a + 7) = some (fI G 40 (fun j0 => iI (z0 j0))) := by rw [hM17]; exact fw_up_eq
  refine fw_putF E hK hH (by omega) ha fc_X7 2 (by decide) ql_RX7_22 rfl rfl hnm rfl rfl (Nat.le_of_ble_eq_true rfl) dX7_init_28 (fun H1 locs1 hH hz1 => ?_)
  replace hz := hz1.trans hz; clear hz1
  obtain ⟨M19, hM20⟩ : ∃ MX, MX = fw_up M16 a (.inr (7, [.ref (a + 1), .ref (a + 6), .ref (a + 7), .int 0, .int 0])) := ⟨_, rfl⟩
  replace hH := fw_H.nm hM20 hH
  have fr21 : ∀ q, q ≠ a → M19 q = M16 q := fun q h => by rw [hM20]; exact fw_up_ne h
  replace htrAt2 := trAt.fr htrAt2 (fun q h1 h2 => fr21 q (by omega))
  replace hn2 : M19 (a + 6) = some (fI G 40 (fun j0 => iI (z0 j0))) := (fr21 _ (by omega)).trans hn2
  replace hn3 : M19 (a + 7) = some (fI G 40 (fun j0 => iI (z0 j0))) := (fr21 _ (by omega)).trans hn3
  have ha : M19 a = some (.inr (7, [.ref (a + 1), .ref (a + 6), .ref (a + 7), .int 0, .int 0])) := by rw [hM20]; exact fw_up_eq
  refine lv_aload_n E.1 E.2.1 dX7_init_31 rfl (lv_at hl 0 rfl) ?_
  have hS : skAt G M19 a z0 z0 z0 z0 0 0 z0 z0 0 0 := ⟨by omega, ha, htrAt2, hn2, hn3⟩
  refine fw_cV (As := []) (rest := []) E hK hH hl hS.2.1 fc_X7 fL_X7_clear ql_RX7_25 qi_yX7_clear qv_yX7_clear (k_clear l G _ _ a z0 z0 z0 z0 0 0 z0 z0 0 0 hS) rfl rfl (Nat.le_of_ble_eq_true rfl) ⟨Nat.le_of_ble_eq_true rfl, Nat.le_of_ble_eq_true rfl⟩ ⟨Nat.le_of_ble_eq_true rfl, Nat.le_of_ble_eq_true rfl⟩ dX7_init_32 (fw_kv fun M23 H1 locs1 hp22 hH hz1 => ?_)
  obtain ⟨hS, hz2, hfr⟩ := hp22
  replace hz := hz2.trans hz
  clear hz1 hz2
  have fr24 := hfr
  refine fw_vret E hr hlk hH ?_ dX7_init_35
  exact ⟨hS, by omega, by intro q hq; rw [fr24 q (by omega), fr21 q (by omega), fr18 q (by omega), fr15 q (by omega), fr12 q (by omega), fr9 q (by omega), fr6 q (by omega), fr3 q (by omega)]⟩
end
section
/-- the GROVE: its DRAWS, its spare TREE, two rows of sixteen TREES each; slots 0 to 15 and 16 to 31; o: where the row in use begins (0 or 16) -/
def gvRow (G : fw_G) (M : fw_M) (a : Nat) (b : Nat) : Prop := ∃ f : Nat → Option Nat, M a = some (fT G 16 f) ∧ ∀ j, j < 16 → f j = some (b + 5 * j)
theorem gvRow.fr {G : fw_G} {M M1 : fw_M} {a b : Nat} (h : gvRow G M a b) (hf : ∀ q, a ≤ q → q < a + 1 → M1 q = M q) : gvRow G M1 a b := by
  obtain ⟨f, h1, h2⟩ := h
  exact ⟨f, (hf _ (by omega) (by omega)).trans h1, h2⟩
def gvTr (G : fw_G) (M : fw_M) (a : Nat) (C V S Hh : Nat → Nat → Int) (nn lv : Nat → Int) : Prop := ∀ j, j < 32 → trAt G M (a + 10 + 5 * j) (C j) (V j) (S j) (Hh j) (nn j) (lv j)
theorem gvTr.fr {G : fw_G} {M M1 : fw_M} {a : Nat} {C V S Hh : Nat → Nat → Int} {nn lv : Nat → Int} (h : gvTr G M a C V S Hh nn lv) (hf : ∀ q, a + 10 ≤ q → q < a + 170 → M1 q = M q) : gvTr G M1 a C V S Hh nn lv := fun j hj => (h j hj).fr (fun q h1 h2 => hf q (by omega) (by omega))
def gvAt (G : fw_G) (M : fw_M) (a : Nat) (o : Nat) (tl : Nat → Int) (w lk : Int) (C V S Hh : Nat → Nat → Int) (nn lv : Nat → Int) (cn gn mi : Int) : Prop := G.2.2.1 ≤ a ∧ M a = some (.inr (2, [.ref (a + 1), .ref (a + 3), .ref (if o = 0 then a + 8 else a + 9), .ref (if o = 0 then a + 9 else a + 8), .int (iI cn), .int (iI gn), .int (iI mi)])) ∧ drAt G M (a + 1) tl w lk ∧ (∃ cs vs ss hs n1 l1, trAt G M (a + 3) cs vs ss hs n1 l1) ∧ gvRow G M (a + 8) (a + 10) ∧ gvRow G M (a + 9) (a + 90) ∧ gvTr G M a C V S Hh nn lv
theorem gvAt.fr {G : fw_G} {M M1 : fw_M} {a o : Nat} {tl : Nat → Int} {w lk : Int} {C V S Hh : Nat → Nat → Int} {nn lv : Nat → Int} {cn gn mi : Int} (h : gvAt G M a o tl w lk C V S Hh nn lv cn gn mi) (hf : ∀ q, a ≤ q → q < a + 170 → M1 q = M q) : gvAt G M1 a o tl w lk C V S Hh nn lv cn gn mi := by
  obtain ⟨h0, h1, h2, ⟨cs, vs, ss, hs, n1, l1, h3⟩, h4, h5, h6⟩ := h
  exact ⟨h0, (hf _ (by omega) (by omega)).trans h1, h2.fr (fun q h8 h9 => hf q (by omega) (by omega)), ⟨cs, vs, ss, hs, n1, l1, h3.fr (fun q h8 h9 => hf q (by omega) (by omega))⟩, h4.fr (fun q h8 h9 => hf q (by omega) (by omega)), h5.fr (fun q h8 h9 => hf q (by omega) (by omega)), h6.fr (fun q h8 h9 => hf q (by omega) (by omega))⟩
/-- a new GROVE: two rows of sixteen TREES -/
theorem k_Grove_init (l : Launch) (G : fw_G) (M : fw_M) (N : Nat) (a : Nat) (hb : G.2.2.1 ≤ a) (ha : M a = some (.inr (2, [.null, .null, .null, .null, .int 0, .int 0, .int 0]))) (hN : N = a + 1) : fMet l yX2_init cX2_init 2 none 2 40 169 5553 G M N [.ref a] (fw_pv (fun M1 n1 => gvAt G M1 a 0 z0 0 0 (fun _ => z0) (fun _ => z0) (fun _ => z0) (fun _ => z0) (fun _ => 0) (fun _ => 0) 0 0 0 ∧ n1 = N + 169 ∧ ∀ q, q < a → M1 q = M q)) := by
  refine fw_met RX2 rfl (by decide +kernel) (Nat.le_of_ble_eq_true rfl) ?_
  intro pG e s m args below meth cG ls E hr hlk hnm hK hH hz hl
  have hz := hz.trans hN
  refine lv_aload_n E.1 E.2.1 dX2_init_0 rfl (lv_at hl 0 rfl) ?_
  refine fw_obj E ql_RX2_3 qi_obj qc_obj hl dX2_init_1 ⟨by decide, by decide⟩ ?_
  refine lv_aload_n E.1 E.2.1 dX2_init_4 rfl (lv_at hl 0 rfl) ?_
  refine fw_new (fs := [.null, .int 0, .int 0]) E hK hH hz fc_X1 ql_RX2_9 qt_RX1 qn_RX1 (fun j hj => by rcases (show j = 0 ∨ j = 1 ∨ j = 2 by omega) with rfl | rfl | rfl <;> rfl) ⟨by show _ ≤ (169 : Nat); omega, by show _ ≤ (5553 : Nat); omega⟩ dX2_init_5 (fun H1 hH hz1 => ?_)
  replace hz : H1.size = a + 2 := by omega
  clear hz1
  obtain ⟨M1, hM2⟩ : ∃ MX, MX = fw_up M (a + 1) (.inr (1, [.null, .int 0, .int 0])) := ⟨_, rfl⟩
  replace hH := fw_H.nm hM2 hH
  have fr3 : ∀ q, q ≠ a + 1 → M1 q = M q := fun q h => by rw [hM2]; exact fw_up_ne h
  replace ha : M1 a = some (.inr (2, [.null, .null, .null, .null, .int 0, .int 0, .int 0])) := (fr3 _ (by omega)).trans ha
  have hn0 : M1 (a + 1) = some (.inr (1, [.null, .int 0, .int 0])) := by rw [hM2]; exact fw_up_eq
  refine lv_dup E.1 E.2.1 dX2_init_8 rfl ?_
  refine fw_cIN (As := []) (rest := [.ref (a + 1), .ref a]) E hK hH hl fL_X1_init rfl ql_RX2_11 qi_yX1_init (k_Draws_init l G _ _ (a + 1) (by omega) hn0 (by omega)) rfl rfl (Nat.le_of_ble_eq_true rfl) ⟨Nat.le_of_ble_eq_true rfl, Nat.le_of_ble_eq_true rfl⟩ ⟨by show _ ≤ (169 : Nat); omega, by show _ ≤ (5553 : Nat); omega⟩ dX2_init_9 (fw_kv fun M5 H1 locs1 hp4 hH hz1 => ?_)
  obtain ⟨hdrAt2, hz2, hfr⟩ := hp4
  replace hz : H1.size = a + 3 := by omega
  clear hz1 hz2
  have fr6 := hfr
  replace ha : M5 a = some (.inr (2, [.null, .null, .null, .null, .int 0, .int 0, .int 0])) := (fr6 _ (by omega)).trans ha
  refine fw_putF E hK hH (by omega) ha fc_X2 0 (by decide) ql_RX2_12 rfl rfl hnm rfl rfl (Nat.le_of_ble_eq_true rfl) dX2_init_12 (fun H1 locs1 hH hz1 => ?_)
  replace hz := hz1.trans hz; clear hz1
  obtain ⟨M7, hM8⟩ : ∃ MX, MX = fw_up M5 a (.inr (2, [.ref (a + 1), .null, .null, .null, .int 0, .int 0, .int 0])) := ⟨_, rfl⟩
  replace hH := fw_H.nm hM8 hH
  have fr9 : ∀ q, q ≠ a → M7 q = M5 q := fun q h => by rw [hM8]; exact fw_up_ne h
  replace hdrAt2 := drAt.fr hdrAt2 (fun q h1 h2 => fr9 q (by omega))
  have ha : M7 a = some (.inr (2, [.ref (a + 1), .null, .null, .null, .int 0, .int 0, .int 0])) := by rw [hM8]; exact fw_up_eq
  refine lv_aload_n E.1 E.2.1 dX2_init_15 rfl (lv_at hl 0 rfl) ?_
  refine fw_new (fs := [.null, .null, .null, .null, .int 0, .int 0]) E hK hH hz fc_X8 ql_RX2_18 qt_RX8 qn_RX8 (fun j hj => by rcases (show j = 0 ∨ j = 1 ∨ j = 2 ∨ j = 3 ∨ j = 4 ∨ j = 5 by omega) with rfl | rfl | rfl | rfl | rfl | rfl <;> rfl) ⟨by show _ ≤ (169 : Nat); omega, by show _ ≤ (5553 : Nat); omega⟩ dX2_init_16 (fun H1 hH hz1 => ?_)
  replace hz : H1.size = a + 4 := by omega
  clear hz1
  obtain ⟨M10, hM11⟩ : ∃ MX, MX = fw_up M7 (a + 3) (.inr (8, [.null, .null, .null, .null, .int 0, .int 0])) := ⟨_, rfl⟩
  replace hH := fw_H.nm hM11 hH
  have fr12 : ∀ q, q ≠ a + 3 → M10 q = M7 q := fun q h => by rw [hM11]; exact fw_up_ne h
  replace hdrAt2 := drAt.fr hdrAt2 (fun q h1 h2 => fr12 q (by omega))
  replace ha : M10 a = some (.inr (2, [.ref (a + 1), .null, .null, .null, .int 0, .int 0, .int 0])) := (fr12 _ (by omega)).trans ha
  have hn2 : M10 (a + 3) = some (.inr (8, [.null, .null, .null, .null, .int 0, .int 0])) := by rw [hM11]; exact fw_up_eq
  refine lv_dup E.1 E.2.1 dX2_init_19 rfl ?_
  refine fw_cIN (As := []) (rest := [.ref (a + 3), .ref a]) E hK hH hl fL_X8_init rfl ql_RX2_20 qi_yX8_init (k_Tree_init l G _ _ (a + 3) (by omega) hn2 (by omega)) rfl rfl (Nat.le_of_ble_eq_true rfl) ⟨Nat.le_of_ble_eq_true rfl, Nat.le_of_ble_eq_true rfl⟩ ⟨by show _ ≤ (169 : Nat); omega, by show _ ≤ (5553 : Nat); omega⟩ dX2_init_20 (fw_kv fun M14 H1 locs1 hp13 hH hz1 => ?_)
  obtain ⟨htrAt4, hz2, hfr⟩ := hp13
  replace hz : H1.size = a + 8 := by omega
  clear hz1 hz2
  have fr15 := hfr
  replace hdrAt2 := drAt.fr hdrAt2 (fun q h1 h2 => fr15 q (by omega))
  replace ha : M14 a = some (.inr (2, [.ref (a + 1), .null, .null, .null, .int 0, .int 0, .int 0])) := (fr15 _ (by omega)).trans ha
  refine fw_putF E hK hH (by omega) ha fc_X2 1 (by decide) ql_RX2_21 rfl rfl hnm rfl rfl (Nat.le_of_ble_eq_true rfl) dX2_init_23 (fun H1 locs1 hH hz1 => ?_)
  replace hz := hz1.trans hz; clear hz1
  obtain ⟨M16, hM17⟩ : ∃ MX, MX = fw_up M14 a (.inr (2, [.ref (a + 1), .ref (a + 3), .null, .null, .int 0, .int 0, .int 0])) := ⟨_, rfl⟩
  replace hH := fw_H.nm hM17 hH
  have fr18 : ∀ q, q ≠ a → M16 q = M14 q := fun q h => by rw [hM17]; exact fw_up_ne h
  replace hdrAt2 := drAt.fr hdrAt2 (fun q h1 h2 => fr18 q (by omega))
  replace htrAt4 := trAt.fr htrAt4 (fun q h1 h2 => fr18 q (by omega))
  have ha : M16 a = some (.inr (2, [.ref (a + 1), .ref (a + 3), .null, .null, .int 0, .int 0, .int 0])) := by rw [hM17]; exact fw_up_eq
  refine lv_aload_n E.1 E.2.1 dX2_init_26 rfl (lv_at hl 0 rfl) ?_
  refine lv_bipush (v := iI 16) E.1 E.2.1 dX2_init_27 (by decide) ?_
  refine fw_newT (N := 16) E hK hH hz ql_RX2_18 qo_RX8 (by decide) (by decide) (by decide) ⟨by show _ ≤ (169 : Nat); omega, by show _ ≤ (5553 : Nat); omega⟩ dX2_init_29 (fun H1 hH hz1 => ?_)
  replace hz : H1.size = a + 9 := by omega
  clear hz1
  obtain ⟨M19, hM20⟩ : ∃ MX, MX = fw_up M16 (a + 8) (fT G 16 (fun _ => none)) := ⟨_, rfl⟩
  replace hH := fw_H.nm hM20 hH
  have fr21 : ∀ q, q ≠ a + 8 → M19 q = M16 q := fun q h => by rw [hM20]; exact fw_up_ne h
  replace hdrAt2 := drAt.fr hdrAt2 (fun q h1 h2 => fr21 q (by omega))
  replace htrAt4 := trAt.fr htrAt4 (fun q h1 h2 => fr21 q (by omega))
  replace ha : M19 a = some (.inr (2, [.ref (a + 1), .ref (a + 3), .null, .null, .int 0, .int 0, .int 0])) := (fr21 _ (by omega)).trans ha
  have hn4 : M19 (a + 8) = some (fT G 16 (fun _ => none)) := by rw [hM20]; exact fw_up_eq
  refine fw_put E hK hH (by omega) ha fc_X2 2 (by decide) ql_RX2_25 rfl rfl rfl rfl (Nat.le_of_ble_eq_true rfl) dX2_init_32 (fun H1 locs1 hH hz1 => ?_)
  replace hz := hz1.trans hz; clear hz1
  obtain ⟨M22, hM23⟩ : ∃ MX, MX = fw_up M19 a (.inr (2, [.ref (a + 1), .ref (a + 3), .ref (a + 8), .null, .int 0, .int 0, .int 0])) := ⟨_, rfl⟩
  replace hH := fw_H.nm hM23 hH
  have fr24 : ∀ q, q ≠ a → M22 q = M19 q := fun q h => by rw [hM23]; exact fw_up_ne h
  replace hdrAt2 := drAt.fr hdrAt2 (fun q h1 h2 => fr24 q (by omega))
  replace htrAt4 := trAt.fr htrAt4 (fun q h1 h2 => fr24 q (by omega))
  replace hn4 : M22 (a + 8) = some (fT G 16 (fun _ => none)) := (fr24 _ (by omega)).trans hn4
  have ha : M22 a = some (.inr (2, [.ref (a + 1), .ref (a + 3), .ref (a + 8), .null, .int 0, .int 0, .int 0])) := by rw [hM23]; exact fw_up_eq
  refine lv_aload_n E.1 E.2.1 dX2_init_35 rfl (lv_at hl 0 rfl) ?_
  refine lv_bipush (v := iI 16) E.1 E.2.1 dX2_init_36 (by decide) ?_
  refine fw_newT (N := 16) E hK hH hz ql_RX2_18 qo_RX8 (by decide) (by decide) (by decide) ⟨by show _ ≤ (169 : Nat); omega, by show _ ≤ (5553 : Nat); omega⟩ dX2_init_38 (fun H1 hH hz1 => ?_)
  replace hz : H1.size = a + 10 := by omega
  clear hz1
  obtain ⟨M25, hM26⟩ : ∃ MX, MX = fw_up M22 (a + 9) (fT G 16 (fun _ => none)) := ⟨_, rfl⟩
  replace hH := fw_H.nm hM26 hH
  have fr27 : ∀ q, q ≠ a + 9 → M25 q = M22 q := fun q h => by rw [hM26]; exact fw_up_ne h
  replace hdrAt2 := drAt.fr hdrAt2 (fun q h1 h2 => fr27 q (by omega))
  replace htrAt4 := trAt.fr htrAt4 (fun q h1 h2 => fr27 q (by omega))
  replace hn4 : M25 (a + 8) = some (fT G 16 (fun _ => none)) := (fr27 _ (by omega)).trans hn4
  replace ha : M25 a = some (.inr (2, [.ref (a + 1), .ref (a + 3), .ref (a + 8), .null, .int 0, .int 0, .int 0])) := (fr27 _ (by omega)).trans ha
  have hn5 : M25 (a + 9) = some (fT G 16 (fun _ => none)) := by rw [hM26]; exact fw_up_eq
  refine fw_put E hK hH (by omega) ha fc_X2 3 (by decide) ql_RX2_29 rfl rfl rfl rfl (Nat.le_of_ble_eq_true rfl) dX2_init_41 (fun H1 locs1 hH hz1 => ?_)
  replace hz := hz1.trans hz; clear hz1
  obtain ⟨M28, hM29⟩ : ∃ MX, MX = fw_up M25 a (.inr (2, [.ref (a + 1), .ref (a + 3), .ref (a + 8), .ref (a + 9), .int 0, .int 0, .int 0])) := ⟨_, rfl⟩
  replace hH := fw_H.nm hM29 hH
  have fr30 : ∀ q, q ≠ a → M28 q = M25 q := fun q h => by rw [hM29]; exact fw_up_ne h
  replace hdrAt2 := drAt.fr hdrAt2 (fun q h1 h2 => fr30 q (by omega))
  replace htrAt4 := trAt.fr htrAt4 (fun q h1 h2 => fr30 q (by omega))
  replace hn4 : M28 (a + 8) = some (fT G 16 (fun _ => none)) := (fr30 _ (by omega)).trans hn4
  replace hn5 : M28 (a + 9) = some (fT G 16 (fun _ => none)) := (fr30 _ (by omega)).trans hn5
  have ha : M28 a = some (.inr (2, [.ref (a + 1), .ref (a + 3), .ref (a + 8), .ref (a + 9), .int 0, .int 0, .int 0])) := by rw [hM29]; exact fw_up_eq
  refine lv_iconst (v := iI 0) E.1 E.2.1 dX2_init_44 (by decide) ?_
  refine lv_istore_n (lv' := [(1, .int (iI 0)), (0, .ref a)]) E.1 E.2.1 dX2_init_45 rfl hl (by decide) rfl (fun ls hl => ?_)
  have hfb0 : ∀ q, q < a → M28 q = M q := by intro q hq; rw [fr30 q (by omega), fr27 q (by omega), fr24 q (by omega), fr21 q (by omega), fr18 q (by omega), fr15 q (by omega), fr12 q (by omega), fr9 q (by omega), fr6 q (by omega), fr3 q (by omega)]
  have loop46_1 : ∀ (d46 : Nat) (i : Nat) (f : Nat → Option Nat) (Mw46 : fw_M) (H : Heap) (locs : List Loc) (ls : Array Slot), 16 - i < d46 → (∀ j, j < i → f j = some (a + 10 + 5 * j)) → i ≤ 16 → (∀ q, q < a → Mw46 q = M q) → fw_H G s Mw46 H locs → H.size = a + 10 + 5 * i → Mw46 a = some (.inr (2, [.ref (a + 1), .ref (a + 3), .ref (a + 8), .ref (a + 9), .int 0, .int 0, .int 0])) → drAt G Mw46 (a + 1) z0 0 0 → trAt G Mw46 (a + 3) z0 z0 z0 z0 0 0 → Mw46 (a + 8) = some (fT G 16 f) → Mw46 (a + 9) = some (fT G 16 (fun _ => none)) → (∀ j, j < i → trAt G Mw46 (a + 10 + 5 * j) z0 z0 z0 z0 0 0) → lv_has ls 2 [(0, .ref a), (1, .int (iI ↑i))] → W pG l e ({ frames := 2, cells := 169, slots := 5553, locals := 40 } : Room) s m args below meth cG H locs (9 + 5 * i) (241 + 166 * i) (MQ below (fw_Q G (fw_pv (fun M1 n1 => gvAt G M1 a 0 z0 0 0 (fun _ => z0) (fun _ => z0) (fun _ => z0) (fun _ => z0) (fun _ => 0) (fun _ => 0) 0 0 0 ∧ n1 = N + 169 ∧ ∀ q, q < a → M1 q = M q))) args s 169 5553 (fun q => G.2.2.1 ≤ q)) (F0 m 46 ls []) := by
    intro d46
    induction d46 with
    | zero => intro i f Mw46 H locs ls hd; exact absurd hd (Nat.not_lt_zero _)
    | succ d46 ih46 =>
      intro i f Mw46 H locs ls hd46 hf1 hi hfb hH hz ha hDr hNo h8 h9 hTr hl
      refine lv_iload_n E.1 E.2.1 dX2_init_46 rfl (lv_at hl 1 rfl) ?_
      refine lv_aload_n E.1 E.2.1 dX2_init_47 rfl (lv_at hl 0 rfl) ?_
      refine fw_get E hK hH ha fc_X2 2 (by decide) ql_RX2_25 rfl rfl dX2_init_48 ?_
      refine fw_alenT E hK hH h8 dX2_init_51 ?_
      refine fw_cv (y := iI 16) (by decide) ?_
      refine fw_icmp_ge (tgt := 74) E dX2_init_52 (by decide) (by omega) (by omega) (by omega) (by omega) (fun c31 => ?_) (fun c31 => ?_)
      · refine lv_iconst (v := iI 0) E.1 E.2.1 dX2_init_74 (by decide) ?_
        refine lv_istore_n (lv' := [(1, .int (iI 0)), (0, .ref a)]) E.1 E.2.1 dX2_init_75 rfl hl (by decide) rfl (fun ls hl => ?_)
        have loop76_2 : ∀ (d76 : Nat) (i : Nat) (f2 : Nat → Option Nat) (Mw76 : fw_M) (H : Heap) (locs : List Loc) (ls : Array Slot), 16 - i < d76 → (∀ j, j < i → f2 j = some (a + 90 + 5 * j)) → i ≤ 16 → (∀ q, q < a → Mw76 q = M q) → fw_H G s Mw76 H locs → H.size = a + 90 + 5 * i → Mw76 a = some (.inr (2, [.ref (a + 1), .ref (a + 3), .ref (a + 8), .ref (a + 9), .int 0, .int 0, .int 0])) → drAt G Mw76 (a + 1) z0 0 0 → trAt G Mw76 (a + 3) z0 z0 z0 z0 0 0 → Mw76 (a + 8) = some (fT G 16 f) → Mw76 (a + 9) = some (fT G 16 f2) → (∀ j, j < 16 + i → trAt G Mw76 (a + 10 + 5 * j) z0 z0 z0 z0 0 0) → lv_has ls 2 [(0, .ref a), (1, .int (iI ↑i))] → W pG l e ({ frames := 2, cells := 169, slots := 5553, locals := 40 } : Room) s m args below meth cG H locs (89 + 5 * i) (2897 + 166 * i) (MQ below (fw_Q G (fw_pv (fun M1 n1 => gvAt G M1 a 0 z0 0 0 (fun _ => z0) (fun _ => z0) (fun _ => z0) (fun _ => z0) (fun _ => 0) (fun _ => 0) 0 0 0 ∧ n1 = N + 169 ∧ ∀ q, q < a → M1 q = M q))) args s 169 5553 (fun q => G.2.2.1 ≤ q)) (F0 m 76 ls []) := by
          intro d76
          induction d76 with
          | zero => intro i f2 Mw76 H locs ls hd; exact absurd hd (Nat.not_lt_zero _)
          | succ d76 ih76 =>
            intro i f2 Mw76 H locs ls hd76 hf2 hi hfb hH hz ha hDr hNo h8 h9 hTr hl
            refine lv_iload_n E.1 E.2.1 dX2_init_76 rfl (lv_at hl 1 rfl) ?_
            refine lv_aload_n E.1 E.2.1 dX2_init_77 rfl (lv_at hl 0 rfl) ?_
            refine fw_get E hK hH ha fc_X2 3 (by decide) ql_RX2_29 rfl rfl dX2_init_78 ?_
            refine fw_alenT E hK hH h9 dX2_init_81 ?_
            refine fw_cv (y := iI 16) (by decide) ?_
            refine fw_icmp_ge (tgt := 104) E dX2_init_82 (by decide) (by omega) (by omega) (by omega) (by omega) (fun c32 => ?_) (fun c32 => ?_)
            · refine W.widen (k := 169) (n := 5553) (by omega) (by omega) ?_
              refine fw_vret E hr hlk hH ?_ dX2_init_104
              exact ⟨⟨hb, ha, hDr, ⟨_, _, _, _, _, _, hNo⟩, ⟨f, h8, fun j hj => hf1 j (by omega)⟩, ⟨f2, h9, fun j hj => hf2 j (by omega)⟩, fun j hj => hTr j (by omega)⟩, by omega, hfb⟩
            · refine lv_aload_n E.1 E.2.1 dX2_init_85 rfl (lv_at hl 0 rfl) ?_
              refine fw_get E hK hH ha fc_X2 3 (by decide) ql_RX2_29 rfl rfl dX2_init_86 ?_
              refine lv_iload_n E.1 E.2.1 dX2_init_89 rfl (lv_at hl 1 rfl) ?_
              refine fw_new (fs := [.null, .null, .null, .null, .int 0, .int 0]) E hK hH hz fc_X8 ql_RX2_18 qt_RX8 qn_RX8 (fun j hj => by rcases (show j = 0 ∨ j = 1 ∨ j = 2 ∨ j = 3 ∨ j = 4 ∨ j = 5 by omega) with rfl | rfl | rfl | rfl | rfl | rfl <;> rfl) ⟨by show _ ≤ (169 : Nat); omega, by show _ ≤ (5553 : Nat); omega⟩ dX2_init_90 (fun H1 hH hz1 => ?_)
              replace hz : H1.size = a + 90 + 5 * i + 1 := by omega
              clear hz1
              obtain ⟨M33, hM34⟩ : ∃ MX, MX = fw_up Mw76 (a + 90 + 5 * i) (.inr (8, [.null, .null, .null, .null, .int 0, .int 0])) := ⟨_, rfl⟩
              replace hH := fw_H.nm hM34 hH
              have fr35 : ∀ q, q ≠ a + 90 + 5 * i → M33 q = Mw76 q := fun q h => by rw [hM34]; exact fw_up_ne h
              replace ha : M33 a = some (.inr (2, [.ref (a + 1), .ref (a + 3), .ref (a + 8), .ref (a + 9), .int 0, .int 0, .int 0])) := (fr35 _ (by omega)).trans ha
              replace hDr := drAt.fr hDr (fun q h1 h2 => fr35 q (by omega))
              replace hNo := trAt.fr hNo (fun q h1 h2 => fr35 q (by omega))
              replace h8 : M33 (a + 8) = some (fT G 16 f) := (fr35 _ (by omega)).trans h8
              replace h9 : M33 (a + 9) = some (fT G 16 f2) := (fr35 _ (by omega)).trans h9
              replace hTr := fun (j : Nat) (hj : j < 16 + i) => trAt.fr (hTr j hj) (fun q h1 h2 => fr35 q (by omega))
              have hn6 : M33 (a + 90 + 5 * i) = some (.inr (8, [.null, .null, .null, .null, .int 0, .int 0])) := by rw [hM34]; exact fw_up_eq
              refine lv_dup E.1 E.2.1 dX2_init_93 rfl ?_
              refine fw_cIN (As := []) (rest := [.ref (a + 90 + 5 * i), .int (iI ↑i), .ref (a + 9)]) E hK hH hl fL_X8_init rfl ql_RX2_20 qi_yX8_init (k_Tree_init l G _ _ (a + 90 + 5 * i) (by omega) hn6 (by omega)) rfl rfl (Nat.le_of_ble_eq_true rfl) ⟨Nat.le_of_ble_eq_true rfl, Nat.le_of_ble_eq_true rfl⟩ ⟨by show _ ≤ (169 : Nat); omega, by show _ ≤ (5553 : Nat); omega⟩ dX2_init_94 (fw_kv fun M37 H1 locs1 hp36 hH hz1 => ?_)
              obtain ⟨htrAt8, hz2, hfr⟩ := hp36
              replace hz : H1.size = a + 90 + 5 * i + 5 := by omega
              clear hz1 hz2
              have fr38 := hfr
              replace ha : M37 a = some (.inr (2, [.ref (a + 1), .ref (a + 3), .ref (a + 8), .ref (a + 9), .int 0, .int 0, .int 0])) := (fr38 _ (by omega)).trans ha
              replace hDr := drAt.fr hDr (fun q h1 h2 => fr38 q (by omega))
              replace hNo := trAt.fr hNo (fun q h1 h2 => fr38 q (by omega))
              replace h8 : M37 (a + 8) = some (fT G 16 f) := (fr38 _ (by omega)).trans h8
              replace h9 : M37 (a + 9) = some (fT G 16 f2) := (fr38 _ (by omega)).trans h9
              replace hTr := fun (j : Nat) (hj : j < 16 + i) => trAt.fr (hTr j hj) (fun q h1 h2 => fr38 q (by omega))
              refine fw_aast E hK hH (by omega) h9 htrAt8.2.1 (iI_in (by omega) (by omega) (by omega)) dX2_init_97 (fun H1 locs1 hH hz1 => ?_)
              replace hz := hz1.trans hz; clear hz1
              rw [iI_ix (by omega) (by omega), show (↑i : Int).toNat = i from by omega] at hH
              obtain ⟨M39, hM40⟩ : ∃ MX, MX = fw_up M37 (a + 9) (fT G 16 (va_up f2 i (some (a + 90 + 5 * i)))) := ⟨_, rfl⟩
              replace hH := fw_H.nm hM40 hH
              have fr41 : ∀ q, q ≠ (a + 9) → M39 q = M37 q := fun q h => by rw [hM40]; exact fw_up_ne h
              replace ha : M39 a = some (.inr (2, [.ref (a + 1), .ref (a + 3), .ref (a + 8), .ref (a + 9), .int 0, .int 0, .int 0])) := (fr41 _ (by omega)).trans ha
              replace hDr := drAt.fr hDr (fun q h1 h2 => fr41 q (by omega))
              replace hNo := trAt.fr hNo (fun q h1 h2 => fr41 q (by omega))
              replace h8 : M39 (a + 8) = some (fT G 16 f) := (fr41 _ (by omega)).trans h8
              replace hTr := fun (j : Nat) (hj : j < 16 + i) => trAt.fr (hTr j hj) (fun q h1 h2 => fr41 q (by omega))
              replace htrAt8 := trAt.fr htrAt8 (fun q h1 h2 => fr41 q (by omega))
              have h9 : M39 (a + 9) = some (fT G 16 (va_up f2 i (some (a + 90 + 5 * i)))) := by rw [hM40]; exact fw_up_eq
              refine lv_iinc (v := iI (↑i + 1)) (lv' := [(1, .int (iI (↑i + 1))), (0, .ref a)]) E.1 E.2.1 dX2_init_98 hl (k := 1) rfl (iI_inc rfl) (by decide) rfl (fun ls hl => ?_)
              refine lv_goto (tgt := 76) E.1 E.2.1 dX2_init_101 (by decide) ?_
              refine W.widen (k := 89 + 5 * (i + 1)) (n := 2897 + 166 * (i + 1)) (by omega) (by omega) ?_
              exact ih76 (i + 1) (va_up f2 i (some (a + 90 + 5 * i))) _ _ _ _ (by omega) (fun j hj => if h9 : j = i then (by unfold va_up; rw [if_pos h9, h9]) else (by unfold va_up; rw [if_neg h9]; exact hf2 j (by omega))) (by omega) (fun q hq => by rw [fr41 q (by omega), fr38 q (by omega), fr35 q (by omega)]; exact hfb q hq) hH (by omega) ha hDr hNo h8 h9 (fun j hj => if h9 : j < 16 + i then hTr j h9 else (by rw [show a + 10 + 5 * j = a + 90 + 5 * i by omega]; exact htrAt8)) (lv_sub hl [1, 0] rfl)
        refine W.widen (k := 89 + 5 * 0) (n := 2897 + 166 * 0) (by omega) (by omega) ?_
        exact loop76_2 (16 - 0 + 1) 0 (fun _ => none) _ _ _ _ (Nat.lt_succ_self _) (fun j hj => absurd hj (Nat.not_lt_zero j)) (by omega) hfb hH (by omega) ha hDr hNo h8 h9 (fun j hj => hTr j (by omega)) (lv_sub hl [1, 0] rfl)
      · refine lv_aload_n E.1 E.2.1 dX2_init_55 rfl (lv_at hl 0 rfl) ?_
        refine fw_get E hK hH ha fc_X2 2 (by decide) ql_RX2_25 rfl rfl dX2_init_56 ?_
        refine lv_iload_n E.1 E.2.1 dX2_init_59 rfl (lv_at hl 1 rfl) ?_
        refine fw_new (fs := [.null, .null, .null, .null, .int 0, .int 0]) E hK hH hz fc_X8 ql_RX2_18 qt_RX8 qn_RX8 (fun j hj => by rcases (show j = 0 ∨ j = 1 ∨ j = 2 ∨ j = 3 ∨ j = 4 ∨ j = 5 by omega) with rfl | rfl | rfl | rfl | rfl | rfl <;> rfl) ⟨by show _ ≤ (169 : Nat); omega, by show _ ≤ (5553 : Nat); omega⟩ dX2_init_60 (fun H1 hH hz1 => ?_)
        replace hz : H1.size = a + 10 + 5 * i + 1 := by omega
        clear hz1
        obtain ⟨M42, hM43⟩ : ∃ MX, MX = fw_up Mw46 (a + 10 + 5 * i) (.inr (8, [.null, .null, .null, .null, .int 0, .int 0])) := ⟨_, rfl⟩
        replace hH := fw_H.nm hM43 hH
        have fr44 : ∀ q, q ≠ a + 10 + 5 * i → M42 q = Mw46 q := fun q h => by rw [hM43]; exact fw_up_ne h
        replace ha : M42 a = some (.inr (2, [.ref (a + 1), .ref (a + 3), .ref (a + 8), .ref (a + 9), .int 0, .int 0, .int 0])) := (fr44 _ (by omega)).trans ha
        replace hDr := drAt.fr hDr (fun q h1 h2 => fr44 q (by omega))
        replace hNo := trAt.fr hNo (fun q h1 h2 => fr44 q (by omega))
        replace h8 : M42 (a + 8) = some (fT G 16 f) := (fr44 _ (by omega)).trans h8
        replace h9 : M42 (a + 9) = some (fT G 16 (fun _ => none)) := (fr44 _ (by omega)).trans h9
        replace hTr := fun (j : Nat) (hj : j < i) => trAt.fr (hTr j hj) (fun q h1 h2 => fr44 q (by omega))
        have hn6 : M42 (a + 10 + 5 * i) = some (.inr (8, [.null, .null, .null, .null, .int 0, .int 0])) := by rw [hM43]; exact fw_up_eq
        refine lv_dup E.1 E.2.1 dX2_init_63 rfl ?_
        refine fw_cIN (As := []) (rest := [.ref (a + 10 + 5 * i), .int (iI ↑i), .ref (a + 8)]) E hK hH hl fL_X8_init rfl ql_RX2_20 qi_yX8_init (k_Tree_init l G _ _ (a + 10 + 5 * i) (by omega) hn6 (by omega)) rfl rfl (Nat.le_of_ble_eq_true rfl) ⟨Nat.le_of_ble_eq_true rfl, Nat.le_of_ble_eq_true rfl⟩ ⟨by show _ ≤ (169 : Nat); omega, by show _ ≤ (5553 : Nat); omega⟩ dX2_init_64 (fw_kv fun M46 H1 locs1 hp45 hH hz1 => ?_)
        obtain ⟨htrAt8, hz2, hfr⟩ := hp45
        replace hz : H1.size = a + 10 + 5 * i + 5 := by omega
        clear hz1 hz2
        have fr47 := hfr
        replace ha : M46 a = some (.inr (2, [.ref (a + 1), .ref (a + 3), .ref (a + 8), .ref (a + 9), .int 0, .int 0, .int 0])) := (fr47 _ (by omega)).trans ha
        replace hDr := drAt.fr hDr (fun q h1 h2 => fr47 q (by omega))
        replace hNo := trAt.fr hNo (fun q h1 h2 => fr47 q (by omega))
        replace h8 : M46 (a + 8) = some (fT G 16 f) := (fr47 _ (by omega)).trans h8
        replace h9 : M46 (a + 9) = some (fT G 16 (fun _ => none)) := (fr47 _ (by omega)).trans h9
        replace hTr := fun (j : Nat) (hj : j < i) => trAt.fr (hTr j hj) (fun q h1 h2 => fr47 q (by omega))
        refine fw_aast E hK hH (by omega) h8 htrAt8.2.1 (iI_in (by omega) (by omega) (by omega)) dX2_init_67 (fun H1 locs1 hH hz1 => ?_)
        replace hz := hz1.trans hz; clear hz1
        rw [iI_ix (by omega) (by omega), show (↑i : Int).toNat = i from by omega] at hH
        obtain ⟨M48, hM49⟩ : ∃ MX, MX = fw_up M46 (a + 8) (fT G 16 (va_up f i (some (a + 10 + 5 * i)))) := ⟨_, rfl⟩
        replace hH := fw_H.nm hM49 hH
        have fr50 : ∀ q, q ≠ (a + 8) → M48 q = M46 q := fun q h => by rw [hM49]; exact fw_up_ne h
        replace ha : M48 a = some (.inr (2, [.ref (a + 1), .ref (a + 3), .ref (a + 8), .ref (a + 9), .int 0, .int 0, .int 0])) := (fr50 _ (by omega)).trans ha
        replace hDr := drAt.fr hDr (fun q h1 h2 => fr50 q (by omega))
        replace hNo := trAt.fr hNo (fun q h1 h2 => fr50 q (by omega))
        replace h9 : M48 (a + 9) = some (fT G 16 (fun _ => none)) := (fr50 _ (by omega)).trans h9
        replace hTr := fun (j : Nat) (hj : j < i) => trAt.fr (hTr j hj) (fun q h1 h2 => fr50 q (by omega))
        replace htrAt8 := trAt.fr htrAt8 (fun q h1 h2 => fr50 q (by omega))
        have h8 : M48 (a + 8) = some (fT G 16 (va_up f i (some (a + 10 + 5 * i)))) := by rw [hM49]; exact fw_up_eq
        refine lv_iinc (v := iI (↑i + 1)) (lv' := [(1, .int (iI (↑i + 1))), (0, .ref a)]) E.1 E.2.1 dX2_init_68 hl (k := 1) rfl (iI_inc rfl) (by decide) rfl (fun ls hl => ?_)
        refine lv_goto (tgt := 46) E.1 E.2.1 dX2_init_71 (by decide) ?_
        refine W.widen (k := 9 + 5 * (i + 1)) (n := 241 + 166 * (i + 1)) (by omega) (by omega) ?_
        exact ih46 (i + 1) (va_up f i (some (a + 10 + 5 * i))) _ _ _ _ (by omega) (fun j hj => if h9 : j = i then (by unfold va_up; rw [if_pos h9, h9]) else (by unfold va_up; rw [if_neg h9]; exact hf1 j (by omega))) (by omega) (fun q hq => by rw [fr50 q (by omega), fr47 q (by omega), fr44 q (by omega)]; exact hfb q hq) hH (by omega) ha hDr hNo h8 h9 (fun j hj => if h9 : j < i then hTr j h9 else (by rw [show a + 10 + 5 * j = a + 10 + 5 * i by omega]; exact htrAt8)) (lv_sub hl [1, 0] rfl)
  refine W.widen (k := 9 + 5 * 0) (n := 241 + 166 * 0) (by omega) (by omega) ?_
  exact loop46_1 (16 - 0 + 1) 0 (fun _ => none) _ _ _ _ (Nat.lt_succ_self _) (fun j hj => absurd hj (Nat.not_lt_zero j)) (by omega) hfb0 hH (by omega) ha hdrAt2 htrAt4 hn4 hn5 (fun j hj => absurd hj (Nat.not_lt_zero j)) (lv_sub hl [1, 0] rfl)
/-- the bench itself: one object that knows all others -/
def bnAt (G : fw_G) (M : fw_M) (a : Nat) : Prop := G.2.2.1 ≤ a ∧ M a = some (.inr (9, [.ref (a + 1), .ref (a + 9), .ref (a + 17), .ref (a + 21), .ref (a + 26), .ref (a + 30), .ref (a + 33), .ref (a + 203), .ref (a + 373)]))
theorem bnAt.fr {G : fw_G} {M M1 : fw_M} {a : Nat} (h : bnAt G M a) (hf : ∀ q, a ≤ q → q < a + 1 → M1 q = M q) : bnAt G M1 a := ⟨h.1, (hf _ (by omega) (by omega)).trans h.2⟩
/-- a new bench -/
def bn0 (G : fw_G) (M : fw_M) (a : Nat) : Prop := bnAt G M a ∧ skAt G M (a + 1) z0 z0 z0 z0 0 0 (zup z0 0 1) (zup z0 0 1) 1 1 ∧ jdAt G M (a + 9) z0 z0 z0 z0 z0 z0 0 0 1 ∧ rnAt G M (a + 17) z0 z0 z0 ∧ brAt G M (a + 21) z0 z0 z0 70 20 5 2 1 ∧ siAt G M (a + 26) z0 z0 ∧ rkAt G M (a + 30) z0 z0 ∧ gvAt G M (a + 33) 0 z0 0 0 (fun _ => z0) (fun _ => z0) (fun _ => z0) (fun _ => z0) (fun _ => 0) (fun _ => 0) 0 0 0 ∧ gvAt G M (a + 203) 0 z0 0 0 (fun _ => z0) (fun _ => z0) (fun _ => z0) (fun _ => z0) (fun _ => 0) (fun _ => 0) 0 0 0 ∧ trAt G M (a + 373) z0 z0 z0 z0 0 0
set_option maxHeartbeats 20000000 in
/-- a new bench -/
theorem k_Barnacle_init (l : Launch) (G : fw_G) (M : fw_M) (N : Nat) (a : Nat) (hb : G.2.2.1 ≤ a) (ha : M a = some (.inr (9, [.null, .null, .null, .null, .null, .null, .null, .null, .null]))) (hN : N = a + 1) : fMet l yX9_init cX9_init 1 none 4 130 377 11837 G M N [.ref a] (fw_pv (fun M1 n1 => bn0 G M1 a ∧ n1 = N + 377 ∧ ∀ q, q < a → M1 q = M q)) := by
  refine fw_met RX9 rfl (by decide +kernel) (Nat.le_of_ble_eq_true rfl) ?_
  intro pG e s m args below meth cG ls E hr hlk hnm hK hH hz hl
  have hz := hz.trans hN
  refine lv_aload_n E.1 E.2.1 dX9_init_0 rfl (lv_at hl 0 rfl) ?_
  refine fw_obj E ql_RX9_1 qi_obj qc_obj hl dX9_init_1 ⟨by decide, by decide⟩ ?_
  refine lv_aload_n E.1 E.2.1 dX9_init_4 rfl (lv_at hl 0 rfl) ?_
  refine fw_new (fs := [.null, .null, .null, .int 0, .int 0]) E hK hH hz fc_X7 ql_RX9_7 qt_RX7 qn_RX7 (fun j hj => by rcases (show j = 0 ∨ j = 1 ∨ j = 2 ∨ j = 3 ∨ j = 4 by omega) with rfl | rfl | rfl | rfl | rfl <;> rfl) ⟨Nat.le_of_ble_eq_true rfl, Nat.le_of_ble_eq_true rfl⟩ dX9_init_5 (fun H1 hH hz1 => ?_)
  replace hz : H1.size = a + 2 := by omega
  clear hz1
  obtain ⟨M1, hM2⟩ : ∃ MX, MX = fw_up M (a + 1) (.inr (7, [.null, .null, .null, .int 0, .int 0])) := ⟨_, rfl⟩
  replace hH := fw_H.nm hM2 hH
  have fr3 : ∀ q, q ≠ a + 1 → M1 q = M q := fun q h => by rw [hM2]; exact fw_up_ne h
  replace ha : M1 a = some (.inr (9, [.null, .null, .null, .null, .null, .null, .null, .null, .null])) := (fr3 _ (by omega)).trans ha
  have hn0 : M1 (a + 1) = some (.inr (7, [.null, .null, .null, .int 0, .int 0])) := by rw [hM2]; exact fw_up_eq
  refine lv_dup E.1 E.2.1 dX9_init_8 rfl ?_
  refine fw_cI (As := []) (rest := [.ref (a + 1), .ref a]) E hK hH hl fL_X7_init rfl ql_RX9_9 qi_yX7_init (k_Sketch_init l G _ _ (a + 1) (by omega) hn0 (by omega)) rfl rfl (Nat.le_of_ble_eq_true rfl) ⟨Nat.le_of_ble_eq_true rfl, Nat.le_of_ble_eq_true rfl⟩ ⟨Nat.le_of_ble_eq_true rfl, Nat.le_of_ble_eq_true rfl⟩ dX9_init_9 (fw_kv fun M5 H1 locs1 hp4 hH hz1 => ?_)
  obtain ⟨hskAt2, hz2, hfr⟩ := hp4
  replace hz : H1.size = a + 9 := by omega
  clear hz1 hz2
  have fr6 := hfr
  replace ha : M5 a = some (.inr (9, [.null, .null, .null, .null, .null, .null, .null, .null, .null])) := (fr6 _ (by omega)).trans ha
  refine fw_putF E hK hH (by omega) ha fc_X9 0 (by decide) ql_RX9_10 rfl rfl hnm rfl rfl (Nat.le_of_ble_eq_true rfl) dX9_init_12 (fun H1 locs1 hH hz1 => ?_)
  replace hz := hz1.trans hz; clear hz1
  obtain ⟨M7, hM8⟩ : ∃ MX, MX = fw_up M5 a (.inr (9, [.ref (a + 1), .null, .null, .null, .null, .null, .null, .null, .null])) := ⟨_, rfl⟩
  replace hH := fw_H.nm hM8 hH
  have fr9 : ∀ q, q ≠ a → M7 q = M5 q := fun q h => by rw [hM8]; exact fw_up_ne h
  replace hskAt2 := skAt.fr hskAt2 (fun q h1 h2 => fr9 q (by omega))
  have ha : M7 a = some (.inr (9, [.ref (a + 1), .null, .null, .null, .null, .null, .null, .null, .null])) := by rw [hM8]; exact fw_up_eq
  refine lv_aload_n E.1 E.2.1 dX9_init_15 rfl (lv_at hl 0 rfl) ?_
  refine fw_new (fs := [.null, .null, .null, .null, .null, .int 0, .int 0, .int 0]) E hK hH hz fc_X3 ql_RX9_16 qt_RX3 qn_RX3 (fun j hj => by rcases (show j = 0 ∨ j = 1 ∨ j = 2 ∨ j = 3 ∨ j = 4 ∨ j = 5 ∨ j = 6 ∨ j = 7 by omega) with rfl | rfl | rfl | rfl | rfl | rfl | rfl | rfl <;> rfl) ⟨Nat.le_of_ble_eq_true rfl, Nat.le_of_ble_eq_true rfl⟩ dX9_init_16 (fun H1 hH hz1 => ?_)
  replace hz : H1.size = a + 10 := by omega
  clear hz1
  obtain ⟨M10, hM11⟩ : ∃ MX, MX = fw_up M7 (a + 9) (.inr (3, [.null, .null, .null, .null, .null, .int 0, .int 0, .int 0])) := ⟨_, rfl⟩
  replace hH := fw_H.nm hM11 hH
  have fr12 : ∀ q, q ≠ a + 9 → M10 q = M7 q := fun q h => by rw [hM11]; exact fw_up_ne h
  replace hskAt2 := skAt.fr hskAt2 (fun q h1 h2 => fr12 q (by omega))
  replace ha : M10 a = some (.inr (9, [.ref (a + 1), .null, .null, .null, .null, .null, .null, .null, .null])) := (fr12 _ (by omega)).trans ha
  have hn2 : M10 (a + 9) = some (.inr (3, [.null, .null, .null, .null, .null, .int 0, .int 0, .int 0])) := by rw [hM11]; exact fw_up_eq
  refine lv_dup E.1 E.2.1 dX9_init_19 rfl ?_
  refine fw_cIN (As := []) (rest := [.ref (a + 9), .ref a]) E hK hH hl fL_X3_init rfl ql_RX9_18 qi_yX3_init (k_Judge_init l G _ _ (a + 9) (by omega) hn2 (by omega)) rfl rfl (Nat.le_of_ble_eq_true rfl) ⟨Nat.le_of_ble_eq_true rfl, Nat.le_of_ble_eq_true rfl⟩ ⟨Nat.le_of_ble_eq_true rfl, Nat.le_of_ble_eq_true rfl⟩ dX9_init_20 (fw_kv fun M14 H1 locs1 hp13 hH hz1 => ?_)
  obtain ⟨hjdAt4, hz2, hfr⟩ := hp13
  replace hz : H1.size = a + 17 := by omega
  clear hz1 hz2
  have fr15 := hfr
  replace hskAt2 := skAt.fr hskAt2 (fun q h1 h2 => fr15 q (by omega))
  replace ha : M14 a = some (.inr (9, [.ref (a + 1), .null, .null, .null, .null, .null, .null, .null, .null])) := (fr15 _ (by omega)).trans ha
  refine fw_putF E hK hH (by omega) ha fc_X9 1 (by decide) ql_RX9_19 rfl rfl hnm rfl rfl (Nat.le_of_ble_eq_true rfl) dX9_init_23 (fun H1 locs1 hH hz1 => ?_)
  replace hz := hz1.trans hz; clear hz1
  obtain ⟨M16, hM17⟩ : ∃ MX, MX = fw_up M14 a (.inr (9, [.ref (a + 1), .ref (a + 9), .null, .null, .null, .null, .null, .null, .null])) := ⟨_, rfl⟩
  replace hH := fw_H.nm hM17 hH
  have fr18 : ∀ q, q ≠ a → M16 q = M14 q := fun q h => by rw [hM17]; exact fw_up_ne h
  replace hskAt2 := skAt.fr hskAt2 (fun q h1 h2 => fr18 q (by omega))
  replace hjdAt4 := jdAt.fr hjdAt4 (fun q h1 h2 => fr18 q (by omega))
  have ha : M16 a = some (.inr (9, [.ref (a + 1), .ref (a + 9), .null, .null, .null, .null, .null, .null, .null])) := by rw [hM17]; exact fw_up_eq
  refine lv_aload_n E.1 E.2.1 dX9_init_26 rfl (lv_at hl 0 rfl) ?_
  refine fw_new (fs := [.null, .null, .null]) E hK hH hz fc_X4 ql_RX9_23 qt_RX4 qn_RX4 (fun j hj => by rcases (show j = 0 ∨ j = 1 ∨ j = 2 by omega) with rfl | rfl | rfl <;> rfl) ⟨Nat.le_of_ble_eq_true rfl, Nat.le_of_ble_eq_true rfl⟩ dX9_init_27 (fun H1 hH hz1 => ?_)
  replace hz : H1.size = a + 18 := by omega
  clear hz1
  obtain ⟨M19, hM20⟩ : ∃ MX, MX = fw_up M16 (a + 17) (.inr (4, [.null, .null, .null])) := ⟨_, rfl⟩
  replace hH := fw_H.nm hM20 hH
  have fr21 : ∀ q, q ≠ a + 17 → M19 q = M16 q := fun q h => by rw [hM20]; exact fw_up_ne h
  replace hskAt2 := skAt.fr hskAt2 (fun q h1 h2 => fr21 q (by omega))
  replace hjdAt4 := jdAt.fr hjdAt4 (fun q h1 h2 => fr21 q (by omega))
  replace ha : M19 a = some (.inr (9, [.ref (a + 1), .ref (a + 9), .null, .null, .null, .null, .null, .null, .null])) := (fr21 _ (by omega)).trans ha
  have hn4 : M19 (a + 17) = some (.inr (4, [.null, .null, .null])) := by rw [hM20]; exact fw_up_eq
  refine lv_dup E.1 E.2.1 dX9_init_30 rfl ?_
  refine fw_cIN (As := []) (rest := [.ref (a + 17), .ref a]) E hK hH hl fL_X4_init rfl ql_RX9_25 qi_yX4_init (k_Ranking_init l G _ _ (a + 17) (by omega) hn4 (by omega)) rfl rfl (Nat.le_of_ble_eq_true rfl) ⟨Nat.le_of_ble_eq_true rfl, Nat.le_of_ble_eq_true rfl⟩ ⟨Nat.le_of_ble_eq_true rfl, Nat.le_of_ble_eq_true rfl⟩ dX9_init_31 (fw_kv fun M23 H1 locs1 hp22 hH hz1 => ?_)
  obtain ⟨hrnAt6, hz2, hfr⟩ := hp22
  replace hz : H1.size = a + 21 := by omega
  clear hz1 hz2
  have fr24 := hfr
  replace hskAt2 := skAt.fr hskAt2 (fun q h1 h2 => fr24 q (by omega))
  replace hjdAt4 := jdAt.fr hjdAt4 (fun q h1 h2 => fr24 q (by omega))
  replace ha : M23 a = some (.inr (9, [.ref (a + 1), .ref (a + 9), .null, .null, .null, .null, .null, .null, .null])) := (fr24 _ (by omega)).trans ha
  refine fw_putF E hK hH (by omega) ha fc_X9 2 (by decide) ql_RX9_26 rfl rfl hnm rfl rfl (Nat.le_of_ble_eq_true rfl) dX9_init_34 (fun H1 locs1 hH hz1 => ?_)
  replace hz := hz1.trans hz; clear hz1
  obtain ⟨M25, hM26⟩ : ∃ MX, MX = fw_up M23 a (.inr (9, [.ref (a + 1), .ref (a + 9), .ref (a + 17), .null, .null, .null, .null, .null, .null])) := ⟨_, rfl⟩
  replace hH := fw_H.nm hM26 hH
  have fr27 : ∀ q, q ≠ a → M25 q = M23 q := fun q h => by rw [hM26]; exact fw_up_ne h
  replace hskAt2 := skAt.fr hskAt2 (fun q h1 h2 => fr27 q (by omega))
  replace hjdAt4 := jdAt.fr hjdAt4 (fun q h1 h2 => fr27 q (by omega))
  replace hrnAt6 := rnAt.fr hrnAt6 (fun q h1 h2 => fr27 q (by omega))
  have ha : M25 a = some (.inr (9, [.ref (a + 1), .ref (a + 9), .ref (a + 17), .null, .null, .null, .null, .null, .null])) := by rw [hM26]; exact fw_up_eq
  refine lv_aload_n E.1 E.2.1 dX9_init_37 rfl (lv_at hl 0 rfl) ?_
  refine fw_new (fs := [.null, .int 0, .int 0, .int 0, .int 0, .int 0]) E hK hH hz fc_X0 ql_RX9_30 qt_RX0 qn_RX0 (fun j hj => by rcases (show j = 0 ∨ j = 1 ∨ j = 2 ∨ j = 3 ∨ j = 4 ∨ j = 5 by omega) with rfl | rfl | rfl | rfl | rfl | rfl <;> rfl) ⟨Nat.le_of_ble_eq_true rfl, Nat.le_of_ble_eq_true rfl⟩ dX9_init_38 (fun H1 hH hz1 => ?_)
  replace hz : H1.size = a + 22 := by omega
  clear hz1
  obtain ⟨M28, hM29⟩ : ∃ MX, MX = fw_up M25 (a + 21) (.inr (0, [.null, .int 0, .int 0, .int 0, .int 0, .int 0])) := ⟨_, rfl⟩
  replace hH := fw_H.nm hM29 hH
  have fr30 : ∀ q, q ≠ a + 21 → M28 q = M25 q := fun q h => by rw [hM29]; exact fw_up_ne h
  replace hskAt2 := skAt.fr hskAt2 (fun q h1 h2 => fr30 q (by omega))
  replace hjdAt4 := jdAt.fr hjdAt4 (fun q h1 h2 => fr30 q (by omega))
  replace hrnAt6 := rnAt.fr hrnAt6 (fun q h1 h2 => fr30 q (by omega))
  replace ha : M28 a = some (.inr (9, [.ref (a + 1), .ref (a + 9), .ref (a + 17), .null, .null, .null, .null, .null, .null])) := (fr30 _ (by omega)).trans ha
  have hn6 : M28 (a + 21) = some (.inr (0, [.null, .int 0, .int 0, .int 0, .int 0, .int 0])) := by rw [hM29]; exact fw_up_eq
  refine lv_dup E.1 E.2.1 dX9_init_41 rfl ?_
  refine fw_cIN (As := []) (rest := [.ref (a + 21), .ref a]) E hK hH hl fL_X0_init rfl ql_RX9_32 qi_yX0_init (k_Breeder_init l G _ _ (a + 21) (by omega) hn6 (by omega)) rfl rfl (Nat.le_of_ble_eq_true rfl) ⟨Nat.le_of_ble_eq_true rfl, Nat.le_of_ble_eq_true rfl⟩ ⟨Nat.le_of_ble_eq_true rfl, Nat.le_of_ble_eq_true rfl⟩ dX9_init_42 (fw_kv fun M32 H1 locs1 hp31 hH hz1 => ?_)
  obtain ⟨hbrAt8, hz2, hfr⟩ := hp31
  replace hz : H1.size = a + 26 := by omega
  clear hz1 hz2
  have fr33 := hfr
  replace hskAt2 := skAt.fr hskAt2 (fun q h1 h2 => fr33 q (by omega))
  replace hjdAt4 := jdAt.fr hjdAt4 (fun q h1 h2 => fr33 q (by omega))
  replace hrnAt6 := rnAt.fr hrnAt6 (fun q h1 h2 => fr33 q (by omega))
  replace ha : M32 a = some (.inr (9, [.ref (a + 1), .ref (a + 9), .ref (a + 17), .null, .null, .null, .null, .null, .null])) := (fr33 _ (by omega)).trans ha
  refine fw_putF E hK hH (by omega) ha fc_X9 3 (by decide) ql_RX9_33 rfl rfl hnm rfl rfl (Nat.le_of_ble_eq_true rfl) dX9_init_45 (fun H1 locs1 hH hz1 => ?_)
  replace hz := hz1.trans hz; clear hz1
  obtain ⟨M34, hM35⟩ : ∃ MX, MX = fw_up M32 a (.inr (9, [.ref (a + 1), .ref (a + 9), .ref (a + 17), .ref (a + 21), .null, .null, .null, .null, .null])) := ⟨_, rfl⟩
  replace hH := fw_H.nm hM35 hH
  have fr36 : ∀ q, q ≠ a → M34 q = M32 q := fun q h => by rw [hM35]; exact fw_up_ne h
  replace hskAt2 := skAt.fr hskAt2 (fun q h1 h2 => fr36 q (by omega))
  replace hjdAt4 := jdAt.fr hjdAt4 (fun q h1 h2 => fr36 q (by omega))
  replace hrnAt6 := rnAt.fr hrnAt6 (fun q h1 h2 => fr36 q (by omega))
  replace hbrAt8 := brAt.fr hbrAt8 (fun q h1 h2 => fr36 q (by omega))
  have ha : M34 a = some (.inr (9, [.ref (a + 1), .ref (a + 9), .ref (a + 17), .ref (a + 21), .null, .null, .null, .null, .null])) := by rw [hM35]; exact fw_up_eq
  refine lv_aload_n E.1 E.2.1 dX9_init_48 rfl (lv_at hl 0 rfl) ?_
  refine fw_new (fs := [.null]) E hK hH hz fc_X6 ql_RX9_37 qt_RX6 qn_RX6 (fun j hj => by rcases (show j = 0 by omega) with rfl <;> rfl) ⟨Nat.le_of_ble_eq_true rfl, Nat.le_of_ble_eq_true rfl⟩ dX9_init_49 (fun H1 hH hz1 => ?_)
  replace hz : H1.size = a + 27 := by omega
  clear hz1
  obtain ⟨M37, hM38⟩ : ∃ MX, MX = fw_up M34 (a + 26) (.inr (6, [.null])) := ⟨_, rfl⟩
  replace hH := fw_H.nm hM38 hH
  have fr39 : ∀ q, q ≠ a + 26 → M37 q = M34 q := fun q h => by rw [hM38]; exact fw_up_ne h
  replace hskAt2 := skAt.fr hskAt2 (fun q h1 h2 => fr39 q (by omega))
  replace hjdAt4 := jdAt.fr hjdAt4 (fun q h1 h2 => fr39 q (by omega))
  replace hrnAt6 := rnAt.fr hrnAt6 (fun q h1 h2 => fr39 q (by omega))
  replace hbrAt8 := brAt.fr hbrAt8 (fun q h1 h2 => fr39 q (by omega))
  replace ha : M37 a = some (.inr (9, [.ref (a + 1), .ref (a + 9), .ref (a + 17), .ref (a + 21), .null, .null, .null, .null, .null])) := (fr39 _ (by omega)).trans ha
  have hn8 : M37 (a + 26) = some (.inr (6, [.null])) := by rw [hM38]; exact fw_up_eq
  refine lv_dup E.1 E.2.1 dX9_init_52 rfl ?_
  refine fw_cIN (As := []) (rest := [.ref (a + 26), .ref a]) E hK hH hl fL_X6_init rfl ql_RX9_39 qi_yX6_init (k_Simplifier_init l G _ _ (a + 26) (by omega) hn8 (by omega)) rfl rfl (Nat.le_of_ble_eq_true rfl) ⟨Nat.le_of_ble_eq_true rfl, Nat.le_of_ble_eq_true rfl⟩ ⟨Nat.le_of_ble_eq_true rfl, Nat.le_of_ble_eq_true rfl⟩ dX9_init_53 (fw_kv fun M41 H1 locs1 hp40 hH hz1 => ?_)
  obtain ⟨hsiAt10, hz2, hfr⟩ := hp40
  replace hz : H1.size = a + 30 := by omega
  clear hz1 hz2
  have fr42 := hfr
  replace hskAt2 := skAt.fr hskAt2 (fun q h1 h2 => fr42 q (by omega))
  replace hjdAt4 := jdAt.fr hjdAt4 (fun q h1 h2 => fr42 q (by omega))
  replace hrnAt6 := rnAt.fr hrnAt6 (fun q h1 h2 => fr42 q (by omega))
  replace hbrAt8 := brAt.fr hbrAt8 (fun q h1 h2 => fr42 q (by omega))
  replace ha : M41 a = some (.inr (9, [.ref (a + 1), .ref (a + 9), .ref (a + 17), .ref (a + 21), .null, .null, .null, .null, .null])) := (fr42 _ (by omega)).trans ha
  refine fw_putF E hK hH (by omega) ha fc_X9 4 (by decide) ql_RX9_40 rfl rfl hnm rfl rfl (Nat.le_of_ble_eq_true rfl) dX9_init_56 (fun H1 locs1 hH hz1 => ?_)
  replace hz := hz1.trans hz; clear hz1
  obtain ⟨M43, hM44⟩ : ∃ MX, MX = fw_up M41 a (.inr (9, [.ref (a + 1), .ref (a + 9), .ref (a + 17), .ref (a + 21), .ref (a + 26), .null, .null, .null, .null])) := ⟨_, rfl⟩
  replace hH := fw_H.nm hM44 hH
  have fr45 : ∀ q, q ≠ a → M43 q = M41 q := fun q h => by rw [hM44]; exact fw_up_ne h
  replace hskAt2 := skAt.fr hskAt2 (fun q h1 h2 => fr45 q (by omega))
  replace hjdAt4 := jdAt.fr hjdAt4 (fun q h1 h2 => fr45 q (by omega))
  replace hrnAt6 := rnAt.fr hrnAt6 (fun q h1 h2 => fr45 q (by omega))
  replace hbrAt8 := brAt.fr hbrAt8 (fun q h1 h2 => fr45 q (by omega))
  replace hsiAt10 := siAt.fr hsiAt10 (fun q h1 h2 => fr45 q (by omega))
  have ha : M43 a = some (.inr (9, [.ref (a + 1), .ref (a + 9), .ref (a + 17), .ref (a + 21), .ref (a + 26), .null, .null, .null, .null])) := by rw [hM44]; exact fw_up_eq
  refine lv_aload_n E.1 E.2.1 dX9_init_59 rfl (lv_at hl 0 rfl) ?_
  refine fw_new (fs := [.null, .null]) E hK hH hz fc_X5 ql_RX9_44 qt_RX5 qn_RX5 (fun j hj => by rcases (show j = 0 ∨ j = 1 by omega) with rfl | rfl <;> rfl) ⟨Nat.le_of_ble_eq_true rfl, Nat.le_of_ble_eq_true rfl⟩ dX9_init_60 (fun H1 hH hz1 => ?_)
  replace hz : H1.size = a + 31 := by omega
  clear hz1
  obtain ⟨M46, hM47⟩ : ∃ MX, MX = fw_up M43 (a + 30) (.inr (5, [.null, .null])) := ⟨_, rfl⟩
  replace hH := fw_H.nm hM47 hH
  have fr48 : ∀ q, q ≠ a + 30 → M46 q = M43 q := fun q h => by rw [hM47]; exact fw_up_ne h
  replace hskAt2 := skAt.fr hskAt2 (fun q h1 h2 => fr48 q (by omega))
  replace hjdAt4 := jdAt.fr hjdAt4 (fun q h1 h2 => fr48 q (by omega))
  replace hrnAt6 := rnAt.fr hrnAt6 (fun q h1 h2 => fr48 q (by omega))
  replace hbrAt8 := brAt.fr hbrAt8 (fun q h1 h2 => fr48 q (by omega))
  replace hsiAt10 := siAt.fr hsiAt10 (fun q h1 h2 => fr48 q (by omega))
  replace ha : M46 a = some (.inr (9, [.ref (a + 1), .ref (a + 9), .ref (a + 17), .ref (a + 21), .ref (a + 26), .null, .null, .null, .null])) := (fr48 _ (by omega)).trans ha
  have hn10 : M46 (a + 30) = some (.inr (5, [.null, .null])) := by rw [hM47]; exact fw_up_eq
  refine lv_dup E.1 E.2.1 dX9_init_63 rfl ?_
  refine fw_cIN (As := []) (rest := [.ref (a + 30), .ref a]) E hK hH hl fL_X5_init rfl ql_RX9_46 qi_yX5_init (k_Reckoner_init l G _ _ (a + 30) (by omega) hn10 (by omega)) rfl rfl (Nat.le_of_ble_eq_true rfl) ⟨Nat.le_of_ble_eq_true rfl, Nat.le_of_ble_eq_true rfl⟩ ⟨Nat.le_of_ble_eq_true rfl, Nat.le_of_ble_eq_true rfl⟩ dX9_init_64 (fw_kv fun M50 H1 locs1 hp49 hH hz1 => ?_)
  obtain ⟨hrkAt12, hz2, hfr⟩ := hp49
  replace hz : H1.size = a + 33 := by omega
  clear hz1 hz2
  have fr51 := hfr
  replace hskAt2 := skAt.fr hskAt2 (fun q h1 h2 => fr51 q (by omega))
  replace hjdAt4 := jdAt.fr hjdAt4 (fun q h1 h2 => fr51 q (by omega))
  replace hrnAt6 := rnAt.fr hrnAt6 (fun q h1 h2 => fr51 q (by omega))
  replace hbrAt8 := brAt.fr hbrAt8 (fun q h1 h2 => fr51 q (by omega))
  replace hsiAt10 := siAt.fr hsiAt10 (fun q h1 h2 => fr51 q (by omega))
  replace ha : M50 a = some (.inr (9, [.ref (a + 1), .ref (a + 9), .ref (a + 17), .ref (a + 21), .ref (a + 26), .null, .null, .null, .null])) := (fr51 _ (by omega)).trans ha
  refine fw_putF E hK hH (by omega) ha fc_X9 5 (by decide) ql_RX9_47 rfl rfl hnm rfl rfl (Nat.le_of_ble_eq_true rfl) dX9_init_67 (fun H1 locs1 hH hz1 => ?_)
  replace hz := hz1.trans hz; clear hz1
  obtain ⟨M52, hM53⟩ : ∃ MX, MX = fw_up M50 a (.inr (9, [.ref (a + 1), .ref (a + 9), .ref (a + 17), .ref (a + 21), .ref (a + 26), .ref (a + 30), .null, .null, .null])) := ⟨_, rfl⟩
  replace hH := fw_H.nm hM53 hH
  have fr54 : ∀ q, q ≠ a → M52 q = M50 q := fun q h => by rw [hM53]; exact fw_up_ne h
  replace hskAt2 := skAt.fr hskAt2 (fun q h1 h2 => fr54 q (by omega))
  replace hjdAt4 := jdAt.fr hjdAt4 (fun q h1 h2 => fr54 q (by omega))
  replace hrnAt6 := rnAt.fr hrnAt6 (fun q h1 h2 => fr54 q (by omega))
  replace hbrAt8 := brAt.fr hbrAt8 (fun q h1 h2 => fr54 q (by omega))
  replace hsiAt10 := siAt.fr hsiAt10 (fun q h1 h2 => fr54 q (by omega))
  replace hrkAt12 := rkAt.fr hrkAt12 (fun q h1 h2 => fr54 q (by omega))
  have ha : M52 a = some (.inr (9, [.ref (a + 1), .ref (a + 9), .ref (a + 17), .ref (a + 21), .ref (a + 26), .ref (a + 30), .null, .null, .null])) := by rw [hM53]; exact fw_up_eq
  refine lv_aload_n E.1 E.2.1 dX9_init_70 rfl (lv_at hl 0 rfl) ?_
  refine fw_new (fs := [.null, .null, .null, .null, .int 0, .int 0, .int 0]) E hK hH hz fc_X2 ql_RX9_51 qt_RX2 qn_RX2 (fun j hj => by rcases (show j = 0 ∨ j = 1 ∨ j = 2 ∨ j = 3 ∨ j = 4 ∨ j = 5 ∨ j = 6 by omega) with rfl | rfl | rfl | rfl | rfl | rfl | rfl <;> rfl) ⟨Nat.le_of_ble_eq_true rfl, Nat.le_of_ble_eq_true rfl⟩ dX9_init_71 (fun H1 hH hz1 => ?_)
  replace hz : H1.size = a + 34 := by omega
  clear hz1
  obtain ⟨M55, hM56⟩ : ∃ MX, MX = fw_up M52 (a + 33) (.inr (2, [.null, .null, .null, .null, .int 0, .int 0, .int 0])) := ⟨_, rfl⟩
  replace hH := fw_H.nm hM56 hH
  have fr57 : ∀ q, q ≠ a + 33 → M55 q = M52 q := fun q h => by rw [hM56]; exact fw_up_ne h
  replace hskAt2 := skAt.fr hskAt2 (fun q h1 h2 => fr57 q (by omega))
  replace hjdAt4 := jdAt.fr hjdAt4 (fun q h1 h2 => fr57 q (by omega))
  replace hrnAt6 := rnAt.fr hrnAt6 (fun q h1 h2 => fr57 q (by omega))
  replace hbrAt8 := brAt.fr hbrAt8 (fun q h1 h2 => fr57 q (by omega))
  replace hsiAt10 := siAt.fr hsiAt10 (fun q h1 h2 => fr57 q (by omega))
  replace hrkAt12 := rkAt.fr hrkAt12 (fun q h1 h2 => fr57 q (by omega))
  replace ha : M55 a = some (.inr (9, [.ref (a + 1), .ref (a + 9), .ref (a + 17), .ref (a + 21), .ref (a + 26), .ref (a + 30), .null, .null, .null])) := (fr57 _ (by omega)).trans ha
  have hn12 : M55 (a + 33) = some (.inr (2, [.null, .null, .null, .null, .int 0, .int 0, .int 0])) := by rw [hM56]; exact fw_up_eq
  refine lv_dup E.1 E.2.1 dX9_init_74 rfl ?_
  refine fw_cI (As := []) (rest := [.ref (a + 33), .ref a]) E hK hH hl fL_X2_init rfl ql_RX9_53 qi_yX2_init (k_Grove_init l G _ _ (a + 33) (by omega) hn12 (by omega)) rfl rfl (Nat.le_of_ble_eq_true rfl) ⟨Nat.le_of_ble_eq_true rfl, Nat.le_of_ble_eq_true rfl⟩ ⟨Nat.le_of_ble_eq_true rfl, Nat.le_of_ble_eq_true rfl⟩ dX9_init_75 (fw_kv fun M59 H1 locs1 hp58 hH hz1 => ?_)
  obtain ⟨hgvAt14, hz2, hfr⟩ := hp58
  replace hz : H1.size = a + 203 := by omega
  clear hz1 hz2
  have fr60 := hfr
  replace hskAt2 := skAt.fr hskAt2 (fun q h1 h2 => fr60 q (by omega))
  replace hjdAt4 := jdAt.fr hjdAt4 (fun q h1 h2 => fr60 q (by omega))
  replace hrnAt6 := rnAt.fr hrnAt6 (fun q h1 h2 => fr60 q (by omega))
  replace hbrAt8 := brAt.fr hbrAt8 (fun q h1 h2 => fr60 q (by omega))
  replace hsiAt10 := siAt.fr hsiAt10 (fun q h1 h2 => fr60 q (by omega))
  replace hrkAt12 := rkAt.fr hrkAt12 (fun q h1 h2 => fr60 q (by omega))
  replace ha : M59 a = some (.inr (9, [.ref (a + 1), .ref (a + 9), .ref (a + 17), .ref (a + 21), .ref (a + 26), .ref (a + 30), .null, .null, .null])) := (fr60 _ (by omega)).trans ha
  refine fw_putF E hK hH (by omega) ha fc_X9 6 (by decide) ql_RX9_54 rfl rfl hnm rfl rfl (Nat.le_of_ble_eq_true rfl) dX9_init_78 (fun H1 locs1 hH hz1 => ?_)
  replace hz := hz1.trans hz; clear hz1
  obtain ⟨M61, hM62⟩ : ∃ MX, MX = fw_up M59 a (.inr (9, [.ref (a + 1), .ref (a + 9), .ref (a + 17), .ref (a + 21), .ref (a + 26), .ref (a + 30), .ref (a + 33), .null, .null])) := ⟨_, rfl⟩
  replace hH := fw_H.nm hM62 hH
  have fr63 : ∀ q, q ≠ a → M61 q = M59 q := fun q h => by rw [hM62]; exact fw_up_ne h
  replace hskAt2 := skAt.fr hskAt2 (fun q h1 h2 => fr63 q (by omega))
  replace hjdAt4 := jdAt.fr hjdAt4 (fun q h1 h2 => fr63 q (by omega))
  replace hrnAt6 := rnAt.fr hrnAt6 (fun q h1 h2 => fr63 q (by omega))
  replace hbrAt8 := brAt.fr hbrAt8 (fun q h1 h2 => fr63 q (by omega))
  replace hsiAt10 := siAt.fr hsiAt10 (fun q h1 h2 => fr63 q (by omega))
  replace hrkAt12 := rkAt.fr hrkAt12 (fun q h1 h2 => fr63 q (by omega))
  replace hgvAt14 := gvAt.fr hgvAt14 (fun q h1 h2 => fr63 q (by omega))
  have ha : M61 a = some (.inr (9, [.ref (a + 1), .ref (a + 9), .ref (a + 17), .ref (a + 21), .ref (a + 26), .ref (a + 30), .ref (a + 33), .null, .null])) := by rw [hM62]; exact fw_up_eq
  refine lv_aload_n E.1 E.2.1 dX9_init_81 rfl (lv_at hl 0 rfl) ?_
  refine fw_new (fs := [.null, .null, .null, .null, .int 0, .int 0, .int 0]) E hK hH hz fc_X2 ql_RX9_51 qt_RX2 qn_RX2 (fun j hj => by rcases (show j = 0 ∨ j = 1 ∨ j = 2 ∨ j = 3 ∨ j = 4 ∨ j = 5 ∨ j = 6 by omega) with rfl | rfl | rfl | rfl | rfl | rfl | rfl <;> rfl) ⟨Nat.le_of_ble_eq_true rfl, Nat.le_of_ble_eq_true rfl⟩ dX9_init_82 (fun H1 hH hz1 => ?_)
  replace hz : H1.size = a + 204 := by omega
  clear hz1
  obtain ⟨M64, hM65⟩ : ∃ MX, MX = fw_up M61 (a + 203) (.inr (2, [.null, .null, .null, .null, .int 0, .int 0, .int 0])) := ⟨_, rfl⟩
  replace hH := fw_H.nm hM65 hH
  have fr66 : ∀ q, q ≠ a + 203 → M64 q = M61 q := fun q h => by rw [hM65]; exact fw_up_ne h
  replace hskAt2 := skAt.fr hskAt2 (fun q h1 h2 => fr66 q (by omega))
  replace hjdAt4 := jdAt.fr hjdAt4 (fun q h1 h2 => fr66 q (by omega))
  replace hrnAt6 := rnAt.fr hrnAt6 (fun q h1 h2 => fr66 q (by omega))
  replace hbrAt8 := brAt.fr hbrAt8 (fun q h1 h2 => fr66 q (by omega))
  replace hsiAt10 := siAt.fr hsiAt10 (fun q h1 h2 => fr66 q (by omega))
  replace hrkAt12 := rkAt.fr hrkAt12 (fun q h1 h2 => fr66 q (by omega))
  replace hgvAt14 := gvAt.fr hgvAt14 (fun q h1 h2 => fr66 q (by omega))
  replace ha : M64 a = some (.inr (9, [.ref (a + 1), .ref (a + 9), .ref (a + 17), .ref (a + 21), .ref (a + 26), .ref (a + 30), .ref (a + 33), .null, .null])) := (fr66 _ (by omega)).trans ha
  have hn14 : M64 (a + 203) = some (.inr (2, [.null, .null, .null, .null, .int 0, .int 0, .int 0])) := by rw [hM65]; exact fw_up_eq
  refine lv_dup E.1 E.2.1 dX9_init_85 rfl ?_
  refine fw_cI (As := []) (rest := [.ref (a + 203), .ref a]) E hK hH hl fL_X2_init rfl ql_RX9_53 qi_yX2_init (k_Grove_init l G _ _ (a + 203) (by omega) hn14 (by omega)) rfl rfl (Nat.le_of_ble_eq_true rfl) ⟨Nat.le_of_ble_eq_true rfl, Nat.le_of_ble_eq_true rfl⟩ ⟨Nat.le_of_ble_eq_true rfl, Nat.le_of_ble_eq_true rfl⟩ dX9_init_86 (fw_kv fun M68 H1 locs1 hp67 hH hz1 => ?_)
  obtain ⟨hgvAt16, hz2, hfr⟩ := hp67
  replace hz : H1.size = a + 373 := by omega
  clear hz1 hz2
  have fr69 := hfr
  replace hskAt2 := skAt.fr hskAt2 (fun q h1 h2 => fr69 q (by omega))
  replace hjdAt4 := jdAt.fr hjdAt4 (fun q h1 h2 => fr69 q (by omega))
  replace hrnAt6 := rnAt.fr hrnAt6 (fun q h1 h2 => fr69 q (by omega))
  replace hbrAt8 := brAt.fr hbrAt8 (fun q h1 h2 => fr69 q (by omega))
  replace hsiAt10 := siAt.fr hsiAt10 (fun q h1 h2 => fr69 q (by omega))
  replace hrkAt12 := rkAt.fr hrkAt12 (fun q h1 h2 => fr69 q (by omega))
  replace hgvAt14 := gvAt.fr hgvAt14 (fun q h1 h2 => fr69 q (by omega))
  replace ha : M68 a = some (.inr (9, [.ref (a + 1), .ref (a + 9), .ref (a + 17), .ref (a + 21), .ref (a + 26), .ref (a + 30), .ref (a + 33), .null, .null])) := (fr69 _ (by omega)).trans ha
  refine fw_putF E hK hH (by omega) ha fc_X9 7 (by decide) ql_RX9_58 rfl rfl hnm rfl rfl (Nat.le_of_ble_eq_true rfl) dX9_init_89 (fun H1 locs1 hH hz1 => ?_)
  replace hz := hz1.trans hz; clear hz1
  obtain ⟨M70, hM71⟩ : ∃ MX, MX = fw_up M68 a (.inr (9, [.ref (a + 1), .ref (a + 9), .ref (a + 17), .ref (a + 21), .ref (a + 26), .ref (a + 30), .ref (a + 33), .ref (a + 203), .null])) := ⟨_, rfl⟩
  replace hH := fw_H.nm hM71 hH
  have fr72 : ∀ q, q ≠ a → M70 q = M68 q := fun q h => by rw [hM71]; exact fw_up_ne h
  replace hskAt2 := skAt.fr hskAt2 (fun q h1 h2 => fr72 q (by omega))
  replace hjdAt4 := jdAt.fr hjdAt4 (fun q h1 h2 => fr72 q (by omega))
  replace hrnAt6 := rnAt.fr hrnAt6 (fun q h1 h2 => fr72 q (by omega))
  replace hbrAt8 := brAt.fr hbrAt8 (fun q h1 h2 => fr72 q (by omega))
  replace hsiAt10 := siAt.fr hsiAt10 (fun q h1 h2 => fr72 q (by omega))
  replace hrkAt12 := rkAt.fr hrkAt12 (fun q h1 h2 => fr72 q (by omega))
  replace hgvAt14 := gvAt.fr hgvAt14 (fun q h1 h2 => fr72 q (by omega))
  replace hgvAt16 := gvAt.fr hgvAt16 (fun q h1 h2 => fr72 q (by omega))
  have ha : M70 a = some (.inr (9, [.ref (a + 1), .ref (a + 9), .ref (a + 17), .ref (a + 21), .ref (a + 26), .ref (a + 30), .ref (a + 33), .ref (a + 203), .null])) := by rw [hM71]; exact fw_up_eq
  refine lv_aload_n E.1 E.2.1 dX9_init_92 rfl (lv_at hl 0 rfl) ?_
  refine fw_new (fs := [.null, .null, .null, .null, .int 0, .int 0]) E hK hH hz fc_X8 ql_RX9_61 qt_RX8 qn_RX8 (fun j hj => by rcases (show j = 0 ∨ j = 1 ∨ j = 2 ∨ j = 3 ∨ j = 4 ∨ j = 5 by omega) with rfl | rfl | rfl | rfl | rfl | rfl <;> rfl) ⟨Nat.le_of_ble_eq_true rfl, Nat.le_of_ble_eq_true rfl⟩ dX9_init_93 (fun H1 hH hz1 => ?_)
  replace hz : H1.size = a + 374 := by omega
  clear hz1
  obtain ⟨M73, hM74⟩ : ∃ MX, MX = fw_up M70 (a + 373) (.inr (8, [.null, .null, .null, .null, .int 0, .int 0])) := ⟨_, rfl⟩
  replace hH := fw_H.nm hM74 hH
  have fr75 : ∀ q, q ≠ a + 373 → M73 q = M70 q := fun q h => by rw [hM74]; exact fw_up_ne h
  replace hskAt2 := skAt.fr hskAt2 (fun q h1 h2 => fr75 q (by omega))
  replace hjdAt4 := jdAt.fr hjdAt4 (fun q h1 h2 => fr75 q (by omega))
  replace hrnAt6 := rnAt.fr hrnAt6 (fun q h1 h2 => fr75 q (by omega))
  replace hbrAt8 := brAt.fr hbrAt8 (fun q h1 h2 => fr75 q (by omega))
  replace hsiAt10 := siAt.fr hsiAt10 (fun q h1 h2 => fr75 q (by omega))
  replace hrkAt12 := rkAt.fr hrkAt12 (fun q h1 h2 => fr75 q (by omega))
  replace hgvAt14 := gvAt.fr hgvAt14 (fun q h1 h2 => fr75 q (by omega))
  replace hgvAt16 := gvAt.fr hgvAt16 (fun q h1 h2 => fr75 q (by omega))
  replace ha : M73 a = some (.inr (9, [.ref (a + 1), .ref (a + 9), .ref (a + 17), .ref (a + 21), .ref (a + 26), .ref (a + 30), .ref (a + 33), .ref (a + 203), .null])) := (fr75 _ (by omega)).trans ha
  have hn16 : M73 (a + 373) = some (.inr (8, [.null, .null, .null, .null, .int 0, .int 0])) := by rw [hM74]; exact fw_up_eq
  refine lv_dup E.1 E.2.1 dX9_init_96 rfl ?_
  refine fw_cIN (As := []) (rest := [.ref (a + 373), .ref a]) E hK hH hl fL_X8_init rfl ql_RX9_63 qi_yX8_init (k_Tree_init l G _ _ (a + 373) (by omega) hn16 (by omega)) rfl rfl (Nat.le_of_ble_eq_true rfl) ⟨Nat.le_of_ble_eq_true rfl, Nat.le_of_ble_eq_true rfl⟩ ⟨Nat.le_of_ble_eq_true rfl, Nat.le_of_ble_eq_true rfl⟩ dX9_init_97 (fw_kv fun M77 H1 locs1 hp76 hH hz1 => ?_)
  obtain ⟨htrAt18, hz2, hfr⟩ := hp76
  replace hz : H1.size = a + 378 := by omega
  clear hz1 hz2
  have fr78 := hfr
  replace hskAt2 := skAt.fr hskAt2 (fun q h1 h2 => fr78 q (by omega))
  replace hjdAt4 := jdAt.fr hjdAt4 (fun q h1 h2 => fr78 q (by omega))
  replace hrnAt6 := rnAt.fr hrnAt6 (fun q h1 h2 => fr78 q (by omega))
  replace hbrAt8 := brAt.fr hbrAt8 (fun q h1 h2 => fr78 q (by omega))
  replace hsiAt10 := siAt.fr hsiAt10 (fun q h1 h2 => fr78 q (by omega))
  replace hrkAt12 := rkAt.fr hrkAt12 (fun q h1 h2 => fr78 q (by omega))
  replace hgvAt14 := gvAt.fr hgvAt14 (fun q h1 h2 => fr78 q (by omega))
  replace hgvAt16 := gvAt.fr hgvAt16 (fun q h1 h2 => fr78 q (by omega))
  replace ha : M77 a = some (.inr (9, [.ref (a + 1), .ref (a + 9), .ref (a + 17), .ref (a + 21), .ref (a + 26), .ref (a + 30), .ref (a + 33), .ref (a + 203), .null])) := (fr78 _ (by omega)).trans ha
  refine fw_putF E hK hH (by omega) ha fc_X9 8 (by decide) ql_RX9_64 rfl rfl hnm rfl rfl (Nat.le_of_ble_eq_true rfl) dX9_init_100 (fun H1 locs1 hH hz1 => ?_)
  replace hz := hz1.trans hz; clear hz1
  obtain ⟨M79, hM80⟩ : ∃ MX, MX = fw_up M77 a (.inr (9, [.ref (a + 1), .ref (a + 9), .ref (a + 17), .ref (a + 21), .ref (a + 26), .ref (a + 30), .ref (a + 33), .ref (a + 203), .ref (a + 373)])) := ⟨_, rfl⟩
  replace hH := fw_H.nm hM80 hH
  have fr81 : ∀ q, q ≠ a → M79 q = M77 q := fun q h => by rw [hM80]; exact fw_up_ne h
  replace hskAt2 := skAt.fr hskAt2 (fun q h1 h2 => fr81 q (by omega))
  replace hjdAt4 := jdAt.fr hjdAt4 (fun q h1 h2 => fr81 q (by omega))
  replace hrnAt6 := rnAt.fr hrnAt6 (fun q h1 h2 => fr81 q (by omega))
  replace hbrAt8 := brAt.fr hbrAt8 (fun q h1 h2 => fr81 q (by omega))
  replace hsiAt10 := siAt.fr hsiAt10 (fun q h1 h2 => fr81 q (by omega))
  replace hrkAt12 := rkAt.fr hrkAt12 (fun q h1 h2 => fr81 q (by omega))
  replace hgvAt14 := gvAt.fr hgvAt14 (fun q h1 h2 => fr81 q (by omega))
  replace hgvAt16 := gvAt.fr hgvAt16 (fun q h1 h2 => fr81 q (by omega))
  replace htrAt18 := trAt.fr htrAt18 (fun q h1 h2 => fr81 q (by omega))
  have ha : M79 a = some (.inr (9, [.ref (a + 1), .ref (a + 9), .ref (a + 17), .ref (a + 21), .ref (a + 26), .ref (a + 30), .ref (a + 33), .ref (a + 203), .ref (a + 373)])) := by rw [hM80]; exact fw_up_eq
  refine fw_vret E hr hlk hH ?_ dX9_init_103
  exact ⟨⟨⟨hb, ha⟩, hskAt2, hjdAt4, hrnAt6, hbrAt8, hsiAt10, hrkAt12, hgvAt14, hgvAt16, htrAt18⟩, by omega, by intro q hq; rw [fr81 q (by omega), fr78 q (by omega), fr75 q (by omega), fr72 q (by omega), fr69 q (by omega), fr66 q (by omega), fr63 q (by omega), fr60 q (by omega), fr57 q (by omega), fr54 q (by omega), fr51 q (by omega), fr48 q (by omega), fr45 q (by omega), fr42 q (by omega), fr39 q (by omega), fr36 q (by omega), fr33 q (by omega), fr30 q (by omega), fr27 q (by omega), fr24 q (by omega), fr21 q (by omega), fr18 q (by omega), fr15 q (by omega), fr12 q (by omega), fr9 q (by omega), fr6 q (by omega), fr3 q (by omega)]⟩
end
section
/-! trees as rows: C codes, V values, sp how many nodes there are at a place and beneath it -/
def arN (x : Int) : Nat := if x = 8 then 3 else if x = 13 then 1 else if 2 ≤ x ∧ x ≤ 12 then 2 else 0
theorem arN_le (x : Int) : arN x ≤ 3 := by unfold arN; (repeat' split) <;> omega
theorem zPARTS_ar {x : Int} (h : 0 ≤ x ∧ x ≤ 13) : zPARTS x.toNat = (arN x : Int) := by
  rcases (show x = 0 ∨ x = 1 ∨ x = 2 ∨ x = 3 ∨ x = 4 ∨ x = 5 ∨ x = 6 ∨ x = 7 ∨ x = 8 ∨ x = 9 ∨ x = 10 ∨ x = 11 ∨ x = 12 ∨ x = 13 by omega) with rfl | rfl | rfl | rfl | rfl | rfl | rfl | rfl | rfl | rfl | rfl | rfl | rfl | rfl <;> decide
/-- where a part begins, by its number -/
def chP (sp : Nat → Nat) (k : Nat) : Nat → Nat
  | 0 => k + 1
  | p + 1 => chP sp k p + sp (chP sp k p)
theorem chP_gt (sp : Nat → Nat) (k p : Nat) : k < chP sp k p := by
  induction p with
  | zero => exact Nat.lt_succ_self k
  | succ p ih => show k < chP sp k p + sp (chP sp k p); omega
theorem chP_le (sp : Nat → Nat) (k p : Nat) : chP sp k p ≤ chP sp k (p + 1) := Nat.le_add_right _ _
theorem chP_mono (sp : Nat → Nat) (k : Nat) {p q : Nat} (h : p ≤ q) : chP sp k p ≤ chP sp k q := by
  induction q with
  | zero => rw [Nat.le_zero.mp h]; exact Nat.le_refl _
  | succ q ih =>
    rcases Nat.lt_or_ge p (q + 1) with g | g
    · exact Nat.le_trans (ih (by omega)) (chP_le sp k q)
    · rw [show p = q + 1 by omega]; exact Nat.le_refl _
def spOK (n : Nat) (C : Nat → Int) (sp : Nat → Nat) : Prop := ∀ k, k < n → (∀ p, p < arN (C k) → chP sp k p < n) ∧ k + sp k = chP sp k (arN (C k))
theorem sp_pos {n : Nat} {C : Nat → Int} {sp : Nat → Nat} (h : spOK n C sp) {k : Nat} (hk : k < n) : 1 ≤ sp k := by
  have := (h k hk).2
  have := chP_gt sp k (arN (C k))
  omega
theorem sp_end {n : Nat} {C : Nat → Int} {sp : Nat → Nat} (h : spOK n C sp) : ∀ d k, n - k ≤ d → k < n → k + sp k ≤ n := by
  intro d
  induction d with
  | zero => intro k h1 h2; omega
  | succ d ih =>
    intro k h1 h2
    obtain ⟨h3, h4⟩ := h k h2
    rw [h4]
    cases ha : arN (C k) with
    | zero => show k + 1 ≤ n; omega
    | succ a =>
      have h5 := h3 a (by omega)
      have h6 := chP_gt sp k a
      exact ih (chP sp k a) (by omega) h5
theorem sp_le {n : Nat} {C : Nat → Int} {sp : Nat → Nat} (h : spOK n C sp) {k : Nat} (hk : k < n) : k + sp k ≤ n := sp_end h (n - k) k (Nat.le_refl _) hk
/-- which part holds a place -/
theorem chP_find (sp : Nat → Nat) (k j : Nat) : ∀ a, k < j → j < chP sp k a → ∃ p, p < a ∧ chP sp k p ≤ j ∧ j < chP sp k (p + 1) := by
  intro a
  induction a with
  | zero => intro h1 h2; exact absurd h2 (by show ¬ j < k + 1; omega)
  | succ a ih =>
    intro h1 h2
    rcases Nat.lt_or_ge j (chP sp k a) with g | g
    · obtain ⟨p, q1, q2, q3⟩ := ih h1 g
      exact ⟨p, by omega, q2, q3⟩
    · exact ⟨a, Nat.lt_succ_self a, g, h2⟩
theorem sp_in {n : Nat} {C : Nat → Int} {sp : Nat → Nat} (h : spOK n C sp) : ∀ d k, n - k ≤ d → k < n → ∀ j, k < j → j < k + sp k → j + sp j ≤ k + sp k := by
  intro d
  induction d with
  | zero => intro k h1 h2; omega
  | succ d ih =>
    intro k h1 h2 j h3 h4
    obtain ⟨h5, h6⟩ := h k h2
    rw [h6] at h4 ⊢
    obtain ⟨p, q1, q2, q3⟩ := chP_find sp k j _ h3 h4
    have q4 := chP_mono sp k (show p + 1 ≤ arN (C k) by omega)
    have q5 : chP sp k (p + 1) = chP sp k p + sp (chP sp k p) := rfl
    rcases Nat.lt_or_ge (chP sp k p) j with g | g
    · have q6 := ih (chP sp k p) (by have := chP_gt sp k p; omega) (h5 p q1) j g (by omega)
      omega
    · have e : chP sp k p = j := by omega
      rw [e] at q5
      omega
theorem sp_nest {n : Nat} {C : Nat → Int} {sp : Nat → Nat} (h : spOK n C sp) {k j : Nat} (hk : k < n) (h1 : k < j) (h2 : j < k + sp k) : j + sp j ≤ k + sp k := sp_in h (n - k) k (Nat.le_refl _) hk j h1 h2
/-- a part's place is outside of what another place ahead of it holds -/
theorem chP_out {n : Nat} {C : Nat → Int} {sp : Nat → Nat} (h : spOK n C sp) {k p : Nat} (hk : k < p) (hp : p < n) : ∀ i, i ≤ arN (C k) → chP sp k i ≤ p ∨ p + sp p ≤ chP sp k i := by
  intro i
  induction i with
  | zero => intro _; left; show k + 1 ≤ p; omega
  | succ i ih =>
    intro hi
    have h1 := (h k (by omega)).1 i (by omega)
    have e : chP sp k (i + 1) = chP sp k i + sp (chP sp k i) := rfl
    rcases ih (by omega) with g | g
    · rcases Nat.lt_or_ge (chP sp k i) p with g2 | g2
      · rcases Nat.lt_or_ge p (chP sp k i + sp (chP sp k i)) with g3 | g3
        · right
          have := sp_nest h h1 g2 g3
          omega
        · left; omega
      · have e2 : chP sp k i = p := by omega
        right; rw [e, e2]; exact Nat.le_refl _
    · right; omega
/-! what is reckoned from the last place on -/
def rcF {β : Type} (z : β) (step : Nat → (Nat → β) → β) (sp : Nat → Nat) : Nat → Nat → β
  | 0, _ => z
  | f + 1, k => step k (fun i => rcF z step sp f (chP sp k i))
theorem rcF_eq {β : Type} {z : β} {step : Nat → (Nat → β) → β} {n : Nat} {C : Nat → Int} {sp : Nat → Nat} (h : spOK n C sp) (hst : ∀ k u v, (∀ i, i < arN (C k) → u i = v i) → step k u = step k v) : ∀ f g k, k < n → n - k ≤ f → n - k ≤ g → rcF z step sp f k = rcF z step sp g k := by
  intro f
  induction f with
  | zero => intro g k h1 h2; omega
  | succ f ih =>
    intro g k h1 h2 h3
    cases g with
    | zero => omega
    | succ g =>
      refine hst k _ _ (fun i hi => ?_)
      have h4 := (h k h1).1 i hi
      have h5 := chP_gt sp k i
      exact ih g _ h4 (by omega) (by omega)
theorem rcF_step {β : Type} {z : β} {step : Nat → (Nat → β) → β} {n : Nat} {C : Nat → Int} {sp : Nat → Nat} (h : spOK n C sp) (hst : ∀ k u v, (∀ i, i < arN (C k) → u i = v i) → step k u = step k v) (hn : n ≤ 40) {k : Nat} (hk : k < n) : rcF z step sp 41 k = step k (fun i => rcF z step sp 41 (chP sp k i)) := by
  refine hst k _ _ (fun i hi => ?_)
  have h4 := (h k hk).1 i hi
  exact rcF_eq h hst 40 41 _ h4 (by omega) (by omega)
/-- heights -/
def mxU (u : Nat → Nat) : Nat → Nat
  | 0 => 0
  | i + 1 => max (mxU u i) (u i)
theorem mxU_congr {u v : Nat → Nat} : ∀ a, (∀ i, i < a → u i = v i) → mxU u a = mxU v a := by
  intro a
  induction a with
  | zero => intro _; rfl
  | succ a ih => intro h; show max _ _ = max _ _; rw [ih (fun i hi => h i (by omega)), h a (Nat.lt_succ_self a)]
theorem mxU_le {u : Nat → Nat} {b : Nat} : ∀ a, (∀ i, i < a → u i ≤ b) → mxU u a ≤ b := by
  intro a
  induction a with
  | zero => intro _; exact Nat.zero_le b
  | succ a ih => intro h; show max _ _ ≤ b; have h1 := ih (fun i hi => h i (by omega)); have h2 := h a (Nat.lt_succ_self a); omega
theorem mxU_ge {u : Nat → Nat} : ∀ a i, i < a → u i ≤ mxU u a := by
  intro a
  induction a with
  | zero => intro i h; omega
  | succ a ih =>
    intro i h
    show u i ≤ max _ _
    rcases Nat.lt_or_ge i a with g | g
    · have := ih i g; omega
    · rw [show i = a by omega]; omega
def htS (C : Nat → Int) (k : Nat) (u : Nat → Nat) : Nat := 1 + mxU u (arN (C k))
def htF (C : Nat → Int) (sp : Nat → Nat) (k : Nat) : Nat := rcF 0 (htS C) sp 41 k
theorem htS_ok (C : Nat → Int) : ∀ k u v, (∀ i, i < arN (C k) → u i = v i) → htS C k u = htS C k v := fun k u v h => by
  unfold htS
  rw [mxU_congr _ h]
theorem htF_eq {n : Nat} {C : Nat → Int} {sp : Nat → Nat} (h : spOK n C sp) (hn : n ≤ 40) {k : Nat} (hk : k < n) : htF C sp k = 1 + mxU (fun i => htF C sp (chP sp k i)) (arN (C k)) := rcF_step h (htS_ok C) hn hk
theorem htF_le {n : Nat} {C : Nat → Int} {sp : Nat → Nat} (h : spOK n C sp) (hn : n ≤ 40) : ∀ d k, n - k ≤ d → k < n → htF C sp k ≤ n - k := by
  intro d
  induction d with
  | zero => intro k h1 h2; omega
  | succ d ih =>
    intro k h1 h2
    rw [htF_eq h hn h2]
    have := mxU_le (u := fun i => htF C sp (chP sp k i)) (b := n - k - 1) (arN (C k)) (fun i hi => by
      have h4 := (h k h2).1 i hi
      have h5 := chP_gt sp k i
      have := ih (chP sp k i) (by omega) h4
      show htF C sp (chP sp k i) ≤ _
      omega)
    omega
theorem htF_in {n : Nat} {C : Nat → Int} {sp : Nat → Nat} (h : spOK n C sp) (hn : n ≤ 40) : ∀ d k, n - k ≤ d → k < n → ∀ j, k < j → j < k + sp k → htF C sp j < htF C sp k := by
  intro d
  induction d with
  | zero => intro k h1 h2; omega
  | succ d ih =>
    intro k h1 h2 j h3 h4
    obtain ⟨h5, h6⟩ := h k h2
    rw [h6] at h4
    obtain ⟨p, q1, q2, q3⟩ := chP_find sp k j _ h3 h4
    have q5 : chP sp k (p + 1) = chP sp k p + sp (chP sp k p) := rfl
    have q6 : htF C sp (chP sp k p) < htF C sp k := by
      rw [htF_eq h hn h2]
      have := mxU_ge (u := fun i => htF C sp (chP sp k i)) (arN (C k)) p q1
      have h9 : htF C sp (chP sp k p) ≤ mxU (fun i => htF C sp (chP sp k i)) (arN (C k)) := this
      omega
    rcases Nat.lt_or_ge (chP sp k p) j with g | g
    · have := ih (chP sp k p) (by have := chP_gt sp k p; omega) (h5 p q1) j g (by omega)
      omega
    · rw [show j = chP sp k p by omega]; exact q6
/-- which parts are numbers -/
def ptNm (x : Int) (p : Nat) : Prop := x < 11 ∧ ¬ (x = 8 ∧ p = 0)
def ndOK (x v : Int) : Prop := (0 ≤ x ∧ x ≤ 13) ∧ (x = 0 → -99 ≤ v ∧ v ≤ 99) ∧ (x = 1 → 0 ≤ v ∧ v ≤ 2) ∧ (2 ≤ x → v = 0)
def tyOK (n : Nat) (C : Nat → Int) (sp : Nat → Nat) : Prop := ∀ k, k < n → ∀ p, p < arN (C k) → (C (chP sp k p) ≤ 8 ↔ ptNm (C k) p)
/-- an allowed tree, but for its levels -/
def vtOK (n : Nat) (C V : Nat → Int) (sp : Nat → Nat) : Prop := (0 < n ∧ n ≤ 40) ∧ sp 0 = n ∧ C 0 ≤ 8 ∧ spOK n C sp ∧ tyOK n C sp ∧ ∀ k, k < n → ndOK (C k) (V k)
/-! in place of what is at p (s nodes): what is at q of another one (r nodes) -/
def rpF {β : Type} (p s r q : Nat) (f g : Nat → β) : Nat → β := fun k => if k < p then f k else if k < p + r then g (q + (k - p)) else f (k - r + s)
def rpS (p s r q : Nat) (sp sp2 : Nat → Nat) : Nat → Nat := fun k => if k < p then (if p < k + sp k then sp k - s + r else sp k) else if k < p + r then sp2 (q + (k - p)) else sp (k - r + s)
section RP
variable {n n2 p q : Nat} {C C2 : Nat → Int} {sp sp2 : Nat → Nat}
def rpM (p s r x : Nat) : Nat := if x ≤ p then x else x - s + r
theorem rp_ahead (h : spOK n C sp) (hp : p < n) (h2 : spOK n2 C2 sp2) (hq : q < n2) {k : Nat} (hk : k < p) : ∀ i, i ≤ arN (C k) → chP (rpS p (sp p) (sp2 q) q sp sp2) k i = rpM p (sp p) (sp2 q) (chP sp k i) := by
  intro i
  have s1 := sp_pos h hp
  have r1 := sp_pos h2 hq
  induction i with
  | zero => intro _; show k + 1 = rpM p (sp p) (sp2 q) (k + 1); unfold rpM; rw [if_pos (by omega)]
  | succ i ih =>
    intro hi
    have e1 := ih (by omega)
    have hx := (h k (by omega)).1 i (by omega)
    have ho := chP_out h hk hp i (by omega)
    show chP _ k i + rpS p (sp p) (sp2 q) q sp sp2 (chP _ k i) = rpM p (sp p) (sp2 q) (chP sp k i + sp (chP sp k i))
    rw [e1]
    generalize hxe : chP sp k i = x at *
    have x1 := sp_pos h hx
    rcases Nat.lt_trichotomy x p with g | g | g
    · rw [show rpM p (sp p) (sp2 q) x = x from by unfold rpM; rw [if_pos (by omega)]]
      unfold rpS rpM
      rw [if_pos g]
      by_cases c : p < x + sp x
      · rw [if_pos c, if_neg (by omega)]
        have := sp_nest h hx g c
        omega
      · rw [if_neg c, if_pos (by omega)]
    · subst g
      rw [show rpM x (sp x) (sp2 q) x = x from by unfold rpM; rw [if_pos (Nat.le_refl _)]]
      unfold rpS rpM
      rw [if_neg (Nat.lt_irrefl x), if_pos (by omega), if_neg (by omega), show q + (x - x) = q by omega]
      omega
    · have g2 : p + sp p ≤ x := by omega
      rw [show rpM p (sp p) (sp2 q) x = x - sp p + sp2 q from by unfold rpM; rw [if_neg (by omega)]]
      unfold rpS rpM
      rw [if_neg (by omega), if_neg (by omega), if_neg (by omega), show x - sp p + sp2 q - sp2 q + sp p = x by omega]
      omega
theorem rp_in (h2 : spOK n2 C2 sp2) (hq : q < n2) {k : Nat} (hk : q ≤ k) (hk2 : k < q + sp2 q) : ∀ i, i ≤ arN (C2 k) → chP (rpS p (sp p) (sp2 q) q sp sp2) (k - q + p) i = chP sp2 k i - q + p ∧ (i < arN (C2 k) → chP sp2 k i < q + sp2 q) := by
  intro i
  have hkn : k < n2 := by have := sp_le h2 hq; omega
  have hke : k + sp2 k ≤ q + sp2 q := by
    rcases Nat.lt_or_ge q k with g | g
    · exact sp_nest h2 hq g hk2
    · rw [show k = q by omega]; exact Nat.le_refl _
  have hin : ∀ j, j < arN (C2 k) → chP sp2 k j < q + sp2 q := fun j hj => by
    have e := (h2 k hkn).2
    have m := chP_mono sp2 k (show j + 1 ≤ arN (C2 k) by omega)
    have e3 : chP sp2 k (j + 1) = chP sp2 k j + sp2 (chP sp2 k j) := rfl
    have := sp_pos h2 ((h2 k hkn).1 j hj)
    omega
  induction i with
  | zero => intro _; exact ⟨by show k - q + p + 1 = k + 1 - q + p; omega, hin 0⟩
  | succ i ih =>
    intro hi
    refine ⟨?_, hin (i + 1)⟩
    obtain ⟨e1, -⟩ := ih (by omega)
    have hx := hin i (by omega)
    have hg := chP_gt sp2 k i
    show chP _ (k - q + p) i + rpS p (sp p) (sp2 q) q sp sp2 (chP _ (k - q + p) i) = chP sp2 k i + sp2 (chP sp2 k i) - q + p
    rw [e1]
    generalize chP sp2 k i = x at *
    unfold rpS
    rw [if_neg (by omega), if_pos (by omega), show q + (x - q + p - p) = x by omega]
    omega
theorem rp_behind (h : spOK n C sp) (hp : p < n) {k : Nat} (hk : p + sp p ≤ k) (hk2 : k < n) : ∀ i, i ≤ arN (C k) → chP (rpS p (sp p) (sp2 q) q sp sp2) (k - sp p + sp2 q) i = chP sp k i - sp p + sp2 q := by
  intro i
  induction i with
  | zero => intro _; show k - sp p + sp2 q + 1 = k + 1 - sp p + sp2 q; omega
  | succ i ih =>
    intro hi
    have e1 := ih (by omega)
    have hg := chP_gt sp k i
    show chP _ (k - sp p + sp2 q) i + rpS p (sp p) (sp2 q) q sp sp2 (chP _ (k - sp p + sp2 q) i) = chP sp k i + sp (chP sp k i) - sp p + sp2 q
    rw [e1]
    generalize chP sp k i = x at *
    unfold rpS
    rw [if_neg (by omega), if_neg (by omega), show x - sp p + sp2 q - sp2 q + sp p = x by omega]
    omega
end RP
end
section
section RQ
variable {n n2 p q : Nat} {C C2 V V2 : Nat → Int} {sp sp2 : Nat → Nat}
theorem rpF_lt {β : Type} {p s r q k : Nat} {f g : Nat → β} (h : k < p) : rpF p s r q f g k = f k := if_pos h
theorem rpF_in {β : Type} {p s r q k : Nat} {f g : Nat → β} (h1 : q ≤ k) (h2 : k < q + r) : rpF p s r q f g (k - q + p) = g k := by
  unfold rpF
  rw [if_neg (by omega), if_pos (by omega), show q + (k - q + p - p) = k by omega]
theorem rpF_ge {β : Type} {p s r q k : Nat} {f g : Nat → β} (h : p + s ≤ k) : rpF p s r q f g (k - s + r) = f k := by
  unfold rpF
  rw [if_neg (by omega), if_neg (by omega), show k - s + r - r + s = k by omega]
theorem rp_three {s r m k : Nat} (hps : p + s ≤ n) (hk : k < n - s + r) (hm : m = n - s + r) : k < p ∨ (∃ j, q ≤ j ∧ j < q + r ∧ k = j - q + p) ∨ ∃ j, p + s ≤ j ∧ j < n ∧ k = j - s + r := by
  rcases Nat.lt_or_ge k p with g | g
  · exact Or.inl g
  · rcases Nat.lt_or_ge k (p + r) with g2 | g2
    · exact Or.inr (Or.inl ⟨q + (k - p), by omega, by omega, by omega⟩)
    · exact Or.inr (Or.inr ⟨k - r + s, by omega, by omega, by omega⟩)
theorem rp_spOK (h : spOK n C sp) (hp : p < n) (h2 : spOK n2 C2 sp2) (hq : q < n2) : spOK (n - sp p + sp2 q) (rpF p (sp p) (sp2 q) q C C2) (rpS p (sp p) (sp2 q) q sp sp2) := by
  intro k hk
  have s1 := sp_pos h hp
  have r1 := sp_pos h2 hq
  have pe := sp_le h hp
  have qe := sp_le h2 hq
  rcases rp_three (q := q) pe hk rfl with g | ⟨j, g1, g2, rfl⟩ | ⟨j, g1, g2, rfl⟩
  · rw [rpF_lt g]
    have hkn : k < n := by omega
    refine ⟨fun i hi => ?_, ?_⟩
    · rw [rp_ahead h hp h2 hq g i (by omega)]
      have := (h k hkn).1 i hi
      have := chP_out h g hp i (by omega)
      unfold rpM
      split <;> omega
    · rw [rp_ahead h hp h2 hq g _ (Nat.le_refl _), ← (h k hkn).2]
      unfold rpS rpM
      rw [if_pos g]
      by_cases c : p < k + sp k
      · rw [if_pos c, if_neg (by omega)]
        have := sp_nest h hkn g c
        omega
      · rw [if_neg c, if_pos (by omega)]
  · rw [rpF_in g1 g2]
    have hjn : j < n2 := by omega
    refine ⟨fun i hi => ?_, ?_⟩
    · obtain ⟨e1, e2⟩ := rp_in (p := p) (sp := sp) h2 hq g1 g2 i (by omega)
      rw [e1]
      have := e2 hi
      have := chP_gt sp2 j i
      omega
    · rw [(rp_in (p := p) (sp := sp) h2 hq g1 g2 _ (Nat.le_refl _)).1, ← (h2 j hjn).2]
      unfold rpS
      rw [if_neg (by omega), if_pos (by omega), show q + (j - q + p - p) = j by omega]
      omega
  · rw [rpF_ge g1]
    refine ⟨fun i hi => ?_, ?_⟩
    · rw [rp_behind h hp g1 g2 i (by omega)]
      have := (h j g2).1 i hi
      have := chP_gt sp j i
      omega
    · rw [rp_behind h hp g1 g2 _ (Nat.le_refl _), ← (h j g2).2]
      unfold rpS
      rw [if_neg (by omega), if_neg (by omega), show j - sp p + sp2 q - sp2 q + sp p = j by omega]
      omega
theorem rp_tyOK (h : spOK n C sp) (t : tyOK n C sp) (hp : p < n) (h2 : spOK n2 C2 sp2) (t2 : tyOK n2 C2 sp2) (hq : q < n2) (hpq : C p ≤ 8 ↔ C2 q ≤ 8) : tyOK (n - sp p + sp2 q) (rpF p (sp p) (sp2 q) q C C2) (rpS p (sp p) (sp2 q) q sp sp2) := by
  intro k hk i hi
  have s1 := sp_pos h hp
  have r1 := sp_pos h2 hq
  have pe := sp_le h hp
  have qe := sp_le h2 hq
  rcases rp_three (q := q) pe hk rfl with g | ⟨j, g1, g2, rfl⟩ | ⟨j, g1, g2, rfl⟩
  · rw [rpF_lt g] at hi ⊢
    rw [rp_ahead h hp h2 hq g i (by omega)]
    have hx := (h k (by omega)).1 i hi
    have ho := chP_out h g hp i (by omega)
    have ht := t k (by omega) i hi
    generalize chP sp k i = x at *
    unfold rpM
    rcases Nat.lt_trichotomy x p with c | c | c
    · rw [if_pos (by omega), rpF_lt c]; exact ht
    · subst c
      rw [if_pos (Nat.le_refl x)]
      have e := rpF_in (p := x) (s := sp x) (r := sp2 q) (f := C) (g := C2) (Nat.le_refl q) (by omega)
      rw [show q - q + x = x by omega] at e
      rw [e, ← hpq]; exact ht
    · rw [if_neg (by omega), rpF_ge (by omega)]; exact ht
  · rw [rpF_in g1 g2] at hi ⊢
    obtain ⟨e1, e2⟩ := rp_in (p := p) (sp := sp) h2 hq g1 g2 i (by omega)
    have e3 := e2 hi
    have := chP_gt sp2 j i
    rw [e1, rpF_in (by omega) e3]
    exact t2 j (by omega) i hi
  · rw [rpF_ge g1] at hi ⊢
    have := chP_gt sp j i
    rw [rp_behind h hp g1 g2 i (by omega), rpF_ge (by omega)]
    exact t j g2 i hi
/-- in place of what is at p: what is at q of another one -/
theorem rp_vtOK (h : vtOK n C V sp) (hp : p < n) (h2 : vtOK n2 C2 V2 sp2) (hq : q < n2) (hpq : C p ≤ 8 ↔ C2 q ≤ 8) (hm : n - sp p + sp2 q ≤ 40) : vtOK (n - sp p + sp2 q) (rpF p (sp p) (sp2 q) q C C2) (rpF p (sp p) (sp2 q) q V V2) (rpS p (sp p) (sp2 q) q sp sp2) := by
  obtain ⟨⟨a1, a2⟩, a3, a4, a5, a6, a7⟩ := h
  obtain ⟨⟨b1, b2⟩, b3, b4, b5, b6, b7⟩ := h2
  have s1 := sp_pos a5 hp
  have r1 := sp_pos b5 hq
  have pe := sp_le a5 hp
  have qe := sp_le b5 hq
  refine ⟨⟨by omega, hm⟩, ?_, ?_, rp_spOK a5 hp b5 hq, rp_tyOK a5 a6 hp b5 b6 hq hpq, ?_⟩
  · unfold rpS
    by_cases c : 0 < p
    · rw [if_pos c, if_pos (by omega), a3]
    · have e : p = 0 := by omega
      subst e
      rw [if_neg c, if_pos (by omega), show q + (0 - 0) = q by omega, a3]
      omega
  · by_cases c : 0 < p
    · rw [rpF_lt c]; exact a4
    · have e : p = 0 := by omega
      subst e
      have e := rpF_in (p := 0) (s := sp 0) (r := sp2 q) (f := C) (g := C2) (Nat.le_refl q) (by omega)
      rw [show q - q + 0 = 0 by omega] at e
      rw [e]; exact hpq.mp a4
  · intro k hk
    rcases rp_three (q := q) pe hk rfl with g | ⟨j, g1, g2, rfl⟩ | ⟨j, g1, g2, rfl⟩
    · rw [rpF_lt g, rpF_lt g]; exact a7 k (by omega)
    · rw [rpF_in g1 g2, rpF_in g1 g2]; exact b7 j (by omega)
    · rw [rpF_ge g1, rpF_ge g1]; exact a7 j g2
/-! values that go up a tree -/
def rcV {β : Type} (z : β) (F : Int → Int → (Nat → β) → β) (C V : Nat → Int) (sp : Nat → Nat) (k : Nat) : β := rcF z (fun k u => F (C k) (V k) u) sp 41 k
def fOK {β : Type} (F : Int → Int → (Nat → β) → β) : Prop := ∀ (x v : Int) (u w : Nat → β), (∀ i, i < arN x → u i = w i) → F x v u = F x v w
theorem rcV_eq {β : Type} {z : β} {F : Int → Int → (Nat → β) → β} (hF : fOK F) (h : spOK n C sp) (hn : n ≤ 40) {k : Nat} (hk : k < n) : rcV z F C V sp k = F (C k) (V k) (fun i => rcV z F C V sp (chP sp k i)) := rcF_step h (fun k u w hu => hF (C k) (V k) u w hu) hn hk
theorem rcV_of {β : Type} {z : β} {F : Int → Int → (Nat → β) → β} (hF : fOK F) (h : spOK n C sp) (hn : n ≤ 40) {R : Nat → β} {lo : Nat} (hR : ∀ k, lo ≤ k → k < n → R k = F (C k) (V k) (fun i => R (chP sp k i))) : ∀ d k, n - k ≤ d → lo ≤ k → k < n → R k = rcV z F C V sp k := by
  intro d
  induction d with
  | zero => intro k h1 h2 h3; omega
  | succ d ih =>
    intro k h1 h2 h3
    rw [hR k h2 h3, rcV_eq hF h hn h3]
    refine hF _ _ _ _ (fun i hi => ?_)
    have := (h k h3).1 i hi
    have := chP_gt sp k i
    exact ih _ (by omega) (by omega) (by omega)
theorem rp_rc_in {β : Type} {z : β} {F : Int → Int → (Nat → β) → β} (hF : fOK F) (h : spOK n C sp) (hp : p < n) (h2 : spOK n2 C2 sp2) (hq : q < n2) (hn2 : n2 ≤ 40) (hm : n - sp p + sp2 q ≤ 40) : ∀ d k, n2 - k ≤ d → q ≤ k → k < q + sp2 q → rcV z F (rpF p (sp p) (sp2 q) q C C2) (rpF p (sp p) (sp2 q) q V V2) (rpS p (sp p) (sp2 q) q sp sp2) (k - q + p) = rcV z F C2 V2 sp2 k := by
  intro d
  have qe := sp_le h2 hq
  have pe := sp_le h hp
  induction d with
  | zero => intro k h1 h3 h4; omega
  | succ d ih =>
    intro k h1 h3 h4
    rw [rcV_eq hF (rp_spOK h hp h2 hq) hm (by omega), rcV_eq hF h2 hn2 (by omega), rpF_in h3 h4, rpF_in h3 h4]
    refine hF _ _ _ _ (fun i hi => ?_)
    obtain ⟨e1, e2⟩ := rp_in (p := p) (sp := sp) h2 hq h3 h4 i (by omega)
    have := e2 hi
    have := chP_gt sp2 k i
    show rcV _ _ _ _ _ (chP _ (k - q + p) i) = rcV _ _ _ _ _ (chP sp2 k i)
    rw [e1]
    exact ih _ (by omega) (by omega) (by omega)
theorem rp_rc_behind {β : Type} {z : β} {F : Int → Int → (Nat → β) → β} (hF : fOK F) (h : spOK n C sp) (hp : p < n) (hn : n ≤ 40) (h2 : spOK n2 C2 sp2) (hq : q < n2) (hm : n - sp p + sp2 q ≤ 40) : ∀ d k, n - k ≤ d → p + sp p ≤ k → k < n → rcV z F (rpF p (sp p) (sp2 q) q C C2) (rpF p (sp p) (sp2 q) q V V2) (rpS p (sp p) (sp2 q) q sp sp2) (k - sp p + sp2 q) = rcV z F C V sp k := by
  intro d
  induction d with
  | zero => intro k h1 h3 h4; omega
  | succ d ih =>
    intro k h1 h3 h4
    rw [rcV_eq hF (rp_spOK h hp h2 hq) hm (by omega), rcV_eq hF h hn h4, rpF_ge h3, rpF_ge h3]
    refine hF _ _ _ _ (fun i hi => ?_)
    have := (h k h4).1 i hi
    have := chP_gt sp k i
    show rcV _ _ _ _ _ (chP _ (k - sp p + sp2 q) i) = rcV _ _ _ _ _ (chP sp k i)
    rw [rp_behind h hp h3 h4 i (by omega)]
    exact ih _ (by omega) (by omega) (by omega)
/-- where the value stays, all above it stays -/
theorem rp_rc_ahead {β : Type} {z : β} {F : Int → Int → (Nat → β) → β} (hF : fOK F) (h : spOK n C sp) (hp : p < n) (hn : n ≤ 40) (h2 : spOK n2 C2 sp2) (hq : q < n2) (hn2 : n2 ≤ 40) (hm : n - sp p + sp2 q ≤ 40) (hv : rcV z F C2 V2 sp2 q = rcV z F C V sp p) : ∀ d k, n - k ≤ d → k ≤ p → rcV z F (rpF p (sp p) (sp2 q) q C C2) (rpF p (sp p) (sp2 q) q V V2) (rpS p (sp p) (sp2 q) q sp sp2) k = rcV z F C V sp k := by
  intro d
  have s1 := sp_pos h hp
  have r1 := sp_pos h2 hq
  have pe := sp_le h hp
  have atp : rcV z F (rpF p (sp p) (sp2 q) q C C2) (rpF p (sp p) (sp2 q) q V V2) (rpS p (sp p) (sp2 q) q sp sp2) p = rcV z F C V sp p := by
    have e := rp_rc_in (z := z) (V := V) (V2 := V2) hF h hp h2 hq hn2 hm (n2 - q) q (Nat.le_refl _) (Nat.le_refl _) (by omega)
    rw [show q - q + p = p by omega] at e
    rw [e]; exact hv
  induction d with
  | zero => intro k h1 h3; omega
  | succ d ih =>
    intro k h1 h3
    rcases Nat.lt_or_ge k p with g | g
    · rw [rcV_eq hF (rp_spOK h hp h2 hq) hm (by omega), rcV_eq hF h hn (by omega), rpF_lt g, rpF_lt g]
      refine hF _ _ _ _ (fun i hi => ?_)
      have hx := (h k (by omega)).1 i hi
      have ho := chP_out h g hp i (by omega)
      have hg := chP_gt sp k i
      show rcV _ _ _ _ _ (chP _ k i) = rcV _ _ _ _ _ (chP sp k i)
      rw [rp_ahead h hp h2 hq g i (by omega)]
      generalize chP sp k i = x at *
      unfold rpM
      by_cases c : x ≤ p
      · rw [if_pos c]; exact ih x (by omega) c
      · rw [if_neg c]
        exact rp_rc_behind hF h hp hn h2 hq hm (n - x) x (Nat.le_refl _) (by omega) hx
    · rw [show k = p by omega]; exact atp
def htG : Int → Int → (Nat → Nat) → Nat := fun x _ u => 1 + mxU u (arN x)
theorem htG_ok : fOK htG := fun x v u w h => by
  unfold htG
  rw [mxU_congr _ h]
theorem htF_rc (C V : Nat → Int) (sp : Nat → Nat) (k : Nat) : htF C sp k = rcV 0 htG C V sp k := rfl
theorem rp_ht_ahead (h : spOK n C sp) (hp : p < n) (hn : n ≤ 40) (h2 : spOK n2 C2 sp2) (hq : q < n2) (hn2 : n2 ≤ 40) (hm : n - sp p + sp2 q ≤ 40) (hv : htF C2 sp2 q ≤ htF C sp p) : ∀ d k, n - k ≤ d → k ≤ p → htF (rpF p (sp p) (sp2 q) q C C2) (rpS p (sp p) (sp2 q) q sp sp2) k ≤ htF C sp k := by
  intro d
  have s1 := sp_pos h hp
  have r1 := sp_pos h2 hq
  have pe := sp_le h hp
  have atp : htF (rpF p (sp p) (sp2 q) q C C2) (rpS p (sp p) (sp2 q) q sp sp2) p ≤ htF C sp p := by
    have e := rp_rc_in (z := 0) (V := C) (V2 := C2) htG_ok h hp h2 hq hn2 hm (n2 - q) q (Nat.le_refl _) (Nat.le_refl _) (by omega)
    rw [show q - q + p = p by omega] at e
    rw [htF_rc _ (rpF p (sp p) (sp2 q) q C C2), e]; exact hv
  induction d with
  | zero => intro k h1 h3; omega
  | succ d ih =>
    intro k h1 h3
    rcases Nat.lt_or_ge k p with g | g
    · rw [htF_eq (rp_spOK h hp h2 hq) hm (by omega), htF_eq h hn (by omega), rpF_lt g]
      have := mxU_le (u := fun i => htF (rpF p (sp p) (sp2 q) q C C2) (rpS p (sp p) (sp2 q) q sp sp2) (chP (rpS p (sp p) (sp2 q) q sp sp2) k i)) (b := mxU (fun i => htF C sp (chP sp k i)) (arN (C k))) (arN (C k)) (fun i hi => by
        have hx := (h k (by omega)).1 i hi
        have ho := chP_out h g hp i (by omega)
        have hg := chP_gt sp k i
        have hge : htF C sp (chP sp k i) ≤ mxU (fun i => htF C sp (chP sp k i)) (arN (C k)) := mxU_ge (u := fun i => htF C sp (chP sp k i)) (arN (C k)) i hi
        refine Nat.le_trans ?_ hge
        show htF _ _ (chP _ k i) ≤ htF C sp (chP sp k i)
        rw [rp_ahead h hp h2 hq g i (by omega)]
        generalize chP sp k i = x at *
        unfold rpM
        by_cases c : x ≤ p
        · rw [if_pos c]; exact ih x (by omega) c
        · rw [if_neg c]
          exact Nat.le_of_eq (rp_rc_behind (z := 0) (V := C) (V2 := C2) htG_ok h hp hn h2 hq hm (n - x) x (Nat.le_refl _) (by omega) hx))
      omega
    · rw [show k = p by omega]; exact atp
end RQ
end
section
def atF (g : Nat → Int) (n : Nat) (z : Int) : Int := if 0 ≤ z ∧ z < n then g z.toNat else 0
theorem atF_in {g : Nat → Int} {n : Nat} {z : Int} {k : Nat} (h : z = ↑k) (hk : k < n) : atF g n z = g k := by
  subst h
  unfold atF
  rw [if_pos ⟨by omega, by omega⟩, Int.toNat_natCast]
theorem atF_out {g : Nat → Int} {n : Nat} {z : Int} (h : z < 0 ∨ n ≤ z) : atF g n z = 0 := if_neg (by omega)
theorem k_atG (l : Launch) (G : fw_G) (M : fw_M) (N : Nat) (a n : Nat) (g : Nat → Int) (z : Int) (ha : M a = some (fI G n (fun j0 => iI (g j0)))) (hn : n < 2147483648) (hz : -2147483648 ≤ z ∧ z < 2147483648) : fMet l yX9_at cX9_at 2 (some .int) 0 0 0 0 G M N [.ref a, .int (iI z)] (fw_pi (fun r M1 n1 => r = iI (atF g n z) ∧ M1 = M ∧ n1 = N)) := by
  refine fw_met RX9 rfl (by decide +kernel) (Nat.le_of_ble_eq_true rfl) ?_
  intro pG e s m args below meth cG ls E hr hlk hnm hK hH hz hl
  refine lv_iload_n E.1 E.2.1 dX9_at_0 rfl (lv_at hl 1 rfl) ?_
  refine fw_if_lt (tgt := 10) E dX9_at_1 (by decide) (by omega) (by omega) (fun c1 => ?_) (fun c1 => ?_)
  · refine lv_iconst (v := iI 0) E.1 E.2.1 dX9_at_10 (by decide) ?_
    refine lv_goto (tgt := 17) E.1 E.2.1 dX9_at_11 (by decide) ?_
    refine fw_iret E hr hlk hH ?_ dX9_at_17
    exact ⟨congrArg iI (atF_out (by omega)).symm, rfl, hz⟩
  · refine lv_iload_n E.1 E.2.1 dX9_at_4 rfl (lv_at hl 1 rfl) ?_
    refine lv_aload_n E.1 E.2.1 dX9_at_5 rfl (lv_at hl 0 rfl) ?_
    refine fw_alen E hK hH ha dX9_at_6 ?_
    refine fw_cv (y := iI (↑n)) (nI_iI _) ?_
    refine fw_icmp_lt (tgt := 14) E dX9_at_7 (by decide) (by omega) (by omega) (by omega) (by omega) (fun c2 => ?_) (fun c2 => ?_)
    · refine lv_aload_n E.1 E.2.1 dX9_at_14 rfl (lv_at hl 0 rfl) ?_
      refine lv_iload_n E.1 E.2.1 dX9_at_15 rfl (lv_at hl 1 rfl) ?_
      refine fw_iald E hK hH ha (iI_in (by omega) (by omega) (by omega)) dX9_at_16 ?_
      refine fw_cv (y := iI (g (z).toNat)) (by rw [iI_ix (by omega) (by omega)]) ?_
      refine fw_iret E hr hlk hH ?_ dX9_at_17
      exact ⟨congrArg iI (by rw [atF_in (k := z.toNat) (by omega) (by omega)]), rfl, hz⟩
    · refine lv_iconst (v := iI 0) E.1 E.2.1 dX9_at_10 (by decide) ?_
      refine lv_goto (tgt := 17) E.1 E.2.1 dX9_at_11 (by decide) ?_
      refine fw_iret E hr hlk hH ?_ dX9_at_17
      exact ⟨congrArg iI (atF_out (by omega)).symm, rfl, hz⟩
theorem k_at0 (l : Launch) (G : fw_G) (M : fw_M) (N : Nat) (z : Int) (k : Nat) (hzk : z = ↑k) (hk : k < 14) : fMet l yX9_at cX9_at 2 (some .int) 0 0 0 0 G M N [.ref (G.2.2.2.2 0), .int (iI z)] (fw_pi (fun r M1 n1 => r = iI (zPARTS k) ∧ M1 = M ∧ n1 = N)) := by
  refine fw_met RX9 rfl (by decide +kernel) (Nat.le_of_ble_eq_true rfl) ?_
  intro p e s m args below meth c ls E hr hlk hnm hK hH hz hl
  have hT := hK.me.2.2.2.2.2.1
  refine lv_iload_n E.1 E.2.1 dX9_at_0 rfl (lv_at hl 1 rfl) ?_
  refine fw_if_lt (tgt := 10) E dX9_at_1 (by decide) (by omega) (by omega) (fun c1 => ?_) (fun c1 => ?_)
  · exact absurd c1 (by omega)
  · refine lv_iload_n E.1 E.2.1 dX9_at_4 rfl (lv_at hl 1 rfl) ?_
    refine lv_aload_n E.1 E.2.1 dX9_at_5 rfl (lv_at hl 0 rfl) ?_
    refine fw_tlen E hH hT (v := iI 14) (by decide) dX9_at_6 ?_
    refine fw_icmp_lt (tgt := 14) E dX9_at_7 (by decide) (by omega) (by omega) (by omega) (by omega) (fun c2 => ?_) (fun c2 => ?_)
    · refine lv_aload_n E.1 E.2.1 dX9_at_14 rfl (lv_at hl 0 rfl) ?_
      refine lv_iload_n E.1 E.2.1 dX9_at_15 rfl (lv_at hl 1 rfl) ?_
      refine fw_ti E hH hT (v := .int (iI (zPARTS k))) (iI_in (by omega) (by omega) (by omega)) (by rw [iI_ix (by omega) (by omega), hzk]; rfl) dX9_at_16 ?_
      refine fw_iret E hr hlk hH ?_ dX9_at_17
      exact ⟨rfl, rfl, hz⟩
    · exact absurd c2 (by omega)
theorem k_at1 (l : Launch) (G : fw_G) (M : fw_M) (N : Nat) (z : Int) (k : Nat) (hzk : z = ↑k) (hk : k < 14) : fMet l yX9_at cX9_at 2 (some .int) 0 0 0 0 G M N [.ref (G.2.2.2.2 1), .int (iI z)] (fw_pi (fun r M1 n1 => r = iI (zKS k) ∧ M1 = M ∧ n1 = N)) := by
  refine fw_met RX9 rfl (by decide +kernel) (Nat.le_of_ble_eq_true rfl) ?_
  intro p e s m args below meth c ls E hr hlk hnm hK hH hz hl
  have hT := hK.me.2.2.2.2.2.2.1
  refine lv_iload_n E.1 E.2.1 dX9_at_0 rfl (lv_at hl 1 rfl) ?_
  refine fw_if_lt (tgt := 10) E dX9_at_1 (by decide) (by omega) (by omega) (fun c1 => ?_) (fun c1 => ?_)
  · exact absurd c1 (by omega)
  · refine lv_iload_n E.1 E.2.1 dX9_at_4 rfl (lv_at hl 1 rfl) ?_
    refine lv_aload_n E.1 E.2.1 dX9_at_5 rfl (lv_at hl 0 rfl) ?_
    refine fw_tlen E hH hT (v := iI 14) (by decide) dX9_at_6 ?_
    refine fw_icmp_lt (tgt := 14) E dX9_at_7 (by decide) (by omega) (by omega) (by omega) (by omega) (fun c2 => ?_) (fun c2 => ?_)
    · refine lv_aload_n E.1 E.2.1 dX9_at_14 rfl (lv_at hl 0 rfl) ?_
      refine lv_iload_n E.1 E.2.1 dX9_at_15 rfl (lv_at hl 1 rfl) ?_
      refine fw_ti E hH hT (v := .int (iI (zKS k))) (iI_in (by omega) (by omega) (by omega)) (by rw [iI_ix (by omega) (by omega), hzk]; rfl) dX9_at_16 ?_
      refine fw_iret E hr hlk hH ?_ dX9_at_17
      exact ⟨rfl, rfl, hz⟩
    · exact absurd c2 (by omega)
theorem k_at2 (l : Launch) (G : fw_G) (M : fw_M) (N : Nat) (z : Int) (k : Nat) (hzk : z = ↑k) (hk : k < 14) : fMet l yX9_at cX9_at 2 (some .int) 0 0 0 0 G M N [.ref (G.2.2.2.2 2), .int (iI z)] (fw_pi (fun r M1 n1 => r = iI (zKC k) ∧ M1 = M ∧ n1 = N)) := by
  refine fw_met RX9 rfl (by decide +kernel) (Nat.le_of_ble_eq_true rfl) ?_
  intro p e s m args below meth c ls E hr hlk hnm hK hH hz hl
  have hT := hK.me.2.2.2.2.2.2.2
  refine lv_iload_n E.1 E.2.1 dX9_at_0 rfl (lv_at hl 1 rfl) ?_
  refine fw_if_lt (tgt := 10) E dX9_at_1 (by decide) (by omega) (by omega) (fun c1 => ?_) (fun c1 => ?_)
  · exact absurd c1 (by omega)
  · refine lv_iload_n E.1 E.2.1 dX9_at_4 rfl (lv_at hl 1 rfl) ?_
    refine lv_aload_n E.1 E.2.1 dX9_at_5 rfl (lv_at hl 0 rfl) ?_
    refine fw_tlen E hH hT (v := iI 14) (by decide) dX9_at_6 ?_
    refine fw_icmp_lt (tgt := 14) E dX9_at_7 (by decide) (by omega) (by omega) (by omega) (by omega) (fun c2 => ?_) (fun c2 => ?_)
    · refine lv_aload_n E.1 E.2.1 dX9_at_14 rfl (lv_at hl 0 rfl) ?_
      refine lv_iload_n E.1 E.2.1 dX9_at_15 rfl (lv_at hl 1 rfl) ?_
      refine fw_ti E hH hT (v := .int (iI (zKC k))) (iI_in (by omega) (by omega) (by omega)) (by rw [iI_ix (by omega) (by omega), hzk]; rfl) dX9_at_16 ?_
      refine fw_iret E hr hlk hH ?_ dX9_at_17
      exact ⟨rfl, rfl, hz⟩
    · exact absurd c2 (by omega)
end
section
def apF (n len s : Nat) (f g : Nat → Int) : Nat → Int := fun k => if n ≤ k ∧ k < n + len then g (s + (k - n)) else f k
theorem apF_0 (n s : Nat) (f g : Nat → Int) : apF n 0 s f g = f := by
  funext k
  unfold apF
  rw [if_neg (by omega)]
theorem apF_step {n s i : Nat} (h : s ≤ i) (f g : Nat → Int) : apF n (i + 1 - s) s f g = zup (apF n (i - s) s f g) (n + (i - s)) (g i) := by
  funext k
  unfold apF zup
  by_cases h1 : k = n + (i - s)
  · rw [if_pos h1, if_pos (by omega), show s + (k - n) = i by omega]
  · rw [if_neg h1]
    show _ = (if n ≤ k ∧ k < n + (i - s) then g (s + (k - n)) else f k)
    by_cases h2 : n ≤ k ∧ k < n + (i - s)
    · rw [if_pos h2, if_pos (by omega)]
    · rw [if_neg h2, if_neg (by omega)]
theorem apF_in {n len s : Nat} {f g : Nat → Int} {k : Nat} (h : k < len) : apF n len s f g (n + k) = g (s + k) := by
  unfold apF
  rw [if_pos (by omega), show s + (n + k - n) = s + k by omega]
theorem apF_lt {n len s : Nat} {f g : Nat → Int} {k : Nat} (h : k < n) : apF n len s f g k = f k := by
  unfold apF
  rw [if_neg (by omega)]
theorem k_appendFrom (l : Launch) (G : fw_G) (M : fw_M) (N : Nat) (a o : Nat) (cs vs ss hs : Nat → Int) (lv : Int) (cs2 vs2 ss2 hs2 : Nat → Int) (n2 lv2 : Int) (nN sN tN : Nat) (hT : trAt G M a cs vs ss hs ↑nN lv) (hO : trAt G M o cs2 vs2 ss2 hs2 n2 lv2) (hao : a + 5 ≤ o ∨ o + 5 ≤ a) (hst : sN ≤ tN) (ht : tN ≤ 40) (hn : nN + (tN - sN) ≤ 40) : fMet l yX8_appendFrom cX8_appendFrom 5 none 1 30 0 0 G M N [.ref a, .ref o, .int (iI ↑sN), .int (iI ↑tN)] (fw_pv (fun M1 n1 => trAt G M1 a (apF nN (tN - sN) sN cs cs2) (apF nN (tN - sN) sN vs vs2) ss hs ↑(nN + (tN - sN)) lv ∧ (∀ q, q < a ∨ a + 5 ≤ q → M1 q = M q) ∧ n1 = N)) := by
  refine fw_met RX8 rfl (by decide +kernel) (Nat.le_of_ble_eq_true rfl) ?_
  intro pG e s m args below meth cG ls E hr hlk hnm hK hH hz hl
  obtain ⟨hb, t0, t1, t2, t3, t4⟩ := hT
  obtain ⟨hb2, o0, o1, o2, o3, o4⟩ := hO
  refine lv_iload_n E.1 E.2.1 dX8_appendFrom_0 rfl (lv_at hl 2 rfl) ?_
  refine lv_istore (lv' := [(4, .int (iI ↑sN)), (0, .ref a), (1, .ref o), (2, .int (iI ↑sN)), (3, .int (iI ↑tN))]) E.1 E.2.1 dX8_appendFrom_1 hl (by decide) rfl (fun ls hl => ?_)
  have loop3_1 : ∀ (d3 : Nat) (i : Nat) (Mw3 : fw_M) (H : Heap) (locs : List Loc) (ls : Array Slot), tN - i < d3 → sN ≤ i → i ≤ tN → (∀ q, q < a ∨ a + 5 ≤ q → Mw3 q = M q) → fw_H G s Mw3 H locs → H.size = N → Mw3 a = some (.inr (8, [.ref (a + 1), .ref (a + 2), .ref (a + 3), .ref (a + 4), .int (iI (↑(nN + (i - sN)) : Int)), .int (iI lv)])) → Mw3 (a + 1) = some (fI G 40 (fun j0 => iI ((apF nN (i - sN) sN cs cs2) j0))) → Mw3 (a + 2) = some (fI G 40 (fun j0 => iI ((apF nN (i - sN) sN vs vs2) j0))) → Mw3 (a + 3) = some (fI G 40 (fun j0 => iI (ss j0))) → Mw3 (a + 4) = some (fI G 40 (fun j0 => iI (hs j0))) → Mw3 o = some (.inr (8, [.ref (o + 1), .ref (o + 2), .ref (o + 3), .ref (o + 4), .int (iI n2), .int (iI lv2)])) → Mw3 (o + 1) = some (fI G 40 (fun j0 => iI (cs2 j0))) → Mw3 (o + 2) = some (fI G 40 (fun j0 => iI (vs2 j0))) → Mw3 (o + 3) = some (fI G 40 (fun j0 => iI (ss2 j0))) → Mw3 (o + 4) = some (fI G 40 (fun j0 => iI (hs2 j0))) → lv_has ls 5 [(0, .ref a), (1, .ref o), (2, .int (iI ↑sN)), (3, .int (iI ↑tN)), (4, .int (iI ↑i))] → W pG l e ({ frames := 1, cells := 0, slots := 0, locals := 30 } : Room) s m args below meth cG H locs (0) (0) (MQ below (fw_Q G (fw_pv (fun M1 n1 => trAt G M1 a (apF nN (tN - sN) sN cs cs2) (apF nN (tN - sN) sN vs vs2) ss hs ↑(nN + (tN - sN)) lv ∧ (∀ q, q < a ∨ a + 5 ≤ q → M1 q = M q) ∧ n1 = N))) args s 0 0 (fun q => G.2.2.1 ≤ q)) (F0 m 3 ls []) := by
    intro d3
    induction d3 with
    | zero => intro i Mw3 H locs ls hd; exact absurd hd (Nat.not_lt_zero _)
    | succ d3 ih3 =>
      intro i Mw3 H locs ls hd3 i1 i2 hfr0 hH hz t0 t1 t2 t3 t4 o0 o1 o2 o3 o4 hl
      refine lv_iload E.1 E.2.1 dX8_appendFrom_3 (lv_at hl 4 rfl) ?_
      refine lv_iload_n E.1 E.2.1 dX8_appendFrom_5 rfl (lv_at hl 3 rfl) ?_
      refine fw_icmp_ge (tgt := 65) E dX8_appendFrom_6 (by decide) (by omega) (by omega) (by omega) (by omega) (fun c1 => ?_) (fun c1 => ?_)
      · refine fw_vret E hr hlk hH ?_ dX8_appendFrom_65
        have e9 : i = tN := by omega
        subst e9
        exact ⟨⟨hb, t0, t1, t2, t3, t4⟩, hfr0, hz⟩
      · refine lv_aload_n E.1 E.2.1 dX8_appendFrom_9 rfl (lv_at hl 0 rfl) ?_
        refine fw_get E hK hH t0 fc_X8 0 (by decide) ql_RX8_9 rfl rfl dX8_appendFrom_10 ?_
        refine lv_aload_n E.1 E.2.1 dX8_appendFrom_13 rfl (lv_at hl 0 rfl) ?_
        refine fw_get E hK hH t0 fc_X8 4 (by decide) ql_RX8_41 rfl rfl dX8_appendFrom_14 ?_
        refine lv_aload_n E.1 E.2.1 dX8_appendFrom_17 rfl (lv_at hl 1 rfl) ?_
        refine fw_get E hK hH o0 fc_X8 0 (by decide) ql_RX8_9 rfl rfl dX8_appendFrom_18 ?_
        refine lv_iload E.1 E.2.1 dX8_appendFrom_21 (lv_at hl 4 rfl) ?_
        refine fw_cSN (As := [.ref (o + 1), .int (iI ↑i)]) (rest := [.int (iI (↑(nN + (i - sN)) : Int)), .ref (a + 1)]) E hK hH hl fL_X9_at ql_RX8_24 qs_yX9_at (k_at l G _ _ (o + 1) 40 cs2 ↑i i o1 (by omega) (by omega) (by omega)) rfl rfl (Nat.le_of_ble_eq_true rfl) ⟨Nat.le_of_ble_eq_true rfl, Nat.le_of_ble_eq_true rfl⟩ ⟨Nat.le_of_ble_eq_true rfl, Nat.le_of_ble_eq_true rfl⟩ dX8_appendFrom_23 (fw_ki fun r4 M3 H1 locs1 hp2 hH hz1 => ?_)
        obtain ⟨rfl, hM9, hz2⟩ := hp2
        replace hz := hz2.trans hz
        clear hz1 hz2
        rw [hM9] at hH
        refine fw_cSN (As := [.ref (a + 1), .int (iI (↑(nN + (i - sN)) : Int)), .int (iI (cs2 i))]) (rest := []) E hK hH hl fL_X9_put ql_RX8_55 qs_yX9_put (k_put l G _ _ (a + 1) 40 (apF nN (i - sN) sN cs cs2) (↑(nN + (i - sN)) : Int) (nN + (i - sN)) (cs2 i) t1 (by omega) (by omega) (by omega) (by omega)) rfl rfl (Nat.le_of_ble_eq_true rfl) ⟨Nat.le_of_ble_eq_true rfl, Nat.le_of_ble_eq_true rfl⟩ ⟨Nat.le_of_ble_eq_true rfl, Nat.le_of_ble_eq_true rfl⟩ dX8_appendFrom_26 (fw_kv fun M6 H1 locs1 hp5 hH hz1 => ?_)
        obtain ⟨hM8, hz2⟩ := hp5
        have hfr : ∀ q, q ≠ a + 1 → M6 q = Mw3 q := fun q h => by rw [hM8]; exact fw_up_ne h
        have t1 : M6 (a + 1) = some (fI G 40 (fun j0 => iI ((zup (apF nN (i - sN) sN cs cs2) (nN + (i - sN)) (cs2 i)) j0))) := by rw [hM8]; exact fw_up_eq
        replace hz := hz2.trans hz
        clear hz1 hz2
        have fr7 := hfr
        replace t0 : M6 a = some (.inr (8, [.ref (a + 1), .ref (a + 2), .ref (a + 3), .ref (a + 4), .int (iI (↑(nN + (i - sN)) : Int)), .int (iI lv)])) := (fr7 _ (by omega)).trans t0
        replace t2 : M6 (a + 2) = some (fI G 40 (fun j0 => iI ((apF nN (i - sN) sN vs vs2) j0))) := (fr7 _ (by omega)).trans t2
        replace t3 : M6 (a + 3) = some (fI G 40 (fun j0 => iI (ss j0))) := (fr7 _ (by omega)).trans t3
        replace t4 : M6 (a + 4) = some (fI G 40 (fun j0 => iI (hs j0))) := (fr7 _ (by omega)).trans t4
        replace o0 : M6 o = some (.inr (8, [.ref (o + 1), .ref (o + 2), .ref (o + 3), .ref (o + 4), .int (iI n2), .int (iI lv2)])) := (fr7 _ (by omega)).trans o0
        replace o1 : M6 (o + 1) = some (fI G 40 (fun j0 => iI (cs2 j0))) := (fr7 _ (by omega)).trans o1
        replace o2 : M6 (o + 2) = some (fI G 40 (fun j0 => iI (vs2 j0))) := (fr7 _ (by omega)).trans o2
        replace o3 : M6 (o + 3) = some (fI G 40 (fun j0 => iI (ss2 j0))) := (fr7 _ (by omega)).trans o3
        replace o4 : M6 (o + 4) = some (fI G 40 (fun j0 => iI (hs2 j0))) := (fr7 _ (by omega)).trans o4
        refine lv_aload_n E.1 E.2.1 dX8_appendFrom_29 rfl (lv_at hl 0 rfl) ?_
        refine fw_get E hK hH t0 fc_X8 1 (by decide) ql_RX8_15 rfl rfl dX8_appendFrom_30 ?_
        refine lv_aload_n E.1 E.2.1 dX8_appendFrom_33 rfl (lv_at hl 0 rfl) ?_
        refine fw_get E hK hH t0 fc_X8 4 (by decide) ql_RX8_41 rfl rfl dX8_appendFrom_34 ?_
        refine lv_aload_n E.1 E.2.1 dX8_appendFrom_37 rfl (lv_at hl 1 rfl) ?_
        refine fw_get E hK hH o0 fc_X8 1 (by decide) ql_RX8_15 rfl rfl dX8_appendFrom_38 ?_
        refine lv_iload E.1 E.2.1 dX8_appendFrom_41 (lv_at hl 4 rfl) ?_
        refine fw_cSN (As := [.ref (o + 2), .int (iI ↑i)]) (rest := [.int (iI (↑(nN + (i - sN)) : Int)), .ref (a + 2)]) E hK hH hl fL_X9_at ql_RX8_24 qs_yX9_at (k_at l G _ _ (o + 2) 40 vs2 ↑i i o2 (by omega) (by omega) (by omega)) rfl rfl (Nat.le_of_ble_eq_true rfl) ⟨Nat.le_of_ble_eq_true rfl, Nat.le_of_ble_eq_true rfl⟩ ⟨Nat.le_of_ble_eq_true rfl, Nat.le_of_ble_eq_true rfl⟩ dX8_appendFrom_43 (fw_ki fun r10 M9 H1 locs1 hp8 hH hz1 => ?_)
        obtain ⟨rfl, hM9, hz2⟩ := hp8
        replace hz := hz2.trans hz
        clear hz1 hz2
        rw [hM9] at hH
        refine fw_cSN (As := [.ref (a + 2), .int (iI (↑(nN + (i - sN)) : Int)), .int (iI (vs2 i))]) (rest := []) E hK hH hl fL_X9_put ql_RX8_55 qs_yX9_put (k_put l G _ _ (a + 2) 40 (apF nN (i - sN) sN vs vs2) (↑(nN + (i - sN)) : Int) (nN + (i - sN)) (vs2 i) t2 (by omega) (by omega) (by omega) (by omega)) rfl rfl (Nat.le_of_ble_eq_true rfl) ⟨Nat.le_of_ble_eq_true rfl, Nat.le_of_ble_eq_true rfl⟩ ⟨Nat.le_of_ble_eq_true rfl, Nat.le_of_ble_eq_true rfl⟩ dX8_appendFrom_46 (fw_kv fun M12 H1 locs1 hp11 hH hz1 => ?_)
        obtain ⟨hM8, hz2⟩ := hp11
        have hfr : ∀ q, q ≠ a + 2 → M12 q = M6 q := fun q h => by rw [hM8]; exact fw_up_ne h
        have t2 : M12 (a + 2) = some (fI G 40 (fun j0 => iI ((zup (apF nN (i - sN) sN vs vs2) (nN + (i - sN)) (vs2 i)) j0))) := by rw [hM8]; exact fw_up_eq
        replace hz := hz2.trans hz
        clear hz1 hz2
        have fr13 := hfr
        replace t0 : M12 a = some (.inr (8, [.ref (a + 1), .ref (a + 2), .ref (a + 3), .ref (a + 4), .int (iI (↑(nN + (i - sN)) : Int)), .int (iI lv)])) := (fr13 _ (by omega)).trans t0
        replace t3 : M12 (a + 3) = some (fI G 40 (fun j0 => iI (ss j0))) := (fr13 _ (by omega)).trans t3
        replace t4 : M12 (a + 4) = some (fI G 40 (fun j0 => iI (hs j0))) := (fr13 _ (by omega)).trans t4
        replace o0 : M12 o = some (.inr (8, [.ref (o + 1), .ref (o + 2), .ref (o + 3), .ref (o + 4), .int (iI n2), .int (iI lv2)])) := (fr13 _ (by omega)).trans o0
        replace o1 : M12 (o + 1) = some (fI G 40 (fun j0 => iI (cs2 j0))) := (fr13 _ (by omega)).trans o1
        replace o2 : M12 (o + 2) = some (fI G 40 (fun j0 => iI (vs2 j0))) := (fr13 _ (by omega)).trans o2
        replace o3 : M12 (o + 3) = some (fI G 40 (fun j0 => iI (ss2 j0))) := (fr13 _ (by omega)).trans o3
        replace o4 : M12 (o + 4) = some (fI G 40 (fun j0 => iI (hs2 j0))) := (fr13 _ (by omega)).trans o4
        replace t1 : M12 (a + 1) = some (fI G 40 (fun j0 => iI ((zup (apF nN (i - sN) sN cs cs2) (nN + (i - sN)) (cs2 i)) j0))) := (fr13 _ (by omega)).trans t1
        refine lv_aload_n E.1 E.2.1 dX8_appendFrom_49 rfl (lv_at hl 0 rfl) ?_
        refine lv_dup E.1 E.2.1 dX8_appendFrom_50 rfl ?_
        refine fw_get E hK hH t0 fc_X8 4 (by decide) ql_RX8_41 rfl rfl dX8_appendFrom_51 ?_
        refine lv_iconst (v := iI 1) E.1 E.2.1 dX8_appendFrom_54 (by decide) ?_
        refine fw_iadd E dX8_appendFrom_55 ?_
        refine fw_put E hK hH (by omega) t0 fc_X8 4 (by decide) ql_RX8_41 rfl rfl rfl rfl (Nat.le_of_ble_eq_true rfl) dX8_appendFrom_56 (fun H1 locs1 hH hz1 => ?_)
        replace hz := hz1.trans hz; clear hz1
        obtain ⟨M14, hM15⟩ : ∃ MX, MX = fw_up M12 a (.inr (8, [.ref (a + 1), .ref (a + 2), .ref (a + 3), .ref (a + 4), .int (iI ((↑(nN + (i - sN)) : Int) + 1)), .int (iI lv)])) := ⟨_, rfl⟩
        replace hH := fw_H.nm hM15 hH
        have fr16 : ∀ q, q ≠ a → M14 q = M12 q := fun q h => by rw [hM15]; exact fw_up_ne h
        replace t3 : M14 (a + 3) = some (fI G 40 (fun j0 => iI (ss j0))) := (fr16 _ (by omega)).trans t3
        replace t4 : M14 (a + 4) = some (fI G 40 (fun j0 => iI (hs j0))) := (fr16 _ (by omega)).trans t4
        replace o0 : M14 o = some (.inr (8, [.ref (o + 1), .ref (o + 2), .ref (o + 3), .ref (o + 4), .int (iI n2), .int (iI lv2)])) := (fr16 _ (by omega)).trans o0
        replace o1 : M14 (o + 1) = some (fI G 40 (fun j0 => iI (cs2 j0))) := (fr16 _ (by omega)).trans o1
        replace o2 : M14 (o + 2) = some (fI G 40 (fun j0 => iI (vs2 j0))) := (fr16 _ (by omega)).trans o2
        replace o3 : M14 (o + 3) = some (fI G 40 (fun j0 => iI (ss2 j0))) := (fr16 _ (by omega)).trans o3
        replace o4 : M14 (o + 4) = some (fI G 40 (fun j0 => iI (hs2 j0))) := (fr16 _ (by omega)).trans o4
        replace t1 : M14 (a + 1) = some (fI G 40 (fun j0 => iI ((zup (apF nN (i - sN) sN cs cs2) (nN + (i - sN)) (cs2 i)) j0))) := (fr16 _ (by omega)).trans t1
        replace t2 : M14 (a + 2) = some (fI G 40 (fun j0 => iI ((zup (apF nN (i - sN) sN vs vs2) (nN + (i - sN)) (vs2 i)) j0))) := (fr16 _ (by omega)).trans t2
        have t0 : M14 a = some (.inr (8, [.ref (a + 1), .ref (a + 2), .ref (a + 3), .ref (a + 4), .int (iI ((↑(nN + (i - sN)) : Int) + 1)), .int (iI lv)])) := by rw [hM15]; exact fw_up_eq
        refine lv_iinc (v := iI (↑i + 1)) (lv' := [(4, .int (iI (↑i + 1))), (0, .ref a), (1, .ref o), (2, .int (iI ↑sN)), (3, .int (iI ↑tN))]) E.1 E.2.1 dX8_appendFrom_59 hl (k := 4) rfl (iI_inc rfl) (by decide) rfl (fun ls hl => ?_)
        refine lv_goto (tgt := 3) E.1 E.2.1 dX8_appendFrom_62 (by decide) ?_
        exact ih3 (i + 1) _ _ _ _ (by omega) (by omega) (by omega) (fun q hq => by rw [fr16 q (by omega), fr13 q (by omega), fr7 q (by omega)]; exact hfr0 q hq) hH (by omega) (by rw [show ((↑(nN + (i + 1 - sN)) : Int)) = ↑(nN + (i - sN)) + 1 by omega]; exact t0) (by rw [apF_step (by omega)]; exact t1) (by rw [apF_step (by omega)]; exact t2) t3 t4 o0 o1 o2 o3 o4 (lv_sub hl [1, 2, 3, 4, 0] rfl)
  exact loop3_1 (tN - sN + 1) sN _ _ _ _ (Nat.lt_succ_self _) (Nat.le_refl _) (by omega) (fun _ _ => rfl) hH (by omega) (by rw [Nat.sub_self]; exact t0) (by rw [Nat.sub_self, apF_0]; exact t1) (by rw [Nat.sub_self, apF_0]; exact t2) t3 t4 o0 o1 o2 o3 o4 (lv_sub hl [1, 2, 3, 4, 0] rfl)
def msF (lo n : Nat) (f : Nat → Nat) (ss : Nat → Int) : Nat → Int := fun k => if lo ≤ k ∧ k < n then (f k : Int) else ss k
theorem msF_in {lo n k : Nat} {f : Nat → Nat} {ss : Nat → Int} (h1 : lo ≤ k) (h2 : k < n) : msF lo n f ss k = (f k : Int) := if_pos ⟨h1, h2⟩
theorem msF_nn (n : Nat) (f : Nat → Nat) (ss : Nat → Int) : msF n n f ss = ss := by
  funext k
  unfold msF
  rw [if_neg (by omega)]
theorem msF_step {j n : Nat} {f : Nat → Nat} {ss : Nat → Int} {v : Int} (h : 0 < j) (h2 : j ≤ n) (hv : v = (f (j - 1) : Int)) : zup (msF j n f ss) (j - 1) v = msF (j - 1) n f ss := by
  subst hv
  funext k
  unfold zup msF
  by_cases h1 : k = j - 1
  · rw [if_pos h1, if_pos (by omega), h1]
  · rw [if_neg h1]
    by_cases h2 : j ≤ k ∧ k < n
    · rw [if_pos h2, if_pos (by omega)]
    · rw [if_neg h2, if_neg (by omega)]
def lvF (n : Nat) (C : Nat → Int) (sp : Nat → Nat) : Nat := if n = 0 then 0 else htF C sp 0
set_option maxHeartbeats 4000000 in
theorem k_measure (l : Launch) (G : fw_G) (M : fw_M) (N : Nat) (a : Nat) (cs vs ss hs : Nat → Int) (lv : Int) (nN : Nat) (sp : Nat → Nat) (hT : trAt G M a cs vs ss hs ↑nN lv) (hn : nN ≤ 40) (hsp : spOK nN cs sp) (hc : ∀ k, k < nN → 0 ≤ cs k ∧ cs k ≤ 13) : fMet l yX8_measure cX8_measure 6 none 1 40 0 0 G M N [.ref a] (fw_pv (fun M1 n1 => trAt G M1 a cs vs (msF 0 nN sp ss) (msF 0 nN (htF cs sp) hs) ↑nN ↑(lvF nN cs sp) ∧ (∀ q, q < a ∨ a + 5 ≤ q → M1 q = M q) ∧ n1 = N)) := by
  refine fw_met RX8 rfl (by decide +kernel) (Nat.le_of_ble_eq_true rfl) ?_
  intro pG e s m args below meth cG ls E hr hlk hnm hK hH hz hl
  obtain ⟨hb, t0, t1, t2, t3, t4⟩ := hT
  refine lv_aload_n E.1 E.2.1 dX8_measure_0 rfl (lv_at hl 0 rfl) ?_
  refine fw_get E hK hH t0 fc_X8 4 (by decide) ql_RX8_41 rfl rfl dX8_measure_1 ?_
  refine lv_iconst (v := iI 1) E.1 E.2.1 dX8_measure_4 (by decide) ?_
  refine fw_isub E dX8_measure_5 ?_
  refine lv_istore_n (lv' := [(1, .int (iI ((↑nN : Int) - 1))), (0, .ref a)]) E.1 E.2.1 dX8_measure_6 rfl hl (by decide) rfl (fun ls hl => ?_)
  have loop7_1 : ∀ (d7 : Nat) (j : Nat) (Mw7 : fw_M) (H : Heap) (locs : List Loc) (ls : Array Slot), j < d7 → j ≤ nN → (∀ q, q < a ∨ a + 5 ≤ q → Mw7 q = M q) → fw_H G s Mw7 H locs → H.size = N → Mw7 a = some (.inr (8, [.ref (a + 1), .ref (a + 2), .ref (a + 3), .ref (a + 4), .int (iI (↑nN : Int)), .int (iI lv)])) → Mw7 (a + 1) = some (fI G 40 (fun j0 => iI (cs j0))) → Mw7 (a + 2) = some (fI G 40 (fun j0 => iI (vs j0))) → Mw7 (a + 3) = some (fI G 40 (fun j0 => iI ((msF j nN sp ss) j0))) → Mw7 (a + 4) = some (fI G 40 (fun j0 => iI ((msF j nN (htF cs sp) hs) j0))) → lv_has ls 6 [(0, .ref a), (1, .int (iI (↑j - 1)))] → W pG l e ({ frames := 1, cells := 0, slots := 0, locals := 40 } : Room) s m args below meth cG H locs (0) (0) (MQ below (fw_Q G (fw_pv (fun M1 n1 => trAt G M1 a cs vs (msF 0 nN sp ss) (msF 0 nN (htF cs sp) hs) ↑nN ↑(lvF nN cs sp) ∧ (∀ q, q < a ∨ a + 5 ≤ q → M1 q = M q) ∧ n1 = N))) args s 0 0 (fun q => G.2.2.1 ≤ q)) (F0 m 7 ls []) := by
    intro d7
    induction d7 with
    | zero => intro j Mw7 H locs ls hd; exact absurd hd (Nat.not_lt_zero _)
    | succ d7 ih7 =>
      intro j Mw7 H locs ls hd7 ij hfr0 hH hz t0 t1 t2 t3 t4 hl
      refine lv_iload_n E.1 E.2.1 dX8_measure_7 rfl (lv_at hl 1 rfl) ?_
      refine fw_if_lt (tgt := 103) E dX8_measure_8 (by decide) (by omega) (by omega) (fun c1 => ?_) (fun c1 => ?_)
      · refine lv_aload_n E.1 E.2.1 dX8_measure_103 rfl (lv_at hl 0 rfl) ?_
        refine lv_aload_n E.1 E.2.1 dX8_measure_104 rfl (lv_at hl 0 rfl) ?_
        refine fw_get E hK hH t0 fc_X8 4 (by decide) ql_RX8_41 rfl rfl dX8_measure_105 ?_
        refine fw_if_ne (tgt := 115) E dX8_measure_108 (by decide) (by omega) (by omega) (fun c2 => ?_) (fun c2 => ?_)
        · refine lv_aload_n E.1 E.2.1 dX8_measure_115 rfl (lv_at hl 0 rfl) ?_
          refine fw_get E hK hH t0 fc_X8 3 (by decide) ql_RX8_21 rfl rfl dX8_measure_116 ?_
          refine lv_iconst (v := iI 0) E.1 E.2.1 dX8_measure_119 (by decide) ?_
          refine fw_cSN (As := [.ref (a + 4), .int (iI 0)]) (rest := [.ref a]) E hK hH hl fL_X9_at ql_RX8_24 qs_yX9_at (k_at l G _ _ (a + 4) 40 (msF j nN (htF cs sp) hs) 0 0 t4 (by omega) (by omega) (by omega)) rfl rfl (Nat.le_of_ble_eq_true rfl) ⟨Nat.le_of_ble_eq_true rfl, Nat.le_of_ble_eq_true rfl⟩ ⟨Nat.le_of_ble_eq_true rfl, Nat.le_of_ble_eq_true rfl⟩ dX8_measure_120 (fw_ki fun r5 M4 H1 locs1 hp3 hH hz1 => ?_)
          obtain ⟨rfl, hM9, hz2⟩ := hp3
          refine fw_cv (y := iI (↑(htF cs sp 0))) (congrArg iI (msF_in (lo := j) (n := nN) (k := 0) (by omega) (by omega))) ?_
          replace hz := hz2.trans hz
          clear hz1 hz2
          rw [hM9] at hH
          refine fw_put E hK hH (by omega) t0 fc_X8 5 (by decide) ql_RX8_74 rfl rfl rfl rfl (Nat.le_of_ble_eq_true rfl) dX8_measure_123 (fun H1 locs1 hH hz1 => ?_)
          replace hz := hz1.trans hz; clear hz1
          obtain ⟨M6, hM7⟩ : ∃ MX, MX = fw_up Mw7 a (.inr (8, [.ref (a + 1), .ref (a + 2), .ref (a + 3), .ref (a + 4), .int (iI (↑nN : Int)), .int (iI (↑(htF cs sp 0)))])) := ⟨_, rfl⟩
          replace hH := fw_H.nm hM7 hH
          have fr8 : ∀ q, q ≠ a → M6 q = Mw7 q := fun q h => by rw [hM7]; exact fw_up_ne h
          replace t1 : M6 (a + 1) = some (fI G 40 (fun j0 => iI (cs j0))) := (fr8 _ (by omega)).trans t1
          replace t2 : M6 (a + 2) = some (fI G 40 (fun j0 => iI (vs j0))) := (fr8 _ (by omega)).trans t2
          replace t3 : M6 (a + 3) = some (fI G 40 (fun j0 => iI ((msF j nN sp ss) j0))) := (fr8 _ (by omega)).trans t3
          replace t4 : M6 (a + 4) = some (fI G 40 (fun j0 => iI ((msF j nN (htF cs sp) hs) j0))) := (fr8 _ (by omega)).trans t4
          have t0 : M6 a = some (.inr (8, [.ref (a + 1), .ref (a + 2), .ref (a + 3), .ref (a + 4), .int (iI (↑nN : Int)), .int (iI (↑(htF cs sp 0)))])) := by rw [hM7]; exact fw_up_eq
          refine fw_vret E hr hlk hH ?_ dX8_measure_126
          exact ⟨⟨hb, by rw [show lvF nN cs sp = htF cs sp 0 from if_neg (by omega)]; exact t0, t1, t2, by rw [show (0 : Nat) = j by omega]; exact t3, by rw [show (0 : Nat) = j by omega]; exact t4⟩, (fun q hq => by rw [fr8 q (by omega)]; exact hfr0 q hq), hz⟩
        · refine lv_iconst (v := iI 0) E.1 E.2.1 dX8_measure_111 (by decide) ?_
          refine lv_goto (tgt := 123) E.1 E.2.1 dX8_measure_112 (by decide) ?_
          refine fw_put E hK hH (by omega) t0 fc_X8 5 (by decide) ql_RX8_74 rfl rfl rfl rfl (Nat.le_of_ble_eq_true rfl) dX8_measure_123 (fun H1 locs1 hH hz1 => ?_)
          replace hz := hz1.trans hz; clear hz1
          obtain ⟨M9, hM10⟩ : ∃ MX, MX = fw_up Mw7 a (.inr (8, [.ref (a + 1), .ref (a + 2), .ref (a + 3), .ref (a + 4), .int (iI (↑nN : Int)), .int (iI 0)])) := ⟨_, rfl⟩
          replace hH := fw_H.nm hM10 hH
          have fr11 : ∀ q, q ≠ a → M9 q = Mw7 q := fun q h => by rw [hM10]; exact fw_up_ne h
          replace t1 : M9 (a + 1) = some (fI G 40 (fun j0 => iI (cs j0))) := (fr11 _ (by omega)).trans t1
          replace t2 : M9 (a + 2) = some (fI G 40 (fun j0 => iI (vs j0))) := (fr11 _ (by omega)).trans t2
          replace t3 : M9 (a + 3) = some (fI G 40 (fun j0 => iI ((msF j nN sp ss) j0))) := (fr11 _ (by omega)).trans t3
          replace t4 : M9 (a + 4) = some (fI G 40 (fun j0 => iI ((msF j nN (htF cs sp) hs) j0))) := (fr11 _ (by omega)).trans t4
          have t0 : M9 a = some (.inr (8, [.ref (a + 1), .ref (a + 2), .ref (a + 3), .ref (a + 4), .int (iI (↑nN : Int)), .int (iI 0)])) := by rw [hM10]; exact fw_up_eq
          refine fw_vret E hr hlk hH ?_ dX8_measure_126
          exact ⟨⟨hb, by rw [show lvF nN cs sp = 0 from if_pos (by omega)]; exact t0, t1, t2, by rw [show (0 : Nat) = j by omega]; exact t3, by rw [show (0 : Nat) = j by omega]; exact t4⟩, (fun q hq => by rw [fr11 q (by omega)]; exact hfr0 q hq), hz⟩
      · have hcj := hc (j - 1) (by omega)
        have har := arN_le (cs (j - 1))
        refine fw_getsN E hH hK.me.2.2.1 ql_RX8_77 dX8_measure_11 ?_
        refine lv_aload_n E.1 E.2.1 dX8_measure_14 rfl (lv_at hl 0 rfl) ?_
        refine fw_get E hK hH t0 fc_X8 0 (by decide) ql_RX8_9 rfl rfl dX8_measure_15 ?_
        refine lv_iload_n E.1 E.2.1 dX8_measure_18 rfl (lv_at hl 1 rfl) ?_
        refine fw_cSN (As := [.ref (a + 1), .int (iI (↑j - 1))]) (rest := [.ref (G.2.2.2.2 0)]) E hK hH hl fL_X9_at ql_RX8_24 qs_yX9_at (k_at l G _ _ (a + 1) 40 cs (↑j - 1) (j - 1) t1 (by omega) (by omega) (by omega)) rfl rfl (Nat.le_of_ble_eq_true rfl) ⟨Nat.le_of_ble_eq_true rfl, Nat.le_of_ble_eq_true rfl⟩ ⟨Nat.le_of_ble_eq_true rfl, Nat.le_of_ble_eq_true rfl⟩ dX8_measure_19 (fw_ki fun r14 M13 H1 locs1 hp12 hH hz1 => ?_)
        obtain ⟨rfl, hM9, hz2⟩ := hp12
        replace hz := hz2.trans hz
        clear hz1 hz2
        rw [hM9] at hH
        refine fw_cSN (As := [.ref (G.2.2.2.2 0), .int (iI (cs (j - 1)))]) (rest := []) E hK hH hl fL_X9_at ql_RX8_24 qs_yX9_at (k_at0 l G _ _ (cs (j - 1)) ((cs (j - 1)).toNat) (by omega) (by omega)) rfl rfl (Nat.le_of_ble_eq_true rfl) ⟨Nat.le_of_ble_eq_true rfl, Nat.le_of_ble_eq_true rfl⟩ ⟨Nat.le_of_ble_eq_true rfl, Nat.le_of_ble_eq_true rfl⟩ dX8_measure_22 (fw_ki fun r17 M16 H1 locs1 hp15 hH hz1 => ?_)
        obtain ⟨rfl, hM9, hz2⟩ := hp15
        refine fw_cv (y := iI (↑(arN (cs (j - 1))))) (by rw [zPARTS_ar hcj]) ?_
        replace hz := hz2.trans hz
        clear hz1 hz2
        rw [hM9] at hH
        refine lv_istore_n (lv' := [(2, .int (iI (↑(arN (cs (j - 1)))))), (0, .ref a), (1, .int (iI (↑j - 1)))]) E.1 E.2.1 dX8_measure_25 rfl hl (by decide) rfl (fun ls hl => ?_)
        refine lv_iload_n E.1 E.2.1 dX8_measure_26 rfl (lv_at hl 2 rfl) ?_
        refine lv_iconst (v := iI 1) E.1 E.2.1 dX8_measure_27 (by decide) ?_
        refine fw_iadd E dX8_measure_28 ?_
        refine fw_cv (y := iI (↑(chP sp (j - 1) 0))) (congrArg iI (by show _ = ((j - 1 + 1 : Nat) : Int); omega)) ?_
        refine lv_istore_n (lv' := [(3, .int (iI (↑(chP sp (j - 1) 0)))), (2, .int (iI (↑(arN (cs (j - 1)))))), (0, .ref a), (1, .int (iI (↑j - 1)))]) E.1 E.2.1 dX8_measure_29 rfl hl (by decide) rfl (fun ls hl => ?_)
        refine lv_iconst (v := iI 0) E.1 E.2.1 dX8_measure_30 (by decide) ?_
        refine lv_istore (lv' := [(4, .int (iI 0)), (3, .int (iI (↑(chP sp (j - 1) 0)))), (2, .int (iI (↑(arN (cs (j - 1)))))), (0, .ref a), (1, .int (iI (↑j - 1)))]) E.1 E.2.1 dX8_measure_31 hl (by decide) rfl (fun ls hl => ?_)
        refine lv_iconst (v := iI 0) E.1 E.2.1 dX8_measure_33 (by decide) ?_
        refine lv_istore (lv' := [(5, .int (iI 0)), (4, .int (iI 0)), (3, .int (iI (↑(chP sp (j - 1) 0)))), (2, .int (iI (↑(arN (cs (j - 1)))))), (0, .ref a), (1, .int (iI (↑j - 1)))]) E.1 E.2.1 dX8_measure_34 hl (by decide) rfl (fun ls hl => ?_)
        have loop36_2 : ∀ (d36 : Nat) (pt : Nat) (Mw36 : fw_M) (H : Heap) (locs : List Loc) (ls : Array Slot), arN (cs (j - 1)) - pt < d36 → pt ≤ arN (cs (j - 1)) → (∀ q, q < a ∨ a + 5 ≤ q → Mw36 q = M q) → fw_H G s Mw36 H locs → H.size = N → Mw36 a = some (.inr (8, [.ref (a + 1), .ref (a + 2), .ref (a + 3), .ref (a + 4), .int (iI (↑nN : Int)), .int (iI lv)])) → Mw36 (a + 1) = some (fI G 40 (fun j0 => iI (cs j0))) → Mw36 (a + 2) = some (fI G 40 (fun j0 => iI (vs j0))) → Mw36 (a + 3) = some (fI G 40 (fun j0 => iI ((msF j nN sp ss) j0))) → Mw36 (a + 4) = some (fI G 40 (fun j0 => iI ((msF j nN (htF cs sp) hs) j0))) → lv_has ls 6 [(0, .ref a), (1, .int (iI (↑j - 1))), (2, .int (iI (↑(arN (cs (j - 1)))))), (3, .int (iI (↑(chP sp (j - 1) pt)))), (4, .int (iI (↑(mxU (fun i => htF cs sp (chP sp (j - 1) i)) pt)))), (5, .int (iI ↑pt))] → W pG l e ({ frames := 1, cells := 0, slots := 0, locals := 40 } : Room) s m args below meth cG H locs (0) (0) (MQ below (fw_Q G (fw_pv (fun M1 n1 => trAt G M1 a cs vs (msF 0 nN sp ss) (msF 0 nN (htF cs sp) hs) ↑nN ↑(lvF nN cs sp) ∧ (∀ q, q < a ∨ a + 5 ≤ q → M1 q = M q) ∧ n1 = N))) args s 0 0 (fun q => G.2.2.1 ≤ q)) (F0 m 36 ls []) := by
          intro d36
          induction d36 with
          | zero => intro pt Mw36 H locs ls hd; exact absurd hd (Nat.not_lt_zero _)
          | succ d36 ih36 =>
            intro pt Mw36 H locs ls hd36 ip hfr0 hH hz t0 t1 t2 t3 t4 hl
            refine lv_iload E.1 E.2.1 dX8_measure_36 (lv_at hl 5 rfl) ?_
            refine lv_iload_n E.1 E.2.1 dX8_measure_38 rfl (lv_at hl 2 rfl) ?_
            refine fw_icmp_ge (tgt := 74) E dX8_measure_39 (by decide) (by omega) (by omega) (by omega) (by omega) (fun c18 => ?_) (fun c18 => ?_)
            · have ipt : arN (cs (j - 1)) = pt := by omega
              have hg := chP_gt sp (j - 1) pt
              have he := (hsp (j - 1) (by omega)).2
              rw [ipt] at he
              have he2 := sp_le hsp (show j - 1 < nN by omega)
              have hh3 := htF_le hsp hn (nN - (j - 1)) (j - 1) (Nat.le_refl _) (by omega)
              have hh4 := htF_eq hsp hn (k := j - 1) (by omega)
              rw [ipt] at hh4
              refine lv_aload_n E.1 E.2.1 dX8_measure_74 rfl (lv_at hl 0 rfl) ?_
              refine fw_get E hK hH t0 fc_X8 2 (by decide) ql_RX8_18 rfl rfl dX8_measure_75 ?_
              refine lv_iload_n E.1 E.2.1 dX8_measure_78 rfl (lv_at hl 1 rfl) ?_
              refine lv_iload_n E.1 E.2.1 dX8_measure_79 rfl (lv_at hl 3 rfl) ?_
              refine lv_iload_n E.1 E.2.1 dX8_measure_80 rfl (lv_at hl 1 rfl) ?_
              refine fw_isub E dX8_measure_81 ?_
              refine fw_cSN (As := [.ref (a + 3), .int (iI (↑j - 1)), .int (iI ((↑(chP sp (j - 1) pt)) - (↑j - 1)))]) (rest := []) E hK hH hl fL_X9_put ql_RX8_55 qs_yX9_put (k_put l G _ _ (a + 3) 40 (msF j nN sp ss) (↑j - 1) (j - 1) ((↑(chP sp (j - 1) pt)) - (↑j - 1)) t3 (by omega) (by omega) (by omega) (by omega)) rfl rfl (Nat.le_of_ble_eq_true rfl) ⟨Nat.le_of_ble_eq_true rfl, Nat.le_of_ble_eq_true rfl⟩ ⟨Nat.le_of_ble_eq_true rfl, Nat.le_of_ble_eq_true rfl⟩ dX8_measure_82 (fw_kv fun M20 H1 locs1 hp19 hH hz1 => ?_)
              obtain ⟨hM8, hz2⟩ := hp19
              have hfr : ∀ q, q ≠ a + 3 → M20 q = Mw36 q := fun q h => by rw [hM8]; exact fw_up_ne h
              have t3 : M20 (a + 3) = some (fI G 40 (fun j0 => iI ((zup (msF j nN sp ss) (j - 1) ((↑(chP sp (j - 1) pt)) - (↑j - 1))) j0))) := by rw [hM8]; exact fw_up_eq
              replace hz := hz2.trans hz
              clear hz1 hz2
              have fr21 := hfr
              replace t0 : M20 a = some (.inr (8, [.ref (a + 1), .ref (a + 2), .ref (a + 3), .ref (a + 4), .int (iI (↑nN : Int)), .int (iI lv)])) := (fr21 _ (by omega)).trans t0
              replace t1 : M20 (a + 1) = some (fI G 40 (fun j0 => iI (cs j0))) := (fr21 _ (by omega)).trans t1
              replace t2 : M20 (a + 2) = some (fI G 40 (fun j0 => iI (vs j0))) := (fr21 _ (by omega)).trans t2
              replace t4 : M20 (a + 4) = some (fI G 40 (fun j0 => iI ((msF j nN (htF cs sp) hs) j0))) := (fr21 _ (by omega)).trans t4
              refine lv_aload_n E.1 E.2.1 dX8_measure_85 rfl (lv_at hl 0 rfl) ?_
              refine fw_get E hK hH t0 fc_X8 3 (by decide) ql_RX8_21 rfl rfl dX8_measure_86 ?_
              refine lv_iload_n E.1 E.2.1 dX8_measure_89 rfl (lv_at hl 1 rfl) ?_
              refine lv_iload E.1 E.2.1 dX8_measure_90 (lv_at hl 4 rfl) ?_
              refine lv_iconst (v := iI 1) E.1 E.2.1 dX8_measure_92 (by decide) ?_
              refine fw_iadd E dX8_measure_93 ?_
              refine fw_cSN (As := [.ref (a + 4), .int (iI (↑j - 1)), .int (iI ((↑(mxU (fun i => htF cs sp (chP sp (j - 1) i)) pt)) + 1))]) (rest := []) E hK hH hl fL_X9_put ql_RX8_55 qs_yX9_put (k_put l G _ _ (a + 4) 40 (msF j nN (htF cs sp) hs) (↑j - 1) (j - 1) ((↑(mxU (fun i => htF cs sp (chP sp (j - 1) i)) pt)) + 1) t4 (by omega) (by omega) (by omega) (by omega)) rfl rfl (Nat.le_of_ble_eq_true rfl) ⟨Nat.le_of_ble_eq_true rfl, Nat.le_of_ble_eq_true rfl⟩ ⟨Nat.le_of_ble_eq_true rfl, Nat.le_of_ble_eq_true rfl⟩ dX8_measure_94 (fw_kv fun M23 H1 locs1 hp22 hH hz1 => ?_)
              obtain ⟨hM8, hz2⟩ := hp22
              have hfr : ∀ q, q ≠ a + 4 → M23 q = M20 q := fun q h => by rw [hM8]; exact fw_up_ne h
              have t4 : M23 (a + 4) = some (fI G 40 (fun j0 => iI ((zup (msF j nN (htF cs sp) hs) (j - 1) ((↑(mxU (fun i => htF cs sp (chP sp (j - 1) i)) pt)) + 1)) j0))) := by rw [hM8]; exact fw_up_eq
              replace hz := hz2.trans hz
              clear hz1 hz2
              have fr24 := hfr
              replace t0 : M23 a = some (.inr (8, [.ref (a + 1), .ref (a + 2), .ref (a + 3), .ref (a + 4), .int (iI (↑nN : Int)), .int (iI lv)])) := (fr24 _ (by omega)).trans t0
              replace t1 : M23 (a + 1) = some (fI G 40 (fun j0 => iI (cs j0))) := (fr24 _ (by omega)).trans t1
              replace t2 : M23 (a + 2) = some (fI G 40 (fun j0 => iI (vs j0))) := (fr24 _ (by omega)).trans t2
              replace t3 : M23 (a + 3) = some (fI G 40 (fun j0 => iI ((zup (msF j nN sp ss) (j - 1) ((↑(chP sp (j - 1) pt)) - (↑j - 1))) j0))) := (fr24 _ (by omega)).trans t3
              refine lv_iinc (v := iI (↑(j - 1) - 1)) (lv' := [(1, .int (iI (↑(j - 1) - 1))), (0, .ref a), (2, .int (iI (↑(arN (cs (j - 1)))))), (3, .int (iI (↑(chP sp (j - 1) pt)))), (4, .int (iI (↑(mxU (fun i => htF cs sp (chP sp (j - 1) i)) pt)))), (5, .int (iI ↑pt))]) E.1 E.2.1 dX8_measure_97 hl (k := 1) rfl (iI_inc (congrArg iI (by omega))) (by decide) rfl (fun ls hl => ?_)
              refine lv_goto (tgt := 7) E.1 E.2.1 dX8_measure_100 (by decide) ?_
              exact ih7 (j - 1) _ _ _ _ (by omega) (by omega) (fun q hq => by rw [fr24 q (by omega), fr21 q (by omega)]; exact hfr0 q hq) hH (by omega) t0 t1 t2 (by have e := msF_step (ss := ss) (f := sp) (n := nN) (j := j) (v := (↑(chP sp (j - 1) pt)) - (↑j - 1)) (by omega) ij (by omega); rw [e] at t3; exact t3) (by have e := msF_step (ss := hs) (f := htF cs sp) (n := nN) (j := j) (v := (↑(mxU (fun i => htF cs sp (chP sp (j - 1) i)) pt)) + 1) (by omega) ij (by omega); rw [e] at t4; exact t4) (lv_sub hl [1, 0] rfl)
            · have hx := (hsp (j - 1) (by omega)).1 pt (by omega)
              have hg := chP_gt sp (j - 1) pt
              have hh1 := htF_le hsp hn (nN - chP sp (j - 1) pt) (chP sp (j - 1) pt) (Nat.le_refl _) hx
              have hh2 := sp_le hsp hx
              have hm := mxU_le (u := (fun i => htF cs sp (chP sp (j - 1) i))) (b := 40) pt (fun i hi => by have h1 := (hsp (j - 1) (by omega)).1 i (by omega); have := htF_le hsp hn (nN - chP sp (j - 1) i) (chP sp (j - 1) i) (Nat.le_refl _) h1; omega)
              refine lv_iload E.1 E.2.1 dX8_measure_42 (lv_at hl 4 rfl) ?_
              refine lv_aload_n E.1 E.2.1 dX8_measure_44 rfl (lv_at hl 0 rfl) ?_
              refine fw_get E hK hH t0 fc_X8 3 (by decide) ql_RX8_21 rfl rfl dX8_measure_45 ?_
              refine lv_iload_n E.1 E.2.1 dX8_measure_48 rfl (lv_at hl 3 rfl) ?_
              refine fw_cSN (As := [.ref (a + 4), .int (iI (↑(chP sp (j - 1) pt)))]) (rest := [.int (iI (↑(mxU (fun i => htF cs sp (chP sp (j - 1) i)) pt)))]) E hK hH hl fL_X9_at ql_RX8_24 qs_yX9_at (k_at l G _ _ (a + 4) 40 (msF j nN (htF cs sp) hs) (↑(chP sp (j - 1) pt)) (chP sp (j - 1) pt) t4 (by omega) (by omega) (by omega)) rfl rfl (Nat.le_of_ble_eq_true rfl) ⟨Nat.le_of_ble_eq_true rfl, Nat.le_of_ble_eq_true rfl⟩ ⟨Nat.le_of_ble_eq_true rfl, Nat.le_of_ble_eq_true rfl⟩ dX8_measure_49 (fw_ki fun r27 M26 H1 locs1 hp25 hH hz1 => ?_)
              obtain ⟨rfl, hM9, hz2⟩ := hp25
              refine fw_cv (y := iI (↑(htF cs sp (chP sp (j - 1) pt)))) (congrArg iI (msF_in (lo := j) (n := nN) (k := chP sp (j - 1) pt) (by omega) hx)) ?_
              replace hz := hz2.trans hz
              clear hz1 hz2
              rw [hM9] at hH
              refine fw_max (a := (↑(mxU (fun i => htF cs sp (chP sp (j - 1) i)) pt))) (b := (↑(htF cs sp (chP sp (j - 1) pt)))) E ql_RX8_80 hl (by omega) (by omega) (by omega) (by omega) ⟨by decide, by decide⟩ ⟨by show _ ≤ (0 : Nat); omega, by show _ ≤ (0 : Nat); omega⟩ dX8_measure_52 qs_J9_max qn_J9 qc_J9_max ?_
              refine fw_cv (y := iI (↑(mxU (fun i => htF cs sp (chP sp (j - 1) i)) (pt + 1)))) (congrArg iI (by show _ = ((max (mxU (fun i => htF cs sp (chP sp (j - 1) i)) pt) (htF cs sp (chP sp (j - 1) pt)) : Nat) : Int); omega)) ?_
              refine lv_istore (lv' := [(4, .int (iI (↑(mxU (fun i => htF cs sp (chP sp (j - 1) i)) (pt + 1))))), (0, .ref a), (1, .int (iI (↑j - 1))), (2, .int (iI (↑(arN (cs (j - 1)))))), (3, .int (iI (↑(chP sp (j - 1) pt)))), (5, .int (iI ↑pt))]) E.1 E.2.1 dX8_measure_55 hl (by decide) rfl (fun ls hl => ?_)
              refine lv_iload_n E.1 E.2.1 dX8_measure_57 rfl (lv_at hl 4 rfl) ?_
              refine lv_aload_n E.1 E.2.1 dX8_measure_58 rfl (lv_at hl 1 rfl) ?_
              refine fw_get E hK hH t0 fc_X8 2 (by decide) ql_RX8_18 rfl rfl dX8_measure_59 ?_
              refine lv_iload_n E.1 E.2.1 dX8_measure_62 rfl (lv_at hl 4 rfl) ?_
              refine fw_cSN (As := [.ref (a + 3), .int (iI (↑(chP sp (j - 1) pt)))]) (rest := [.int (iI (↑(chP sp (j - 1) pt)))]) E hK hH hl fL_X9_at ql_RX8_24 qs_yX9_at (k_at l G _ _ (a + 3) 40 (msF j nN sp ss) (↑(chP sp (j - 1) pt)) (chP sp (j - 1) pt) t3 (by omega) (by omega) (by omega)) rfl rfl (Nat.le_of_ble_eq_true rfl) ⟨Nat.le_of_ble_eq_true rfl, Nat.le_of_ble_eq_true rfl⟩ ⟨Nat.le_of_ble_eq_true rfl, Nat.le_of_ble_eq_true rfl⟩ dX8_measure_63 (fw_ki fun r30 M29 H1 locs1 hp28 hH hz1 => ?_)
              obtain ⟨rfl, hM9, hz2⟩ := hp28
              refine fw_cv (y := iI (↑(sp (chP sp (j - 1) pt)))) (congrArg iI (msF_in (lo := j) (n := nN) (k := chP sp (j - 1) pt) (by omega) hx)) ?_
              replace hz := hz2.trans hz
              clear hz1 hz2
              rw [hM9] at hH
              refine fw_iadd E dX8_measure_66 ?_
              refine fw_cv (y := iI (↑(chP sp (j - 1) (pt + 1)))) (congrArg iI (by show _ = ((chP sp (j - 1) pt + sp (chP sp (j - 1) pt) : Nat) : Int); omega)) ?_
              refine lv_istore_n (lv' := [(3, .int (iI (↑(chP sp (j - 1) (pt + 1))))), (4, .int (iI (↑(mxU (fun i => htF cs sp (chP sp (j - 1) i)) (pt + 1))))), (0, .ref a), (1, .int (iI (↑j - 1))), (2, .int (iI (↑(arN (cs (j - 1)))))), (5, .int (iI ↑pt))]) E.1 E.2.1 dX8_measure_67 rfl hl (by decide) rfl (fun ls hl => ?_)
              refine lv_iinc (v := iI (↑pt + 1)) (lv' := [(5, .int (iI (↑pt + 1))), (3, .int (iI (↑(chP sp (j - 1) (pt + 1))))), (4, .int (iI (↑(mxU (fun i => htF cs sp (chP sp (j - 1) i)) (pt + 1))))), (0, .ref a), (1, .int (iI (↑j - 1))), (2, .int (iI (↑(arN (cs (j - 1))))))]) E.1 E.2.1 dX8_measure_68 hl (k := 5) rfl (iI_inc rfl) (by decide) rfl (fun ls hl => ?_)
              refine lv_goto (tgt := 36) E.1 E.2.1 dX8_measure_71 (by decide) ?_
              exact ih36 (pt + 1) _ _ _ _ (by omega) (by omega) hfr0 hH (by omega) t0 t1 t2 t3 t4 (lv_sub hl [3, 4, 5, 1, 2, 0] rfl)
        exact loop36_2 (arN (cs (j - 1)) - 0 + 1) 0 _ _ _ _ (Nat.lt_succ_self _) (Nat.zero_le _) hfr0 hH (by omega) t0 t1 t2 t3 t4 (lv_sub hl [4, 5, 3, 2, 1, 0] rfl)
  exact loop7_1 (nN + 1) nN _ _ _ _ (Nat.lt_succ_self _) (Nat.le_refl _) (fun _ _ => rfl) hH (by omega) t0 t1 t2 (by rw [msF_nn]; exact t3) (by rw [msF_nn]; exact t4) (lv_sub hl [1, 0] rfl)
end
section
theorem spOK_congr {n : Nat} {C D : Nat → Int} {sp : Nat → Nat} (h : ∀ k, k < n → D k = C k) (hs : spOK n C sp) : spOK n D sp := fun k hk => by
  rw [h k hk]
  exact hs k hk
theorem htF_congr {n : Nat} {C D : Nat → Int} {sp : Nat → Nat} (h : ∀ k, k < n → D k = C k) (hs : spOK n C sp) (hn : n ≤ 40) : ∀ d k, n - k ≤ d → k < n → htF D sp k = htF C sp k := by
  intro d
  induction d with
  | zero => intro k h1 h2; omega
  | succ d ih =>
    intro k h1 h2
    rw [htF_eq hs hn h2, htF_eq (spOK_congr h hs) hn h2, h k h2]
    exact congrArg (fun y => 1 + y) (mxU_congr _ (fun i hi => by
      have h4 := (hs k h2).1 i hi
      have h5 := chP_gt sp k i
      exact ih _ (by omega) h4))
theorem lvF_congr {n : Nat} {C D : Nat → Int} {sp : Nat → Nat} (h : ∀ k, k < n → D k = C k) (hs : spOK n C sp) (hn : n ≤ 40) : lvF n D sp = lvF n C sp := by
  unfold lvF
  by_cases h0 : n = 0
  · rw [if_pos h0, if_pos h0]
  · rw [if_neg h0, if_neg h0]
    exact htF_congr h hs hn (n - 0) 0 (Nat.le_refl _) (by omega)
/-- a TREE of the bench: its object at a holds n nodes -/
def tw (G : fw_G) (M : fw_M) (a n : Nat) (C V : Nat → Int) (sp : Nat → Nat) : Prop := ∃ cs vs ss hs : Nat → Int, trAt G M a cs vs ss hs ↑n ↑(lvF n C sp) ∧ (∀ k, k < n → cs k = C k ∧ vs k = V k ∧ ss k = ↑(sp k)) ∧ ∀ k, 0 ≤ ss k ∧ ss k ≤ 40
theorem tw.fr {G : fw_G} {M M1 : fw_M} {a n : Nat} {C V : Nat → Int} {sp : Nat → Nat} (h : tw G M a n C V sp) (hf : ∀ q, a ≤ q → q < a + 5 → M1 q = M q) : tw G M1 a n C V sp := by
  obtain ⟨cs, vs, ss, hs, h1, h2, h3⟩ := h
  exact ⟨cs, vs, ss, hs, h1.fr hf, h2, h3⟩
/-- a TREE whatever it holds -/
def tany (G : fw_G) (M : fw_M) (a : Nat) : Prop := ∃ (cs vs ss hs : Nat → Int) (n lv : Int), trAt G M a cs vs ss hs n lv ∧ ∀ k, 0 ≤ ss k ∧ ss k ≤ 40
theorem tany.fr {G : fw_G} {M M1 : fw_M} {a : Nat} (h : tany G M a) (hf : ∀ q, a ≤ q → q < a + 5 → M1 q = M q) : tany G M1 a := by
  obtain ⟨cs, vs, ss, hs, n, lv, h1, h2⟩ := h
  exact ⟨cs, vs, ss, hs, n, lv, h1.fr hf, h2⟩
theorem tw.any {G : fw_G} {M : fw_M} {a n : Nat} {C V : Nat → Int} {sp : Nat → Nat} (h : tw G M a n C V sp) : tany G M a := by
  obtain ⟨cs, vs, ss, hs, h1, h2, h3⟩ := h
  exact ⟨cs, vs, ss, hs, _, _, h1, h3⟩
theorem tw_of {G : fw_G} {M : fw_M} {a n : Nat} {C V cs vs ss hs : Nat → Int} {sp : Nat → Nat} (hT : trAt G M a cs vs (msF 0 n sp ss) hs ↑n ↑(lvF n cs sp)) (hsp : spOK n C sp) (hn : n ≤ 40) (hag : ∀ k, k < n → cs k = C k ∧ vs k = V k) (hbd : ∀ k, 0 ≤ ss k ∧ ss k ≤ 40) : tw G M a n C V sp := by
  refine ⟨cs, vs, msF 0 n sp ss, hs, ?_, fun k hk => ⟨(hag k hk).1, (hag k hk).2, msF_in (Nat.zero_le k) hk⟩, fun k => ?_⟩
  · rw [← lvF_congr (fun k hk => (hag k hk).1) hsp hn]; exact hT
  · unfold msF
    by_cases h : 0 ≤ k ∧ k < n
    · rw [if_pos h]
      have := sp_le hsp h.2
      omega
    · rw [if_neg h]; exact hbd k
theorem nd_w {x v : Int} (h : ndOK x v) : (if x ≤ 1 then v else 0) = v := by
  obtain ⟨-, -, -, h4⟩ := h
  split
  · rfl
  · exact (h4 (by omega)).symm
def cgF (s d m : Nat) (f : Nat → Int) : Nat → Int := fun k => if s ≤ k ∧ k < m then f (k + d) else f k
theorem cgF_0 (s d : Nat) (f : Nat → Int) : cgF s d s f = f := by
  funext k
  unfold cgF
  rw [if_neg (by omega)]
theorem cgF_at {s d m k : Nat} {f : Nat → Int} (h : m ≤ k) : cgF s d m f k = f k := by
  unfold cgF
  rw [if_neg (by omega)]
theorem cgF_step {s d i : Nat} (h : s + d ≤ i) (f : Nat → Int) : zup (cgF s d (i - d) f) (i - d) (f i) = cgF s d (i + 1 - d) f := by
  funext k
  unfold cgF zup
  by_cases h1 : k = i - d
  · rw [if_pos h1, if_pos (by omega), show k + d = i by omega]
  · rw [if_neg h1]
    show (if s ≤ k ∧ k < i - d then f (k + d) else f k) = _
    by_cases h2 : s ≤ k ∧ k < i - d
    · rw [if_pos h2, if_pos (by omega)]
    · rw [if_neg h2, if_neg (by omega)]
def kpF (p q i : Nat) (f : Nat → Int) : Nat → Int := fun k => if p ≤ k ∧ k < p + i then f (q + (k - p)) else f k
theorem kpF_0 (p q : Nat) (f : Nat → Int) : kpF p q 0 f = f := by
  funext k
  unfold kpF
  rw [if_neg (by omega)]
theorem kpF_at {p q i : Nat} (h : p ≤ q) (f : Nat → Int) : kpF p q i f (q + i) = f (q + i) := by
  unfold kpF
  rw [if_neg (by omega)]
theorem kpF_step (p q i : Nat) (f : Nat → Int) : zup (kpF p q i f) (p + i) (f (q + i)) = kpF p q (i + 1) f := by
  funext k
  unfold kpF zup
  by_cases h1 : k = p + i
  · rw [if_pos h1, if_pos (by omega), show q + (k - p) = q + i by omega]
  · rw [if_neg h1]
    show (if p ≤ k ∧ k < p + i then f (q + (k - p)) else f k) = _
    by_cases h2 : p ≤ k ∧ k < p + i
    · rw [if_pos h2, if_pos (by omega)]
    · rw [if_neg h2, if_neg (by omega)]
theorem k_copyFrom (l : Launch) (G : fw_G) (M : fw_M) (N : Nat) (a o n : Nat) (C V : Nat → Int) (sp : Nat → Nat) (hA : tany G M a) (hO : tw G M o n C V sp) (hv : vtOK n C V sp) (hao : a + 5 ≤ o ∨ o + 5 ≤ a) : fMet l yX8_copyFrom cX8_copyFrom 2 none 2 80 0 0 G M N [.ref a, .ref o] (fw_pv (fun M1 n1 => tw G M1 a n C V sp ∧ (∀ q, q < a ∨ a + 5 ≤ q → M1 q = M q) ∧ n1 = N)) := by
  refine fw_met RX8 rfl (by decide +kernel) (Nat.le_of_ble_eq_true rfl) ?_
  intro pG e s m args below meth cG ls E hr hlk hnm hK hH hz hl
  obtain ⟨cs, vs, ss, hs, n0, lv, hT, hbd⟩ := hA
  obtain ⟨cs2, vs2, ss2, hs2, hO2, hag, hbd2⟩ := hO
  obtain ⟨⟨hn0, hn1⟩, -, -, hsp, -, hnd⟩ := hv
  obtain ⟨hb9, t0, t1, t2, t3, t4⟩ := hT
  refine lv_aload_n E.1 E.2.1 dX8_copyFrom_0 rfl (lv_at hl 0 rfl) ?_
  refine lv_iconst (v := iI 0) E.1 E.2.1 dX8_copyFrom_1 (by decide) ?_
  refine fw_put E hK hH (by omega) t0 fc_X8 4 (by decide) ql_RX8_41 rfl rfl rfl rfl (Nat.le_of_ble_eq_true rfl) dX8_copyFrom_2 (fun H1 locs1 hH hz1 => ?_)
  replace hz := hz1.trans hz; clear hz1
  obtain ⟨M1, hM2⟩ : ∃ MX, MX = fw_up M a (.inr (8, [.ref (a + 1), .ref (a + 2), .ref (a + 3), .ref (a + 4), .int (iI 0), .int (iI lv)])) := ⟨_, rfl⟩
  replace hH := fw_H.nm hM2 hH
  have fr3 : ∀ q, q ≠ a → M1 q = M q := fun q h => by rw [hM2]; exact fw_up_ne h
  replace hO2 := trAt.fr hO2 (fun q h1 h2 => fr3 q (by omega))
  replace t1 : M1 (a + 1) = some (fI G 40 (fun j0 => iI (cs j0))) := (fr3 _ (by omega)).trans t1
  replace t2 : M1 (a + 2) = some (fI G 40 (fun j0 => iI (vs j0))) := (fr3 _ (by omega)).trans t2
  replace t3 : M1 (a + 3) = some (fI G 40 (fun j0 => iI (ss j0))) := (fr3 _ (by omega)).trans t3
  replace t4 : M1 (a + 4) = some (fI G 40 (fun j0 => iI (hs j0))) := (fr3 _ (by omega)).trans t4
  have t0 : M1 a = some (.inr (8, [.ref (a + 1), .ref (a + 2), .ref (a + 3), .ref (a + 4), .int (iI 0), .int (iI lv)])) := by rw [hM2]; exact fw_up_eq
  have hTp : trAt G M1 a cs vs ss hs 0 lv := ⟨hb9, t0, t1, t2, t3, t4⟩
  refine lv_aload_n E.1 E.2.1 dX8_copyFrom_5 rfl (lv_at hl 0 rfl) ?_
  refine lv_aload_n E.1 E.2.1 dX8_copyFrom_6 rfl (lv_at hl 1 rfl) ?_
  refine lv_iconst (v := iI 0) E.1 E.2.1 dX8_copyFrom_7 (by decide) ?_
  refine lv_aload_n E.1 E.2.1 dX8_copyFrom_8 rfl (lv_at hl 1 rfl) ?_
  refine fw_get E hK hH hO2.2.1 fc_X8 4 (by decide) ql_RX8_41 rfl rfl dX8_copyFrom_9 ?_
  refine fw_cV (As := [.ref o, .int (iI 0), .int (iI ((↑n : Int)))]) (rest := []) E hK hH hl hTp.2.1 fc_X8 fL_X8_appendFrom ql_RX8_63 qi_yX8_appendFrom qv_yX8_appendFrom (k_appendFrom l G _ _ a o cs vs ss hs lv cs2 vs2 ss2 hs2 (↑n : Int) (↑(lvF n C sp) : Int) 0 0 n hTp hO2 (by omega) (by omega) (by omega) (by omega)) rfl rfl (Nat.le_of_ble_eq_true rfl) ⟨Nat.le_of_ble_eq_true rfl, Nat.le_of_ble_eq_true rfl⟩ ⟨Nat.le_of_ble_eq_true rfl, Nat.le_of_ble_eq_true rfl⟩ dX8_copyFrom_12 (fw_kv fun M5 H1 locs1 hp4 hH hz1 => ?_)
  obtain ⟨hT26, hfr, hz2⟩ := hp4
  replace hz := hz2.trans hz
  clear hz1 hz2
  have fr6 := hfr
  replace hO2 := trAt.fr hO2 (fun q h1 h2 => fr6 q (by omega))
  refine lv_aload_n E.1 E.2.1 dX8_copyFrom_15 rfl (lv_at hl 0 rfl) ?_
  refine fw_cV (As := []) (rest := []) E hK hH hl hT26.2.1 fc_X8 fL_X8_measure ql_RX8_67 qi_yX8_measure qv_yX8_measure (k_measure l G _ _ a (apF 0 (n - 0) 0 cs cs2) (apF 0 (n - 0) 0 vs vs2) ss hs lv (0 + (n - 0)) sp hT26 (by omega) (by simp only [Nat.sub_zero, Nat.zero_add]; exact spOK_congr (fun k hk => by have := apF_in (n := 0) (len := n) (s := 0) (f := cs) (g := cs2) hk; simp only [Nat.zero_add] at this; rw [this]; exact (hag k hk).1) hsp) (fun k hk => by simp only [Nat.sub_zero, Nat.zero_add] at hk ⊢; have := apF_in (n := 0) (len := n) (s := 0) (f := cs) (g := cs2) hk; simp only [Nat.zero_add] at this; rw [this, (hag k hk).1]; exact (hnd k hk).1)) rfl rfl (Nat.le_of_ble_eq_true rfl) ⟨Nat.le_of_ble_eq_true rfl, Nat.le_of_ble_eq_true rfl⟩ ⟨Nat.le_of_ble_eq_true rfl, Nat.le_of_ble_eq_true rfl⟩ dX8_copyFrom_16 (fw_kv fun M8 H1 locs1 hp7 hH hz1 => ?_)
  obtain ⟨hT33, hfr, hz2⟩ := hp7
  replace hz := hz2.trans hz
  clear hz1 hz2
  have fr9 := hfr
  replace hO2 := trAt.fr hO2 (fun q h1 h2 => fr9 q (by omega))
  refine fw_vret E hr hlk hH ?_ dX8_copyFrom_19
  simp only [Nat.sub_zero, Nat.zero_add] at hT33
  exact ⟨tw_of hT33 hsp hn1 (fun k hk => by have e1 := apF_in (n := 0) (len := n) (s := 0) (f := cs) (g := cs2) hk; have e2 := apF_in (n := 0) (len := n) (s := 0) (f := vs) (g := vs2) hk; simp only [Nat.zero_add] at e1 e2; rw [e1, e2]; exact ⟨(hag k hk).1, (hag k hk).2.1⟩) hbd, (fun q hq => by rw [fr9 q (by omega), fr6 q (by omega), fr3 q (by omega)]), hz⟩
theorem k_write (l : Launch) (G : fw_G) (M : fw_M) (N : Nat) (a : Nat) (cs vs ss hs : Nat → Int) (n lv : Int) (z : Int) (k : Nat) (x v : Int) (hT : trAt G M a cs vs ss hs n lv) (hzk : z = ↑k) (hk : k < 40) (hx : -2147483648 ≤ x ∧ x < 2147483648) (hv : -2147483648 ≤ v ∧ v < 2147483648) : fMet l yX8_write cX8_write 4 none 1 30 0 0 G M N [.ref a, .int (iI z), .int (iI x), .int (iI v)] (fw_pv (fun M1 n1 => trAt G M1 a (zup cs k x) (zup vs k (if x ≤ 1 then v else 0)) ss hs n lv ∧ (∀ q, q < a ∨ a + 5 ≤ q → M1 q = M q) ∧ n1 = N)) := by
  refine fw_met RX8 rfl (by decide +kernel) (Nat.le_of_ble_eq_true rfl) ?_
  intro pG e s m args below meth cG ls E hr hlk hnm hK hH hz hl
  obtain ⟨hb, t0, t1, t2, t3, t4⟩ := hT
  refine lv_aload_n E.1 E.2.1 dX8_write_0 rfl (lv_at hl 0 rfl) ?_
  refine fw_get E hK hH t0 fc_X8 0 (by decide) ql_RX8_9 rfl rfl dX8_write_1 ?_
  refine lv_iload_n E.1 E.2.1 dX8_write_4 rfl (lv_at hl 1 rfl) ?_
  refine lv_iload_n E.1 E.2.1 dX8_write_5 rfl (lv_at hl 2 rfl) ?_
  refine fw_cSN (As := [.ref (a + 1), .int (iI z), .int (iI x)]) (rest := []) E hK hH hl fL_X9_put ql_RX8_55 qs_yX9_put (k_put l G _ _ (a + 1) 40 cs z k x t1 (by omega) (by omega) (by omega) (by omega)) rfl rfl (Nat.le_of_ble_eq_true rfl) ⟨Nat.le_of_ble_eq_true rfl, Nat.le_of_ble_eq_true rfl⟩ ⟨Nat.le_of_ble_eq_true rfl, Nat.le_of_ble_eq_true rfl⟩ dX8_write_6 (fw_kv fun M2 H1 locs1 hp1 hH hz1 => ?_)
  obtain ⟨hM8, hz2⟩ := hp1
  have hfr : ∀ q, q ≠ a + 1 → M2 q = M q := fun q h => by rw [hM8]; exact fw_up_ne h
  have t1 : M2 (a + 1) = some (fI G 40 (fun j0 => iI ((zup cs k x) j0))) := by rw [hM8]; exact fw_up_eq
  replace hz := hz2.trans hz
  clear hz1 hz2
  have fr3 := hfr
  replace t0 : M2 a = some (.inr (8, [.ref (a + 1), .ref (a + 2), .ref (a + 3), .ref (a + 4), .int (iI n), .int (iI lv)])) := (fr3 _ (by omega)).trans t0
  replace t2 : M2 (a + 2) = some (fI G 40 (fun j0 => iI (vs j0))) := (fr3 _ (by omega)).trans t2
  replace t3 : M2 (a + 3) = some (fI G 40 (fun j0 => iI (ss j0))) := (fr3 _ (by omega)).trans t3
  replace t4 : M2 (a + 4) = some (fI G 40 (fun j0 => iI (hs j0))) := (fr3 _ (by omega)).trans t4
  refine lv_aload_n E.1 E.2.1 dX8_write_9 rfl (lv_at hl 0 rfl) ?_
  refine fw_get E hK hH t0 fc_X8 1 (by decide) ql_RX8_15 rfl rfl dX8_write_10 ?_
  refine lv_iload_n E.1 E.2.1 dX8_write_13 rfl (lv_at hl 1 rfl) ?_
  refine lv_iload_n E.1 E.2.1 dX8_write_14 rfl (lv_at hl 2 rfl) ?_
  refine lv_iconst (v := iI 1) E.1 E.2.1 dX8_write_15 (by decide) ?_
  refine fw_icmp_gt (tgt := 23) E dX8_write_16 (by decide) (by omega) (by omega) (by omega) (by omega) (fun c4 => ?_) (fun c4 => ?_)
  · refine lv_iconst (v := iI 0) E.1 E.2.1 dX8_write_23 (by decide) ?_
    refine fw_cSN (As := [.ref (a + 2), .int (iI z), .int (iI 0)]) (rest := []) E hK hH hl fL_X9_put ql_RX8_55 qs_yX9_put (k_put l G _ _ (a + 2) 40 vs z k 0 t2 (by omega) (by omega) (by omega) (by omega)) rfl rfl (Nat.le_of_ble_eq_true rfl) ⟨Nat.le_of_ble_eq_true rfl, Nat.le_of_ble_eq_true rfl⟩ ⟨Nat.le_of_ble_eq_true rfl, Nat.le_of_ble_eq_true rfl⟩ dX8_write_24 (fw_kv fun M6 H1 locs1 hp5 hH hz1 => ?_)
    obtain ⟨hM8, hz2⟩ := hp5
    have hfr : ∀ q, q ≠ a + 2 → M6 q = M2 q := fun q h => by rw [hM8]; exact fw_up_ne h
    have t2 : M6 (a + 2) = some (fI G 40 (fun j0 => iI ((zup vs k 0) j0))) := by rw [hM8]; exact fw_up_eq
    replace hz := hz2.trans hz
    clear hz1 hz2
    have fr7 := hfr
    replace t0 : M6 a = some (.inr (8, [.ref (a + 1), .ref (a + 2), .ref (a + 3), .ref (a + 4), .int (iI n), .int (iI lv)])) := (fr7 _ (by omega)).trans t0
    replace t3 : M6 (a + 3) = some (fI G 40 (fun j0 => iI (ss j0))) := (fr7 _ (by omega)).trans t3
    replace t4 : M6 (a + 4) = some (fI G 40 (fun j0 => iI (hs j0))) := (fr7 _ (by omega)).trans t4
    replace t1 : M6 (a + 1) = some (fI G 40 (fun j0 => iI ((zup cs k x) j0))) := (fr7 _ (by omega)).trans t1
    refine fw_vret E hr hlk hH ?_ dX8_write_27
    exact ⟨⟨hb, t0, t1, by rw [if_neg (by omega)]; exact t2, t3, t4⟩, (fun q hq => by rw [fr7 q (by omega), fr3 q (by omega)]), hz⟩
  · refine lv_iload_n E.1 E.2.1 dX8_write_19 rfl (lv_at hl 3 rfl) ?_
    refine lv_goto (tgt := 24) E.1 E.2.1 dX8_write_20 (by decide) ?_
    refine fw_cSN (As := [.ref (a + 2), .int (iI z), .int (iI v)]) (rest := []) E hK hH hl fL_X9_put ql_RX8_55 qs_yX9_put (k_put l G _ _ (a + 2) 40 vs z k v t2 (by omega) (by omega) (by omega) (by omega)) rfl rfl (Nat.le_of_ble_eq_true rfl) ⟨Nat.le_of_ble_eq_true rfl, Nat.le_of_ble_eq_true rfl⟩ ⟨Nat.le_of_ble_eq_true rfl, Nat.le_of_ble_eq_true rfl⟩ dX8_write_24 (fw_kv fun M9 H1 locs1 hp8 hH hz1 => ?_)
    obtain ⟨hM8, hz2⟩ := hp8
    have hfr : ∀ q, q ≠ a + 2 → M9 q = M2 q := fun q h => by rw [hM8]; exact fw_up_ne h
    have t2 : M9 (a + 2) = some (fI G 40 (fun j0 => iI ((zup vs k v) j0))) := by rw [hM8]; exact fw_up_eq
    replace hz := hz2.trans hz
    clear hz1 hz2
    have fr10 := hfr
    replace t0 : M9 a = some (.inr (8, [.ref (a + 1), .ref (a + 2), .ref (a + 3), .ref (a + 4), .int (iI n), .int (iI lv)])) := (fr10 _ (by omega)).trans t0
    replace t3 : M9 (a + 3) = some (fI G 40 (fun j0 => iI (ss j0))) := (fr10 _ (by omega)).trans t3
    replace t4 : M9 (a + 4) = some (fI G 40 (fun j0 => iI (hs j0))) := (fr10 _ (by omega)).trans t4
    replace t1 : M9 (a + 1) = some (fI G 40 (fun j0 => iI ((zup cs k x) j0))) := (fr10 _ (by omega)).trans t1
    refine fw_vret E hr hlk hH ?_ dX8_write_27
    exact ⟨⟨hb, t0, t1, by rw [if_pos (by omega)]; exact t2, t3, t4⟩, (fun q hq => by rw [fr10 q (by omega), fr3 q (by omega)]), hz⟩
theorem k_closeGap (l : Launch) (G : fw_G) (M : fw_M) (N : Nat) (a : Nat) (cs vs ss hs : Nat → Int) (lv : Int) (nN sN eN : Nat) (hT : trAt G M a cs vs ss hs ↑nN lv) (h1 : sN ≤ eN) (h2 : eN ≤ nN) (h3 : nN ≤ 40) : fMet l yX8_closeGap cX8_closeGap 5 none 1 40 0 0 G M N [.ref a, .int (iI ↑sN), .int (iI ↑eN)] (fw_pv (fun M1 n1 => trAt G M1 a (cgF sN (eN - sN) (nN - (eN - sN)) cs) (cgF sN (eN - sN) (nN - (eN - sN)) vs) ss hs ↑(nN - (eN - sN)) lv ∧ (∀ q, q < a ∨ a + 5 ≤ q → M1 q = M q) ∧ n1 = N)) := by
  refine fw_met RX8 rfl (by decide +kernel) (Nat.le_of_ble_eq_true rfl) ?_
  intro pG e s m args below meth cG ls E hr hlk hnm hK hH hz hl
  obtain ⟨hb, t0, t1, t2, t3, t4⟩ := hT
  refine lv_iload_n E.1 E.2.1 dX8_closeGap_0 rfl (lv_at hl 2 rfl) ?_
  refine lv_iload_n E.1 E.2.1 dX8_closeGap_1 rfl (lv_at hl 1 rfl) ?_
  refine fw_isub E dX8_closeGap_2 ?_
  refine lv_istore_n (lv' := [(3, .int (iI ((↑eN) - (↑sN)))), (0, .ref a), (1, .int (iI ↑sN)), (2, .int (iI ↑eN))]) E.1 E.2.1 dX8_closeGap_3 rfl hl (by decide) rfl (fun ls hl => ?_)
  refine lv_iload_n E.1 E.2.1 dX8_closeGap_4 rfl (lv_at hl 3 rfl) ?_
  refine lv_istore (lv' := [(4, .int (iI ↑eN)), (3, .int (iI ((↑eN) - (↑sN)))), (0, .ref a), (1, .int (iI ↑sN)), (2, .int (iI ↑eN))]) E.1 E.2.1 dX8_closeGap_5 hl (by decide) rfl (fun ls hl => ?_)
  have loop7_1 : ∀ (d7 : Nat) (i : Nat) (Mw7 : fw_M) (H : Heap) (locs : List Loc) (ls : Array Slot), nN - i < d7 → eN ≤ i → i ≤ nN → (∀ q, q < a ∨ a + 5 ≤ q → Mw7 q = M q) → fw_H G s Mw7 H locs → H.size = N → Mw7 a = some (.inr (8, [.ref (a + 1), .ref (a + 2), .ref (a + 3), .ref (a + 4), .int (iI (↑nN : Int)), .int (iI lv)])) → Mw7 (a + 1) = some (fI G 40 (fun j0 => iI ((cgF sN (eN - sN) (i - (eN - sN)) cs) j0))) → Mw7 (a + 2) = some (fI G 40 (fun j0 => iI ((cgF sN (eN - sN) (i - (eN - sN)) vs) j0))) → Mw7 (a + 3) = some (fI G 40 (fun j0 => iI (ss j0))) → Mw7 (a + 4) = some (fI G 40 (fun j0 => iI (hs j0))) → lv_has ls 5 [(0, .ref a), (1, .int (iI ↑sN)), (2, .int (iI ↑eN)), (3, .int (iI (↑eN - ↑sN))), (4, .int (iI ↑i))] → W pG l e ({ frames := 1, cells := 0, slots := 0, locals := 40 } : Room) s m args below meth cG H locs (0) (0) (MQ below (fw_Q G (fw_pv (fun M1 n1 => trAt G M1 a (cgF sN (eN - sN) (nN - (eN - sN)) cs) (cgF sN (eN - sN) (nN - (eN - sN)) vs) ss hs ↑(nN - (eN - sN)) lv ∧ (∀ q, q < a ∨ a + 5 ≤ q → M1 q = M q) ∧ n1 = N))) args s 0 0 (fun q => G.2.2.1 ≤ q)) (F0 m 7 ls []) := by
    intro d7
    induction d7 with
    | zero => intro i Mw7 H locs ls hd; exact absurd hd (Nat.not_lt_zero _)
    | succ d7 ih7 =>
      intro i Mw7 H locs ls hd7 i1 i2 hfr0 hH hz t0 t1 t2 t3 t4 hl
      refine lv_iload E.1 E.2.1 dX8_closeGap_7 (lv_at hl 4 rfl) ?_
      refine lv_aload_n E.1 E.2.1 dX8_closeGap_9 rfl (lv_at hl 0 rfl) ?_
      refine fw_get E hK hH t0 fc_X8 4 (by decide) ql_RX8_41 rfl rfl dX8_closeGap_10 ?_
      refine fw_icmp_ge (tgt := 62) E dX8_closeGap_13 (by decide) (by omega) (by omega) (by omega) (by omega) (fun c1 => ?_) (fun c1 => ?_)
      · refine lv_aload_n E.1 E.2.1 dX8_closeGap_62 rfl (lv_at hl 0 rfl) ?_
        refine lv_dup E.1 E.2.1 dX8_closeGap_63 rfl ?_
        refine fw_get E hK hH t0 fc_X8 4 (by decide) ql_RX8_41 rfl rfl dX8_closeGap_64 ?_
        refine lv_iload_n E.1 E.2.1 dX8_closeGap_67 rfl (lv_at hl 3 rfl) ?_
        refine fw_isub E dX8_closeGap_68 ?_
        refine fw_put E hK hH (by omega) t0 fc_X8 4 (by decide) ql_RX8_41 rfl rfl rfl rfl (Nat.le_of_ble_eq_true rfl) dX8_closeGap_69 (fun H1 locs1 hH hz1 => ?_)
        replace hz := hz1.trans hz; clear hz1
        obtain ⟨M2, hM3⟩ : ∃ MX, MX = fw_up Mw7 a (.inr (8, [.ref (a + 1), .ref (a + 2), .ref (a + 3), .ref (a + 4), .int (iI ((↑nN : Int) - (↑eN - ↑sN))), .int (iI lv)])) := ⟨_, rfl⟩
        replace hH := fw_H.nm hM3 hH
        have fr4 : ∀ q, q ≠ a → M2 q = Mw7 q := fun q h => by rw [hM3]; exact fw_up_ne h
        replace t1 : M2 (a + 1) = some (fI G 40 (fun j0 => iI ((cgF sN (eN - sN) (i - (eN - sN)) cs) j0))) := (fr4 _ (by omega)).trans t1
        replace t2 : M2 (a + 2) = some (fI G 40 (fun j0 => iI ((cgF sN (eN - sN) (i - (eN - sN)) vs) j0))) := (fr4 _ (by omega)).trans t2
        replace t3 : M2 (a + 3) = some (fI G 40 (fun j0 => iI (ss j0))) := (fr4 _ (by omega)).trans t3
        replace t4 : M2 (a + 4) = some (fI G 40 (fun j0 => iI (hs j0))) := (fr4 _ (by omega)).trans t4
        have t0 : M2 a = some (.inr (8, [.ref (a + 1), .ref (a + 2), .ref (a + 3), .ref (a + 4), .int (iI ((↑nN : Int) - (↑eN - ↑sN))), .int (iI lv)])) := by rw [hM3]; exact fw_up_eq
        refine fw_vret E hr hlk hH ?_ dX8_closeGap_72
        have e9 : i = nN := by omega
        subst e9
        exact ⟨⟨hb, by rw [show ((↑(i - (eN - sN)) : Int)) = ↑i - (↑eN - ↑sN) by omega]; exact t0, t1, t2, t3, t4⟩, (fun q hq => by rw [fr4 q (by omega)]; exact hfr0 q hq), hz⟩
      · refine lv_aload_n E.1 E.2.1 dX8_closeGap_16 rfl (lv_at hl 0 rfl) ?_
        refine fw_get E hK hH t0 fc_X8 0 (by decide) ql_RX8_9 rfl rfl dX8_closeGap_17 ?_
        refine lv_iload E.1 E.2.1 dX8_closeGap_20 (lv_at hl 4 rfl) ?_
        refine lv_iload_n E.1 E.2.1 dX8_closeGap_22 rfl (lv_at hl 3 rfl) ?_
        refine fw_isub E dX8_closeGap_23 ?_
        refine lv_aload_n E.1 E.2.1 dX8_closeGap_24 rfl (lv_at hl 0 rfl) ?_
        refine fw_get E hK hH t0 fc_X8 0 (by decide) ql_RX8_9 rfl rfl dX8_closeGap_25 ?_
        refine lv_iload E.1 E.2.1 dX8_closeGap_28 (lv_at hl 4 rfl) ?_
        refine fw_cSN (As := [.ref (a + 1), .int (iI ↑i)]) (rest := [.int (iI ((↑i) - (↑eN - ↑sN))), .ref (a + 1)]) E hK hH hl fL_X9_at ql_RX8_24 qs_yX9_at (k_at l G _ _ (a + 1) 40 (cgF sN (eN - sN) (i - (eN - sN)) cs) ↑i i t1 (by omega) (by omega) (by omega)) rfl rfl (Nat.le_of_ble_eq_true rfl) ⟨Nat.le_of_ble_eq_true rfl, Nat.le_of_ble_eq_true rfl⟩ ⟨Nat.le_of_ble_eq_true rfl, Nat.le_of_ble_eq_true rfl⟩ dX8_closeGap_30 (fw_ki fun r7 M6 H1 locs1 hp5 hH hz1 => ?_)
        obtain ⟨rfl, hM9, hz2⟩ := hp5
        refine fw_cv (y := iI (cs i)) (congrArg iI (cgF_at (by omega))) ?_
        replace hz := hz2.trans hz
        clear hz1 hz2
        rw [hM9] at hH
        refine fw_cSN (As := [.ref (a + 1), .int (iI ((↑i) - (↑eN - ↑sN))), .int (iI (cs i))]) (rest := []) E hK hH hl fL_X9_put ql_RX8_55 qs_yX9_put (k_put l G _ _ (a + 1) 40 (cgF sN (eN - sN) (i - (eN - sN)) cs) ((↑i) - (↑eN - ↑sN)) (i - (eN - sN)) (cs i) t1 (by omega) (by omega) (by omega) (by omega)) rfl rfl (Nat.le_of_ble_eq_true rfl) ⟨Nat.le_of_ble_eq_true rfl, Nat.le_of_ble_eq_true rfl⟩ ⟨Nat.le_of_ble_eq_true rfl, Nat.le_of_ble_eq_true rfl⟩ dX8_closeGap_33 (fw_kv fun M9 H1 locs1 hp8 hH hz1 => ?_)
        obtain ⟨hM8, hz2⟩ := hp8
        have hfr : ∀ q, q ≠ a + 1 → M9 q = Mw7 q := fun q h => by rw [hM8]; exact fw_up_ne h
        have t1 : M9 (a + 1) = some (fI G 40 (fun j0 => iI ((zup (cgF sN (eN - sN) (i - (eN - sN)) cs) (i - (eN - sN)) (cs i)) j0))) := by rw [hM8]; exact fw_up_eq
        replace hz := hz2.trans hz
        clear hz1 hz2
        have fr10 := hfr
        replace t0 : M9 a = some (.inr (8, [.ref (a + 1), .ref (a + 2), .ref (a + 3), .ref (a + 4), .int (iI (↑nN : Int)), .int (iI lv)])) := (fr10 _ (by omega)).trans t0
        replace t2 : M9 (a + 2) = some (fI G 40 (fun j0 => iI ((cgF sN (eN - sN) (i - (eN - sN)) vs) j0))) := (fr10 _ (by omega)).trans t2
        replace t3 : M9 (a + 3) = some (fI G 40 (fun j0 => iI (ss j0))) := (fr10 _ (by omega)).trans t3
        replace t4 : M9 (a + 4) = some (fI G 40 (fun j0 => iI (hs j0))) := (fr10 _ (by omega)).trans t4
        refine lv_aload_n E.1 E.2.1 dX8_closeGap_36 rfl (lv_at hl 0 rfl) ?_
        refine fw_get E hK hH t0 fc_X8 1 (by decide) ql_RX8_15 rfl rfl dX8_closeGap_37 ?_
        refine lv_iload E.1 E.2.1 dX8_closeGap_40 (lv_at hl 4 rfl) ?_
        refine lv_iload_n E.1 E.2.1 dX8_closeGap_42 rfl (lv_at hl 3 rfl) ?_
        refine fw_isub E dX8_closeGap_43 ?_
        refine lv_aload_n E.1 E.2.1 dX8_closeGap_44 rfl (lv_at hl 0 rfl) ?_
        refine fw_get E hK hH t0 fc_X8 1 (by decide) ql_RX8_15 rfl rfl dX8_closeGap_45 ?_
        refine lv_iload E.1 E.2.1 dX8_closeGap_48 (lv_at hl 4 rfl) ?_
        refine fw_cSN (As := [.ref (a + 2), .int (iI ↑i)]) (rest := [.int (iI ((↑i) - (↑eN - ↑sN))), .ref (a + 2)]) E hK hH hl fL_X9_at ql_RX8_24 qs_yX9_at (k_at l G _ _ (a + 2) 40 (cgF sN (eN - sN) (i - (eN - sN)) vs) ↑i i t2 (by omega) (by omega) (by omega)) rfl rfl (Nat.le_of_ble_eq_true rfl) ⟨Nat.le_of_ble_eq_true rfl, Nat.le_of_ble_eq_true rfl⟩ ⟨Nat.le_of_ble_eq_true rfl, Nat.le_of_ble_eq_true rfl⟩ dX8_closeGap_50 (fw_ki fun r13 M12 H1 locs1 hp11 hH hz1 => ?_)
        obtain ⟨rfl, hM9, hz2⟩ := hp11
        refine fw_cv (y := iI (vs i)) (congrArg iI (cgF_at (by omega))) ?_
        replace hz := hz2.trans hz
        clear hz1 hz2
        rw [hM9] at hH
        refine fw_cSN (As := [.ref (a + 2), .int (iI ((↑i) - (↑eN - ↑sN))), .int (iI (vs i))]) (rest := []) E hK hH hl fL_X9_put ql_RX8_55 qs_yX9_put (k_put l G _ _ (a + 2) 40 (cgF sN (eN - sN) (i - (eN - sN)) vs) ((↑i) - (↑eN - ↑sN)) (i - (eN - sN)) (vs i) t2 (by omega) (by omega) (by omega) (by omega)) rfl rfl (Nat.le_of_ble_eq_true rfl) ⟨Nat.le_of_ble_eq_true rfl, Nat.le_of_ble_eq_true rfl⟩ ⟨Nat.le_of_ble_eq_true rfl, Nat.le_of_ble_eq_true rfl⟩ dX8_closeGap_53 (fw_kv fun M15 H1 locs1 hp14 hH hz1 => ?_)
        obtain ⟨hM8, hz2⟩ := hp14
        have hfr : ∀ q, q ≠ a + 2 → M15 q = M9 q := fun q h => by rw [hM8]; exact fw_up_ne h
        have t2 : M15 (a + 2) = some (fI G 40 (fun j0 => iI ((zup (cgF sN (eN - sN) (i - (eN - sN)) vs) (i - (eN - sN)) (vs i)) j0))) := by rw [hM8]; exact fw_up_eq
        replace hz := hz2.trans hz
        clear hz1 hz2
        have fr16 := hfr
        replace t0 : M15 a = some (.inr (8, [.ref (a + 1), .ref (a + 2), .ref (a + 3), .ref (a + 4), .int (iI (↑nN : Int)), .int (iI lv)])) := (fr16 _ (by omega)).trans t0
        replace t3 : M15 (a + 3) = some (fI G 40 (fun j0 => iI (ss j0))) := (fr16 _ (by omega)).trans t3
        replace t4 : M15 (a + 4) = some (fI G 40 (fun j0 => iI (hs j0))) := (fr16 _ (by omega)).trans t4
        replace t1 : M15 (a + 1) = some (fI G 40 (fun j0 => iI ((zup (cgF sN (eN - sN) (i - (eN - sN)) cs) (i - (eN - sN)) (cs i)) j0))) := (fr16 _ (by omega)).trans t1
        refine lv_iinc (v := iI (↑i + 1)) (lv' := [(4, .int (iI (↑i + 1))), (0, .ref a), (1, .int (iI ↑sN)), (2, .int (iI ↑eN)), (3, .int (iI (↑eN - ↑sN)))]) E.1 E.2.1 dX8_closeGap_56 hl (k := 4) rfl (iI_inc rfl) (by decide) rfl (fun ls hl => ?_)
        refine lv_goto (tgt := 7) E.1 E.2.1 dX8_closeGap_59 (by decide) ?_
        exact ih7 (i + 1) _ _ _ _ (by omega) (by omega) (by omega) (fun q hq => by rw [fr16 q (by omega), fr10 q (by omega)]; exact hfr0 q hq) hH (by omega) t0 (by rw [← cgF_step (by omega)]; exact t1) (by rw [← cgF_step (by omega)]; exact t2) t3 t4 (lv_sub hl [1, 2, 3, 4, 0] rfl)
  exact loop7_1 (nN - eN + 1) eN _ _ _ _ (Nat.lt_succ_self _) (Nat.le_refl _) (by omega) (fun _ _ => rfl) hH (by omega) t0 (by rw [show eN - (eN - sN) = sN by omega, cgF_0]; exact t1) (by rw [show eN - (eN - sN) = sN by omega, cgF_0]; exact t2) t3 t4 (lv_sub hl [2, 3, 4, 1, 0] rfl)
end
section
theorem lvF_le {n : Nat} {C : Nat → Int} {sp : Nat → Nat} (h : spOK n C sp) (hn : n ≤ 40) : lvF n C sp ≤ n := by
  unfold lvF
  by_cases h0 : n = 0
  · rw [if_pos h0]; omega
  · rw [if_neg h0]
    exact htF_le h hn n 0 (by omega) (by omega)
theorem nd_b {x v : Int} (h : ndOK x v) : -99 ≤ v ∧ v ≤ 99 := by
  obtain ⟨h1, h2, h3, h4⟩ := h
  rcases (show x = 0 ∨ x = 1 ∨ 2 ≤ x by omega) with e | e | e
  · exact h2 e
  · have := h3 e; omega
  · have := h4 e; omega
theorem kp_rp {n p q s r k : Nat} {f F : Nat → Int} (h1 : p + s ≤ n) (h2 : q + r ≤ n) (h3 : r ≤ s) (hr : 0 < r) (hf : ∀ k, k < n → f k = F k) (hk : k < n - s + r) : cgF (p + r) (p + s - (p + r)) (n - s + r) (kpF p q r f) k = rpF p s r q F F k := by
  unfold cgF kpF rpF
  rcases Nat.lt_or_ge k p with g | g
  · rw [if_neg (by omega), if_neg (by omega), if_pos g]; exact hf k (by omega)
  · rcases Nat.lt_or_ge k (p + r) with g2 | g2
    · rw [if_neg (by omega), if_pos (by omega), if_neg (by omega), if_pos g2]; exact hf _ (by omega)
    · rw [if_pos (by omega), if_neg (by omega), if_neg (by omega), if_neg (by omega), show k + (p + s - (p + r)) = k - r + s by omega]; exact hf _ (by omega)
theorem mc_rp {n p s k : Nat} {f F : Nat → Int} {x : Int} (h1 : p + s ≤ n) (h3 : 1 ≤ s) (hf : ∀ k, k < n → f k = F k) (hk : k < n - s + 1) : cgF (p + 1) (p + s - (p + 1)) (n - s + 1) (zup f p x) k = rpF p s 1 0 F (fun _ => x) k := by
  unfold cgF zup rpF
  rcases Nat.lt_or_ge k p with g | g
  · rw [if_neg (by omega), if_neg (by omega), if_pos g]; exact hf k (by omega)
  · rcases Nat.lt_or_ge k (p + 1) with g2 | g2
    · rw [if_neg (by omega), if_pos (by omega), if_neg (by omega), if_pos g2]
    · rw [if_pos (by omega), if_neg (by omega), if_neg (by omega), if_neg (by omega), show k + (p + s - (p + 1)) = k - 1 + s by omega]; exact hf _ (by omega)
theorem bc_rp {n n2 p q s r k : Nat} {f g h F H : Nat → Int} (h1 : p + s ≤ n) (h2 : q + r ≤ n2) (hg : ∀ k, k < n → g k = F k) (hh : ∀ k, k < n2 → h k = H k) (hk : k < n - s + r) : apF (p + r) (n - (p + s)) (p + s) (apF p r q (apF 0 p 0 f g) h) g k = rpF p s r q F H k := by
  unfold apF rpF
  rcases Nat.lt_or_ge k p with c | c
  · rw [if_neg (by omega), if_neg (by omega), if_pos (by omega), if_pos c, show 0 + (k - 0) = k by omega]; exact hg k (by omega)
  · rcases Nat.lt_or_ge k (p + r) with c2 | c2
    · rw [if_neg (by omega), if_pos (by omega), if_neg (by omega), if_pos c2]; exact hh _ (by omega)
    · rw [if_pos (by omega), if_neg (by omega), if_neg (by omega), show p + s + (k - (p + r)) = k - r + s by omega]; exact hg _ (by omega)
theorem one_spOK : spOK 1 (fun _ => 0) (fun _ => 1) := by
  intro k hk
  have e : arN 0 = 0 := by decide
  show (∀ p, p < arN 0 → _) ∧ k + 1 = chP _ k (arN 0)
  rw [e]
  exact ⟨fun p hp => absurd hp (Nat.not_lt_zero p), rfl⟩
theorem one_vtOK {v : Int} (h : -99 ≤ v ∧ v ≤ 99) : vtOK 1 (fun _ => 0) (fun _ => v) (fun _ => 1) := by
  refine ⟨⟨by omega, by omega⟩, rfl, by decide, one_spOK, fun k hk p hp => ?_, fun k hk => ⟨by show (0 : Int) ≤ 0 ∧ (0 : Int) ≤ 13; omega, fun _ => h, fun e => absurd e (by show ¬ (0 : Int) = 1; omega), fun e => absurd e (by show ¬ 2 ≤ (0 : Int); omega)⟩⟩
  have e : arN 0 = 0 := by decide
  have hp2 : p < arN 0 := hp
  rw [e] at hp2
  exact absurd hp2 (Nat.not_lt_zero p)
theorem k_keepPart (l : Launch) (G : fw_G) (M : fw_M) (N : Nat) (a n p q : Nat) (C V : Nat → Int) (sp : Nat → Nat) (hA : tw G M a n C V sp) (hv : vtOK n C V sp) (hp : p < n) (hq : q < n) (hpq : p ≤ q) (hqs : q + sp q ≤ p + sp p) (hpt : C p ≤ 8 ↔ C q ≤ 8) : fMet l yX8_keepPart cX8_keepPart 6 none 2 80 0 0 G M N [.ref a, .int (iI ↑p), .int (iI ↑q)] (fw_pv (fun M1 n1 => tw G M1 a (n - sp p + sp q) (rpF p (sp p) (sp q) q C C) (rpF p (sp p) (sp q) q V V) (rpS p (sp p) (sp q) q sp sp) ∧ (∀ q, q < a ∨ a + 5 ≤ q → M1 q = M q) ∧ n1 = N)) := by
  refine fw_met RX8 rfl (by decide +kernel) (Nat.le_of_ble_eq_true rfl) ?_
  intro pG e s m args below meth cG ls E hr hlk hnm hK hH hz hl
  obtain ⟨cs, vs, ss, hs, hT, hag, hbd⟩ := hA
  obtain ⟨⟨hn0, hn1⟩, hs0, hc0, hsp, hty, hnd⟩ := id hv
  have hpe := sp_le hsp hp
  have hp1 := sp_pos hsp hp
  have hqe := sp_le hsp hq
  have hq1 := sp_pos hsp hq
  refine lv_aload_n E.1 E.2.1 dX8_keepPart_0 rfl (lv_at hl 0 rfl) ?_
  refine lv_iload_n E.1 E.2.1 dX8_keepPart_1 rfl (lv_at hl 1 rfl) ?_
  refine fw_cV (As := [.int (iI ↑p)]) (rest := []) E hK hH hl hT.2.1 fc_X8 fL_X8_behind ql_RX8_35 qi_yX8_behind qv_yX8_behind (k_behind l G _ _ a cs vs ss hs (↑n : Int) (↑(lvF n C sp) : Int) ↑p p hT (by omega) (by omega)) rfl rfl (Nat.le_of_ble_eq_true rfl) ⟨Nat.le_of_ble_eq_true rfl, Nat.le_of_ble_eq_true rfl⟩ ⟨Nat.le_of_ble_eq_true rfl, Nat.le_of_ble_eq_true rfl⟩ dX8_keepPart_2 (fw_ki fun r3 M2 H1 locs1 hp1 hH hz1 => ?_)
  obtain ⟨rfl, hM9, hz2⟩ := hp1
  replace hz := hz2.trans hz
  clear hz1 hz2
  rw [hM9] at hH
  refine fw_cv (y := iI (↑(p + sp p) : Int)) (congrArg iI (by rw [(hag p hp).2.2]; omega)) ?_
  refine lv_istore_n (lv' := [(3, .int (iI (↑(p + sp p) : Int))), (0, .ref a), (1, .int (iI ↑p)), (2, .int (iI ↑q))]) E.1 E.2.1 dX8_keepPart_5 rfl hl (by decide) rfl (fun ls hl => ?_)
  refine lv_aload_n E.1 E.2.1 dX8_keepPart_6 rfl (lv_at hl 1 rfl) ?_
  refine lv_iload_n E.1 E.2.1 dX8_keepPart_7 rfl (lv_at hl 3 rfl) ?_
  refine fw_cV (As := [.int (iI ↑q)]) (rest := []) E hK hH hl hT.2.1 fc_X8 fL_X8_span ql_RX8_38 qi_yX8_span qv_yX8_span (k_span l G _ _ a cs vs ss hs (↑n : Int) (↑(lvF n C sp) : Int) ↑q q hT (by omega) (by omega)) rfl rfl (Nat.le_of_ble_eq_true rfl) ⟨Nat.le_of_ble_eq_true rfl, Nat.le_of_ble_eq_true rfl⟩ ⟨Nat.le_of_ble_eq_true rfl, Nat.le_of_ble_eq_true rfl⟩ dX8_keepPart_8 (fw_ki fun r6 M5 H1 locs1 hp4 hH hz1 => ?_)
  obtain ⟨rfl, hM9, hz2⟩ := hp4
  replace hz := hz2.trans hz
  clear hz1 hz2
  rw [hM9] at hH
  refine fw_cv (y := iI (↑(sp q) : Int)) (congrArg iI (hag q hq).2.2) ?_
  refine lv_istore (lv' := [(4, .int (iI (↑(sp q) : Int))), (3, .int (iI (↑(p + sp p) : Int))), (0, .ref a), (1, .int (iI ↑p)), (2, .int (iI ↑q))]) E.1 E.2.1 dX8_keepPart_11 hl (by decide) rfl (fun ls hl => ?_)
  refine lv_iconst (v := iI 0) E.1 E.2.1 dX8_keepPart_13 (by decide) ?_
  refine lv_istore (lv' := [(5, .int (iI 0)), (4, .int (iI (↑(sp q) : Int))), (3, .int (iI (↑(p + sp p) : Int))), (0, .ref a), (1, .int (iI ↑p)), (2, .int (iI ↑q))]) E.1 E.2.1 dX8_keepPart_14 hl (by decide) rfl (fun ls hl => ?_)
  have loop16_1 : ∀ (d16 : Nat) (i : Nat) (Mw16 : fw_M) (H : Heap) (locs : List Loc) (ls : Array Slot), sp q - i < d16 → i ≤ sp q → (∀ q, q < a ∨ a + 5 ≤ q → Mw16 q = M q) → fw_H G s Mw16 H locs → H.size = N → trAt G Mw16 a (kpF p q i cs) (kpF p q i vs) ss hs (↑n : Int) (↑(lvF n C sp) : Int) → lv_has ls 6 [(0, .ref a), (1, .int (iI ↑p)), (2, .int (iI ↑q)), (3, .int (iI (↑(p + sp p) : Int))), (4, .int (iI (↑(sp q) : Int))), (5, .int (iI ↑i))] → W pG l e ({ frames := 2, cells := 0, slots := 0, locals := 80 } : Room) s m args below meth cG H locs (0) (0) (MQ below (fw_Q G (fw_pv (fun M1 n1 => tw G M1 a (n - sp p + sp q) (rpF p (sp p) (sp q) q C C) (rpF p (sp p) (sp q) q V V) (rpS p (sp p) (sp q) q sp sp) ∧ (∀ q, q < a ∨ a + 5 ≤ q → M1 q = M q) ∧ n1 = N))) args s 0 0 (fun q => G.2.2.1 ≤ q)) (F0 m 16 ls []) := by
    intro d16
    induction d16 with
    | zero => intro i Mw16 H locs ls hd; exact absurd hd (Nat.not_lt_zero _)
    | succ d16 ih16 =>
      intro i Mw16 H locs ls hd16 i1 hfr0 hH hz hT hl
      refine lv_iload E.1 E.2.1 dX8_keepPart_16 (lv_at hl 5 rfl) ?_
      refine lv_iload E.1 E.2.1 dX8_keepPart_18 (lv_at hl 4 rfl) ?_
      refine fw_icmp_ge (tgt := 53) E dX8_keepPart_20 (by decide) (by omega) (by omega) (by omega) (by omega) (fun c7 => ?_) (fun c7 => ?_)
      · have e9 : i = sp q := by omega
        rw [e9] at hT
        refine lv_aload_n E.1 E.2.1 dX8_keepPart_53 rfl (lv_at hl 0 rfl) ?_
        refine lv_iload_n E.1 E.2.1 dX8_keepPart_54 rfl (lv_at hl 1 rfl) ?_
        refine lv_iload E.1 E.2.1 dX8_keepPart_55 (lv_at hl 4 rfl) ?_
        refine fw_iadd E dX8_keepPart_57 ?_
        refine fw_cv (y := iI (↑(p + sp q) : Int)) (congrArg iI (by omega)) ?_
        refine lv_iload_n E.1 E.2.1 dX8_keepPart_58 rfl (lv_at hl 3 rfl) ?_
        refine fw_cV (As := [.int (iI (↑(p + sp q) : Int)), .int (iI (↑(p + sp p) : Int))]) (rest := []) E hK hH hl hT.2.1 fc_X8 fL_X8_closeGap ql_RX8_70 qi_yX8_closeGap qv_yX8_closeGap (k_closeGap l G _ _ a (kpF p q (sp q) cs) (kpF p q (sp q) vs) ss hs (↑(lvF n C sp) : Int) n (p + sp q) (p + sp p) hT (by omega) (by omega) (by omega)) rfl rfl (Nat.le_of_ble_eq_true rfl) ⟨Nat.le_of_ble_eq_true rfl, Nat.le_of_ble_eq_true rfl⟩ ⟨Nat.le_of_ble_eq_true rfl, Nat.le_of_ble_eq_true rfl⟩ dX8_keepPart_59 (fw_kv fun M9 H1 locs1 hp8 hH hz1 => ?_)
        obtain ⟨hT46, hfr, hz2⟩ := hp8
        replace hz := hz2.trans hz
        clear hz1 hz2
        have fr10 := hfr
        rw [show n - (p + sp p - (p + sp q)) = n - sp p + sp q by omega] at hT46
        refine lv_aload_n E.1 E.2.1 dX8_keepPart_62 rfl (lv_at hl 0 rfl) ?_
        refine fw_cV (As := []) (rest := []) E hK hH hl hT46.2.1 fc_X8 fL_X8_measure ql_RX8_67 qi_yX8_measure qv_yX8_measure (k_measure l G _ _ a (cgF (p + sp q) (p + sp p - (p + sp q)) (n - sp p + sp q) (kpF p q (sp q) cs)) (cgF (p + sp q) (p + sp p - (p + sp q)) (n - sp p + sp q) (kpF p q (sp q) vs)) ss hs (↑(lvF n C sp) : Int) (n - sp p + sp q) (rpS p (sp p) (sp q) q sp sp) hT46 (by omega) (spOK_congr (fun k hk => kp_rp hpe hqe (by omega) hq1 (fun k hk => (hag k hk).1) hk) (rp_spOK hsp hp hsp hq)) (fun k hk => by rw [(fun k hk => kp_rp hpe hqe (by omega) hq1 (fun k hk => (hag k hk).1) hk) k hk]; exact ((rp_vtOK hv hp hv hq hpt (by omega)).2.2.2.2.2 k hk).1)) rfl rfl (Nat.le_of_ble_eq_true rfl) ⟨Nat.le_of_ble_eq_true rfl, Nat.le_of_ble_eq_true rfl⟩ ⟨Nat.le_of_ble_eq_true rfl, Nat.le_of_ble_eq_true rfl⟩ dX8_keepPart_63 (fw_kv fun M12 H1 locs1 hp11 hH hz1 => ?_)
        obtain ⟨hT53, hfr, hz2⟩ := hp11
        replace hz := hz2.trans hz
        clear hz1 hz2
        have fr13 := hfr
        refine fw_vret E hr hlk hH ?_ dX8_keepPart_66
        exact ⟨tw_of hT53 (rp_spOK hsp hp hsp hq) (by omega) (fun k hk => ⟨kp_rp hpe hqe (by omega) hq1 (fun k hk => (hag k hk).1) hk, kp_rp hpe hqe (by omega) hq1 (fun k hk => (hag k hk).2.1) hk⟩) hbd, (fun q hq => by rw [fr13 q (by omega), fr10 q (by omega)]; exact hfr0 q hq), hz⟩
      · have hqi : q + i < n := by omega
        have hni := hnd (q + i) hqi
        rw [← (hag (q + i) hqi).1, ← (hag (q + i) hqi).2.1] at hni
        have hnb := nd_b hni
        have hnc := hni.1
        refine lv_aload_n E.1 E.2.1 dX8_keepPart_23 rfl (lv_at hl 0 rfl) ?_
        refine lv_iload_n E.1 E.2.1 dX8_keepPart_24 rfl (lv_at hl 1 rfl) ?_
        refine lv_iload E.1 E.2.1 dX8_keepPart_25 (lv_at hl 5 rfl) ?_
        refine fw_iadd E dX8_keepPart_27 ?_
        refine lv_aload_n E.1 E.2.1 dX8_keepPart_28 rfl (lv_at hl 0 rfl) ?_
        refine lv_iload_n E.1 E.2.1 dX8_keepPart_29 rfl (lv_at hl 2 rfl) ?_
        refine lv_iload E.1 E.2.1 dX8_keepPart_30 (lv_at hl 5 rfl) ?_
        refine fw_iadd E dX8_keepPart_32 ?_
        refine fw_cV (As := [.int (iI ((↑q) + (↑i)))]) (rest := [.int (iI ((↑p) + (↑i))), .ref a]) E hK hH hl hT.2.1 fc_X8 fL_X8_code ql_RX8_28 qi_yX8_code qv_yX8_code (k_code l G _ _ a (kpF p q i cs) (kpF p q i vs) ss hs (↑n : Int) (↑(lvF n C sp) : Int) ((↑q) + (↑i)) (q + i) hT (by omega) (by omega)) rfl rfl (Nat.le_of_ble_eq_true rfl) ⟨Nat.le_of_ble_eq_true rfl, Nat.le_of_ble_eq_true rfl⟩ ⟨Nat.le_of_ble_eq_true rfl, Nat.le_of_ble_eq_true rfl⟩ dX8_keepPart_33 (fw_ki fun r16 M15 H1 locs1 hp14 hH hz1 => ?_)
        obtain ⟨rfl, hM9, hz2⟩ := hp14
        replace hz := hz2.trans hz
        clear hz1 hz2
        rw [hM9] at hH
        refine fw_cv (y := iI (cs (q + i))) (congrArg iI (kpF_at hpq cs)) ?_
        refine lv_aload_n E.1 E.2.1 dX8_keepPart_36 rfl (lv_at hl 0 rfl) ?_
        refine lv_iload_n E.1 E.2.1 dX8_keepPart_37 rfl (lv_at hl 2 rfl) ?_
        refine lv_iload E.1 E.2.1 dX8_keepPart_38 (lv_at hl 5 rfl) ?_
        refine fw_iadd E dX8_keepPart_40 ?_
        refine fw_cV (As := [.int (iI ((↑q) + (↑i)))]) (rest := [.int (iI (cs (q + i))), .int (iI ((↑p) + (↑i))), .ref a]) E hK hH hl hT.2.1 fc_X8 fL_X8_value ql_RX8_32 qi_yX8_value qv_yX8_value (k_value l G _ _ a (kpF p q i cs) (kpF p q i vs) ss hs (↑n : Int) (↑(lvF n C sp) : Int) ((↑q) + (↑i)) (q + i) hT (by omega) (by omega)) rfl rfl (Nat.le_of_ble_eq_true rfl) ⟨Nat.le_of_ble_eq_true rfl, Nat.le_of_ble_eq_true rfl⟩ ⟨Nat.le_of_ble_eq_true rfl, Nat.le_of_ble_eq_true rfl⟩ dX8_keepPart_41 (fw_ki fun r19 M18 H1 locs1 hp17 hH hz1 => ?_)
        obtain ⟨rfl, hM9, hz2⟩ := hp17
        replace hz := hz2.trans hz
        clear hz1 hz2
        rw [hM9] at hH
        refine fw_cv (y := iI (vs (q + i))) (congrArg iI (kpF_at hpq vs)) ?_
        refine fw_cV (As := [.int (iI ((↑p) + (↑i))), .int (iI (cs (q + i))), .int (iI (vs (q + i)))]) (rest := []) E hK hH hl hT.2.1 fc_X8 fL_X8_write ql_RX8_59 qi_yX8_write qv_yX8_write (k_write l G _ _ a (kpF p q i cs) (kpF p q i vs) ss hs (↑n : Int) (↑(lvF n C sp) : Int) ((↑p) + (↑i)) (p + i) (cs (q + i)) (vs (q + i)) hT (by omega) (by omega) (by omega) (by omega)) rfl rfl (Nat.le_of_ble_eq_true rfl) ⟨Nat.le_of_ble_eq_true rfl, Nat.le_of_ble_eq_true rfl⟩ ⟨Nat.le_of_ble_eq_true rfl, Nat.le_of_ble_eq_true rfl⟩ dX8_keepPart_44 (fw_kv fun M21 H1 locs1 hp20 hH hz1 => ?_)
        obtain ⟨hT89, hfr, hz2⟩ := hp20
        replace hz := hz2.trans hz
        clear hz1 hz2
        have fr22 := hfr
        refine lv_iinc (v := iI (↑i + 1)) (lv' := [(5, .int (iI (↑i + 1))), (0, .ref a), (1, .int (iI ↑p)), (2, .int (iI ↑q)), (3, .int (iI (↑(p + sp p) : Int))), (4, .int (iI (↑(sp q) : Int)))]) E.1 E.2.1 dX8_keepPart_47 hl (k := 5) rfl (iI_inc rfl) (by decide) rfl (fun ls hl => ?_)
        refine lv_goto (tgt := 16) E.1 E.2.1 dX8_keepPart_50 (by decide) ?_
        exact ih16 (i + 1) _ _ _ _ (by omega) (by omega) (fun q hq => by rw [fr22 q (by omega)]; exact hfr0 q hq) hH (by omega) (by rw [kpF_step, nd_w hni, kpF_step] at hT89; exact hT89) (lv_sub hl [1, 2, 3, 4, 5, 0] rfl)
  exact loop16_1 (sp q - 0 + 1) 0 _ _ _ _ (Nat.lt_succ_self _) (Nat.zero_le _) (fun _ _ => rfl) hH (by omega) (by rw [kpF_0, kpF_0]; exact hT) (lv_sub hl [3, 4, 5, 2, 1, 0] rfl)
theorem k_makeConstant (l : Launch) (G : fw_G) (M : fw_M) (N : Nat) (a n p : Nat) (v : Int) (C V : Nat → Int) (sp : Nat → Nat) (hA : tw G M a n C V sp) (hv : vtOK n C V sp) (hp : p < n) (hpt : C p ≤ 8) (hvv : -99 ≤ v ∧ v ≤ 99) : fMet l yX8_makeConstant cX8_makeConstant 4 none 2 80 0 0 G M N [.ref a, .int (iI ↑p), .int (iI v)] (fw_pv (fun M1 n1 => tw G M1 a (n - sp p + 1) (rpF p (sp p) 1 0 C (fun _ => 0)) (rpF p (sp p) 1 0 V (fun _ => v)) (rpS p (sp p) 1 0 sp (fun _ => 1)) ∧ (∀ q, q < a ∨ a + 5 ≤ q → M1 q = M q) ∧ n1 = N)) := by
  refine fw_met RX8 rfl (by decide +kernel) (Nat.le_of_ble_eq_true rfl) ?_
  intro pG e s m args below meth cG ls E hr hlk hnm hK hH hz hl
  obtain ⟨cs, vs, ss, hs, hT, hag, hbd⟩ := hA
  obtain ⟨⟨hn0, hn1⟩, hs0, hc0, hsp, hty, hnd⟩ := id hv
  have hpe := sp_le hsp hp
  have hp1 := sp_pos hsp hp
  refine lv_aload_n E.1 E.2.1 dX8_makeConstant_0 rfl (lv_at hl 0 rfl) ?_
  refine lv_iload_n E.1 E.2.1 dX8_makeConstant_1 rfl (lv_at hl 1 rfl) ?_
  refine fw_cV (As := [.int (iI ↑p)]) (rest := []) E hK hH hl hT.2.1 fc_X8 fL_X8_behind ql_RX8_35 qi_yX8_behind qv_yX8_behind (k_behind l G _ _ a cs vs ss hs (↑n : Int) (↑(lvF n C sp) : Int) ↑p p hT (by omega) (by omega)) rfl rfl (Nat.le_of_ble_eq_true rfl) ⟨Nat.le_of_ble_eq_true rfl, Nat.le_of_ble_eq_true rfl⟩ ⟨Nat.le_of_ble_eq_true rfl, Nat.le_of_ble_eq_true rfl⟩ dX8_makeConstant_2 (fw_ki fun r3 M2 H1 locs1 hp1 hH hz1 => ?_)
  obtain ⟨rfl, hM9, hz2⟩ := hp1
  replace hz := hz2.trans hz
  clear hz1 hz2
  rw [hM9] at hH
  refine fw_cv (y := iI (↑(p + sp p) : Int)) (congrArg iI (by rw [(hag p hp).2.2]; omega)) ?_
  refine lv_istore_n (lv' := [(3, .int (iI (↑(p + sp p) : Int))), (0, .ref a), (1, .int (iI ↑p)), (2, .int (iI v))]) E.1 E.2.1 dX8_makeConstant_5 rfl hl (by decide) rfl (fun ls hl => ?_)
  refine lv_aload_n E.1 E.2.1 dX8_makeConstant_6 rfl (lv_at hl 1 rfl) ?_
  refine lv_iload_n E.1 E.2.1 dX8_makeConstant_7 rfl (lv_at hl 2 rfl) ?_
  refine lv_iconst (v := iI 0) E.1 E.2.1 dX8_makeConstant_8 (by decide) ?_
  refine lv_iload_n E.1 E.2.1 dX8_makeConstant_9 rfl (lv_at hl 3 rfl) ?_
  refine fw_cV (As := [.int (iI ↑p), .int (iI 0), .int (iI v)]) (rest := []) E hK hH hl hT.2.1 fc_X8 fL_X8_write ql_RX8_59 qi_yX8_write qv_yX8_write (k_write l G _ _ a cs vs ss hs (↑n : Int) (↑(lvF n C sp) : Int) ↑p p 0 v hT (by omega) (by omega) (by omega) (by omega)) rfl rfl (Nat.le_of_ble_eq_true rfl) ⟨Nat.le_of_ble_eq_true rfl, Nat.le_of_ble_eq_true rfl⟩ ⟨Nat.le_of_ble_eq_true rfl, Nat.le_of_ble_eq_true rfl⟩ dX8_makeConstant_10 (fw_kv fun M5 H1 locs1 hp4 hH hz1 => ?_)
  obtain ⟨hT20, hfr, hz2⟩ := hp4
  replace hz := hz2.trans hz
  clear hz1 hz2
  have fr6 := hfr
  refine lv_aload_n E.1 E.2.1 dX8_makeConstant_13 rfl (lv_at hl 1 rfl) ?_
  refine lv_iload_n E.1 E.2.1 dX8_makeConstant_14 rfl (lv_at hl 2 rfl) ?_
  refine lv_iconst (v := iI 1) E.1 E.2.1 dX8_makeConstant_15 (by decide) ?_
  refine fw_iadd E dX8_makeConstant_16 ?_
  refine fw_cv (y := iI (↑(p + 1) : Int)) (congrArg iI (by omega)) ?_
  refine lv_iload_n E.1 E.2.1 dX8_makeConstant_17 rfl (lv_at hl 0 rfl) ?_
  refine fw_cV (As := [.int (iI (↑(p + 1) : Int)), .int (iI (↑(p + sp p) : Int))]) (rest := []) E hK hH hl hT20.2.1 fc_X8 fL_X8_closeGap ql_RX8_70 qi_yX8_closeGap qv_yX8_closeGap (k_closeGap l G _ _ a (zup cs p 0) (zup vs p (if 0 ≤ 1 then v else 0)) ss hs (↑(lvF n C sp) : Int) n (p + 1) (p + sp p) hT20 (by omega) (by omega) (by omega)) rfl rfl (Nat.le_of_ble_eq_true rfl) ⟨Nat.le_of_ble_eq_true rfl, Nat.le_of_ble_eq_true rfl⟩ ⟨Nat.le_of_ble_eq_true rfl, Nat.le_of_ble_eq_true rfl⟩ dX8_makeConstant_18 (fw_kv fun M8 H1 locs1 hp7 hH hz1 => ?_)
  obtain ⟨hT31, hfr, hz2⟩ := hp7
  replace hz := hz2.trans hz
  clear hz1 hz2
  have fr9 := hfr
  rw [show n - (p + sp p - (p + 1)) = n - sp p + 1 by omega] at hT31
  refine lv_aload_n E.1 E.2.1 dX8_makeConstant_21 rfl (lv_at hl 1 rfl) ?_
  refine fw_cV (As := []) (rest := []) E hK hH hl hT31.2.1 fc_X8 fL_X8_measure ql_RX8_67 qi_yX8_measure qv_yX8_measure (k_measure l G _ _ a (cgF (p + 1) (p + sp p - (p + 1)) (n - sp p + 1) (zup cs p 0)) (cgF (p + 1) (p + sp p - (p + 1)) (n - sp p + 1) (zup vs p (if 0 ≤ 1 then v else 0))) ss hs (↑(lvF n C sp) : Int) (n - sp p + 1) (rpS p (sp p) 1 0 sp (fun _ => 1)) hT31 (by omega) (spOK_congr (fun k hk => mc_rp hpe hp1 (fun k hk => (hag k hk).1) hk) (rp_spOK hsp hp one_spOK (show 0 < 1 by omega))) (fun k hk => by rw [(fun k hk => mc_rp hpe hp1 (fun k hk => (hag k hk).1) hk) k hk]; exact ((rp_vtOK hv hp (one_vtOK hvv) (show 0 < 1 by omega) (by omega) (by show n - sp p + 1 ≤ 40; omega)).2.2.2.2.2 k hk).1)) rfl rfl (Nat.le_of_ble_eq_true rfl) ⟨Nat.le_of_ble_eq_true rfl, Nat.le_of_ble_eq_true rfl⟩ ⟨Nat.le_of_ble_eq_true rfl, Nat.le_of_ble_eq_true rfl⟩ dX8_makeConstant_22 (fw_kv fun M11 H1 locs1 hp10 hH hz1 => ?_)
  obtain ⟨hT38, hfr, hz2⟩ := hp10
  replace hz := hz2.trans hz
  clear hz1 hz2
  have fr12 := hfr
  refine fw_vret E hr hlk hH ?_ dX8_makeConstant_25
  exact ⟨tw_of hT38 (rp_spOK hsp hp one_spOK (show 0 < 1 by omega)) (by omega) (fun k hk => ⟨mc_rp hpe hp1 (fun k hk => (hag k hk).1) hk, mc_rp hpe hp1 (fun k hk => (hag k hk).2.1) hk⟩) hbd, (fun q hq => by rw [fr12 q (by omega), fr9 q (by omega), fr6 q (by omega)]), hz⟩
set_option maxHeartbeats 4000000 in
theorem k_becomeCrossed (l : Launch) (G : fw_G) (M : fw_M) (N : Nat) (a f o n p n2 q : Nat) (C V : Nat → Int) (sp : Nat → Nat) (C2 V2 : Nat → Int) (sp2 : Nat → Nat) (hA : tany G M a) (hF : tw G M f n C V sp) (hO : tw G M o n2 C2 V2 sp2) (hv : vtOK n C V sp) (hv2 : vtOK n2 C2 V2 sp2) (hp : p < n) (hq : q < n2) (haf : a + 5 ≤ f ∨ f + 5 ≤ a) (hao : a + 5 ≤ o ∨ o + 5 ≤ a) : fMet l yX8_becomeCrossed cX8_becomeCrossed 6 (some .boolean) 2 80 0 0 G M N [.ref a, .ref f, .int (iI ↑p), .ref o, .int (iI ↑q)] (fw_pi (fun r M1 n1 => ∃ b : Int, r = iI b ∧ ((¬ ((C p ≤ 8 ↔ C2 q ≤ 8) ∧ n - sp p + sp2 q ≤ 40) ∧ b = 0 ∧ M1 = M) ∨ (((C p ≤ 8 ↔ C2 q ≤ 8) ∧ n - sp p + sp2 q ≤ 40) ∧ tw G M1 a (n - sp p + sp2 q) (rpF p (sp p) (sp2 q) q C C2) (rpF p (sp p) (sp2 q) q V V2) (rpS p (sp p) (sp2 q) q sp sp2) ∧ ((b = 1 ∧ lvF (n - sp p + sp2 q) (rpF p (sp p) (sp2 q) q C C2) (rpS p (sp p) (sp2 q) q sp sp2) ≤ 8) ∨ (b = 0 ∧ 8 < lvF (n - sp p + sp2 q) (rpF p (sp p) (sp2 q) q C C2) (rpS p (sp p) (sp2 q) q sp sp2))))) ∧ (∀ q, q < a ∨ a + 5 ≤ q → M1 q = M q) ∧ n1 = N)) := by
  refine fw_met RX8 rfl (by decide +kernel) (Nat.le_of_ble_eq_true rfl) ?_
  intro pG e s m args below meth cG ls E hr hlk hnm hK hH hz hl
  obtain ⟨cs, vs, ss, hs, n0, lv, hT, hbd⟩ := hA
  obtain ⟨cs1, vs1, ss1, hs1, hT1, hag1, hbd1⟩ := hF
  obtain ⟨cs2, vs2, ss2, hs2, hT2, hag2, hbd2⟩ := hO
  obtain ⟨⟨hn0, hn1⟩, hs0, hc0, hsp, hty, hnd⟩ := id hv
  obtain ⟨⟨hm0, hm1⟩, hs02, hc02, hsp2, hty2, hnd2⟩ := id hv2
  have hpe := sp_le hsp hp
  have hp1 := sp_pos hsp hp
  have hqe := sp_le hsp2 hq
  have hq1 := sp_pos hsp2 hq
  have hcp := (hag1 p hp).1
  have hcq := (hag2 q hq).1
  have hndp := (hnd p hp).1
  have hndq := (hnd2 q hq).1
  refine lv_aload_n E.1 E.2.1 dX8_becomeCrossed_0 rfl (lv_at hl 1 rfl) ?_
  refine fw_get E hK hH hT1.2.1 fc_X8 4 (by decide) ql_RX8_41 rfl rfl dX8_becomeCrossed_1 ?_
  refine lv_aload_n E.1 E.2.1 dX8_becomeCrossed_4 rfl (lv_at hl 1 rfl) ?_
  refine lv_iload_n E.1 E.2.1 dX8_becomeCrossed_5 rfl (lv_at hl 2 rfl) ?_
  refine fw_cV (As := [.int (iI ↑p)]) (rest := [.int (iI ((↑n : Int)))]) E hK hH hl hT1.2.1 fc_X8 fL_X8_span ql_RX8_38 qi_yX8_span qv_yX8_span (k_span l G _ _ f cs1 vs1 ss1 hs1 (↑n : Int) (↑(lvF n C sp) : Int) ↑p p hT1 (by omega) (by omega)) rfl rfl (Nat.le_of_ble_eq_true rfl) ⟨Nat.le_of_ble_eq_true rfl, Nat.le_of_ble_eq_true rfl⟩ ⟨Nat.le_of_ble_eq_true rfl, Nat.le_of_ble_eq_true rfl⟩ dX8_becomeCrossed_6 (fw_ki fun r3 M2 H1 locs1 hp1 hH hz1 => ?_)
  obtain ⟨rfl, hM9, hz2⟩ := hp1
  replace hz := hz2.trans hz
  clear hz1 hz2
  rw [hM9] at hH
  refine fw_cv (y := iI (↑(sp p) : Int)) (congrArg iI (hag1 p hp).2.2) ?_
  refine fw_isub E dX8_becomeCrossed_9 ?_
  refine lv_aload_n E.1 E.2.1 dX8_becomeCrossed_10 rfl (lv_at hl 3 rfl) ?_
  refine lv_iload E.1 E.2.1 dX8_becomeCrossed_11 (lv_at hl 4 rfl) ?_
  refine fw_cV (As := [.int (iI ↑q)]) (rest := [.int (iI ((↑n : Int) - (↑(sp p) : Int)))]) E hK hH hl hT2.2.1 fc_X8 fL_X8_span ql_RX8_38 qi_yX8_span qv_yX8_span (k_span l G _ _ o cs2 vs2 ss2 hs2 (↑n2 : Int) (↑(lvF n2 C2 sp2) : Int) ↑q q hT2 (by omega) (by omega)) rfl rfl (Nat.le_of_ble_eq_true rfl) ⟨Nat.le_of_ble_eq_true rfl, Nat.le_of_ble_eq_true rfl⟩ ⟨Nat.le_of_ble_eq_true rfl, Nat.le_of_ble_eq_true rfl⟩ dX8_becomeCrossed_13 (fw_ki fun r6 M5 H1 locs1 hp4 hH hz1 => ?_)
  obtain ⟨rfl, hM9, hz2⟩ := hp4
  replace hz := hz2.trans hz
  clear hz1 hz2
  rw [hM9] at hH
  refine fw_cv (y := iI (↑(sp2 q) : Int)) (congrArg iI (hag2 q hq).2.2) ?_
  refine fw_iadd E dX8_becomeCrossed_16 ?_
  refine lv_istore (lv' := [(5, .int (iI (((↑n : Int) - (↑(sp p) : Int)) + (↑(sp2 q) : Int)))), (0, .ref a), (1, .ref f), (2, .int (iI ↑p)), (3, .ref o), (4, .int (iI ↑q))]) E.1 E.2.1 dX8_becomeCrossed_17 hl (by decide) rfl (fun ls hl => ?_)
  refine lv_aload_n E.1 E.2.1 dX8_becomeCrossed_19 rfl (lv_at hl 2 rfl) ?_
  refine lv_iload_n E.1 E.2.1 dX8_becomeCrossed_20 rfl (lv_at hl 3 rfl) ?_
  refine fw_cV (As := [.int (iI ↑p)]) (rest := []) E hK hH hl hT1.2.1 fc_X8 fL_X8_isNumber ql_RX8_51 qi_yX8_isNumber qv_yX8_isNumber (k_isNumber l G _ _ f cs1 vs1 ss1 hs1 (↑n : Int) (↑(lvF n C sp) : Int) ↑p p hT1 (by omega) (by omega) (by omega)) rfl rfl (Nat.le_of_ble_eq_true rfl) ⟨Nat.le_of_ble_eq_true rfl, Nat.le_of_ble_eq_true rfl⟩ ⟨Nat.le_of_ble_eq_true rfl, Nat.le_of_ble_eq_true rfl⟩ dX8_becomeCrossed_21 (fw_ki fun r10 M9 H1 locs1 hp8 hH hz1 => ?_)
  obtain ⟨rfl, hM9, hz2⟩ := hp8
  obtain ⟨b7, hb7⟩ : ∃ y, y = (if cs1 p ≤ 8 then (1 : Int) else 0) := ⟨_, rfl⟩
  refine fw_cv (y := iI b7) (by rw [hb7]) ?_
  replace hb7 : (b7 = 1 ∧ cs1 p ≤ 8) ∨ (b7 = 0 ∧ 8 < cs1 p) := by rw [hb7]; split <;> omega
  replace hz := hz2.trans hz
  clear hz1 hz2
  rw [hM9] at hH
  refine lv_aload_n E.1 E.2.1 dX8_becomeCrossed_24 rfl (lv_at hl 4 rfl) ?_
  refine lv_iload E.1 E.2.1 dX8_becomeCrossed_25 (lv_at hl 5 rfl) ?_
  refine fw_cV (As := [.int (iI ↑q)]) (rest := [.int (iI b7)]) E hK hH hl hT2.2.1 fc_X8 fL_X8_isNumber ql_RX8_51 qi_yX8_isNumber qv_yX8_isNumber (k_isNumber l G _ _ o cs2 vs2 ss2 hs2 (↑n2 : Int) (↑(lvF n2 C2 sp2) : Int) ↑q q hT2 (by omega) (by omega) (by omega)) rfl rfl (Nat.le_of_ble_eq_true rfl) ⟨Nat.le_of_ble_eq_true rfl, Nat.le_of_ble_eq_true rfl⟩ ⟨Nat.le_of_ble_eq_true rfl, Nat.le_of_ble_eq_true rfl⟩ dX8_becomeCrossed_27 (fw_ki fun r14 M13 H1 locs1 hp12 hH hz1 => ?_)
  obtain ⟨rfl, hM9, hz2⟩ := hp12
  obtain ⟨b11, hb11⟩ : ∃ y, y = (if cs2 q ≤ 8 then (1 : Int) else 0) := ⟨_, rfl⟩
  refine fw_cv (y := iI b11) (by rw [hb11]) ?_
  replace hb11 : (b11 = 1 ∧ cs2 q ≤ 8) ∨ (b11 = 0 ∧ 8 < cs2 q) := by rw [hb11]; split <;> omega
  replace hz := hz2.trans hz
  clear hz1 hz2
  rw [hM9] at hH
  refine fw_icmp_ne (tgt := 40) E dX8_becomeCrossed_30 (by decide) (by omega) (by omega) (by omega) (by omega) (fun c15 => ?_) (fun c15 => ?_)
  · refine lv_iconst (v := iI 0) E.1 E.2.1 dX8_becomeCrossed_40 (by decide) ?_
    refine fw_zret (r := (iI 0)) E hr hlk hH (by rfl) ?_ dX8_becomeCrossed_41
    exact ⟨0, rfl, Or.inl ⟨by omega, rfl, rfl⟩, (fun _ _ => rfl), hz⟩
  · refine lv_iload E.1 E.2.1 dX8_becomeCrossed_33 (lv_at hl 0 rfl) ?_
    refine lv_bipush (v := iI 40) E.1 E.2.1 dX8_becomeCrossed_35 (by decide) ?_
    refine fw_icmp_le (tgt := 42) E dX8_becomeCrossed_37 (by decide) (by omega) (by omega) (by omega) (by omega) (fun c16 => ?_) (fun c16 => ?_)
    · obtain ⟨hb9, t0, t1, t2, t3, t4⟩ := hT
      refine lv_aload_n E.1 E.2.1 dX8_becomeCrossed_42 rfl (lv_at hl 1 rfl) ?_
      refine lv_iconst (v := iI 0) E.1 E.2.1 dX8_becomeCrossed_43 (by decide) ?_
      refine fw_put E hK hH (by omega) t0 fc_X8 4 (by decide) ql_RX8_41 rfl rfl rfl rfl (Nat.le_of_ble_eq_true rfl) dX8_becomeCrossed_44 (fun H1 locs1 hH hz1 => ?_)
      replace hz := hz1.trans hz; clear hz1
      obtain ⟨M17, hM18⟩ : ∃ MX, MX = fw_up M a (.inr (8, [.ref (a + 1), .ref (a + 2), .ref (a + 3), .ref (a + 4), .int (iI 0), .int (iI lv)])) := ⟨_, rfl⟩
      replace hH := fw_H.nm hM18 hH
      have fr19 : ∀ q, q ≠ a → M17 q = M q := fun q h => by rw [hM18]; exact fw_up_ne h
      replace hT1 := trAt.fr hT1 (fun q h1 h2 => fr19 q (by omega))
      replace hT2 := trAt.fr hT2 (fun q h1 h2 => fr19 q (by omega))
      replace t1 : M17 (a + 1) = some (fI G 40 (fun j0 => iI (cs j0))) := (fr19 _ (by omega)).trans t1
      replace t2 : M17 (a + 2) = some (fI G 40 (fun j0 => iI (vs j0))) := (fr19 _ (by omega)).trans t2
      replace t3 : M17 (a + 3) = some (fI G 40 (fun j0 => iI (ss j0))) := (fr19 _ (by omega)).trans t3
      replace t4 : M17 (a + 4) = some (fI G 40 (fun j0 => iI (hs j0))) := (fr19 _ (by omega)).trans t4
      have t0 : M17 a = some (.inr (8, [.ref (a + 1), .ref (a + 2), .ref (a + 3), .ref (a + 4), .int (iI 0), .int (iI lv)])) := by rw [hM18]; exact fw_up_eq
      have hTp : trAt G M17 a cs vs ss hs 0 lv := ⟨hb9, t0, t1, t2, t3, t4⟩
      refine lv_aload_n E.1 E.2.1 dX8_becomeCrossed_47 rfl (lv_at hl 1 rfl) ?_
      refine lv_aload_n E.1 E.2.1 dX8_becomeCrossed_48 rfl (lv_at hl 2 rfl) ?_
      refine lv_iconst (v := iI 0) E.1 E.2.1 dX8_becomeCrossed_49 (by decide) ?_
      refine lv_iload_n E.1 E.2.1 dX8_becomeCrossed_50 rfl (lv_at hl 3 rfl) ?_
      refine fw_cV (As := [.ref f, .int (iI 0), .int (iI ↑p)]) (rest := []) E hK hH hl hTp.2.1 fc_X8 fL_X8_appendFrom ql_RX8_63 qi_yX8_appendFrom qv_yX8_appendFrom (k_appendFrom l G _ _ a f cs vs ss hs lv cs1 vs1 ss1 hs1 (↑n : Int) (↑(lvF n C sp) : Int) 0 0 p hTp hT1 (by omega) (by omega) (by omega) (by omega)) rfl rfl (Nat.le_of_ble_eq_true rfl) ⟨Nat.le_of_ble_eq_true rfl, Nat.le_of_ble_eq_true rfl⟩ ⟨Nat.le_of_ble_eq_true rfl, Nat.le_of_ble_eq_true rfl⟩ dX8_becomeCrossed_51 (fw_kv fun M21 H1 locs1 hp20 hH hz1 => ?_)
      obtain ⟨hT85, hfr, hz2⟩ := hp20
      replace hz := hz2.trans hz
      clear hz1 hz2
      have fr22 := hfr
      replace hT1 := trAt.fr hT1 (fun q h1 h2 => fr22 q (by omega))
      replace hT2 := trAt.fr hT2 (fun q h1 h2 => fr22 q (by omega))
      try simp only [Nat.sub_zero, Nat.zero_add, Nat.add_sub_cancel_left] at hT85
      refine lv_aload_n E.1 E.2.1 dX8_becomeCrossed_54 rfl (lv_at hl 1 rfl) ?_
      refine lv_aload_n E.1 E.2.1 dX8_becomeCrossed_55 rfl (lv_at hl 4 rfl) ?_
      refine lv_iload E.1 E.2.1 dX8_becomeCrossed_56 (lv_at hl 5 rfl) ?_
      refine lv_aload_n E.1 E.2.1 dX8_becomeCrossed_58 rfl (lv_at hl 4 rfl) ?_
      refine lv_iload E.1 E.2.1 dX8_becomeCrossed_59 (lv_at hl 5 rfl) ?_
      refine fw_cV (As := [.int (iI ↑q)]) (rest := [.int (iI ↑q), .ref o, .ref a]) E hK hH hl hT2.2.1 fc_X8 fL_X8_behind ql_RX8_35 qi_yX8_behind qv_yX8_behind (k_behind l G _ _ o cs2 vs2 ss2 hs2 (↑n2 : Int) (↑(lvF n2 C2 sp2) : Int) ↑q q hT2 (by omega) (by omega)) rfl rfl (Nat.le_of_ble_eq_true rfl) ⟨Nat.le_of_ble_eq_true rfl, Nat.le_of_ble_eq_true rfl⟩ ⟨Nat.le_of_ble_eq_true rfl, Nat.le_of_ble_eq_true rfl⟩ dX8_becomeCrossed_61 (fw_ki fun r25 M24 H1 locs1 hp23 hH hz1 => ?_)
      obtain ⟨rfl, hM9, hz2⟩ := hp23
      replace hz := hz2.trans hz
      clear hz1 hz2
      rw [hM9] at hH
      refine fw_cv (y := iI (↑(q + sp2 q) : Int)) (congrArg iI (by rw [(hag2 q hq).2.2]; omega)) ?_
      refine fw_cV (As := [.ref o, .int (iI ↑q), .int (iI (↑(q + sp2 q) : Int))]) (rest := []) E hK hH hl hT85.2.1 fc_X8 fL_X8_appendFrom ql_RX8_63 qi_yX8_appendFrom qv_yX8_appendFrom (k_appendFrom l G _ _ a o (apF 0 p 0 cs cs1) (apF 0 p 0 vs vs1) ss hs lv cs2 vs2 ss2 hs2 (↑n2 : Int) (↑(lvF n2 C2 sp2) : Int) p q (q + sp2 q) hT85 hT2 (by omega) (by omega) (by omega) (by omega)) rfl rfl (Nat.le_of_ble_eq_true rfl) ⟨Nat.le_of_ble_eq_true rfl, Nat.le_of_ble_eq_true rfl⟩ ⟨Nat.le_of_ble_eq_true rfl, Nat.le_of_ble_eq_true rfl⟩ dX8_becomeCrossed_64 (fw_kv fun M27 H1 locs1 hp26 hH hz1 => ?_)
      obtain ⟨hT104, hfr, hz2⟩ := hp26
      replace hz := hz2.trans hz
      clear hz1 hz2
      have fr28 := hfr
      replace hT1 := trAt.fr hT1 (fun q h1 h2 => fr28 q (by omega))
      replace hT2 := trAt.fr hT2 (fun q h1 h2 => fr28 q (by omega))
      try simp only [Nat.sub_zero, Nat.zero_add, Nat.add_sub_cancel_left] at hT104
      refine lv_aload_n E.1 E.2.1 dX8_becomeCrossed_67 rfl (lv_at hl 1 rfl) ?_
      refine lv_aload_n E.1 E.2.1 dX8_becomeCrossed_68 rfl (lv_at hl 2 rfl) ?_
      refine lv_aload_n E.1 E.2.1 dX8_becomeCrossed_69 rfl (lv_at hl 2 rfl) ?_
      refine lv_iload_n E.1 E.2.1 dX8_becomeCrossed_70 rfl (lv_at hl 3 rfl) ?_
      refine fw_cV (As := [.int (iI ↑p)]) (rest := [.ref f, .ref a]) E hK hH hl hT1.2.1 fc_X8 fL_X8_behind ql_RX8_35 qi_yX8_behind qv_yX8_behind (k_behind l G _ _ f cs1 vs1 ss1 hs1 (↑n : Int) (↑(lvF n C sp) : Int) ↑p p hT1 (by omega) (by omega)) rfl rfl (Nat.le_of_ble_eq_true rfl) ⟨Nat.le_of_ble_eq_true rfl, Nat.le_of_ble_eq_true rfl⟩ ⟨Nat.le_of_ble_eq_true rfl, Nat.le_of_ble_eq_true rfl⟩ dX8_becomeCrossed_71 (fw_ki fun r31 M30 H1 locs1 hp29 hH hz1 => ?_)
      obtain ⟨rfl, hM9, hz2⟩ := hp29
      replace hz := hz2.trans hz
      clear hz1 hz2
      rw [hM9] at hH
      refine fw_cv (y := iI (↑(p + sp p) : Int)) (congrArg iI (by rw [(hag1 p hp).2.2]; omega)) ?_
      refine lv_aload_n E.1 E.2.1 dX8_becomeCrossed_74 rfl (lv_at hl 2 rfl) ?_
      refine fw_get E hK hH hT1.2.1 fc_X8 4 (by decide) ql_RX8_41 rfl rfl dX8_becomeCrossed_75 ?_
      refine fw_cV (As := [.ref f, .int (iI (↑(p + sp p) : Int)), .int (iI ((↑n : Int)))]) (rest := []) E hK hH hl hT104.2.1 fc_X8 fL_X8_appendFrom ql_RX8_63 qi_yX8_appendFrom qv_yX8_appendFrom (k_appendFrom l G _ _ a f (apF p (sp2 q) q (apF 0 p 0 cs cs1) cs2) (apF p (sp2 q) q (apF 0 p 0 vs vs1) vs2) ss hs lv cs1 vs1 ss1 hs1 (↑n : Int) (↑(lvF n C sp) : Int) (p + sp2 q) (p + sp p) n hT104 hT1 (by omega) (by omega) (by omega) (by omega)) rfl rfl (Nat.le_of_ble_eq_true rfl) ⟨Nat.le_of_ble_eq_true rfl, Nat.le_of_ble_eq_true rfl⟩ ⟨Nat.le_of_ble_eq_true rfl, Nat.le_of_ble_eq_true rfl⟩ dX8_becomeCrossed_78 (fw_kv fun M33 H1 locs1 hp32 hH hz1 => ?_)
      obtain ⟨hT124, hfr, hz2⟩ := hp32
      replace hz := hz2.trans hz
      clear hz1 hz2
      have fr34 := hfr
      replace hT1 := trAt.fr hT1 (fun q h1 h2 => fr34 q (by omega))
      replace hT2 := trAt.fr hT2 (fun q h1 h2 => fr34 q (by omega))
      try simp only [Nat.sub_zero, Nat.zero_add, Nat.add_sub_cancel_left] at hT124
      rw [show p + sp2 q + (n - (p + sp p)) = n - sp p + sp2 q by omega] at hT124
      refine lv_aload_n E.1 E.2.1 dX8_becomeCrossed_81 rfl (lv_at hl 1 rfl) ?_
      refine fw_cV (As := []) (rest := []) E hK hH hl hT124.2.1 fc_X8 fL_X8_measure ql_RX8_67 qi_yX8_measure qv_yX8_measure (k_measure l G _ _ a (apF (p + sp2 q) (n - (p + sp p)) (p + sp p) (apF p (sp2 q) q (apF 0 p 0 cs cs1) cs2) cs1) (apF (p + sp2 q) (n - (p + sp p)) (p + sp p) (apF p (sp2 q) q (apF 0 p 0 vs vs1) vs2) vs1) ss hs lv (n - sp p + sp2 q) (rpS p (sp p) (sp2 q) q sp sp2) hT124 (by omega) (spOK_congr (fun k hk => bc_rp (f := cs) hpe hqe (fun k hk => (hag1 k hk).1) (fun k hk => (hag2 k hk).1) hk) (rp_spOK hsp hp hsp2 hq)) (fun k hk => by rw [(fun k hk => bc_rp (f := cs) hpe hqe (fun k hk => (hag1 k hk).1) (fun k hk => (hag2 k hk).1) hk) k hk]; exact ((rp_vtOK hv hp hv2 hq (by omega) (by omega)).2.2.2.2.2 k hk).1)) rfl rfl (Nat.le_of_ble_eq_true rfl) ⟨Nat.le_of_ble_eq_true rfl, Nat.le_of_ble_eq_true rfl⟩ ⟨Nat.le_of_ble_eq_true rfl, Nat.le_of_ble_eq_true rfl⟩ dX8_becomeCrossed_82 (fw_kv fun M36 H1 locs1 hp35 hH hz1 => ?_)
      obtain ⟨hT134, hfr, hz2⟩ := hp35
      replace hz := hz2.trans hz
      clear hz1 hz2
      have fr37 := hfr
      replace hT1 := trAt.fr hT1 (fun q h1 h2 => fr37 q (by omega))
      replace hT2 := trAt.fr hT2 (fun q h1 h2 => fr37 q (by omega))
      have hlv := lvF_congr (C := (rpF p (sp p) (sp2 q) q C C2)) (D := apF (p + sp2 q) (n - (p + sp p)) (p + sp p) (apF p (sp2 q) q (apF 0 p 0 cs cs1) cs2) cs1) (fun k hk => bc_rp (f := cs) hpe hqe (fun k hk => (hag1 k hk).1) (fun k hk => (hag2 k hk).1) hk) (rp_spOK hsp hp hsp2 hq) (by omega)
      have hlb := lvF_le (rp_spOK hsp hp hsp2 hq) (show n - sp p + sp2 q ≤ 40 by omega)
      refine lv_aload_n E.1 E.2.1 dX8_becomeCrossed_85 rfl (lv_at hl 1 rfl) ?_
      refine fw_get E hK hH hT134.2.1 fc_X8 5 (by decide) ql_RX8_74 rfl rfl dX8_becomeCrossed_86 ?_
      refine lv_bipush (v := iI 8) E.1 E.2.1 dX8_becomeCrossed_89 (by decide) ?_
      refine fw_icmp_gt (tgt := 98) E dX8_becomeCrossed_91 (by decide) (by omega) (by omega) (by omega) (by omega) (fun c38 => ?_) (fun c38 => ?_)
      · refine lv_iconst (v := iI 0) E.1 E.2.1 dX8_becomeCrossed_98 (by decide) ?_
        refine fw_zret (r := (iI 0)) E hr hlk hH (by rfl) ?_ dX8_becomeCrossed_99
        have htw := tw_of hT134 (rp_spOK hsp hp hsp2 hq) (by omega) (fun k hk => ⟨(fun k hk => bc_rp (f := cs) hpe hqe (fun k hk => (hag1 k hk).1) (fun k hk => (hag2 k hk).1) hk) k hk, (fun k hk => bc_rp (f := vs) hpe hqe (fun k hk => (hag1 k hk).2.1) (fun k hk => (hag2 k hk).2.1) hk) k hk⟩) hbd
        rw [hlv] at c38
        exact ⟨0, rfl, Or.inr ⟨⟨by omega, by omega⟩, htw, by omega⟩, (fun q hq => by rw [fr37 q (by omega), fr34 q (by omega), fr28 q (by omega), fr22 q (by omega), fr19 q (by omega)]), hz⟩
      · refine lv_iconst (v := iI 1) E.1 E.2.1 dX8_becomeCrossed_94 (by decide) ?_
        refine lv_goto (tgt := 99) E.1 E.2.1 dX8_becomeCrossed_95 (by decide) ?_
        refine fw_zret (r := (iI 1)) E hr hlk hH (by rfl) ?_ dX8_becomeCrossed_99
        have htw := tw_of hT134 (rp_spOK hsp hp hsp2 hq) (by omega) (fun k hk => ⟨(fun k hk => bc_rp (f := cs) hpe hqe (fun k hk => (hag1 k hk).1) (fun k hk => (hag2 k hk).1) hk) k hk, (fun k hk => bc_rp (f := vs) hpe hqe (fun k hk => (hag1 k hk).2.1) (fun k hk => (hag2 k hk).2.1) hk) k hk⟩) hbd
        rw [hlv] at c38
        exact ⟨1, rfl, Or.inr ⟨⟨by omega, by omega⟩, htw, by omega⟩, (fun q hq => by rw [fr37 q (by omega), fr34 q (by omega), fr28 q (by omega), fr22 q (by omega), fr19 q (by omega)]), hz⟩
    · refine lv_iconst (v := iI 0) E.1 E.2.1 dX8_becomeCrossed_40 (by decide) ?_
      refine fw_zret (r := (iI 0)) E hr hlk hH (by rfl) ?_ dX8_becomeCrossed_41
      exact ⟨0, rfl, Or.inl ⟨by omega, rfl, rfl⟩, (fun _ _ => rfl), hz⟩
end
section
/-! parts that are the same; counts by type; values -/
theorem same_sp {n : Nat} {C : Nat → Int} {sp : Nat → Nat} (h : spOK n C sp) : ∀ d p q, p < n → q < n → sp p ≤ d → (∀ j, j < sp p → j < sp q → C (p + j) = C (q + j)) → sp p = sp q := by
  intro d
  induction d with
  | zero => intro p q hp hq h1 h2; have := sp_pos h hp; omega
  | succ d ih =>
    intro p q hp hq h1 h2
    have p1 := sp_pos h hp
    have q1 := sp_pos h hq
    have e0 : C p = C q := h2 0 (by omega) (by omega)
    obtain ⟨hp3, hp4⟩ := h p hp
    obtain ⟨hq3, hq4⟩ := h q hq
    rw [← e0] at hq3 hq4
    have key : ∀ i, i ≤ arN (C p) → chP sp p i + q = chP sp q i + p := by
      intro i
      induction i with
      | zero => intro _; show p + 1 + q = q + 1 + p; omega
      | succ i ih2 =>
        intro hi
        have e1 := ih2 (by omega)
        have hx := hp3 i (by omega)
        have hy := hq3 i (by omega)
        have gx := chP_gt sp p i
        have gy := chP_gt sp q i
        have mx := chP_mono sp p (show i + 1 ≤ arN (C p) by omega)
        have my := chP_mono sp q (show i + 1 ≤ arN (C p) by omega)
        have ex : chP sp p (i + 1) = chP sp p i + sp (chP sp p i) := rfl
        have ey : chP sp q (i + 1) = chP sp q i + sp (chP sp q i) := rfl
        generalize chP sp p i = x at *
        generalize chP sp q i = y at *
        have e2 := ih x y hx hy (by omega) (fun j j1 j2 => by
          have := h2 (x - p + j) (by omega) (by omega)
          rw [show p + (x - p + j) = x + j by omega, show q + (x - p + j) = y + j by omega] at this
          exact this)
        omega
    have := key _ (Nat.le_refl _)
    omega
theorem same_rc {β : Type} {z : β} {F : Int → Int → (Nat → β) → β} {n : Nat} {C V : Nat → Int} {sp : Nat → Nat} (hF : fOK F) (h : spOK n C sp) (hn : n ≤ 40) : ∀ d p q, p < n → q < n → sp p ≤ d → sp p = sp q → (∀ j, j < sp p → C (p + j) = C (q + j) ∧ V (p + j) = V (q + j)) → rcV z F C V sp p = rcV z F C V sp q := by
  intro d
  induction d with
  | zero => intro p q hp hq h1 h2 h3; have := sp_pos h hp; omega
  | succ d ih =>
    intro p q hp hq h1 h2 h3
    have p1 := sp_pos h hp
    have e0 : C p = C q ∧ V p = V q := h3 0 (by omega)
    obtain ⟨hp3, hp4⟩ := h p hp
    obtain ⟨hq3, hq4⟩ := h q hq
    rw [← e0.1] at hq3 hq4
    rw [rcV_eq hF h hn hp, rcV_eq hF h hn hq, ← e0.1, ← e0.2]
    have sub : ∀ i, i < arN (C p) → chP sp p i + q = chP sp q i + p → sp (chP sp p i) = sp (chP sp q i) ∧ ∀ j, j < sp (chP sp p i) → C (chP sp p i + j) = C (chP sp q i + j) ∧ V (chP sp p i + j) = V (chP sp q i + j) := by
      intro i hi e1
      have hx := hp3 i hi
      have hy := hq3 i hi
      have gx := chP_gt sp p i
      have gy := chP_gt sp q i
      have mx := chP_mono sp p (show i + 1 ≤ arN (C p) by omega)
      have my := chP_mono sp q (show i + 1 ≤ arN (C p) by omega)
      have ex : chP sp p (i + 1) = chP sp p i + sp (chP sp p i) := rfl
      have ey : chP sp q (i + 1) = chP sp q i + sp (chP sp q i) := rfl
      generalize chP sp p i = x at *
      generalize chP sp q i = y at *
      have al : ∀ j, x + j < p + sp p → C (x + j) = C (y + j) ∧ V (x + j) = V (y + j) := fun j hj => by
        have := h3 (x - p + j) (by omega)
        rw [show p + (x - p + j) = x + j by omega, show q + (x - p + j) = y + j by omega] at this
        exact this
      exact ⟨same_sp h (sp x) x y hx hy (Nat.le_refl _) (fun j j1 j2 => (al j (by omega)).1), fun j hj => al j (by omega)⟩
    have key : ∀ i, i ≤ arN (C p) → chP sp p i + q = chP sp q i + p := by
      intro i
      induction i with
      | zero => intro _; show p + 1 + q = q + 1 + p; omega
      | succ i ih2 =>
        intro hi
        have e1 := ih2 (by omega)
        have e2 := (sub i (by omega) e1).1
        have ex : chP sp p (i + 1) = chP sp p i + sp (chP sp p i) := rfl
        have ey : chP sp q (i + 1) = chP sp q i + sp (chP sp q i) := rfl
        omega
    refine hF _ _ _ _ (fun i hi => ?_)
    obtain ⟨e2, e3⟩ := sub i hi (key i (by omega))
    have gx := chP_gt sp p i
    have mx := chP_mono sp p (show i + 1 ≤ arN (C p) by omega)
    have ex : chP sp p (i + 1) = chP sp p i + sp (chP sp p i) := rfl
    exact ih _ _ (hp3 i hi) (hq3 i hi) (by omega) e2 e3
def numI (x : Int) : Int := if x ≤ 8 then 1 else 0
theorem numI_cases (x : Int) : (numI x = 1 ∧ x ≤ 8) ∨ (numI x = 0 ∧ 8 < x) := by unfold numI; split <;> omega
/-- how many places of a type there are ahead of one -/
def cntF (C : Nat → Int) (b : Int) : Nat → Nat
  | 0 => 0
  | k + 1 => cntF C b k + (if numI (C k) = b then 1 else 0)
theorem cntF_le (C : Nat → Int) (b : Int) (k : Nat) : cntF C b k ≤ k := by
  induction k with
  | zero => exact Nat.le_refl _
  | succ k ih => show cntF C b k + _ ≤ k + 1; split <;> omega
theorem cntF_mono (C : Nat → Int) (b : Int) {j k : Nat} (h : j ≤ k) : cntF C b j ≤ cntF C b k := by
  induction k with
  | zero => rw [Nat.le_zero.mp h]; exact Nat.le_refl _
  | succ k ih =>
    rcases Nat.lt_or_ge j (k + 1) with g | g
    · exact Nat.le_trans (ih (by omega)) (Nat.le_add_right _ _)
    · rw [show j = k + 1 by omega]; exact Nat.le_refl _
/-- the place of a type with a number -/
def plF (C : Nat → Int) (b : Int) (x : Nat) : Nat → Nat
  | 0 => 0
  | k + 1 => if numI (C k) = b ∧ cntF C b k = x then k else plF C b x k
theorem plF_none {C : Nat → Int} {b : Int} {x : Nat} : ∀ k, (∀ j, j < k → ¬ (numI (C j) = b ∧ cntF C b j = x)) → plF C b x k = 0 := by
  intro k
  induction k with
  | zero => intro _; rfl
  | succ k ih => intro h; show (if _ then _ else _) = 0; rw [if_neg (h k (Nat.lt_succ_self k))]; exact ih (fun j hj => h j (by omega))
theorem plF_eq {C : Nat → Int} {b : Int} {x i : Nat} (h : numI (C i) = b ∧ cntF C b i = x) : ∀ k, i < k → plF C b x k = i := by
  intro k
  induction k with
  | zero => intro g; omega
  | succ k ih =>
    intro g
    show (if _ then _ else _) = i
    rcases Nat.lt_or_ge i k with g2 | g2
    · have h1 := cntF_mono C b (show i + 1 ≤ k by omega)
      have h2 : cntF C b (i + 1) = cntF C b i + (if numI (C i) = b then 1 else 0) := rfl
      rw [if_pos h.1] at h2
      rw [if_neg (fun e => by have := e.2; have := h.2; omega)]
      exact ih g2
    · rw [show k = i by omega, if_pos h]
theorem plF_ok {C : Nat → Int} {b : Int} {x : Nat} : ∀ k, x < cntF C b k → plF C b x k < k ∧ numI (C (plF C b x k)) = b := by
  intro k
  induction k with
  | zero => intro h; exact absurd h (Nat.not_lt_zero x)
  | succ k ih =>
    intro h
    have h1 : cntF C b (k + 1) = cntF C b k + (if numI (C k) = b then 1 else 0) := rfl
    by_cases g : numI (C k) = b ∧ cntF C b k = x
    · have e : plF C b x (k + 1) = k := by show (if _ then _ else _) = k; rw [if_pos g]
      rw [e]; exact ⟨Nat.lt_succ_self k, g.1⟩
    · have e : plF C b x (k + 1) = plF C b x k := by show (if _ then _ else _) = _; rw [if_neg g]
      rw [e]
      have h2 : x < cntF C b k := by
        by_cases g2 : numI (C k) = b
        · rw [if_pos g2] at h1
          have : cntF C b k ≠ x := fun e => g ⟨g2, e⟩
          omega
        · rw [if_neg g2] at h1; omega
      obtain ⟨a1, a2⟩ := ih h2
      exact ⟨by omega, a2⟩
/-- how many nodes of two trees are the same from the first one on -/
def snF (C V C2 V2 : Nat → Int) : Nat → Nat
  | 0 => 0
  | k + 1 => if snF C V C2 V2 k = k ∧ C k = C2 k ∧ V k = V2 k then k + 1 else snF C V C2 V2 k
theorem snF_eq {C V C2 V2 : Nat → Int} : ∀ m i, i ≤ m → (∀ k, k < i → C k = C2 k ∧ V k = V2 k) → (i < m → ¬ (C i = C2 i ∧ V i = V2 i)) → snF C V C2 V2 m = i := by
  intro m
  induction m with
  | zero => intro i h1 h2 h3; show 0 = i; omega
  | succ m ih =>
    intro i h1 h2 h3
    show (if _ then _ else _) = i
    rcases Nat.lt_or_ge i (m + 1) with g | g
    · rcases Nat.lt_or_ge i m with g2 | g2
      · have e := ih i (by omega) h2 (fun _ => h3 g)
        rw [if_neg (fun q => by omega)]; exact e
      · have e : i = m := by omega
        subst e
        have e := ih i (Nat.le_refl _) h2 (fun q => absurd q (Nat.lt_irrefl i))
        rw [if_neg (fun q => h3 g q.2)]; exact e
    · have e : i = m + 1 := by omega
      subst e
      have e := ih m (Nat.le_refl _) (fun k hk => h2 k (by omega)) (fun q => absurd q (Nat.lt_irrefl m))
      rw [if_pos ⟨e, h2 m (Nat.lt_succ_self m)⟩]
theorem snF_le (C V C2 V2 : Nat → Int) (m : Nat) : snF C V C2 V2 m ≤ m := by
  induction m with
  | zero => exact Nat.le_refl _
  | succ m ih =>
    by_cases g : snF C V C2 V2 m = m ∧ C m = C2 m ∧ V m = V2 m
    · show (if _ then _ else _) ≤ m + 1; rw [if_pos g]; exact Nat.le_refl _
    · show (if _ then _ else _) ≤ m + 1; rw [if_neg g]; exact Nat.le_succ_of_le ih
/-! what a tree gives -/
def limI (z : Int) : Int := if 9999 < z then 9999 else if z < -9999 then -9999 else z
theorem limI_b (z : Int) : -9999 ≤ limI z ∧ limI z ≤ 9999 := by unfold limI; (repeat' split) <;> omega
theorem limI_id {z : Int} (h : -9999 ≤ z ∧ z ≤ 9999) : limI z = z := by unfold limI; rw [if_neg (by omega), if_neg (by omega)]
def prR (x a b : Int) : Int := if x = 2 then a + b else if x = 3 then a - b else if x = 4 then a * b else if x = 5 then (if b = 0 then a else a.tdiv b) else if x = 6 ∨ x = 11 then (if a < b then a else b) else if x = 7 ∨ x = 12 then (if b < a then a else b) else if x = 9 then (if a < b then 1 else 0) else if x = 10 then (if a = b then 1 else 0) else if x = 13 then 1 - a else 0
def evS (inp : Nat → Int) : Int → Int → (Nat → Int) → Int := fun x v u => limI (if x = 0 then v else if x = 1 then inp v.toNat else if x = 8 then (if u 0 = 1 then u 1 else u 2) else prR x (u 0) (u 1))
theorem evS_ok (inp : Nat → Int) : fOK (evS inp) := by
  intro x v u w h
  unfold evS
  by_cases h0 : x = 0
  · rw [if_pos h0, if_pos h0]
  rw [if_neg h0, if_neg h0]
  by_cases h1 : x = 1
  · rw [if_pos h1, if_pos h1]
  rw [if_neg h1, if_neg h1]
  by_cases h8 : x = 8
  · have e : arN x = 3 := by unfold arN; rw [if_pos h8]
    rw [if_pos h8, if_pos h8, h 0 (by omega), h 1 (by omega), h 2 (by omega)]
  rw [if_neg h8, if_neg h8]
  by_cases h13 : x = 13
  · have e : arN x = 1 := by unfold arN; rw [if_neg h8, if_pos h13]
    rw [h 0 (by omega)]
    subst h13
    rfl
  by_cases h2 : 2 ≤ x ∧ x ≤ 12
  · have e : arN x = 2 := by unfold arN; rw [if_neg h8, if_neg h13, if_pos h2]
    rw [h 0 (by omega), h 1 (by omega)]
  · have e : ∀ a b, prR x a b = 0 := fun a b => by unfold prR; rw [if_neg (by omega), if_neg (by omega), if_neg (by omega), if_neg (by omega), if_neg (by omega), if_neg (by omega), if_neg (by omega), if_neg (by omega), if_neg (by omega)]
    rw [e, e]
def evF (inp : Nat → Int) (C V : Nat → Int) (sp : Nat → Nat) (k : Nat) : Int := rcV 0 (evS inp) C V sp k
theorem evF_eq {inp : Nat → Int} {n : Nat} {C V : Nat → Int} {sp : Nat → Nat} (h : spOK n C sp) (hn : n ≤ 40) {k : Nat} (hk : k < n) : evF inp C V sp k = evS inp (C k) (V k) (fun i => evF inp C V sp (chP sp k i)) := rcV_eq (evS_ok inp) h hn hk
theorem evF_b {inp : Nat → Int} {n : Nat} {C V : Nat → Int} {sp : Nat → Nat} (h : spOK n C sp) (hn : n ≤ 40) {k : Nat} (hk : k < n) : -9999 ≤ evF inp C V sp k ∧ evF inp C V sp k ≤ 9999 := by
  rw [evF_eq h hn hk]
  exact limI_b _
end
section
theorem k_placeAbove (l : Launch) (G : fw_G) (M : fw_M) (N : Nat) (a n : Nat) (C V : Nat → Int) (sp : Nat → Nat) (hA : tw G M a n C V sp) (hv : vtOK n C V sp) (p : Nat) (hp : p < n) : fMet l yX8_placeAbove cX8_placeAbove 3 (some .int) 2 60 0 0 G M N [.ref a, .int (iI ↑p)] (fw_pi (fun r M1 n1 => (∃ z : Int, r = iI z ∧ ((z = -1 ∧ ∀ k, k < p → k + sp k ≤ p) ∨ ∃ k : Nat, z = ↑k ∧ k < p ∧ p < k + sp k ∧ ∀ j, k < j → j < p → j + sp j ≤ p)) ∧ M1 = M ∧ n1 = N)) := by
  refine fw_met RX8 rfl (by decide +kernel) (Nat.le_of_ble_eq_true rfl) ?_
  intro pG e s m args below meth cG ls E hr hlk hnm hK hH hz hl
  obtain ⟨cs, vs, ss, hs, hT, hag, hbd⟩ := hA
  obtain ⟨⟨hn0, hn1⟩, hs0, hc0, hsp, hty, hnd⟩ := id hv
  refine lv_iload_n E.1 E.2.1 dX8_placeAbove_0 rfl (lv_at hl 1 rfl) ?_
  refine lv_iconst (v := iI 1) E.1 E.2.1 dX8_placeAbove_1 (by decide) ?_
  refine fw_isub E dX8_placeAbove_2 ?_
  refine lv_istore_n (lv' := [(2, .int (iI ((↑p) - 1))), (0, .ref a), (1, .int (iI ↑p))]) E.1 E.2.1 dX8_placeAbove_3 rfl hl (by decide) rfl (fun ls hl => ?_)
  have loop4_1 : ∀ (d4 : Nat) (j : Nat) (Mw4 : fw_M) (H : Heap) (locs : List Loc) (ls : Array Slot), j < d4 → j ≤ p → (∀ k, j ≤ k → k < p → k + sp k ≤ p) → Mw4 = M → fw_H G s Mw4 H locs → H.size = N → trAt G Mw4 a cs vs ss hs (↑n : Int) (↑(lvF n C sp) : Int) → lv_has ls 3 [(0, .ref a), (1, .int (iI ↑p)), (2, .int (iI (↑j - 1)))] → W pG l e ({ frames := 2, cells := 0, slots := 0, locals := 60 } : Room) s m args below meth cG H locs (0) (0) (MQ below (fw_Q G (fw_pi (fun r M1 n1 => (∃ z : Int, r = iI z ∧ ((z = -1 ∧ ∀ k, k < p → k + sp k ≤ p) ∨ ∃ k : Nat, z = ↑k ∧ k < p ∧ p < k + sp k ∧ ∀ j, k < j → j < p → j + sp j ≤ p)) ∧ M1 = M ∧ n1 = N))) args s 0 0 (fun q => G.2.2.1 ≤ q)) (F0 m 4 ls []) := by
    intro d4
    induction d4 with
    | zero => intro j Mw4 H locs ls hd; exact absurd hd (Nat.not_lt_zero _)
    | succ d4 ih4 =>
      intro j Mw4 H locs ls hd4 ij hP hMw hH hz hT hl
      refine lv_iload_n E.1 E.2.1 dX8_placeAbove_4 rfl (lv_at hl 2 rfl) ?_
      refine fw_if_lt (tgt := 25) E dX8_placeAbove_5 (by decide) (by omega) (by omega) (fun c1 => ?_) (fun c1 => ?_)
      · refine lv_iconst (v := iI (-1)) E.1 E.2.1 dX8_placeAbove_25 (by decide) ?_
        refine fw_iret E hr hlk hH ?_ dX8_placeAbove_26
        exact ⟨⟨_, rfl, Or.inl ⟨rfl, fun k h1 => hP k (by omega) h1⟩⟩, hMw, hz⟩
      · have hjn : j - 1 < n := by omega
        have hsj := sp_le hsp hjn
        refine lv_aload_n E.1 E.2.1 dX8_placeAbove_8 rfl (lv_at hl 0 rfl) ?_
        refine lv_iload_n E.1 E.2.1 dX8_placeAbove_9 rfl (lv_at hl 2 rfl) ?_
        refine fw_cV (As := [.int (iI (↑j - 1))]) (rest := []) E hK hH hl hT.2.1 fc_X8 fL_X8_behind ql_RX8_35 qi_yX8_behind qv_yX8_behind (k_behind l G _ _ a cs vs ss hs (↑n : Int) (↑(lvF n C sp) : Int) (↑j - 1) (j - 1) hT (by omega) (by omega)) rfl rfl (Nat.le_of_ble_eq_true rfl) ⟨Nat.le_of_ble_eq_true rfl, Nat.le_of_ble_eq_true rfl⟩ ⟨Nat.le_of_ble_eq_true rfl, Nat.le_of_ble_eq_true rfl⟩ dX8_placeAbove_10 (fw_ki fun r4 M3 H1 locs1 hp2 hH hz1 => ?_)
        obtain ⟨rfl, hM9, hz2⟩ := hp2
        replace hz := hz2.trans hz
        clear hz1 hz2
        rw [hM9] at hH
        refine fw_cv (y := iI (↑(j - 1 + sp (j - 1)) : Int)) (congrArg iI (by rw [(hag (j - 1) hjn).2.2]; omega)) ?_
        refine lv_iload_n E.1 E.2.1 dX8_placeAbove_13 rfl (lv_at hl 1 rfl) ?_
        refine fw_icmp_le (tgt := 19) E dX8_placeAbove_14 (by decide) (by omega) (by omega) (by omega) (by omega) (fun c5 => ?_) (fun c5 => ?_)
        · refine lv_iinc (v := iI (↑(j - 1) - 1)) (lv' := [(2, .int (iI (↑(j - 1) - 1))), (0, .ref a), (1, .int (iI ↑p))]) E.1 E.2.1 dX8_placeAbove_19 hl (k := 2) rfl (iI_inc (congrArg iI (by omega))) (by decide) rfl (fun ls hl => ?_)
          refine lv_goto (tgt := 4) E.1 E.2.1 dX8_placeAbove_22 (by decide) ?_
          exact ih4 (j - 1) _ _ _ _ (by omega) (by omega) (fun k h1 h2 => by
              rcases Nat.lt_or_ge k j with g | g
              · rw [show k = j - 1 by omega]; omega
              · exact hP k g h2) hMw hH (by omega) hT (lv_sub hl [1, 2, 0] rfl)
        · refine lv_iload_n E.1 E.2.1 dX8_placeAbove_17 rfl (lv_at hl 2 rfl) ?_
          refine fw_iret E hr hlk hH ?_ dX8_placeAbove_18
          exact ⟨⟨_, rfl, Or.inr ⟨j - 1, by omega, by omega, by omega, fun k h1 h2 => hP k (by omega) h2⟩⟩, hMw, hz⟩
  exact loop4_1 (p + 1) p _ _ _ _ (Nat.lt_succ_self _) (Nat.le_refl _) (fun k h1 h2 => absurd h1 (by omega)) rfl hH (by omega) hT (lv_sub hl [1, 2, 0] rfl)
theorem k_hasInput (l : Launch) (G : fw_G) (M : fw_M) (N : Nat) (a n : Nat) (C V : Nat → Int) (sp : Nat → Nat) (hA : tw G M a n C V sp) (hv : vtOK n C V sp) (p : Nat) (hp : p < n) : fMet l yX8_hasInput cX8_hasInput 4 (some .boolean) 2 60 0 0 G M N [.ref a, .int (iI ↑p)] (fw_pi (fun r M1 n1 => (∃ b : Int, r = iI b ∧ (b = 1 ∨ (b = 0 ∧ ∀ k, p ≤ k → k < p + sp p → C k ≠ 1))) ∧ M1 = M ∧ n1 = N)) := by
  refine fw_met RX8 rfl (by decide +kernel) (Nat.le_of_ble_eq_true rfl) ?_
  intro pG e s m args below meth cG ls E hr hlk hnm hK hH hz hl
  obtain ⟨cs, vs, ss, hs, hT, hag, hbd⟩ := hA
  obtain ⟨⟨hn0, hn1⟩, hs0, hc0, hsp, hty, hnd⟩ := id hv
  have hpe := sp_le hsp hp
  refine lv_aload_n E.1 E.2.1 dX8_hasInput_0 rfl (lv_at hl 0 rfl) ?_
  refine lv_iload_n E.1 E.2.1 dX8_hasInput_1 rfl (lv_at hl 1 rfl) ?_
  refine fw_cV (As := [.int (iI ↑p)]) (rest := []) E hK hH hl hT.2.1 fc_X8 fL_X8_behind ql_RX8_35 qi_yX8_behind qv_yX8_behind (k_behind l G _ _ a cs vs ss hs (↑n : Int) (↑(lvF n C sp) : Int) ↑p p hT (by omega) (by omega)) rfl rfl (Nat.le_of_ble_eq_true rfl) ⟨Nat.le_of_ble_eq_true rfl, Nat.le_of_ble_eq_true rfl⟩ ⟨Nat.le_of_ble_eq_true rfl, Nat.le_of_ble_eq_true rfl⟩ dX8_hasInput_2 (fw_ki fun r3 M2 H1 locs1 hp1 hH hz1 => ?_)
  obtain ⟨rfl, hM9, hz2⟩ := hp1
  replace hz := hz2.trans hz
  clear hz1 hz2
  rw [hM9] at hH
  refine fw_cv (y := iI (↑(p + sp p) : Int)) (congrArg iI (by rw [(hag p hp).2.2]; omega)) ?_
  refine lv_istore_n (lv' := [(2, .int (iI (↑(p + sp p) : Int))), (0, .ref a), (1, .int (iI ↑p))]) E.1 E.2.1 dX8_hasInput_5 rfl hl (by decide) rfl (fun ls hl => ?_)
  refine lv_iload_n E.1 E.2.1 dX8_hasInput_6 rfl (lv_at hl 2 rfl) ?_
  refine lv_istore_n (lv' := [(3, .int (iI ↑p)), (2, .int (iI (↑(p + sp p) : Int))), (0, .ref a), (1, .int (iI ↑p))]) E.1 E.2.1 dX8_hasInput_7 rfl hl (by decide) rfl (fun ls hl => ?_)
  have loop8_1 : ∀ (d8 : Nat) (i : Nat) (Mw8 : fw_M) (H : Heap) (locs : List Loc) (ls : Array Slot), p + sp p - i < d8 → p ≤ i → i ≤ p + sp p → (∀ k, p ≤ k → k < i → C k ≠ 1) → Mw8 = M → fw_H G s Mw8 H locs → H.size = N → trAt G Mw8 a cs vs ss hs (↑n : Int) (↑(lvF n C sp) : Int) → lv_has ls 4 [(0, .ref a), (1, .int (iI ↑p)), (2, .int (iI (↑(p + sp p) : Int))), (3, .int (iI ↑i))] → W pG l e ({ frames := 2, cells := 0, slots := 0, locals := 60 } : Room) s m args below meth cG H locs (0) (0) (MQ below (fw_Q G (fw_pi (fun r M1 n1 => (∃ b : Int, r = iI b ∧ (b = 1 ∨ (b = 0 ∧ ∀ k, p ≤ k → k < p + sp p → C k ≠ 1))) ∧ M1 = M ∧ n1 = N))) args s 0 0 (fun q => G.2.2.1 ≤ q)) (F0 m 8 ls []) := by
    intro d8
    induction d8 with
    | zero => intro i Mw8 H locs ls hd; exact absurd hd (Nat.not_lt_zero _)
    | succ d8 ih8 =>
      intro i Mw8 H locs ls hd8 i1 i2 hP hMw hH hz hT hl
      refine lv_iload_n E.1 E.2.1 dX8_hasInput_8 rfl (lv_at hl 3 rfl) ?_
      refine lv_iload_n E.1 E.2.1 dX8_hasInput_9 rfl (lv_at hl 2 rfl) ?_
      refine fw_icmp_ge (tgt := 30) E dX8_hasInput_10 (by decide) (by omega) (by omega) (by omega) (by omega) (fun c4 => ?_) (fun c4 => ?_)
      · refine lv_iconst (v := iI 0) E.1 E.2.1 dX8_hasInput_30 (by decide) ?_
        refine fw_zret (r := (iI 0)) E hr hlk hH (by rfl) ?_ dX8_hasInput_31
        exact ⟨⟨_, rfl, Or.inr ⟨rfl, fun k h1 h2 => hP k h1 (by omega)⟩⟩, hMw, hz⟩
      · have hci := (hag i (by omega)).1
        have hni := (hnd i (by omega)).1
        refine lv_aload_n E.1 E.2.1 dX8_hasInput_13 rfl (lv_at hl 0 rfl) ?_
        refine lv_iload_n E.1 E.2.1 dX8_hasInput_14 rfl (lv_at hl 3 rfl) ?_
        refine fw_cV (As := [.int (iI ↑i)]) (rest := []) E hK hH hl hT.2.1 fc_X8 fL_X8_code ql_RX8_28 qi_yX8_code qv_yX8_code (k_code l G _ _ a cs vs ss hs (↑n : Int) (↑(lvF n C sp) : Int) ↑i i hT (by omega) (by omega)) rfl rfl (Nat.le_of_ble_eq_true rfl) ⟨Nat.le_of_ble_eq_true rfl, Nat.le_of_ble_eq_true rfl⟩ ⟨Nat.le_of_ble_eq_true rfl, Nat.le_of_ble_eq_true rfl⟩ dX8_hasInput_15 (fw_ki fun r7 M6 H1 locs1 hp5 hH hz1 => ?_)
        obtain ⟨rfl, hM9, hz2⟩ := hp5
        replace hz := hz2.trans hz
        clear hz1 hz2
        rw [hM9] at hH
        refine lv_iconst (v := iI 1) E.1 E.2.1 dX8_hasInput_18 (by decide) ?_
        refine fw_icmp_ne (tgt := 24) E dX8_hasInput_19 (by decide) (by omega) (by omega) (by omega) (by omega) (fun c8 => ?_) (fun c8 => ?_)
        · refine lv_iinc (v := iI (↑i + 1)) (lv' := [(3, .int (iI (↑i + 1))), (0, .ref a), (1, .int (iI ↑p)), (2, .int (iI (↑(p + sp p) : Int)))]) E.1 E.2.1 dX8_hasInput_24 hl (k := 3) rfl (iI_inc rfl) (by decide) rfl (fun ls hl => ?_)
          refine lv_goto (tgt := 8) E.1 E.2.1 dX8_hasInput_27 (by decide) ?_
          exact ih8 (i + 1) _ _ _ _ (by omega) (by omega) (by omega) (fun k h1 h2 => by
              rcases Nat.lt_or_ge k i with g | g
              · exact hP k h1 g
              · rw [show k = i by omega, ← hci]; omega) hMw hH (by omega) hT (lv_sub hl [1, 2, 3, 0] rfl)
        · refine lv_iconst (v := iI 1) E.1 E.2.1 dX8_hasInput_22 (by decide) ?_
          refine fw_zret (r := (iI 1)) E hr hlk hH (by rfl) ?_ dX8_hasInput_23
          exact ⟨⟨_, rfl, Or.inl rfl⟩, hMw, hz⟩
  exact loop8_1 (p + sp p - p + 1) p _ _ _ _ (Nat.lt_succ_self _) (Nat.le_refl _) (by omega) (fun k h1 h2 => absurd h1 (by omega)) rfl hH (by omega) hT (lv_sub hl [2, 3, 1, 0] rfl)
theorem k_sameParts (l : Launch) (G : fw_G) (M : fw_M) (N : Nat) (a n : Nat) (C V : Nat → Int) (sp : Nat → Nat) (hA : tw G M a n C V sp) (hv : vtOK n C V sp) (p q : Nat) (hp : p < n) (hq : q < n) : fMet l yX8_sameParts cX8_sameParts 5 (some .boolean) 2 60 0 0 G M N [.ref a, .int (iI ↑p), .int (iI ↑q)] (fw_pi (fun r M1 n1 => (∃ b : Int, r = iI b ∧ ((b = 1 ∧ sp p = sp q ∧ ∀ j, j < sp p → C (p + j) = C (q + j) ∧ V (p + j) = V (q + j)) ∨ b = 0)) ∧ M1 = M ∧ n1 = N)) := by
  refine fw_met RX8 rfl (by decide +kernel) (Nat.le_of_ble_eq_true rfl) ?_
  intro pG e s m args below meth cG ls E hr hlk hnm hK hH hz hl
  obtain ⟨cs, vs, ss, hs, hT, hag, hbd⟩ := hA
  obtain ⟨⟨hn0, hn1⟩, hs0, hc0, hsp, hty, hnd⟩ := id hv
  have hpe := sp_le hsp hp
  have hqe := sp_le hsp hq
  refine lv_aload_n E.1 E.2.1 dX8_sameParts_0 rfl (lv_at hl 0 rfl) ?_
  refine lv_iload_n E.1 E.2.1 dX8_sameParts_1 rfl (lv_at hl 1 rfl) ?_
  refine fw_cV (As := [.int (iI ↑p)]) (rest := []) E hK hH hl hT.2.1 fc_X8 fL_X8_span ql_RX8_38 qi_yX8_span qv_yX8_span (k_span l G _ _ a cs vs ss hs (↑n : Int) (↑(lvF n C sp) : Int) ↑p p hT (by omega) (by omega)) rfl rfl (Nat.le_of_ble_eq_true rfl) ⟨Nat.le_of_ble_eq_true rfl, Nat.le_of_ble_eq_true rfl⟩ ⟨Nat.le_of_ble_eq_true rfl, Nat.le_of_ble_eq_true rfl⟩ dX8_sameParts_2 (fw_ki fun r3 M2 H1 locs1 hp1 hH hz1 => ?_)
  obtain ⟨rfl, hM9, hz2⟩ := hp1
  replace hz := hz2.trans hz
  clear hz1 hz2
  rw [hM9] at hH
  refine fw_cv (y := iI (↑(sp p) : Int)) (congrArg iI (hag p hp).2.2) ?_
  refine lv_istore_n (lv' := [(3, .int (iI (↑(sp p) : Int))), (0, .ref a), (1, .int (iI ↑p)), (2, .int (iI ↑q))]) E.1 E.2.1 dX8_sameParts_5 rfl hl (by decide) rfl (fun ls hl => ?_)
  refine lv_iconst (v := iI 0) E.1 E.2.1 dX8_sameParts_6 (by decide) ?_
  refine lv_istore (lv' := [(4, .int (iI 0)), (3, .int (iI (↑(sp p) : Int))), (0, .ref a), (1, .int (iI ↑p)), (2, .int (iI ↑q))]) E.1 E.2.1 dX8_sameParts_7 hl (by decide) rfl (fun ls hl => ?_)
  have loop9_1 : ∀ (d9 : Nat) (i : Nat) (Mw9 : fw_M) (H : Heap) (locs : List Loc) (ls : Array Slot), sp p - i < d9 → i ≤ sp p → (∀ j, j < i → C (p + j) = C (q + j) ∧ V (p + j) = V (q + j)) → Mw9 = M → fw_H G s Mw9 H locs → H.size = N → trAt G Mw9 a cs vs ss hs (↑n : Int) (↑(lvF n C sp) : Int) → lv_has ls 5 [(0, .ref a), (1, .int (iI ↑p)), (2, .int (iI ↑q)), (3, .int (iI (↑(sp p) : Int))), (4, .int (iI ↑i))] → W pG l e ({ frames := 2, cells := 0, slots := 0, locals := 60 } : Room) s m args below meth cG H locs (0) (0) (MQ below (fw_Q G (fw_pi (fun r M1 n1 => (∃ b : Int, r = iI b ∧ ((b = 1 ∧ sp p = sp q ∧ ∀ j, j < sp p → C (p + j) = C (q + j) ∧ V (p + j) = V (q + j)) ∨ b = 0)) ∧ M1 = M ∧ n1 = N))) args s 0 0 (fun q => G.2.2.1 ≤ q)) (F0 m 9 ls []) := by
    intro d9
    induction d9 with
    | zero => intro i Mw9 H locs ls hd; exact absurd hd (Nat.not_lt_zero _)
    | succ d9 ih9 =>
      intro i Mw9 H locs ls hd9 i2 hP hMw hH hz hT hl
      refine lv_iload E.1 E.2.1 dX8_sameParts_9 (lv_at hl 4 rfl) ?_
      refine lv_iload_n E.1 E.2.1 dX8_sameParts_11 rfl (lv_at hl 3 rfl) ?_
      refine fw_icmp_ge (tgt := 61) E dX8_sameParts_12 (by decide) (by omega) (by omega) (by omega) (by omega) (fun c4 => ?_) (fun c4 => ?_)
      · refine lv_iconst (v := iI 1) E.1 E.2.1 dX8_sameParts_61 (by decide) ?_
        refine fw_zret (r := (iI 1)) E hr hlk hH (by rfl) ?_ dX8_sameParts_62
        have e9 : i = sp p := by omega
        exact ⟨⟨_, rfl, Or.inl ⟨rfl, same_sp hsp (sp p) p q hp hq (Nat.le_refl _) (fun j j1 j2 => (hP j (by omega)).1), fun j hj => hP j (by omega)⟩⟩, hMw, hz⟩
      · have hiq : i < sp q := by
          rcases Nat.lt_or_ge i (sp q) with g | g
          · exact g
          · have := same_sp hsp (sp p) p q hp hq (Nat.le_refl _) (fun j j1 j2 => (hP j (by omega)).1); omega
        have hcp := hag (p + i) (by omega)
        have hcq := hag (q + i) (by omega)
        have hnp := hnd (p + i) (by omega)
        have hnq := hnd (q + i) (by omega)
        rw [← hcp.1, ← hcp.2.1] at hnp
        rw [← hcq.1, ← hcq.2.1] at hnq
        have hbp := nd_b hnp
        have hbq := nd_b hnq
        have hdp := hnp.1
        have hdq := hnq.1
        refine lv_aload_n E.1 E.2.1 dX8_sameParts_15 rfl (lv_at hl 0 rfl) ?_
        refine lv_iload_n E.1 E.2.1 dX8_sameParts_16 rfl (lv_at hl 1 rfl) ?_
        refine lv_iload E.1 E.2.1 dX8_sameParts_17 (lv_at hl 4 rfl) ?_
        refine fw_iadd E dX8_sameParts_19 ?_
        refine fw_cV (As := [.int (iI ((↑p) + (↑i)))]) (rest := []) E hK hH hl hT.2.1 fc_X8 fL_X8_code ql_RX8_28 qi_yX8_code qv_yX8_code (k_code l G _ _ a cs vs ss hs (↑n : Int) (↑(lvF n C sp) : Int) ((↑p) + (↑i)) (p + i) hT (by omega) (by omega)) rfl rfl (Nat.le_of_ble_eq_true rfl) ⟨Nat.le_of_ble_eq_true rfl, Nat.le_of_ble_eq_true rfl⟩ ⟨Nat.le_of_ble_eq_true rfl, Nat.le_of_ble_eq_true rfl⟩ dX8_sameParts_20 (fw_ki fun r7 M6 H1 locs1 hp5 hH hz1 => ?_)
        obtain ⟨rfl, hM9, hz2⟩ := hp5
        replace hz := hz2.trans hz
        clear hz1 hz2
        rw [hM9] at hH
        refine lv_aload_n E.1 E.2.1 dX8_sameParts_23 rfl (lv_at hl 0 rfl) ?_
        refine lv_iload_n E.1 E.2.1 dX8_sameParts_24 rfl (lv_at hl 2 rfl) ?_
        refine lv_iload E.1 E.2.1 dX8_sameParts_25 (lv_at hl 4 rfl) ?_
        refine fw_iadd E dX8_sameParts_27 ?_
        refine fw_cV (As := [.int (iI ((↑q) + (↑i)))]) (rest := [.int (iI (cs (p + i)))]) E hK hH hl hT.2.1 fc_X8 fL_X8_code ql_RX8_28 qi_yX8_code qv_yX8_code (k_code l G _ _ a cs vs ss hs (↑n : Int) (↑(lvF n C sp) : Int) ((↑q) + (↑i)) (q + i) hT (by omega) (by omega)) rfl rfl (Nat.le_of_ble_eq_true rfl) ⟨Nat.le_of_ble_eq_true rfl, Nat.le_of_ble_eq_true rfl⟩ ⟨Nat.le_of_ble_eq_true rfl, Nat.le_of_ble_eq_true rfl⟩ dX8_sameParts_28 (fw_ki fun r10 M9 H1 locs1 hp8 hH hz1 => ?_)
        obtain ⟨rfl, hM9, hz2⟩ := hp8
        replace hz := hz2.trans hz
        clear hz1 hz2
        rw [hM9] at hH
        refine fw_icmp_ne (tgt := 53) E dX8_sameParts_31 (by decide) (by omega) (by omega) (by omega) (by omega) (fun c11 => ?_) (fun c11 => ?_)
        · refine lv_iconst (v := iI 0) E.1 E.2.1 dX8_sameParts_53 (by decide) ?_
          refine fw_zret (r := (iI 0)) E hr hlk hH (by rfl) ?_ dX8_sameParts_54
          exact ⟨⟨_, rfl, Or.inr rfl⟩, hMw, hz⟩
        · refine lv_aload_n E.1 E.2.1 dX8_sameParts_34 rfl (lv_at hl 0 rfl) ?_
          refine lv_iload_n E.1 E.2.1 dX8_sameParts_35 rfl (lv_at hl 1 rfl) ?_
          refine lv_iload E.1 E.2.1 dX8_sameParts_36 (lv_at hl 4 rfl) ?_
          refine fw_iadd E dX8_sameParts_38 ?_
          refine fw_cV (As := [.int (iI ((↑p) + (↑i)))]) (rest := []) E hK hH hl hT.2.1 fc_X8 fL_X8_value ql_RX8_32 qi_yX8_value qv_yX8_value (k_value l G _ _ a cs vs ss hs (↑n : Int) (↑(lvF n C sp) : Int) ((↑p) + (↑i)) (p + i) hT (by omega) (by omega)) rfl rfl (Nat.le_of_ble_eq_true rfl) ⟨Nat.le_of_ble_eq_true rfl, Nat.le_of_ble_eq_true rfl⟩ ⟨Nat.le_of_ble_eq_true rfl, Nat.le_of_ble_eq_true rfl⟩ dX8_sameParts_39 (fw_ki fun r14 M13 H1 locs1 hp12 hH hz1 => ?_)
          obtain ⟨rfl, hM9, hz2⟩ := hp12
          replace hz := hz2.trans hz
          clear hz1 hz2
          rw [hM9] at hH
          refine lv_aload_n E.1 E.2.1 dX8_sameParts_42 rfl (lv_at hl 0 rfl) ?_
          refine lv_iload_n E.1 E.2.1 dX8_sameParts_43 rfl (lv_at hl 2 rfl) ?_
          refine lv_iload E.1 E.2.1 dX8_sameParts_44 (lv_at hl 4 rfl) ?_
          refine fw_iadd E dX8_sameParts_46 ?_
          refine fw_cV (As := [.int (iI ((↑q) + (↑i)))]) (rest := [.int (iI (vs (p + i)))]) E hK hH hl hT.2.1 fc_X8 fL_X8_value ql_RX8_32 qi_yX8_value qv_yX8_value (k_value l G _ _ a cs vs ss hs (↑n : Int) (↑(lvF n C sp) : Int) ((↑q) + (↑i)) (q + i) hT (by omega) (by omega)) rfl rfl (Nat.le_of_ble_eq_true rfl) ⟨Nat.le_of_ble_eq_true rfl, Nat.le_of_ble_eq_true rfl⟩ ⟨Nat.le_of_ble_eq_true rfl, Nat.le_of_ble_eq_true rfl⟩ dX8_sameParts_47 (fw_ki fun r17 M16 H1 locs1 hp15 hH hz1 => ?_)
          obtain ⟨rfl, hM9, hz2⟩ := hp15
          replace hz := hz2.trans hz
          clear hz1 hz2
          rw [hM9] at hH
          refine fw_icmp_eq (tgt := 55) E dX8_sameParts_50 (by decide) (by omega) (by omega) (by omega) (by omega) (fun c18 => ?_) (fun c18 => ?_)
          · refine lv_iinc (v := iI (↑i + 1)) (lv' := [(4, .int (iI (↑i + 1))), (0, .ref a), (1, .int (iI ↑p)), (2, .int (iI ↑q)), (3, .int (iI (↑(sp p) : Int)))]) E.1 E.2.1 dX8_sameParts_55 hl (k := 4) rfl (iI_inc rfl) (by decide) rfl (fun ls hl => ?_)
            refine lv_goto (tgt := 9) E.1 E.2.1 dX8_sameParts_58 (by decide) ?_
            exact ih9 (i + 1) _ _ _ _ (by omega) (by omega) (fun j h1 => by
                rcases Nat.lt_or_ge j i with g | g
                · exact hP j g
                · rw [show j = i by omega, ← hcp.1, ← hcp.2.1, ← hcq.1, ← hcq.2.1]; exact ⟨by omega, by omega⟩) hMw hH (by omega) hT (lv_sub hl [1, 2, 3, 4, 0] rfl)
          · refine lv_iconst (v := iI 0) E.1 E.2.1 dX8_sameParts_53 (by decide) ?_
            refine fw_zret (r := (iI 0)) E hr hlk hH (by rfl) ?_ dX8_sameParts_54
            exact ⟨⟨_, rfl, Or.inr rfl⟩, hMw, hz⟩
  exact loop9_1 (sp p - 0 + 1) 0 _ _ _ _ (Nat.lt_succ_self _) (Nat.zero_le _) (fun j h1 => absurd h1 (Nat.not_lt_zero j)) rfl hH (by omega) hT (lv_sub hl [2, 3, 4, 1, 0] rfl)
theorem k_isConstant (l : Launch) (G : fw_G) (M : fw_M) (N : Nat) (a n : Nat) (C V : Nat → Int) (sp : Nat → Nat) (hA : tw G M a n C V sp) (hv : vtOK n C V sp) (p : Nat) (x : Int) (hp : p < n) (hx : -2147483648 ≤ x ∧ x < 2147483648) : fMet l yX8_isConstant cX8_isConstant 3 (some .boolean) 2 60 0 0 G M N [.ref a, .int (iI ↑p), .int (iI x)] (fw_pi (fun r M1 n1 => (∃ b : Int, r = iI b ∧ ((b = 1 ∧ C p = 0 ∧ V p = x) ∨ b = 0)) ∧ M1 = M ∧ n1 = N)) := by
  refine fw_met RX8 rfl (by decide +kernel) (Nat.le_of_ble_eq_true rfl) ?_
  intro pG e s m args below meth cG ls E hr hlk hnm hK hH hz hl
  obtain ⟨cs, vs, ss, hs, hT, hag, hbd⟩ := hA
  obtain ⟨⟨hn0, hn1⟩, hs0, hc0, hsp, hty, hnd⟩ := id hv
  have hcp := hag p hp
  have hnp := hnd p hp
  rw [← hcp.1, ← hcp.2.1] at hnp
  have hbp := nd_b hnp
  have hdp := hnp.1
  refine lv_aload_n E.1 E.2.1 dX8_isConstant_0 rfl (lv_at hl 0 rfl) ?_
  refine lv_iload_n E.1 E.2.1 dX8_isConstant_1 rfl (lv_at hl 1 rfl) ?_
  refine fw_cV (As := [.int (iI ↑p)]) (rest := []) E hK hH hl hT.2.1 fc_X8 fL_X8_code ql_RX8_28 qi_yX8_code qv_yX8_code (k_code l G _ _ a cs vs ss hs (↑n : Int) (↑(lvF n C sp) : Int) ↑p p hT (by omega) (by omega)) rfl rfl (Nat.le_of_ble_eq_true rfl) ⟨Nat.le_of_ble_eq_true rfl, Nat.le_of_ble_eq_true rfl⟩ ⟨Nat.le_of_ble_eq_true rfl, Nat.le_of_ble_eq_true rfl⟩ dX8_isConstant_2 (fw_ki fun r3 M2 H1 locs1 hp1 hH hz1 => ?_)
  obtain ⟨rfl, hM9, hz2⟩ := hp1
  replace hz := hz2.trans hz
  clear hz1 hz2
  rw [hM9] at hH
  refine fw_if_ne (tgt := 21) E dX8_isConstant_5 (by decide) (by omega) (by omega) (fun c4 => ?_) (fun c4 => ?_)
  · refine lv_iconst (v := iI 0) E.1 E.2.1 dX8_isConstant_21 (by decide) ?_
    refine fw_zret (r := (iI 0)) E hr hlk hH (by rfl) ?_ dX8_isConstant_22
    exact ⟨⟨_, rfl, Or.inr rfl⟩, rfl, hz⟩
  · refine lv_aload_n E.1 E.2.1 dX8_isConstant_8 rfl (lv_at hl 0 rfl) ?_
    refine lv_iload_n E.1 E.2.1 dX8_isConstant_9 rfl (lv_at hl 1 rfl) ?_
    refine fw_cV (As := [.int (iI ↑p)]) (rest := []) E hK hH hl hT.2.1 fc_X8 fL_X8_value ql_RX8_32 qi_yX8_value qv_yX8_value (k_value l G _ _ a cs vs ss hs (↑n : Int) (↑(lvF n C sp) : Int) ↑p p hT (by omega) (by omega)) rfl rfl (Nat.le_of_ble_eq_true rfl) ⟨Nat.le_of_ble_eq_true rfl, Nat.le_of_ble_eq_true rfl⟩ ⟨Nat.le_of_ble_eq_true rfl, Nat.le_of_ble_eq_true rfl⟩ dX8_isConstant_10 (fw_ki fun r7 M6 H1 locs1 hp5 hH hz1 => ?_)
    obtain ⟨rfl, hM9, hz2⟩ := hp5
    replace hz := hz2.trans hz
    clear hz1 hz2
    rw [hM9] at hH
    refine lv_iload_n E.1 E.2.1 dX8_isConstant_13 rfl (lv_at hl 2 rfl) ?_
    refine fw_icmp_ne (tgt := 21) E dX8_isConstant_14 (by decide) (by omega) (by omega) (by omega) (by omega) (fun c8 => ?_) (fun c8 => ?_)
    · refine lv_iconst (v := iI 0) E.1 E.2.1 dX8_isConstant_21 (by decide) ?_
      refine fw_zret (r := (iI 0)) E hr hlk hH (by rfl) ?_ dX8_isConstant_22
      exact ⟨⟨_, rfl, Or.inr rfl⟩, rfl, hz⟩
    · refine lv_iconst (v := iI 1) E.1 E.2.1 dX8_isConstant_17 (by decide) ?_
      refine lv_goto (tgt := 22) E.1 E.2.1 dX8_isConstant_18 (by decide) ?_
      refine fw_zret (r := (iI 1)) E hr hlk hH (by rfl) ?_ dX8_isConstant_22
      exact ⟨⟨_, rfl, Or.inl ⟨rfl, by rw [← hcp.1]; omega, by rw [← hcp.2.1]; omega⟩⟩, rfl, hz⟩
theorem k_sameNodes (l : Launch) (G : fw_G) (M : fw_M) (N : Nat) (a n : Nat) (C V : Nat → Int) (sp : Nat → Nat) (hA : tw G M a n C V sp) (hv : vtOK n C V sp) (o n2 : Nat) (C2 V2 : Nat → Int) (sp2 : Nat → Nat) (hO : tw G M o n2 C2 V2 sp2) (hv2 : vtOK n2 C2 V2 sp2)  : fMet l yX8_sameNodes cX8_sameNodes 4 (some .int) 2 60 0 0 G M N [.ref a, .ref o] (fw_pi (fun r M1 n1 => r = iI ↑(snF C V C2 V2 (min n n2)) ∧ M1 = M ∧ n1 = N)) := by
  refine fw_met RX8 rfl (by decide +kernel) (Nat.le_of_ble_eq_true rfl) ?_
  intro pG e s m args below meth cG ls E hr hlk hnm hK hH hz hl
  obtain ⟨cs, vs, ss, hs, hT, hag, hbd⟩ := hA
  obtain ⟨⟨hn0, hn1⟩, hs0, hc0, hsp, hty, hnd⟩ := id hv
  obtain ⟨cs2, vs2, ss2, hs2, hT2, hag2, hbd2⟩ := hO
  obtain ⟨⟨hm0, hm1⟩, -, -, hsp2, -, hnd2⟩ := id hv2
  refine lv_aload_n E.1 E.2.1 dX8_sameNodes_0 rfl (lv_at hl 0 rfl) ?_
  refine fw_get E hK hH hT.2.1 fc_X8 4 (by decide) ql_RX8_41 rfl rfl dX8_sameNodes_1 ?_
  refine lv_aload_n E.1 E.2.1 dX8_sameNodes_4 rfl (lv_at hl 1 rfl) ?_
  refine fw_get E hK hH hT2.2.1 fc_X8 4 (by decide) ql_RX8_41 rfl rfl dX8_sameNodes_5 ?_
  refine fw_min (a := (↑n : Int)) (b := (↑n2 : Int)) E ql_RX8_45 hl (by omega) (by omega) (by omega) (by omega) ⟨by decide, by decide⟩ ⟨by show _ ≤ (0 : Nat); omega, by show _ ≤ (0 : Nat); omega⟩ dX8_sameNodes_8 qs_J9_min qn_J9 qc_J9_min ?_
  refine fw_cv (y := iI (↑(min n n2) : Int)) (congrArg iI (by omega)) ?_
  refine lv_istore_n (lv' := [(2, .int (iI (↑(min n n2) : Int))), (0, .ref a), (1, .ref o)]) E.1 E.2.1 dX8_sameNodes_11 rfl hl (by decide) rfl (fun ls hl => ?_)
  refine lv_iconst (v := iI 0) E.1 E.2.1 dX8_sameNodes_12 (by decide) ?_
  refine lv_istore_n (lv' := [(3, .int (iI 0)), (2, .int (iI (↑(min n n2) : Int))), (0, .ref a), (1, .ref o)]) E.1 E.2.1 dX8_sameNodes_13 rfl hl (by decide) rfl (fun ls hl => ?_)
  have loop14_1 : ∀ (d14 : Nat) (i : Nat) (Mw14 : fw_M) (H : Heap) (locs : List Loc) (ls : Array Slot), min n n2 - i < d14 → i ≤ min n n2 → (∀ j, j < i → C j = C2 j ∧ V j = V2 j) → Mw14 = M → fw_H G s Mw14 H locs → H.size = N → trAt G Mw14 a cs vs ss hs (↑n : Int) (↑(lvF n C sp) : Int) → trAt G Mw14 o cs2 vs2 ss2 hs2 (↑n2 : Int) (↑(lvF n2 C2 sp2) : Int) → lv_has ls 4 [(0, .ref a), (1, .ref o), (2, .int (iI (↑(min n n2) : Int))), (3, .int (iI ↑i))] → W pG l e ({ frames := 2, cells := 0, slots := 0, locals := 60 } : Room) s m args below meth cG H locs (0) (0) (MQ below (fw_Q G (fw_pi (fun r M1 n1 => r = iI ↑(snF C V C2 V2 (min n n2)) ∧ M1 = M ∧ n1 = N))) args s 0 0 (fun q => G.2.2.1 ≤ q)) (F0 m 14 ls []) := by
    intro d14
    induction d14 with
    | zero => intro i Mw14 H locs ls hd; exact absurd hd (Nat.not_lt_zero _)
    | succ d14 ih14 =>
      intro i Mw14 H locs ls hd14 i2 hP hMw hH hz hT hT2 hl
      refine lv_iload_n E.1 E.2.1 dX8_sameNodes_14 rfl (lv_at hl 3 rfl) ?_
      refine lv_iload_n E.1 E.2.1 dX8_sameNodes_15 rfl (lv_at hl 2 rfl) ?_
      refine fw_icmp_ge (tgt := 53) E dX8_sameNodes_16 (by decide) (by omega) (by omega) (by omega) (by omega) (fun c1 => ?_) (fun c1 => ?_)
      · refine lv_iload_n E.1 E.2.1 dX8_sameNodes_53 rfl (lv_at hl 2 rfl) ?_
        refine fw_iret E hr hlk hH ?_ dX8_sameNodes_54
        have e9 : i = min n n2 := by omega
        exact ⟨by rw [snF_eq (min n n2) i (by omega) hP (fun q => absurd q (by omega)), e9], hMw, hz⟩
      · have hcp := hag i (by omega)
        have hcq := hag2 i (by omega)
        have hnp := hnd i (by omega)
        have hnq := hnd2 i (by omega)
        rw [← hcp.1, ← hcp.2.1] at hnp
        rw [← hcq.1, ← hcq.2.1] at hnq
        have hbp := nd_b hnp
        have hbq := nd_b hnq
        have hdp := hnp.1
        have hdq := hnq.1
        refine lv_aload_n E.1 E.2.1 dX8_sameNodes_19 rfl (lv_at hl 0 rfl) ?_
        refine lv_iload_n E.1 E.2.1 dX8_sameNodes_20 rfl (lv_at hl 3 rfl) ?_
        refine fw_cV (As := [.int (iI ↑i)]) (rest := []) E hK hH hl hT.2.1 fc_X8 fL_X8_code ql_RX8_28 qi_yX8_code qv_yX8_code (k_code l G _ _ a cs vs ss hs (↑n : Int) (↑(lvF n C sp) : Int) ↑i i hT (by omega) (by omega)) rfl rfl (Nat.le_of_ble_eq_true rfl) ⟨Nat.le_of_ble_eq_true rfl, Nat.le_of_ble_eq_true rfl⟩ ⟨Nat.le_of_ble_eq_true rfl, Nat.le_of_ble_eq_true rfl⟩ dX8_sameNodes_21 (fw_ki fun r4 M3 H1 locs1 hp2 hH hz1 => ?_)
        obtain ⟨rfl, hM9, hz2⟩ := hp2
        replace hz := hz2.trans hz
        clear hz1 hz2
        rw [hM9] at hH
        refine lv_aload_n E.1 E.2.1 dX8_sameNodes_24 rfl (lv_at hl 1 rfl) ?_
        refine lv_iload_n E.1 E.2.1 dX8_sameNodes_25 rfl (lv_at hl 3 rfl) ?_
        refine fw_cV (As := [.int (iI ↑i)]) (rest := [.int (iI (cs i))]) E hK hH hl hT2.2.1 fc_X8 fL_X8_code ql_RX8_28 qi_yX8_code qv_yX8_code (k_code l G _ _ o cs2 vs2 ss2 hs2 (↑n2 : Int) (↑(lvF n2 C2 sp2) : Int) ↑i i hT2 (by omega) (by omega)) rfl rfl (Nat.le_of_ble_eq_true rfl) ⟨Nat.le_of_ble_eq_true rfl, Nat.le_of_ble_eq_true rfl⟩ ⟨Nat.le_of_ble_eq_true rfl, Nat.le_of_ble_eq_true rfl⟩ dX8_sameNodes_26 (fw_ki fun r7 M6 H1 locs1 hp5 hH hz1 => ?_)
        obtain ⟨rfl, hM9, hz2⟩ := hp5
        replace hz := hz2.trans hz
        clear hz1 hz2
        rw [hM9] at hH
        refine fw_icmp_ne (tgt := 45) E dX8_sameNodes_29 (by decide) (by omega) (by omega) (by omega) (by omega) (fun c8 => ?_) (fun c8 => ?_)
        · refine lv_iload_n E.1 E.2.1 dX8_sameNodes_45 rfl (lv_at hl 3 rfl) ?_
          refine fw_iret E hr hlk hH ?_ dX8_sameNodes_46
          exact ⟨by rw [snF_eq (min n n2) i (by omega) hP (fun _ e => by rw [← hcp.1, ← hcp.2.1, ← hcq.1, ← hcq.2.1] at e; omega)], hMw, hz⟩
        · refine lv_aload_n E.1 E.2.1 dX8_sameNodes_32 rfl (lv_at hl 0 rfl) ?_
          refine lv_iload_n E.1 E.2.1 dX8_sameNodes_33 rfl (lv_at hl 3 rfl) ?_
          refine fw_cV (As := [.int (iI ↑i)]) (rest := []) E hK hH hl hT.2.1 fc_X8 fL_X8_value ql_RX8_32 qi_yX8_value qv_yX8_value (k_value l G _ _ a cs vs ss hs (↑n : Int) (↑(lvF n C sp) : Int) ↑i i hT (by omega) (by omega)) rfl rfl (Nat.le_of_ble_eq_true rfl) ⟨Nat.le_of_ble_eq_true rfl, Nat.le_of_ble_eq_true rfl⟩ ⟨Nat.le_of_ble_eq_true rfl, Nat.le_of_ble_eq_true rfl⟩ dX8_sameNodes_34 (fw_ki fun r11 M10 H1 locs1 hp9 hH hz1 => ?_)
          obtain ⟨rfl, hM9, hz2⟩ := hp9
          replace hz := hz2.trans hz
          clear hz1 hz2
          rw [hM9] at hH
          refine lv_aload_n E.1 E.2.1 dX8_sameNodes_37 rfl (lv_at hl 1 rfl) ?_
          refine lv_iload_n E.1 E.2.1 dX8_sameNodes_38 rfl (lv_at hl 3 rfl) ?_
          refine fw_cV (As := [.int (iI ↑i)]) (rest := [.int (iI (vs i))]) E hK hH hl hT2.2.1 fc_X8 fL_X8_value ql_RX8_32 qi_yX8_value qv_yX8_value (k_value l G _ _ o cs2 vs2 ss2 hs2 (↑n2 : Int) (↑(lvF n2 C2 sp2) : Int) ↑i i hT2 (by omega) (by omega)) rfl rfl (Nat.le_of_ble_eq_true rfl) ⟨Nat.le_of_ble_eq_true rfl, Nat.le_of_ble_eq_true rfl⟩ ⟨Nat.le_of_ble_eq_true rfl, Nat.le_of_ble_eq_true rfl⟩ dX8_sameNodes_39 (fw_ki fun r14 M13 H1 locs1 hp12 hH hz1 => ?_)
          obtain ⟨rfl, hM9, hz2⟩ := hp12
          replace hz := hz2.trans hz
          clear hz1 hz2
          rw [hM9] at hH
          refine fw_icmp_eq (tgt := 47) E dX8_sameNodes_42 (by decide) (by omega) (by omega) (by omega) (by omega) (fun c15 => ?_) (fun c15 => ?_)
          · refine lv_iinc (v := iI (↑i + 1)) (lv' := [(3, .int (iI (↑i + 1))), (0, .ref a), (1, .ref o), (2, .int (iI (↑(min n n2) : Int)))]) E.1 E.2.1 dX8_sameNodes_47 hl (k := 3) rfl (iI_inc rfl) (by decide) rfl (fun ls hl => ?_)
            refine lv_goto (tgt := 14) E.1 E.2.1 dX8_sameNodes_50 (by decide) ?_
            exact ih14 (i + 1) _ _ _ _ (by omega) (by omega) (fun j h1 => by
                rcases Nat.lt_or_ge j i with g | g
                · exact hP j g
                · rw [show j = i by omega, ← hcp.1, ← hcp.2.1, ← hcq.1, ← hcq.2.1]; exact ⟨by omega, by omega⟩) hMw hH (by omega) hT hT2 (lv_sub hl [1, 2, 3, 0] rfl)
          · refine lv_iload_n E.1 E.2.1 dX8_sameNodes_45 rfl (lv_at hl 3 rfl) ?_
            refine fw_iret E hr hlk hH ?_ dX8_sameNodes_46
            exact ⟨by rw [snF_eq (min n n2) i (by omega) hP (fun _ e => by rw [← hcp.1, ← hcp.2.1, ← hcq.1, ← hcq.2.1] at e; omega)], hMw, hz⟩
  exact loop14_1 (min n n2 - 0 + 1) 0 _ _ _ _ (Nat.lt_succ_self _) (Nat.zero_le _) (fun j h1 => absurd h1 (Nat.not_lt_zero j)) rfl hH (by omega) hT hT2 (lv_sub hl [2, 3, 1, 0] rfl)
theorem k_countOfType (l : Launch) (G : fw_G) (M : fw_M) (N : Nat) (a n : Nat) (C V : Nat → Int) (sp : Nat → Nat) (hA : tw G M a n C V sp) (hv : vtOK n C V sp) (b : Int) (hb0 : 0 ≤ b) (hb1 : b ≤ 1) : fMet l yX8_countOfType cX8_countOfType 4 (some .int) 2 60 0 0 G M N [.ref a, .int (iI b)] (fw_pi (fun r M1 n1 => r = iI ↑(cntF C b n) ∧ M1 = M ∧ n1 = N)) := by
  refine fw_met RX8 rfl (by decide +kernel) (Nat.le_of_ble_eq_true rfl) ?_
  intro pG e s m args below meth cG ls E hr hlk hnm hK hH hz hl
  obtain ⟨cs, vs, ss, hs, hT, hag, hbd⟩ := hA
  obtain ⟨⟨hn0, hn1⟩, hs0, hc0, hsp, hty, hnd⟩ := id hv
  refine lv_iconst (v := iI 0) E.1 E.2.1 dX8_countOfType_0 (by decide) ?_
  refine lv_istore_n (lv' := [(2, .int (iI 0)), (0, .ref a), (1, .int (iI b))]) E.1 E.2.1 dX8_countOfType_1 rfl hl (by decide) rfl (fun ls hl => ?_)
  refine lv_iconst (v := iI 0) E.1 E.2.1 dX8_countOfType_2 (by decide) ?_
  refine lv_istore_n (lv' := [(3, .int (iI 0)), (2, .int (iI 0)), (0, .ref a), (1, .int (iI b))]) E.1 E.2.1 dX8_countOfType_3 rfl hl (by decide) rfl (fun ls hl => ?_)
  have loop4_1 : ∀ (d4 : Nat) (i : Nat) (Mw4 : fw_M) (H : Heap) (locs : List Loc) (ls : Array Slot), n - i < d4 → i ≤ n → Mw4 = M → fw_H G s Mw4 H locs → H.size = N → trAt G Mw4 a cs vs ss hs (↑n : Int) (↑(lvF n C sp) : Int) → lv_has ls 4 [(0, .ref a), (1, .int (iI b)), (2, .int (iI (↑(cntF C b i) : Int))), (3, .int (iI ↑i))] → W pG l e ({ frames := 2, cells := 0, slots := 0, locals := 60 } : Room) s m args below meth cG H locs (0) (0) (MQ below (fw_Q G (fw_pi (fun r M1 n1 => r = iI ↑(cntF C b n) ∧ M1 = M ∧ n1 = N))) args s 0 0 (fun q => G.2.2.1 ≤ q)) (F0 m 4 ls []) := by
    intro d4
    induction d4 with
    | zero => intro i Mw4 H locs ls hd; exact absurd hd (Nat.not_lt_zero _)
    | succ d4 ih4 =>
      intro i Mw4 H locs ls hd4 i2 hMw hH hz hT hl
      refine lv_iload_n E.1 E.2.1 dX8_countOfType_4 rfl (lv_at hl 3 rfl) ?_
      refine lv_aload_n E.1 E.2.1 dX8_countOfType_5 rfl (lv_at hl 0 rfl) ?_
      refine fw_get E hK hH hT.2.1 fc_X8 4 (by decide) ql_RX8_41 rfl rfl dX8_countOfType_6 ?_
      refine fw_icmp_ge (tgt := 30) E dX8_countOfType_9 (by decide) (by omega) (by omega) (by omega) (by omega) (fun c1 => ?_) (fun c1 => ?_)
      · refine lv_iload_n E.1 E.2.1 dX8_countOfType_30 rfl (lv_at hl 2 rfl) ?_
        refine fw_iret E hr hlk hH ?_ dX8_countOfType_31
        have e9 : i = n := by omega
        exact ⟨by rw [e9], hMw, hz⟩
      · have hni := (hnd i (by omega)).1
        have hci := (hag i (by omega)).1
        have hnm := numI_cases (C i)
        have hcl := cntF_le C b i
        refine lv_aload_n E.1 E.2.1 dX8_countOfType_12 rfl (lv_at hl 0 rfl) ?_
        refine lv_iload_n E.1 E.2.1 dX8_countOfType_13 rfl (lv_at hl 3 rfl) ?_
        refine fw_cV (As := [.int (iI ↑i)]) (rest := []) E hK hH hl hT.2.1 fc_X8 fL_X8_isNumber ql_RX8_51 qi_yX8_isNumber qv_yX8_isNumber (k_isNumber l G _ _ a cs vs ss hs (↑n : Int) (↑(lvF n C sp) : Int) ↑i i hT (by omega) (by omega) (by omega)) rfl rfl (Nat.le_of_ble_eq_true rfl) ⟨Nat.le_of_ble_eq_true rfl, Nat.le_of_ble_eq_true rfl⟩ ⟨Nat.le_of_ble_eq_true rfl, Nat.le_of_ble_eq_true rfl⟩ dX8_countOfType_14 (fw_ki fun r5 M4 H1 locs1 hp3 hH hz1 => ?_)
        obtain ⟨rfl, hM9, hz2⟩ := hp3
        obtain ⟨b2, hb2⟩ : ∃ y, y = (if cs i ≤ 8 then (1 : Int) else 0) := ⟨_, rfl⟩
        refine fw_cv (y := iI b2) (by rw [hb2]) ?_
        replace hb2 : (b2 = 1 ∧ cs i ≤ 8) ∨ (b2 = 0 ∧ 8 < cs i) := by rw [hb2]; split <;> omega
        replace hz := hz2.trans hz
        clear hz1 hz2
        rw [hM9] at hH
        refine lv_iload_n E.1 E.2.1 dX8_countOfType_17 rfl (lv_at hl 1 rfl) ?_
        refine fw_icmp_ne (tgt := 24) E dX8_countOfType_18 (by decide) (by omega) (by omega) (by omega) (by omega) (fun c6 => ?_) (fun c6 => ?_)
        · refine lv_iinc (v := iI (↑i + 1)) (lv' := [(3, .int (iI (↑i + 1))), (0, .ref a), (1, .int (iI b)), (2, .int (iI (↑(cntF C b i) : Int)))]) E.1 E.2.1 dX8_countOfType_24 hl (k := 3) rfl (iI_inc rfl) (by decide) rfl (fun ls hl => ?_)
          refine lv_goto (tgt := 4) E.1 E.2.1 dX8_countOfType_27 (by decide) ?_
          have hl2 : lv_has ls 4 [(0, .ref a), (1, .int (iI b)), (2, .int (iI (↑(cntF C b (i + 1)) : Int))), (3, .int (iI (↑(i + 1) : Int)))] := by
            have h := lv_sub hl [1, 2, 3, 0] rfl (l' := [(0, .ref a), (1, .int (iI b)), (2, .int (iI (↑(cntF C b i) : Int))), (3, .int (iI (↑i + 1)))])
            rw [show (iI (↑(cntF C b i) : Int)) = iI (↑(cntF C b (i + 1)) : Int) from (congrArg iI (by show _ = ((cntF C b i + (if numI (C i) = b then 1 else 0) : Nat) : Int); rw [if_neg (by omega)]; omega)), show (iI (↑i + 1)) = iI (↑(i + 1) : Int) from (congrArg iI (by omega))] at h
            exact h
          exact ih4 (i + 1) _ _ _ _ (by omega) (by omega) hMw hH (by omega) hT hl2
        · refine lv_iinc (v := iI ((↑(cntF C b i) : Int) + 1)) (lv' := [(2, .int (iI ((↑(cntF C b i) : Int) + 1))), (0, .ref a), (1, .int (iI b)), (3, .int (iI ↑i))]) E.1 E.2.1 dX8_countOfType_21 hl (k := 2) rfl (iI_inc rfl) (by decide) rfl (fun ls hl => ?_)
          refine lv_iinc (v := iI (↑i + 1)) (lv' := [(3, .int (iI (↑i + 1))), (2, .int (iI ((↑(cntF C b i) : Int) + 1))), (0, .ref a), (1, .int (iI b))]) E.1 E.2.1 dX8_countOfType_24 hl (k := 3) rfl (iI_inc rfl) (by decide) rfl (fun ls hl => ?_)
          refine lv_goto (tgt := 4) E.1 E.2.1 dX8_countOfType_27 (by decide) ?_
          have hl2 : lv_has ls 4 [(0, .ref a), (1, .int (iI b)), (2, .int (iI (↑(cntF C b (i + 1)) : Int))), (3, .int (iI (↑(i + 1) : Int)))] := by
            have h := lv_sub hl [2, 3, 1, 0] rfl (l' := [(0, .ref a), (1, .int (iI b)), (2, .int (iI ((↑(cntF C b i) : Int) + 1))), (3, .int (iI (↑i + 1)))])
            rw [show (iI ((↑(cntF C b i) : Int) + 1)) = iI (↑(cntF C b (i + 1)) : Int) from (congrArg iI (by show _ = ((cntF C b i + (if numI (C i) = b then 1 else 0) : Nat) : Int); rw [if_pos (by omega)]; omega)), show (iI (↑i + 1)) = iI (↑(i + 1) : Int) from (congrArg iI (by omega))] at h
            exact h
          exact ih4 (i + 1) _ _ _ _ (by omega) (by omega) hMw hH (by omega) hT hl2
  exact loop4_1 (n - 0 + 1) 0 _ _ _ _ (Nat.lt_succ_self _) (Nat.zero_le _) rfl hH (by omega) hT (lv_sub hl [2, 3, 1, 0] rfl)
theorem k_placeOfType (l : Launch) (G : fw_G) (M : fw_M) (N : Nat) (a n : Nat) (C V : Nat → Int) (sp : Nat → Nat) (hA : tw G M a n C V sp) (hv : vtOK n C V sp) (b : Int) (x : Nat) (hb0 : 0 ≤ b) (hb1 : b ≤ 1) (hx : x ≤ 40) : fMet l yX8_placeOfType cX8_placeOfType 5 (some .int) 2 60 0 0 G M N [.ref a, .int (iI b), .int (iI ↑x)] (fw_pi (fun r M1 n1 => r = iI ↑(plF C b x n) ∧ M1 = M ∧ n1 = N)) := by
  refine fw_met RX8 rfl (by decide +kernel) (Nat.le_of_ble_eq_true rfl) ?_
  intro pG e s m args below meth cG ls E hr hlk hnm hK hH hz hl
  obtain ⟨cs, vs, ss, hs, hT, hag, hbd⟩ := hA
  obtain ⟨⟨hn0, hn1⟩, hs0, hc0, hsp, hty, hnd⟩ := id hv
  refine lv_iconst (v := iI 0) E.1 E.2.1 dX8_placeOfType_0 (by decide) ?_
  refine lv_istore_n (lv' := [(3, .int (iI 0)), (0, .ref a), (1, .int (iI b)), (2, .int (iI ↑x))]) E.1 E.2.1 dX8_placeOfType_1 rfl hl (by decide) rfl (fun ls hl => ?_)
  refine lv_iconst (v := iI 0) E.1 E.2.1 dX8_placeOfType_2 (by decide) ?_
  refine lv_istore (lv' := [(4, .int (iI 0)), (3, .int (iI 0)), (0, .ref a), (1, .int (iI b)), (2, .int (iI ↑x))]) E.1 E.2.1 dX8_placeOfType_3 hl (by decide) rfl (fun ls hl => ?_)
  have loop5_1 : ∀ (d5 : Nat) (i : Nat) (Mw5 : fw_M) (H : Heap) (locs : List Loc) (ls : Array Slot), n - i < d5 → i ≤ n → (∀ j, j < i → ¬ (numI (C j) = b ∧ cntF C b j = x)) → Mw5 = M → fw_H G s Mw5 H locs → H.size = N → trAt G Mw5 a cs vs ss hs (↑n : Int) (↑(lvF n C sp) : Int) → lv_has ls 5 [(0, .ref a), (1, .int (iI b)), (2, .int (iI ↑x)), (3, .int (iI (↑(cntF C b i) : Int))), (4, .int (iI ↑i))] → W pG l e ({ frames := 2, cells := 0, slots := 0, locals := 60 } : Room) s m args below meth cG H locs (0) (0) (MQ below (fw_Q G (fw_pi (fun r M1 n1 => r = iI ↑(plF C b x n) ∧ M1 = M ∧ n1 = N))) args s 0 0 (fun q => G.2.2.1 ≤ q)) (F0 m 5 ls []) := by
    intro d5
    induction d5 with
    | zero => intro i Mw5 H locs ls hd; exact absurd hd (Nat.not_lt_zero _)
    | succ d5 ih5 =>
      intro i Mw5 H locs ls hd5 i2 hP hMw hH hz hT hl
      refine lv_iload E.1 E.2.1 dX8_placeOfType_5 (lv_at hl 4 rfl) ?_
      refine lv_aload_n E.1 E.2.1 dX8_placeOfType_7 rfl (lv_at hl 0 rfl) ?_
      refine fw_get E hK hH hT.2.1 fc_X8 4 (by decide) ql_RX8_41 rfl rfl dX8_placeOfType_8 ?_
      refine fw_icmp_ge (tgt := 41) E dX8_placeOfType_11 (by decide) (by omega) (by omega) (by omega) (by omega) (fun c1 => ?_) (fun c1 => ?_)
      · refine lv_iconst (v := iI 0) E.1 E.2.1 dX8_placeOfType_41 (by decide) ?_
        refine fw_iret E hr hlk hH ?_ dX8_placeOfType_42
        have e9 : i = n := by omega
        exact ⟨by rw [plF_none n (fun j hj => hP j (by omega))]; rfl, hMw, hz⟩
      · have hni := (hnd i (by omega)).1
        have hci := (hag i (by omega)).1
        have hnm := numI_cases (C i)
        have hcl := cntF_le C b i
        refine lv_aload_n E.1 E.2.1 dX8_placeOfType_14 rfl (lv_at hl 0 rfl) ?_
        refine lv_iload E.1 E.2.1 dX8_placeOfType_15 (lv_at hl 4 rfl) ?_
        refine fw_cV (As := [.int (iI ↑i)]) (rest := []) E hK hH hl hT.2.1 fc_X8 fL_X8_isNumber ql_RX8_51 qi_yX8_isNumber qv_yX8_isNumber (k_isNumber l G _ _ a cs vs ss hs (↑n : Int) (↑(lvF n C sp) : Int) ↑i i hT (by omega) (by omega) (by omega)) rfl rfl (Nat.le_of_ble_eq_true rfl) ⟨Nat.le_of_ble_eq_true rfl, Nat.le_of_ble_eq_true rfl⟩ ⟨Nat.le_of_ble_eq_true rfl, Nat.le_of_ble_eq_true rfl⟩ dX8_placeOfType_17 (fw_ki fun r5 M4 H1 locs1 hp3 hH hz1 => ?_)
        obtain ⟨rfl, hM9, hz2⟩ := hp3
        obtain ⟨b2, hb2⟩ : ∃ y, y = (if cs i ≤ 8 then (1 : Int) else 0) := ⟨_, rfl⟩
        refine fw_cv (y := iI b2) (by rw [hb2]) ?_
        replace hb2 : (b2 = 1 ∧ cs i ≤ 8) ∨ (b2 = 0 ∧ 8 < cs i) := by rw [hb2]; split <;> omega
        replace hz := hz2.trans hz
        clear hz1 hz2
        rw [hM9] at hH
        refine lv_iload_n E.1 E.2.1 dX8_placeOfType_20 rfl (lv_at hl 1 rfl) ?_
        refine fw_icmp_ne (tgt := 35) E dX8_placeOfType_21 (by decide) (by omega) (by omega) (by omega) (by omega) (fun c6 => ?_) (fun c6 => ?_)
        · refine lv_iinc (v := iI (↑i + 1)) (lv' := [(4, .int (iI (↑i + 1))), (0, .ref a), (1, .int (iI b)), (2, .int (iI ↑x)), (3, .int (iI (↑(cntF C b i) : Int)))]) E.1 E.2.1 dX8_placeOfType_35 hl (k := 4) rfl (iI_inc rfl) (by decide) rfl (fun ls hl => ?_)
          refine lv_goto (tgt := 5) E.1 E.2.1 dX8_placeOfType_38 (by decide) ?_
          have hl2 : lv_has ls 5 [(0, .ref a), (1, .int (iI b)), (2, .int (iI ↑x)), (3, .int (iI (↑(cntF C b (i + 1)) : Int))), (4, .int (iI (↑(i + 1) : Int)))] := by
            have h := lv_sub hl [1, 2, 3, 4, 0] rfl (l' := [(0, .ref a), (1, .int (iI b)), (2, .int (iI ↑x)), (3, .int (iI (↑(cntF C b i) : Int))), (4, .int (iI (↑i + 1)))])
            rw [show (iI (↑(cntF C b i) : Int)) = iI (↑(cntF C b (i + 1)) : Int) from (congrArg iI (by show _ = ((cntF C b i + (if numI (C i) = b then 1 else 0) : Nat) : Int); rw [if_neg (by omega)]; omega)), show (iI (↑i + 1)) = iI (↑(i + 1) : Int) from (congrArg iI (by omega))] at h
            exact h
          have hP2 : ∀ j, j < i + 1 → ¬ (numI (C j) = b ∧ cntF C b j = x) := fun j hj => by
            rcases Nat.lt_or_ge j i with g | g
            · exact hP j g
            · rw [show j = i by omega]; omega
          exact ih5 (i + 1) _ _ _ _ (by omega) (by omega) hP2 hMw hH (by omega) hT hl2
        · refine lv_iload_n E.1 E.2.1 dX8_placeOfType_24 rfl (lv_at hl 3 rfl) ?_
          refine lv_iload_n E.1 E.2.1 dX8_placeOfType_25 rfl (lv_at hl 2 rfl) ?_
          refine fw_icmp_ne (tgt := 32) E dX8_placeOfType_26 (by decide) (by omega) (by omega) (by omega) (by omega) (fun c7 => ?_) (fun c7 => ?_)
          · refine lv_iinc (v := iI ((↑(cntF C b i) : Int) + 1)) (lv' := [(3, .int (iI ((↑(cntF C b i) : Int) + 1))), (0, .ref a), (1, .int (iI b)), (2, .int (iI ↑x)), (4, .int (iI ↑i))]) E.1 E.2.1 dX8_placeOfType_32 hl (k := 3) rfl (iI_inc rfl) (by decide) rfl (fun ls hl => ?_)
            refine lv_iinc (v := iI (↑i + 1)) (lv' := [(4, .int (iI (↑i + 1))), (3, .int (iI ((↑(cntF C b i) : Int) + 1))), (0, .ref a), (1, .int (iI b)), (2, .int (iI ↑x))]) E.1 E.2.1 dX8_placeOfType_35 hl (k := 4) rfl (iI_inc rfl) (by decide) rfl (fun ls hl => ?_)
            refine lv_goto (tgt := 5) E.1 E.2.1 dX8_placeOfType_38 (by decide) ?_
            have hl2 : lv_has ls 5 [(0, .ref a), (1, .int (iI b)), (2, .int (iI ↑x)), (3, .int (iI (↑(cntF C b (i + 1)) : Int))), (4, .int (iI (↑(i + 1) : Int)))] := by
              have h := lv_sub hl [2, 3, 4, 1, 0] rfl (l' := [(0, .ref a), (1, .int (iI b)), (2, .int (iI ↑x)), (3, .int (iI ((↑(cntF C b i) : Int) + 1))), (4, .int (iI (↑i + 1)))])
              rw [show (iI ((↑(cntF C b i) : Int) + 1)) = iI (↑(cntF C b (i + 1)) : Int) from (congrArg iI (by show _ = ((cntF C b i + (if numI (C i) = b then 1 else 0) : Nat) : Int); rw [if_pos (by omega)]; omega)), show (iI (↑i + 1)) = iI (↑(i + 1) : Int) from (congrArg iI (by omega))] at h
              exact h
            have hP2 : ∀ j, j < i + 1 → ¬ (numI (C j) = b ∧ cntF C b j = x) := fun j hj => by
              rcases Nat.lt_or_ge j i with g | g
              · exact hP j g
              · rw [show j = i by omega]; omega
            exact ih5 (i + 1) _ _ _ _ (by omega) (by omega) hP2 hMw hH (by omega) hT hl2
          · refine lv_iload E.1 E.2.1 dX8_placeOfType_29 (lv_at hl 4 rfl) ?_
            refine fw_iret E hr hlk hH ?_ dX8_placeOfType_31
            exact ⟨by rw [plF_eq (i := i) ⟨by omega, by omega⟩ n (by omega)], hMw, hz⟩
  exact loop5_1 (n - 0 + 1) 0 _ _ _ _ (Nat.lt_succ_self _) (Nat.zero_le _) (fun j h => absurd h (Nat.not_lt_zero j)) rfl hH (by omega) hT (lv_sub hl [2, 3, 4, 1, 0] rfl)
end
section
theorem chP_lt {n : Nat} {C : Nat → Int} {sp : Nat → Nat} (h : spOK n C sp) {k i : Nat} (hk : k < n) (hi : i < arN (C k)) : chP sp k i < k + sp k ∧ chP sp k i < n := by
  obtain ⟨h1, h2⟩ := h k hk
  have h3 := h1 i hi
  have h4 := sp_pos h h3
  have h5 := chP_mono sp k (show i + 1 ≤ arN (C k) by omega)
  have h6 : chP sp k (i + 1) = chP sp k i + sp (chP sp k i) := rfl
  omega
theorem in_span {n : Nat} {C : Nat → Int} {sp : Nat → Nat} (h : spOK n C sp) {k p : Nat} (hp : p < n) (h1 : p ≤ k) (h2 : k < p + sp p) : k + sp k ≤ p + sp p := by
  rcases Nat.lt_or_ge p k with g | g
  · exact sp_nest h hp g h2
  · rw [show k = p by omega]; exact Nat.le_refl _
theorem atF_b {g : Nat → Int} {n : Nat} {z : Int} (h : ∀ k, 0 ≤ g k ∧ g k ≤ 40) : 0 ≤ atF g n z ∧ atF g n z ≤ 40 := by
  unfold atF
  split
  · exact h _
  · omega
theorem prR_b {x a b : Int} (ha : -9999 ≤ a ∧ a ≤ 9999) (hb : -9999 ≤ b ∧ b ≤ 9999) : -99980001 ≤ prR x a b ∧ prR x a b ≤ 99980001 := by
  have hm : (a * b).natAbs ≤ 9999 * 9999 := by
    rw [Int.natAbs_mul]
    exact Nat.mul_le_mul (by omega) (by omega)
  have hd : (a.tdiv b).natAbs ≤ 9999 := by
    rw [Int.natAbs_tdiv]
    exact Nat.le_trans (Nat.div_le_self _ _) (by omega)
  unfold prR
  generalize a * b = m at *
  generalize a.tdiv b = d at *
  (repeat' split) <;> omega
theorem k_limited (l : Launch) (G : fw_G) (M : fw_M) (N : Nat) (z : Int) (hz : -2147483648 ≤ z ∧ z < 2147483648) : fMet l yX5_limited cX5_limited 1 (some .int) 0 0 0 0 G M N [.int (iI z)] (fw_pi (fun r M1 n1 => r = iI (limI z) ∧ M1 = M ∧ n1 = N)) := by
  refine fw_met RX5 rfl (by decide +kernel) (Nat.le_of_ble_eq_true rfl) ?_
  intro pG e s m args below meth cG ls E hr hlk hnm hK hH hz hl
  refine lv_iload_n E.1 E.2.1 dX5_limited_0 rfl (lv_at hl 0 rfl) ?_
  refine lv_sipush (v := iI 9999) E.1 E.2.1 dX5_limited_1 (by decide) ?_
  refine fw_icmp_le (tgt := 11) E dX5_limited_4 (by decide) (by omega) (by omega) (by omega) (by omega) (fun c1 => ?_) (fun c1 => ?_)
  · refine lv_iload_n E.1 E.2.1 dX5_limited_11 rfl (lv_at hl 0 rfl) ?_
    refine lv_sipush (v := iI (-9999)) E.1 E.2.1 dX5_limited_12 (by decide) ?_
    refine fw_icmp_ge (tgt := 24) E dX5_limited_15 (by decide) (by omega) (by omega) (by omega) (by omega) (fun c2 => ?_) (fun c2 => ?_)
    · refine lv_iload_n E.1 E.2.1 dX5_limited_24 rfl (lv_at hl 0 rfl) ?_
      refine fw_iret E hr hlk hH ?_ dX5_limited_25
      exact ⟨congrArg iI (by unfold limI; (repeat' split) <;> omega), rfl, hz⟩
    · refine lv_sipush (v := iI (-9999)) E.1 E.2.1 dX5_limited_18 (by decide) ?_
      refine lv_goto (tgt := 25) E.1 E.2.1 dX5_limited_21 (by decide) ?_
      refine fw_iret E hr hlk hH ?_ dX5_limited_25
      exact ⟨congrArg iI (by unfold limI; (repeat' split) <;> omega), rfl, hz⟩
  · refine lv_sipush (v := iI 9999) E.1 E.2.1 dX5_limited_7 (by decide) ?_
    refine fw_iret E hr hlk hH ?_ dX5_limited_10
    exact ⟨congrArg iI (by unfold limI; (repeat' split) <;> omega), rfl, hz⟩
theorem k_pairResult (l : Launch) (G : fw_G) (M : fw_M) (N : Nat) (x y z : Int) (hx : 2 ≤ x ∧ x ≤ 13 ∧ x ≠ 8) (hy : -9999 ≤ y ∧ y ≤ 9999) (hz0 : x ≠ 13 → -9999 ≤ z ∧ z ≤ 9999) : fMet l yX5_pairResult cX5_pairResult 3 (some .int) 0 0 0 0 G M N [.int (iI x), .int (iI y), .int (iI z)] (fw_pi (fun r M1 n1 => r = iI (prR x y z) ∧ M1 = M ∧ n1 = N)) := by
  refine fw_met RX5 rfl (by decide +kernel) (Nat.le_of_ble_eq_true rfl) ?_
  intro pG e s m args below meth cG ls E hr hlk hnm hK hH hz hl
  refine lv_iload_n E.1 E.2.1 dX5_pairResult_0 rfl (lv_at hl 0 rfl) ?_
  rcases (show x = 2 ∨ x = 3 ∨ x = 4 ∨ x = 5 ∨ x = 6 ∨ x = 7 ∨ x = 9 ∨ x = 10 ∨ x = 11 ∨ x = 12 ∨ x = 13 by omega) with rfl | rfl | rfl | rfl | rfl | rfl | rfl | rfl | rfl | rfl | rfl
  · refine lv_tableIn (off := 63) (tgt := 64) E.1 E.2.1 dX5_pairResult_1 (by decide) (by decide) (by decide +kernel) (by decide) ?_
    refine lv_iload_n E.1 E.2.1 dX5_pairResult_64 rfl (lv_at hl 1 rfl) ?_
    refine lv_iload_n E.1 E.2.1 dX5_pairResult_65 rfl (lv_at hl 2 rfl) ?_
    refine fw_iadd E dX5_pairResult_66 ?_
    refine fw_iret E hr hlk hH ?_ dX5_pairResult_67
    exact ⟨congrArg iI (by simp [prR]), rfl, hz⟩
  · refine lv_tableIn (off := 67) (tgt := 68) E.1 E.2.1 dX5_pairResult_1 (by decide) (by decide) (by decide +kernel) (by decide) ?_
    refine lv_iload_n E.1 E.2.1 dX5_pairResult_68 rfl (lv_at hl 1 rfl) ?_
    refine lv_iload_n E.1 E.2.1 dX5_pairResult_69 rfl (lv_at hl 2 rfl) ?_
    refine fw_isub E dX5_pairResult_70 ?_
    refine fw_iret E hr hlk hH ?_ dX5_pairResult_71
    exact ⟨congrArg iI (by simp [prR]), rfl, hz⟩
  · refine lv_tableIn (off := 71) (tgt := 72) E.1 E.2.1 dX5_pairResult_1 (by decide) (by decide) (by decide +kernel) (by decide) ?_
    refine lv_iload_n E.1 E.2.1 dX5_pairResult_72 rfl (lv_at hl 1 rfl) ?_
    refine lv_iload_n E.1 E.2.1 dX5_pairResult_73 rfl (lv_at hl 2 rfl) ?_
    refine fw_imul E dX5_pairResult_74 ?_
    refine fw_iret E hr hlk hH ?_ dX5_pairResult_75
    exact ⟨congrArg iI (by simp [prR]), rfl, hz⟩
  · refine lv_tableIn (off := 75) (tgt := 76) E.1 E.2.1 dX5_pairResult_1 (by decide) (by decide) (by decide +kernel) (by decide) ?_
    refine lv_iload_n E.1 E.2.1 dX5_pairResult_76 rfl (lv_at hl 2 rfl) ?_
    refine fw_if_ne (tgt := 84) E dX5_pairResult_77 (by decide) (by omega) (by omega) (fun c1 => ?_) (fun c1 => ?_)
    · refine lv_iload_n E.1 E.2.1 dX5_pairResult_84 rfl (lv_at hl 1 rfl) ?_
      refine lv_iload_n E.1 E.2.1 dX5_pairResult_85 rfl (lv_at hl 2 rfl) ?_
      refine fw_idiv E (by omega) (by omega) (by omega) (by omega) (by omega) dX5_pairResult_86 ?_
      refine fw_iret E hr hlk hH ?_ dX5_pairResult_87
      exact ⟨congrArg iI (by simp [prR] <;> omega), rfl, hz⟩
    · refine lv_iload_n E.1 E.2.1 dX5_pairResult_80 rfl (lv_at hl 1 rfl) ?_
      refine lv_goto (tgt := 87) E.1 E.2.1 dX5_pairResult_81 (by decide) ?_
      refine fw_iret E hr hlk hH ?_ dX5_pairResult_87
      exact ⟨congrArg iI (by simp [prR] <;> omega), rfl, hz⟩
  · refine lv_tableIn (off := 87) (tgt := 88) E.1 E.2.1 dX5_pairResult_1 (by decide) (by decide) (by decide +kernel) (by decide) ?_
    refine lv_iload_n E.1 E.2.1 dX5_pairResult_88 rfl (lv_at hl 1 rfl) ?_
    refine lv_iload_n E.1 E.2.1 dX5_pairResult_89 rfl (lv_at hl 2 rfl) ?_
    refine fw_icmp_ge (tgt := 97) E dX5_pairResult_90 (by decide) (by omega) (by omega) (by omega) (by omega) (fun c2 => ?_) (fun c2 => ?_)
    · refine lv_iload_n E.1 E.2.1 dX5_pairResult_97 rfl (lv_at hl 2 rfl) ?_
      refine fw_iret E hr hlk hH ?_ dX5_pairResult_98
      exact ⟨congrArg iI (by simp [prR] <;> omega), rfl, hz⟩
    · refine lv_iload_n E.1 E.2.1 dX5_pairResult_93 rfl (lv_at hl 1 rfl) ?_
      refine lv_goto (tgt := 98) E.1 E.2.1 dX5_pairResult_94 (by decide) ?_
      refine fw_iret E hr hlk hH ?_ dX5_pairResult_98
      exact ⟨congrArg iI (by simp [prR] <;> omega), rfl, hz⟩
  · refine lv_tableIn (off := 98) (tgt := 99) E.1 E.2.1 dX5_pairResult_1 (by decide) (by decide) (by decide +kernel) (by decide) ?_
    refine lv_iload_n E.1 E.2.1 dX5_pairResult_99 rfl (lv_at hl 1 rfl) ?_
    refine lv_iload_n E.1 E.2.1 dX5_pairResult_100 rfl (lv_at hl 2 rfl) ?_
    refine fw_icmp_le (tgt := 108) E dX5_pairResult_101 (by decide) (by omega) (by omega) (by omega) (by omega) (fun c3 => ?_) (fun c3 => ?_)
    · refine lv_iload_n E.1 E.2.1 dX5_pairResult_108 rfl (lv_at hl 2 rfl) ?_
      refine fw_iret E hr hlk hH ?_ dX5_pairResult_109
      exact ⟨congrArg iI (by simp [prR] <;> omega), rfl, hz⟩
    · refine lv_iload_n E.1 E.2.1 dX5_pairResult_104 rfl (lv_at hl 1 rfl) ?_
      refine lv_goto (tgt := 109) E.1 E.2.1 dX5_pairResult_105 (by decide) ?_
      refine fw_iret E hr hlk hH ?_ dX5_pairResult_109
      exact ⟨congrArg iI (by simp [prR] <;> omega), rfl, hz⟩
  · refine lv_tableIn (off := 109) (tgt := 110) E.1 E.2.1 dX5_pairResult_1 (by decide) (by decide) (by decide +kernel) (by decide) ?_
    refine lv_iload_n E.1 E.2.1 dX5_pairResult_110 rfl (lv_at hl 1 rfl) ?_
    refine lv_iload_n E.1 E.2.1 dX5_pairResult_111 rfl (lv_at hl 2 rfl) ?_
    refine fw_icmp_ge (tgt := 119) E dX5_pairResult_112 (by decide) (by omega) (by omega) (by omega) (by omega) (fun c4 => ?_) (fun c4 => ?_)
    · refine lv_iconst (v := iI 0) E.1 E.2.1 dX5_pairResult_119 (by decide) ?_
      refine fw_iret E hr hlk hH ?_ dX5_pairResult_120
      exact ⟨congrArg iI (by simp [prR] <;> omega), rfl, hz⟩
    · refine lv_iconst (v := iI 1) E.1 E.2.1 dX5_pairResult_115 (by decide) ?_
      refine lv_goto (tgt := 120) E.1 E.2.1 dX5_pairResult_116 (by decide) ?_
      refine fw_iret E hr hlk hH ?_ dX5_pairResult_120
      exact ⟨congrArg iI (by simp [prR] <;> omega), rfl, hz⟩
  · refine lv_tableIn (off := 120) (tgt := 121) E.1 E.2.1 dX5_pairResult_1 (by decide) (by decide) (by decide +kernel) (by decide) ?_
    refine lv_iload_n E.1 E.2.1 dX5_pairResult_121 rfl (lv_at hl 1 rfl) ?_
    refine lv_iload_n E.1 E.2.1 dX5_pairResult_122 rfl (lv_at hl 2 rfl) ?_
    refine fw_icmp_ne (tgt := 130) E dX5_pairResult_123 (by decide) (by omega) (by omega) (by omega) (by omega) (fun c5 => ?_) (fun c5 => ?_)
    · refine lv_iconst (v := iI 0) E.1 E.2.1 dX5_pairResult_130 (by decide) ?_
      refine fw_iret E hr hlk hH ?_ dX5_pairResult_131
      exact ⟨congrArg iI (by simp [prR] <;> omega), rfl, hz⟩
    · refine lv_iconst (v := iI 1) E.1 E.2.1 dX5_pairResult_126 (by decide) ?_
      refine lv_goto (tgt := 131) E.1 E.2.1 dX5_pairResult_127 (by decide) ?_
      refine fw_iret E hr hlk hH ?_ dX5_pairResult_131
      exact ⟨congrArg iI (by simp [prR] <;> omega), rfl, hz⟩
  · refine lv_tableIn (off := 87) (tgt := 88) E.1 E.2.1 dX5_pairResult_1 (by decide) (by decide) (by decide +kernel) (by decide) ?_
    refine lv_iload_n E.1 E.2.1 dX5_pairResult_88 rfl (lv_at hl 1 rfl) ?_
    refine lv_iload_n E.1 E.2.1 dX5_pairResult_89 rfl (lv_at hl 2 rfl) ?_
    refine fw_icmp_ge (tgt := 97) E dX5_pairResult_90 (by decide) (by omega) (by omega) (by omega) (by omega) (fun c6 => ?_) (fun c6 => ?_)
    · refine lv_iload_n E.1 E.2.1 dX5_pairResult_97 rfl (lv_at hl 2 rfl) ?_
      refine fw_iret E hr hlk hH ?_ dX5_pairResult_98
      exact ⟨congrArg iI (by simp [prR] <;> omega), rfl, hz⟩
    · refine lv_iload_n E.1 E.2.1 dX5_pairResult_93 rfl (lv_at hl 1 rfl) ?_
      refine lv_goto (tgt := 98) E.1 E.2.1 dX5_pairResult_94 (by decide) ?_
      refine fw_iret E hr hlk hH ?_ dX5_pairResult_98
      exact ⟨congrArg iI (by simp [prR] <;> omega), rfl, hz⟩
  · refine lv_tableIn (off := 98) (tgt := 99) E.1 E.2.1 dX5_pairResult_1 (by decide) (by decide) (by decide +kernel) (by decide) ?_
    refine lv_iload_n E.1 E.2.1 dX5_pairResult_99 rfl (lv_at hl 1 rfl) ?_
    refine lv_iload_n E.1 E.2.1 dX5_pairResult_100 rfl (lv_at hl 2 rfl) ?_
    refine fw_icmp_le (tgt := 108) E dX5_pairResult_101 (by decide) (by omega) (by omega) (by omega) (by omega) (fun c7 => ?_) (fun c7 => ?_)
    · refine lv_iload_n E.1 E.2.1 dX5_pairResult_108 rfl (lv_at hl 2 rfl) ?_
      refine fw_iret E hr hlk hH ?_ dX5_pairResult_109
      exact ⟨congrArg iI (by simp [prR] <;> omega), rfl, hz⟩
    · refine lv_iload_n E.1 E.2.1 dX5_pairResult_104 rfl (lv_at hl 1 rfl) ?_
      refine lv_goto (tgt := 109) E.1 E.2.1 dX5_pairResult_105 (by decide) ?_
      refine fw_iret E hr hlk hH ?_ dX5_pairResult_109
      exact ⟨congrArg iI (by simp [prR] <;> omega), rfl, hz⟩
  · refine lv_tableIn (off := 131) (tgt := 132) E.1 E.2.1 dX5_pairResult_1 (by decide) (by decide) (by decide +kernel) (by decide) ?_
    refine lv_iconst (v := iI 1) E.1 E.2.1 dX5_pairResult_132 (by decide) ?_
    refine lv_iload_n E.1 E.2.1 dX5_pairResult_133 rfl (lv_at hl 1 rfl) ?_
    refine fw_isub E dX5_pairResult_134 ?_
    refine fw_iret E hr hlk hH ?_ dX5_pairResult_135
    exact ⟨congrArg iI (by simp [prR]), rfl, hz⟩
end
section
theorem k_setInputs (l : Launch) (G : fw_G) (M : fw_M) (N : Nat) (ro : Nat) (ip rs : Nat → Int) (x y z : Int) (hR : rkAt G M ro ip rs) : fMet l yX5_setInputs cX5_setInputs 4 none 1 30 0 0 G M N [.ref ro, .int (iI x), .int (iI y), .int (iI z)] (fw_pv (fun M1 n1 => (∃ ip1 : Nat → Int, rkAt G M1 ro ip1 rs ∧ ip1 0 = x ∧ ip1 1 = y ∧ ip1 2 = z) ∧ (∀ q, q < ro ∨ ro + 3 ≤ q → M1 q = M q) ∧ n1 = N)) := by
  refine fw_met RX5 rfl (by decide +kernel) (Nat.le_of_ble_eq_true rfl) ?_
  intro pG e s m args below meth cG ls E hr hlk hnm hK hH hz hl
  obtain ⟨hbk, k0, k1, k2⟩ := hR
  refine lv_aload_n E.1 E.2.1 dX5_setInputs_0 rfl (lv_at hl 0 rfl) ?_
  refine fw_get E hK hH k0 fc_X5 0 (by decide) ql_RX5_9 rfl rfl dX5_setInputs_1 ?_
  refine lv_iconst (v := iI 0) E.1 E.2.1 dX5_setInputs_4 (by decide) ?_
  refine lv_iload_n E.1 E.2.1 dX5_setInputs_5 rfl (lv_at hl 1 rfl) ?_
  refine fw_cSN (As := [.ref (ro + 1), .int (iI 0), .int (iI x)]) (rest := []) E hK hH hl fL_X9_put ql_RX5_18 qs_yX9_put (k_put l G _ _ (ro + 1) 3 ip 0 0 x k1 (by omega) (by omega) (by omega) (by omega)) rfl rfl (Nat.le_of_ble_eq_true rfl) ⟨Nat.le_of_ble_eq_true rfl, Nat.le_of_ble_eq_true rfl⟩ ⟨Nat.le_of_ble_eq_true rfl, Nat.le_of_ble_eq_true rfl⟩ dX5_setInputs_6 (fw_kv fun M2 H1 locs1 hp1 hH hz1 => ?_)
  obtain ⟨hM8, hz2⟩ := hp1
  have hfr : ∀ q, q ≠ ro + 1 → M2 q = M q := fun q h => by rw [hM8]; exact fw_up_ne h
  have k1 : M2 (ro + 1) = some (fI G 3 (fun j0 => iI ((zup ip 0 x) j0))) := by rw [hM8]; exact fw_up_eq
  replace hz := hz2.trans hz
  clear hz1 hz2
  have fr3 := hfr
  replace k0 : M2 ro = some (.inr (5, [.ref (ro + 1), .ref (ro + 2)])) := (fr3 _ (by omega)).trans k0
  replace k2 : M2 (ro + 2) = some (fI G 40 (fun j0 => iI (rs j0))) := (fr3 _ (by omega)).trans k2
  refine lv_aload_n E.1 E.2.1 dX5_setInputs_9 rfl (lv_at hl 0 rfl) ?_
  refine fw_get E hK hH k0 fc_X5 0 (by decide) ql_RX5_9 rfl rfl dX5_setInputs_10 ?_
  refine lv_iconst (v := iI 1) E.1 E.2.1 dX5_setInputs_13 (by decide) ?_
  refine lv_iload_n E.1 E.2.1 dX5_setInputs_14 rfl (lv_at hl 2 rfl) ?_
  refine fw_cSN (As := [.ref (ro + 1), .int (iI 1), .int (iI y)]) (rest := []) E hK hH hl fL_X9_put ql_RX5_18 qs_yX9_put (k_put l G _ _ (ro + 1) 3 (zup ip 0 x) 1 1 y k1 (by omega) (by omega) (by omega) (by omega)) rfl rfl (Nat.le_of_ble_eq_true rfl) ⟨Nat.le_of_ble_eq_true rfl, Nat.le_of_ble_eq_true rfl⟩ ⟨Nat.le_of_ble_eq_true rfl, Nat.le_of_ble_eq_true rfl⟩ dX5_setInputs_15 (fw_kv fun M5 H1 locs1 hp4 hH hz1 => ?_)
  obtain ⟨hM8, hz2⟩ := hp4
  have hfr : ∀ q, q ≠ ro + 1 → M5 q = M2 q := fun q h => by rw [hM8]; exact fw_up_ne h
  have k1 : M5 (ro + 1) = some (fI G 3 (fun j0 => iI ((zup (zup ip 0 x) 1 y) j0))) := by rw [hM8]; exact fw_up_eq
  replace hz := hz2.trans hz
  clear hz1 hz2
  have fr6 := hfr
  replace k0 : M5 ro = some (.inr (5, [.ref (ro + 1), .ref (ro + 2)])) := (fr6 _ (by omega)).trans k0
  replace k2 : M5 (ro + 2) = some (fI G 40 (fun j0 => iI (rs j0))) := (fr6 _ (by omega)).trans k2
  refine lv_aload_n E.1 E.2.1 dX5_setInputs_18 rfl (lv_at hl 0 rfl) ?_
  refine fw_get E hK hH k0 fc_X5 0 (by decide) ql_RX5_9 rfl rfl dX5_setInputs_19 ?_
  refine lv_iconst (v := iI 2) E.1 E.2.1 dX5_setInputs_22 (by decide) ?_
  refine lv_iload_n E.1 E.2.1 dX5_setInputs_23 rfl (lv_at hl 3 rfl) ?_
  refine fw_cSN (As := [.ref (ro + 1), .int (iI 2), .int (iI z)]) (rest := []) E hK hH hl fL_X9_put ql_RX5_18 qs_yX9_put (k_put l G _ _ (ro + 1) 3 (zup (zup ip 0 x) 1 y) 2 2 z k1 (by omega) (by omega) (by omega) (by omega)) rfl rfl (Nat.le_of_ble_eq_true rfl) ⟨Nat.le_of_ble_eq_true rfl, Nat.le_of_ble_eq_true rfl⟩ ⟨Nat.le_of_ble_eq_true rfl, Nat.le_of_ble_eq_true rfl⟩ dX5_setInputs_24 (fw_kv fun M8 H1 locs1 hp7 hH hz1 => ?_)
  obtain ⟨hM8, hz2⟩ := hp7
  have hfr : ∀ q, q ≠ ro + 1 → M8 q = M5 q := fun q h => by rw [hM8]; exact fw_up_ne h
  have k1 : M8 (ro + 1) = some (fI G 3 (fun j0 => iI ((zup (zup (zup ip 0 x) 1 y) 2 z) j0))) := by rw [hM8]; exact fw_up_eq
  replace hz := hz2.trans hz
  clear hz1 hz2
  have fr9 := hfr
  replace k0 : M8 ro = some (.inr (5, [.ref (ro + 1), .ref (ro + 2)])) := (fr9 _ (by omega)).trans k0
  replace k2 : M8 (ro + 2) = some (fI G 40 (fun j0 => iI (rs j0))) := (fr9 _ (by omega)).trans k2
  refine fw_vret E hr hlk hH ?_ dX5_setInputs_27
  exact ⟨⟨_, ⟨hbk, k0, k1, k2⟩, by rw [zup_ne (by omega), zup_ne (by omega), zup_eq], by rw [zup_ne (by omega), zup_eq], zup_eq⟩, (fun q hq => by rw [fr9 q (by omega), fr6 q (by omega), fr3 q (by omega)]), hz⟩
set_option maxHeartbeats 8000000 in
theorem k_resultOf (l : Launch) (G : fw_G) (M : fw_M) (N : Nat) (ro a n p : Nat) (ip rs inp : Nat → Int) (C V : Nat → Int) (sp : Nat → Nat) (hR : rkAt G M ro ip rs) (hA : tw G M a n C V sp) (hv : vtOK n C V sp) (hp : p < n) (hra : ro + 3 ≤ a ∨ a + 5 ≤ ro) (hip : ∀ k, k < 3 → ip k = inp k ∧ -99 ≤ inp k ∧ inp k ≤ 99) : fMet l yX5_resultOf cX5_resultOf 10 (some .int) 1 60 0 0 G M N [.ref ro, .ref a, .int (iI ↑p)] (fw_pi (fun r M1 n1 => r = iI (evF inp C V sp p) ∧ (∃ rs1 : Nat → Int, rkAt G M1 ro ip rs1) ∧ (∀ q, q < ro ∨ ro + 3 ≤ q → M1 q = M q) ∧ n1 = N)) := by
  refine fw_met RX5 rfl (by decide +kernel) (Nat.le_of_ble_eq_true rfl) ?_
  intro pG e s m args below meth cG ls E hr hlk hnm hK hH hz hl
  obtain ⟨hbk, k0, k1, k2⟩ := hR
  obtain ⟨cs, vs, ss, hs, hT, hag, hbd⟩ := hA
  obtain ⟨⟨hn0, hn1⟩, hs0, hc0, hsp, hty, hnd⟩ := id hv
  have hpe := sp_le hsp hp
  have hp1 := sp_pos hsp hp
  refine lv_iload_n E.1 E.2.1 dX5_resultOf_0 rfl (lv_at hl 2 rfl) ?_
  refine lv_aload_n E.1 E.2.1 dX5_resultOf_1 rfl (lv_at hl 1 rfl) ?_
  refine fw_getN E hK hH hT.2.1 fc_X8 2 (by decide) ql_RX5_22 rfl rfl dX5_resultOf_2 ?_
  refine lv_iload_n E.1 E.2.1 dX5_resultOf_5 rfl (lv_at hl 2 rfl) ?_
  refine fw_cSN (As := [.ref (a + 3), .int (iI ↑p)]) (rest := [.int (iI ↑p)]) E hK hH hl fL_X9_at ql_RX5_27 qs_yX9_at (k_at l G _ _ (a + 3) 40 ss ↑p p hT.2.2.2.2.1 (by omega) (by omega) (by omega)) rfl rfl (Nat.le_of_ble_eq_true rfl) ⟨Nat.le_of_ble_eq_true rfl, Nat.le_of_ble_eq_true rfl⟩ ⟨Nat.le_of_ble_eq_true rfl, Nat.le_of_ble_eq_true rfl⟩ dX5_resultOf_6 (fw_ki fun r3 M2 H1 locs1 hp1 hH hz1 => ?_)
  obtain ⟨rfl, hM9, hz2⟩ := hp1
  replace hz := hz2.trans hz
  clear hz1 hz2
  rw [hM9] at hH
  refine fw_iadd E dX5_resultOf_9 ?_
  refine lv_iconst (v := iI 1) E.1 E.2.1 dX5_resultOf_10 (by decide) ?_
  refine fw_isub E dX5_resultOf_11 ?_
  refine fw_cv (y := iI ((↑(p + sp p) : Int) - 1)) (congrArg iI (by rw [(hag p hp).2.2]; omega)) ?_
  refine lv_istore_n (lv' := [(3, .int (iI ((↑(p + sp p) : Int) - 1))), (0, .ref ro), (1, .ref a), (2, .int (iI ↑p))]) E.1 E.2.1 dX5_resultOf_12 rfl hl (by decide) rfl (fun ls hl => ?_)
  have loop13_1 : ∀ (d13 : Nat) (j : Nat) (rs : Nat → Int) (Mw13 : fw_M) (H : Heap) (locs : List Loc) (ls : Array Slot), j < d13 → j ≤ p + sp p → p ≤ j → (∀ k, j ≤ k → k < p + sp p → rs k = evF inp C V sp k) → (∀ q, q < ro ∨ ro + 3 ≤ q → Mw13 q = M q) → fw_H G s Mw13 H locs → H.size = N → trAt G Mw13 a cs vs ss hs (↑n : Int) (↑(lvF n C sp) : Int) → Mw13 ro = some (.inr (5, [.ref (ro + 1), .ref (ro + 2)])) → Mw13 (ro + 1) = some (fI G 3 (fun j0 => iI (ip j0))) → Mw13 (ro + 2) = some (fI G 40 (fun j0 => iI (rs j0))) → lv_has ls 10 [(0, .ref ro), (1, .ref a), (2, .int (iI ↑p)), (3, .int (iI (↑j - 1)))] → W pG l e ({ frames := 1, cells := 0, slots := 0, locals := 60 } : Room) s m args below meth cG H locs (0) (0) (MQ below (fw_Q G (fw_pi (fun r M1 n1 => r = iI (evF inp C V sp p) ∧ (∃ rs1 : Nat → Int, rkAt G M1 ro ip rs1) ∧ (∀ q, q < ro ∨ ro + 3 ≤ q → M1 q = M q) ∧ n1 = N))) args s 0 0 (fun q => G.2.2.1 ≤ q)) (F0 m 13 ls []) := by
    intro d13
    induction d13 with
    | zero => intro j rs Mw13 H locs ls hd; exact absurd hd (Nat.not_lt_zero _)
    | succ d13 ih13 =>
      intro j rs Mw13 H locs ls hd13 ij ij2 hRs hfr0 hH hz hT k0 k1 k2 hl
      refine lv_iload_n E.1 E.2.1 dX5_resultOf_13 rfl (lv_at hl 3 rfl) ?_
      refine lv_iload_n E.1 E.2.1 dX5_resultOf_14 rfl (lv_at hl 2 rfl) ?_
      refine fw_icmp_lt (tgt := 186) E dX5_resultOf_15 (by decide) (by omega) (by omega) (by omega) (by omega) (fun c4 => ?_) (fun c4 => ?_)
      · refine lv_aload_n E.1 E.2.1 dX5_resultOf_186 rfl (lv_at hl 0 rfl) ?_
        refine fw_get E hK hH k0 fc_X5 1 (by decide) ql_RX5_15 rfl rfl dX5_resultOf_187 ?_
        refine lv_iload_n E.1 E.2.1 dX5_resultOf_190 rfl (lv_at hl 2 rfl) ?_
        refine fw_cSN (As := [.ref (ro + 2), .int (iI ↑p)]) (rest := []) E hK hH hl fL_X9_at ql_RX5_27 qs_yX9_at (k_at l G _ _ (ro + 2) 40 rs ↑p p k2 (by omega) (by omega) (by omega)) rfl rfl (Nat.le_of_ble_eq_true rfl) ⟨Nat.le_of_ble_eq_true rfl, Nat.le_of_ble_eq_true rfl⟩ ⟨Nat.le_of_ble_eq_true rfl, Nat.le_of_ble_eq_true rfl⟩ dX5_resultOf_191 (fw_ki fun r7 M6 H1 locs1 hp5 hH hz1 => ?_)
        obtain ⟨rfl, hM9, hz2⟩ := hp5
        replace hz := hz2.trans hz
        clear hz1 hz2
        rw [hM9] at hH
        refine fw_iret E hr hlk hH ?_ dX5_resultOf_194
        exact ⟨by rw [hRs p (by omega) (by omega)], ⟨rs, hbk, k0, k1, k2⟩, hfr0, hz⟩
      · have hjn : j - 1 < n := by omega
        have hcv := hag (j - 1) hjn
        have hnj := hnd (j - 1) hjn
        have hbj := nd_b hnj
        have hnj0 := hnj.1
        have hej := in_span hsp hp (show p ≤ j - 1 by omega) (show j - 1 < p + sp p by omega)
        have e0 : chP sp (j - 1) 0 = j := by show j - 1 + 1 = j; omega
        have hev := evF_eq (inp := inp) hsp hn1 hjn (V := V)
        refine lv_aload_n E.1 E.2.1 dX5_resultOf_18 rfl (lv_at hl 1 rfl) ?_
        refine fw_getN E hK hH hT.2.1 fc_X8 0 (by decide) ql_RX5_31 rfl rfl dX5_resultOf_19 ?_
        refine lv_iload_n E.1 E.2.1 dX5_resultOf_22 rfl (lv_at hl 3 rfl) ?_
        refine fw_cSN (As := [.ref (a + 1), .int (iI (↑j - 1))]) (rest := []) E hK hH hl fL_X9_at ql_RX5_27 qs_yX9_at (k_at l G _ _ (a + 1) 40 cs (↑j - 1) (j - 1) hT.2.2.1 (by omega) (by omega) (by omega)) rfl rfl (Nat.le_of_ble_eq_true rfl) ⟨Nat.le_of_ble_eq_true rfl, Nat.le_of_ble_eq_true rfl⟩ ⟨Nat.le_of_ble_eq_true rfl, Nat.le_of_ble_eq_true rfl⟩ dX5_resultOf_23 (fw_ki fun r10 M9 H1 locs1 hp8 hH hz1 => ?_)
        obtain ⟨rfl, hM9, hz2⟩ := hp8
        replace hz := hz2.trans hz
        clear hz1 hz2
        rw [hM9] at hH
        refine fw_cv (y := iI (C (j - 1))) (congrArg iI hcv.1) ?_
        refine lv_istore (lv' := [(4, .int (iI (C (j - 1)))), (0, .ref ro), (1, .ref a), (2, .int (iI ↑p)), (3, .int (iI (↑j - 1)))]) E.1 E.2.1 dX5_resultOf_26 hl (by decide) rfl (fun ls hl => ?_)
        refine lv_aload_n E.1 E.2.1 dX5_resultOf_28 rfl (lv_at hl 2 rfl) ?_
        refine fw_getN E hK hH hT.2.1 fc_X8 1 (by decide) ql_RX5_34 rfl rfl dX5_resultOf_29 ?_
        refine lv_iload_n E.1 E.2.1 dX5_resultOf_32 rfl (lv_at hl 4 rfl) ?_
        refine fw_cSN (As := [.ref (a + 2), .int (iI (↑j - 1))]) (rest := []) E hK hH hl fL_X9_at ql_RX5_27 qs_yX9_at (k_at l G _ _ (a + 2) 40 vs (↑j - 1) (j - 1) hT.2.2.2.1 (by omega) (by omega) (by omega)) rfl rfl (Nat.le_of_ble_eq_true rfl) ⟨Nat.le_of_ble_eq_true rfl, Nat.le_of_ble_eq_true rfl⟩ ⟨Nat.le_of_ble_eq_true rfl, Nat.le_of_ble_eq_true rfl⟩ dX5_resultOf_33 (fw_ki fun r13 M12 H1 locs1 hp11 hH hz1 => ?_)
        obtain ⟨rfl, hM9, hz2⟩ := hp11
        replace hz := hz2.trans hz
        clear hz1 hz2
        rw [hM9] at hH
        refine fw_cv (y := iI (V (j - 1))) (congrArg iI hcv.2.1) ?_
        refine lv_istore (lv' := [(5, .int (iI (V (j - 1)))), (4, .int (iI (C (j - 1)))), (0, .ref ro), (1, .ref a), (2, .int (iI ↑p)), (3, .int (iI (↑j - 1)))]) E.1 E.2.1 dX5_resultOf_36 hl (by decide) rfl (fun ls hl => ?_)
        refine lv_iload_n E.1 E.2.1 dX5_resultOf_38 rfl (lv_at hl 5 rfl) ?_
        refine lv_iconst (v := iI 1) E.1 E.2.1 dX5_resultOf_39 (by decide) ?_
        refine fw_iadd E dX5_resultOf_40 ?_
        refine fw_cv (y := iI ↑j) (congrArg iI (by omega)) ?_
        refine lv_istore (lv' := [(6, .int (iI ↑j)), (5, .int (iI (V (j - 1)))), (4, .int (iI (C (j - 1)))), (0, .ref ro), (1, .ref a), (2, .int (iI ↑p)), (3, .int (iI (↑j - 1)))]) E.1 E.2.1 dX5_resultOf_41 hl (by decide) rfl (fun ls hl => ?_)
        refine lv_iload E.1 E.2.1 dX5_resultOf_43 (lv_at hl 0 rfl) ?_
        refine lv_aload_n E.1 E.2.1 dX5_resultOf_45 rfl (lv_at hl 4 rfl) ?_
        refine fw_getN E hK hH hT.2.1 fc_X8 2 (by decide) ql_RX5_22 rfl rfl dX5_resultOf_46 ?_
        refine lv_iload E.1 E.2.1 dX5_resultOf_49 (lv_at hl 0 rfl) ?_
        refine fw_cSN (As := [.ref (a + 3), .int (iI ↑j)]) (rest := [.int (iI ↑j)]) E hK hH hl fL_X9_at ql_RX5_27 qs_yX9_at (k_atG l G _ _ (a + 3) 40 ss ↑j hT.2.2.2.2.1 (by omega) (by omega)) rfl rfl (Nat.le_of_ble_eq_true rfl) ⟨Nat.le_of_ble_eq_true rfl, Nat.le_of_ble_eq_true rfl⟩ ⟨Nat.le_of_ble_eq_true rfl, Nat.le_of_ble_eq_true rfl⟩ dX5_resultOf_51 (fw_ki fun r16 M15 H1 locs1 hp14 hH hz1 => ?_)
        obtain ⟨rfl, hM9, hz2⟩ := hp14
        replace hz := hz2.trans hz
        clear hz1 hz2
        rw [hM9] at hH
        refine fw_iadd E dX5_resultOf_54 ?_
        have hs2b := atF_b (n := 40) (z := ↑j) hbd
        obtain ⟨s2, hs2⟩ : ∃ y, y = (↑j : Int) + atF ss 40 ↑j := ⟨_, rfl⟩
        refine fw_cv (y := iI s2) (by rw [hs2]) ?_
        refine lv_istore (lv' := [(7, .int (iI s2)), (6, .int (iI ↑j)), (5, .int (iI (V (j - 1)))), (4, .int (iI (C (j - 1)))), (0, .ref ro), (1, .ref a), (2, .int (iI ↑p)), (3, .int (iI (↑j - 1)))]) E.1 E.2.1 dX5_resultOf_55 hl (by decide) rfl (fun ls hl => ?_)
        refine lv_iload E.1 E.2.1 dX5_resultOf_57 (lv_at hl 0 rfl) ?_
        refine lv_aload_n E.1 E.2.1 dX5_resultOf_59 rfl (lv_at hl 5 rfl) ?_
        refine fw_getN E hK hH hT.2.1 fc_X8 2 (by decide) ql_RX5_22 rfl rfl dX5_resultOf_60 ?_
        refine lv_iload E.1 E.2.1 dX5_resultOf_63 (lv_at hl 0 rfl) ?_
        refine fw_cSN (As := [.ref (a + 3), .int (iI s2)]) (rest := [.int (iI s2)]) E hK hH hl fL_X9_at ql_RX5_27 qs_yX9_at (k_atG l G _ _ (a + 3) 40 ss s2 hT.2.2.2.2.1 (by omega) (by omega)) rfl rfl (Nat.le_of_ble_eq_true rfl) ⟨Nat.le_of_ble_eq_true rfl, Nat.le_of_ble_eq_true rfl⟩ ⟨Nat.le_of_ble_eq_true rfl, Nat.le_of_ble_eq_true rfl⟩ dX5_resultOf_65 (fw_ki fun r19 M18 H1 locs1 hp17 hH hz1 => ?_)
        obtain ⟨rfl, hM9, hz2⟩ := hp17
        replace hz := hz2.trans hz
        clear hz1 hz2
        rw [hM9] at hH
        refine fw_iadd E dX5_resultOf_68 ?_
        have hs3b := atF_b (n := 40) (z := s2) hbd
        obtain ⟨s3, hs3⟩ : ∃ y, y = s2 + atF ss 40 s2 := ⟨_, rfl⟩
        refine fw_cv (y := iI s3) (by rw [hs3]) ?_
        refine lv_istore (lv' := [(8, .int (iI s3)), (7, .int (iI s2)), (6, .int (iI ↑j)), (5, .int (iI (V (j - 1)))), (4, .int (iI (C (j - 1)))), (0, .ref ro), (1, .ref a), (2, .int (iI ↑p)), (3, .int (iI (↑j - 1)))]) E.1 E.2.1 dX5_resultOf_69 hl (by decide) rfl (fun ls hl => ?_)
        refine lv_iload E.1 E.2.1 dX5_resultOf_71 (lv_at hl 4 rfl) ?_
        refine fw_if_ne (tgt := 83) E dX5_resultOf_73 (by decide) (by omega) (by omega) (fun c20 => ?_) (fun c20 => ?_)
        · refine lv_iload E.1 E.2.1 dX5_resultOf_83 (lv_at hl 4 rfl) ?_
          refine lv_iconst (v := iI 1) E.1 E.2.1 dX5_resultOf_85 (by decide) ?_
          refine fw_icmp_ne (tgt := 103) E dX5_resultOf_86 (by decide) (by omega) (by omega) (by omega) (by omega) (fun c21 => ?_) (fun c21 => ?_)
          · refine lv_iload E.1 E.2.1 dX5_resultOf_103 (lv_at hl 4 rfl) ?_
            refine lv_bipush (v := iI 8) E.1 E.2.1 dX5_resultOf_105 (by decide) ?_
            refine fw_icmp_ne (tgt := 142) E dX5_resultOf_107 (by decide) (by omega) (by omega) (by omega) (by omega) (fun c22 => ?_) (fun c22 => ?_)
            · have ha1 : 1 ≤ arN (C (j - 1)) := by unfold arN; (repeat' split) <;> omega
              have q0 := chP_lt hsp hjn (show 0 < arN (C (j - 1)) by omega)
              rw [e0] at q0
              have g0 := hRs j (Nat.le_refl _) (by omega)
              have b0 := evF_b (inp := inp) (V := V) hsp hn1 q0.2
              have hsec : (C (j - 1)) ≠ 13 → atF rs 40 s2 = evF inp C V sp (chP sp (j - 1) 1) ∧ (-9999 ≤ atF rs 40 s2 ∧ atF rs 40 s2 ≤ 9999) := fun h13 => by
                have ha2 : arN (C (j - 1)) = 2 := by unfold arN; rw [if_neg (by omega), if_neg (by omega), if_pos (by omega)]
                have q1 := chP_lt hsp hjn (show 1 < arN (C (j - 1)) by omega)
                have e1 : chP sp (j - 1) 1 = j + sp j := by show chP sp (j - 1) 0 + sp (chP sp (j - 1) 0) = _; rw [e0]
                rw [e1] at q1 ⊢
                have f2 : s2 = ↑(j + sp j) := by rw [hs2, atF_in (k := j) rfl (by omega), (hag j q0.2).2.2]; omega
                have g1 := hRs (j + sp j) (by omega) (by omega)
                have b1 := evF_b (inp := inp) (V := V) hsp hn1 q1.2
                rw [atF_in (k := j + sp j) f2 (by omega), g1]
                exact ⟨rfl, b1⟩
              refine lv_iload E.1 E.2.1 dX5_resultOf_142 (lv_at hl 4 rfl) ?_
              refine lv_aload_n E.1 E.2.1 dX5_resultOf_144 rfl (lv_at hl 5 rfl) ?_
              refine fw_get E hK hH k0 fc_X5 1 (by decide) ql_RX5_15 rfl rfl dX5_resultOf_145 ?_
              refine lv_iload E.1 E.2.1 dX5_resultOf_148 (lv_at hl 2 rfl) ?_
              refine fw_cSN (As := [.ref (ro + 2), .int (iI ↑j)]) (rest := [.int (iI (C (j - 1)))]) E hK hH hl fL_X9_at ql_RX5_27 qs_yX9_at (k_at l G _ _ (ro + 2) 40 rs ↑j j k2 (by omega) (by omega) (by omega)) rfl rfl (Nat.le_of_ble_eq_true rfl) ⟨Nat.le_of_ble_eq_true rfl, Nat.le_of_ble_eq_true rfl⟩ ⟨Nat.le_of_ble_eq_true rfl, Nat.le_of_ble_eq_true rfl⟩ dX5_resultOf_150 (fw_ki fun r25 M24 H1 locs1 hp23 hH hz1 => ?_)
              obtain ⟨rfl, hM9, hz2⟩ := hp23
              replace hz := hz2.trans hz
              clear hz1 hz2
              rw [hM9] at hH
              refine lv_aload_n E.1 E.2.1 dX5_resultOf_153 rfl (lv_at hl 5 rfl) ?_
              refine fw_get E hK hH k0 fc_X5 1 (by decide) ql_RX5_15 rfl rfl dX5_resultOf_154 ?_
              refine lv_iload E.1 E.2.1 dX5_resultOf_157 (lv_at hl 1 rfl) ?_
              refine fw_cSN (As := [.ref (ro + 2), .int (iI s2)]) (rest := [.int (iI (rs j)), .int (iI (C (j - 1)))]) E hK hH hl fL_X9_at ql_RX5_27 qs_yX9_at (k_atG l G _ _ (ro + 2) 40 rs s2 k2 (by omega) (by omega)) rfl rfl (Nat.le_of_ble_eq_true rfl) ⟨Nat.le_of_ble_eq_true rfl, Nat.le_of_ble_eq_true rfl⟩ ⟨Nat.le_of_ble_eq_true rfl, Nat.le_of_ble_eq_true rfl⟩ dX5_resultOf_159 (fw_ki fun r28 M27 H1 locs1 hp26 hH hz1 => ?_)
              obtain ⟨rfl, hM9, hz2⟩ := hp26
              replace hz := hz2.trans hz
              clear hz1 hz2
              rw [hM9] at hH
              refine fw_cS (As := [.int (iI (C (j - 1))), .int (iI (rs j)), .int (iI (atF rs 40 s2))]) (rest := []) E hK hH hl fL_X5_pairResult ql_RX5_37 qs_yX5_pairResult (k_pairResult l G _ _ (C (j - 1)) (rs j) (atF rs 40 s2) (by omega) (by rw [g0]; exact b0) (fun h => (hsec h).2)) rfl rfl (Nat.le_of_ble_eq_true rfl) ⟨Nat.le_of_ble_eq_true rfl, Nat.le_of_ble_eq_true rfl⟩ ⟨Nat.le_of_ble_eq_true rfl, Nat.le_of_ble_eq_true rfl⟩ dX5_resultOf_162 (fw_ki fun r31 M30 H1 locs1 hp29 hH hz1 => ?_)
              obtain ⟨rfl, hM9, hz2⟩ := hp29
              replace hz := hz2.trans hz
              clear hz1 hz2
              rw [hM9] at hH
              have b1 := evF_b (inp := inp) (V := V) hsp hn1 (k := chP sp (j - 1) 0) (by rw [e0]; exact q0.2)
              have hpr : prR (C (j - 1)) (rs j) (atF rs 40 s2) = prR (C (j - 1)) (evF inp C V sp (chP sp (j - 1) 0)) (evF inp C V sp (chP sp (j - 1) 1)) := by
                have g0b : rs j = evF inp C V sp (chP sp (j - 1) 0) := by rw [e0]; exact g0
                rw [g0b]
                by_cases h13 : (C (j - 1)) = 13
                · rw [h13]; rfl
                · rw [(hsec h13).1]
              have hpb : -99980001 ≤ prR (C (j - 1)) (rs j) (atF rs 40 s2) ∧ prR (C (j - 1)) (rs j) (atF rs 40 s2) ≤ 99980001 := by
                by_cases h13 : (C (j - 1)) = 13
                · rw [h13]; show -99980001 ≤ 1 - rs j ∧ 1 - rs j ≤ 99980001; rw [g0]; omega
                · exact prR_b (by rw [g0]; exact b0) (hsec h13).2
              rw [hpr] at hpb
              refine fw_cv (y := iI (prR (C (j - 1)) (evF inp C V sp (chP sp (j - 1) 0)) (evF inp C V sp (chP sp (j - 1) 1)))) (by rw [hpr]) ?_
              refine lv_istore (lv' := [(9, .int (iI (prR (C (j - 1)) (evF inp C V sp (chP sp (j - 1) 0)) (evF inp C V sp (chP sp (j - 1) 1))))), (8, .int (iI s3)), (7, .int (iI s2)), (6, .int (iI ↑j)), (5, .int (iI (V (j - 1)))), (4, .int (iI (C (j - 1)))), (0, .ref ro), (1, .ref a), (2, .int (iI ↑p)), (3, .int (iI (↑j - 1)))]) E.1 E.2.1 dX5_resultOf_165 hl (by decide) rfl (fun ls hl => ?_)
              refine lv_aload_n E.1 E.2.1 dX5_resultOf_167 rfl (lv_at hl 6 rfl) ?_
              refine fw_get E hK hH k0 fc_X5 1 (by decide) ql_RX5_15 rfl rfl dX5_resultOf_168 ?_
              refine lv_iload_n E.1 E.2.1 dX5_resultOf_171 rfl (lv_at hl 9 rfl) ?_
              refine lv_iload E.1 E.2.1 dX5_resultOf_172 (lv_at hl 0 rfl) ?_
              refine fw_cS (As := [.int (iI (prR (C (j - 1)) (evF inp C V sp (chP sp (j - 1) 0)) (evF inp C V sp (chP sp (j - 1) 1))))]) (rest := [.int (iI (↑j - 1)), .ref (ro + 2)]) E hK hH hl fL_X5_limited ql_RX5_41 qs_yX5_limited (k_limited l G _ _ (prR (C (j - 1)) (evF inp C V sp (chP sp (j - 1) 0)) (evF inp C V sp (chP sp (j - 1) 1))) (by omega)) rfl rfl (Nat.le_of_ble_eq_true rfl) ⟨Nat.le_of_ble_eq_true rfl, Nat.le_of_ble_eq_true rfl⟩ ⟨Nat.le_of_ble_eq_true rfl, Nat.le_of_ble_eq_true rfl⟩ dX5_resultOf_174 (fw_ki fun r34 M33 H1 locs1 hp32 hH hz1 => ?_)
              obtain ⟨rfl, hM9, hz2⟩ := hp32
              replace hz := hz2.trans hz
              clear hz1 hz2
              rw [hM9] at hH
              refine fw_cSN (As := [.ref (ro + 2), .int (iI (↑j - 1)), .int (iI (limI (prR (C (j - 1)) (evF inp C V sp (chP sp (j - 1) 0)) (evF inp C V sp (chP sp (j - 1) 1)))))]) (rest := []) E hK hH hl fL_X9_put ql_RX5_18 qs_yX9_put (k_put l G _ _ (ro + 2) 40 rs (↑j - 1) (j - 1) (limI (prR (C (j - 1)) (evF inp C V sp (chP sp (j - 1) 0)) (evF inp C V sp (chP sp (j - 1) 1)))) k2 (by omega) (by omega) (by omega) (by omega)) rfl rfl (Nat.le_of_ble_eq_true rfl) ⟨Nat.le_of_ble_eq_true rfl, Nat.le_of_ble_eq_true rfl⟩ ⟨Nat.le_of_ble_eq_true rfl, Nat.le_of_ble_eq_true rfl⟩ dX5_resultOf_177 (fw_kv fun M36 H1 locs1 hp35 hH hz1 => ?_)
              obtain ⟨hM8, hz2⟩ := hp35
              have hfr : ∀ q, q ≠ ro + 2 → M36 q = Mw13 q := fun q h => by rw [hM8]; exact fw_up_ne h
              have k2 : M36 (ro + 2) = some (fI G 40 (fun j0 => iI ((zup rs (j - 1) (limI (prR (C (j - 1)) (evF inp C V sp (chP sp (j - 1) 0)) (evF inp C V sp (chP sp (j - 1) 1))))) j0))) := by rw [hM8]; exact fw_up_eq
              replace hz := hz2.trans hz
              clear hz1 hz2
              have fr37 := hfr
              replace hT := trAt.fr hT (fun q h1 h2 => fr37 q (by omega))
              replace k0 : M36 ro = some (.inr (5, [.ref (ro + 1), .ref (ro + 2)])) := (fr37 _ (by omega)).trans k0
              replace k1 : M36 (ro + 1) = some (fI G 3 (fun j0 => iI (ip j0))) := (fr37 _ (by omega)).trans k1
              refine lv_iinc (v := iI (↑(j - 1) - 1)) (lv' := [(3, .int (iI (↑(j - 1) - 1))), (9, .int (iI (prR (C (j - 1)) (evF inp C V sp (chP sp (j - 1) 0)) (evF inp C V sp (chP sp (j - 1) 1))))), (8, .int (iI s3)), (7, .int (iI s2)), (6, .int (iI ↑j)), (5, .int (iI (V (j - 1)))), (4, .int (iI (C (j - 1)))), (0, .ref ro), (1, .ref a), (2, .int (iI ↑p))]) E.1 E.2.1 dX5_resultOf_180 hl (k := 9) rfl (iI_inc (congrArg iI (by omega))) (by decide) rfl (fun ls hl => ?_)
              refine lv_goto (tgt := 13) E.1 E.2.1 dX5_resultOf_183 (by decide) ?_
              have hst : ∀ k, j - 1 ≤ k → k < p + sp p → (zup rs (j - 1) (limI (prR (C (j - 1)) (evF inp C V sp (chP sp (j - 1) 0)) (evF inp C V sp (chP sp (j - 1) 1))))) k = evF inp C V sp k := fun k h1 h2 => by
                by_cases hk9 : k = j - 1
                · rw [hk9, zup_eq, hev]
                  unfold evS
                  rw [if_neg (by omega), if_neg (by omega), if_neg (by omega)]
                · rw [zup_ne hk9]; exact hRs k (by omega) h2
              exact ih13 (j - 1) _ _ _ _ _ (by omega) (by omega) (by omega) hst (fun q hq => by rw [fr37 q (by omega)]; exact hfr0 q hq) hH (by omega) hT k0 k1 k2 (lv_sub hl [7, 8, 9, 0] rfl)
            · have ha3 : arN (C (j - 1)) = 3 := by unfold arN; rw [if_pos (by omega)]
              have q0 := chP_lt hsp hjn (show 0 < arN (C (j - 1)) by omega)
              have q1 := chP_lt hsp hjn (show 1 < arN (C (j - 1)) by omega)
              have q2 := chP_lt hsp hjn (show 2 < arN (C (j - 1)) by omega)
              have e1 : chP sp (j - 1) 1 = j + sp j := by show chP sp (j - 1) 0 + sp (chP sp (j - 1) 0) = _; rw [e0]
              have e2 : chP sp (j - 1) 2 = j + sp j + sp (j + sp j) := by show chP sp (j - 1) 1 + sp (chP sp (j - 1) 1) = _; rw [e1]
              rw [e0] at q0
              rw [e1] at q1
              rw [e2] at q2
              have f2 : s2 = ↑(j + sp j) := by rw [hs2, atF_in (k := j) rfl (by omega), (hag j q0.2).2.2]; omega
              have f3 : s3 = ↑(j + sp j + sp (j + sp j)) := by rw [hs3, atF_in (k := j + sp j) f2 (by omega), (hag (j + sp j) q1.2).2.2]; omega
              have g0 := hRs j (Nat.le_refl _) (by omega)
              have g1 := hRs (j + sp j) (by omega) (by omega)
              have g2 := hRs (j + sp j + sp (j + sp j)) (by omega) (by omega)
              have b0 := evF_b (inp := inp) (V := V) hsp hn1 q0.2
              have b1 := evF_b (inp := inp) (V := V) hsp hn1 (k := chP sp (j - 1) 1) (by rw [e1]; exact q1.2)
              have b2 := evF_b (inp := inp) (V := V) hsp hn1 (k := chP sp (j - 1) 2) (by rw [e2]; exact q2.2)
              refine lv_aload_n E.1 E.2.1 dX5_resultOf_110 rfl (lv_at hl 5 rfl) ?_
              refine fw_get E hK hH k0 fc_X5 1 (by decide) ql_RX5_15 rfl rfl dX5_resultOf_111 ?_
              refine lv_aload_n E.1 E.2.1 dX5_resultOf_114 rfl (lv_at hl 5 rfl) ?_
              refine fw_get E hK hH k0 fc_X5 1 (by decide) ql_RX5_15 rfl rfl dX5_resultOf_115 ?_
              refine lv_iload E.1 E.2.1 dX5_resultOf_118 (lv_at hl 2 rfl) ?_
              refine fw_cSN (As := [.ref (ro + 2), .int (iI ↑j)]) (rest := [.ref (ro + 2)]) E hK hH hl fL_X9_at ql_RX5_27 qs_yX9_at (k_at l G _ _ (ro + 2) 40 rs ↑j j k2 (by omega) (by omega) (by omega)) rfl rfl (Nat.le_of_ble_eq_true rfl) ⟨Nat.le_of_ble_eq_true rfl, Nat.le_of_ble_eq_true rfl⟩ ⟨Nat.le_of_ble_eq_true rfl, Nat.le_of_ble_eq_true rfl⟩ dX5_resultOf_120 (fw_ki fun r40 M39 H1 locs1 hp38 hH hz1 => ?_)
              obtain ⟨rfl, hM9, hz2⟩ := hp38
              refine fw_cv (y := iI (rs j)) rfl ?_
              replace hz := hz2.trans hz
              clear hz1 hz2
              rw [hM9] at hH
              refine lv_iconst (v := iI 1) E.1 E.2.1 dX5_resultOf_123 (by decide) ?_
              refine fw_icmp_ne (tgt := 132) E dX5_resultOf_124 (by decide) (by omega) (by omega) (by omega) (by omega) (fun c41 => ?_) (fun c41 => ?_)
              · refine lv_iload E.1 E.2.1 dX5_resultOf_132 (lv_at hl 0 rfl) ?_
                refine fw_cSN (As := [.ref (ro + 2), .int (iI s3)]) (rest := []) E hK hH hl fL_X9_at ql_RX5_27 qs_yX9_at (k_at l G _ _ (ro + 2) 40 rs s3 ((s3).toNat) k2 (by omega) (by omega) (by omega)) rfl rfl (Nat.le_of_ble_eq_true rfl) ⟨Nat.le_of_ble_eq_true rfl, Nat.le_of_ble_eq_true rfl⟩ ⟨Nat.le_of_ble_eq_true rfl, Nat.le_of_ble_eq_true rfl⟩ dX5_resultOf_134 (fw_ki fun r44 M43 H1 locs1 hp42 hH hz1 => ?_)
                obtain ⟨rfl, hM9, hz2⟩ := hp42
                replace hz := hz2.trans hz
                clear hz1 hz2
                rw [hM9] at hH
                refine fw_cv (y := iI (evF inp C V sp (chP sp (j - 1) 2))) (congrArg iI (by rw [e2, ← g2]; exact congrArg rs (by omega))) ?_
                refine lv_istore (lv' := [(9, .int (iI (evF inp C V sp (chP sp (j - 1) 2)))), (8, .int (iI s3)), (7, .int (iI s2)), (6, .int (iI ↑j)), (5, .int (iI (V (j - 1)))), (4, .int (iI (C (j - 1)))), (0, .ref ro), (1, .ref a), (2, .int (iI ↑p)), (3, .int (iI (↑j - 1)))]) E.1 E.2.1 dX5_resultOf_137 hl (by decide) rfl (fun ls hl => ?_)
                refine lv_goto (tgt := 167) E.1 E.2.1 dX5_resultOf_139 (by decide) ?_
                refine lv_aload_n E.1 E.2.1 dX5_resultOf_167 rfl (lv_at hl 6 rfl) ?_
                refine fw_get E hK hH k0 fc_X5 1 (by decide) ql_RX5_15 rfl rfl dX5_resultOf_168 ?_
                refine lv_iload_n E.1 E.2.1 dX5_resultOf_171 rfl (lv_at hl 9 rfl) ?_
                refine lv_iload E.1 E.2.1 dX5_resultOf_172 (lv_at hl 0 rfl) ?_
                refine fw_cS (As := [.int (iI (evF inp C V sp (chP sp (j - 1) 2)))]) (rest := [.int (iI (↑j - 1)), .ref (ro + 2)]) E hK hH hl fL_X5_limited ql_RX5_41 qs_yX5_limited (k_limited l G _ _ (evF inp C V sp (chP sp (j - 1) 2)) (by omega)) rfl rfl (Nat.le_of_ble_eq_true rfl) ⟨Nat.le_of_ble_eq_true rfl, Nat.le_of_ble_eq_true rfl⟩ ⟨Nat.le_of_ble_eq_true rfl, Nat.le_of_ble_eq_true rfl⟩ dX5_resultOf_174 (fw_ki fun r47 M46 H1 locs1 hp45 hH hz1 => ?_)
                obtain ⟨rfl, hM9, hz2⟩ := hp45
                replace hz := hz2.trans hz
                clear hz1 hz2
                rw [hM9] at hH
                refine fw_cSN (As := [.ref (ro + 2), .int (iI (↑j - 1)), .int (iI (limI (evF inp C V sp (chP sp (j - 1) 2))))]) (rest := []) E hK hH hl fL_X9_put ql_RX5_18 qs_yX9_put (k_put l G _ _ (ro + 2) 40 rs (↑j - 1) (j - 1) (limI (evF inp C V sp (chP sp (j - 1) 2))) k2 (by omega) (by omega) (by omega) (by omega)) rfl rfl (Nat.le_of_ble_eq_true rfl) ⟨Nat.le_of_ble_eq_true rfl, Nat.le_of_ble_eq_true rfl⟩ ⟨Nat.le_of_ble_eq_true rfl, Nat.le_of_ble_eq_true rfl⟩ dX5_resultOf_177 (fw_kv fun M49 H1 locs1 hp48 hH hz1 => ?_)
                obtain ⟨hM8, hz2⟩ := hp48
                have hfr : ∀ q, q ≠ ro + 2 → M49 q = Mw13 q := fun q h => by rw [hM8]; exact fw_up_ne h
                have k2 : M49 (ro + 2) = some (fI G 40 (fun j0 => iI ((zup rs (j - 1) (limI (evF inp C V sp (chP sp (j - 1) 2)))) j0))) := by rw [hM8]; exact fw_up_eq
                replace hz := hz2.trans hz
                clear hz1 hz2
                have fr50 := hfr
                replace hT := trAt.fr hT (fun q h1 h2 => fr50 q (by omega))
                replace k0 : M49 ro = some (.inr (5, [.ref (ro + 1), .ref (ro + 2)])) := (fr50 _ (by omega)).trans k0
                replace k1 : M49 (ro + 1) = some (fI G 3 (fun j0 => iI (ip j0))) := (fr50 _ (by omega)).trans k1
                refine lv_iinc (v := iI (↑(j - 1) - 1)) (lv' := [(3, .int (iI (↑(j - 1) - 1))), (9, .int (iI (evF inp C V sp (chP sp (j - 1) 2)))), (8, .int (iI s3)), (7, .int (iI s2)), (6, .int (iI ↑j)), (5, .int (iI (V (j - 1)))), (4, .int (iI (C (j - 1)))), (0, .ref ro), (1, .ref a), (2, .int (iI ↑p))]) E.1 E.2.1 dX5_resultOf_180 hl (k := 9) rfl (iI_inc (congrArg iI (by omega))) (by decide) rfl (fun ls hl => ?_)
                refine lv_goto (tgt := 13) E.1 E.2.1 dX5_resultOf_183 (by decide) ?_
                have hst : ∀ k, j - 1 ≤ k → k < p + sp p → (zup rs (j - 1) (limI (evF inp C V sp (chP sp (j - 1) 2)))) k = evF inp C V sp k := fun k h1 h2 => by
                  by_cases hk9 : k = j - 1
                  · rw [hk9, zup_eq, hev]
                    unfold evS
                    rw [if_neg (by omega), if_neg (by omega), if_pos (show (C (j - 1)) = 8 by omega)]
                    show _ = limI (if evF inp C V sp (chP sp (j - 1) 0) = 1 then evF inp C V sp (chP sp (j - 1) 1) else evF inp C V sp (chP sp (j - 1) 2))
                    rw [e0, if_neg (by omega)]
                  · rw [zup_ne hk9]; exact hRs k (by omega) h2
                exact ih13 (j - 1) _ _ _ _ _ (by omega) (by omega) (by omega) hst (fun q hq => by rw [fr50 q (by omega)]; exact hfr0 q hq) hH (by omega) hT k0 k1 k2 (lv_sub hl [7, 8, 9, 0] rfl)
              · refine lv_iload E.1 E.2.1 dX5_resultOf_127 (lv_at hl 1 rfl) ?_
                refine lv_goto (tgt := 134) E.1 E.2.1 dX5_resultOf_129 (by decide) ?_
                refine fw_cSN (As := [.ref (ro + 2), .int (iI s2)]) (rest := []) E hK hH hl fL_X9_at ql_RX5_27 qs_yX9_at (k_at l G _ _ (ro + 2) 40 rs s2 ((s2).toNat) k2 (by omega) (by omega) (by omega)) rfl rfl (Nat.le_of_ble_eq_true rfl) ⟨Nat.le_of_ble_eq_true rfl, Nat.le_of_ble_eq_true rfl⟩ ⟨Nat.le_of_ble_eq_true rfl, Nat.le_of_ble_eq_true rfl⟩ dX5_resultOf_134 (fw_ki fun r53 M52 H1 locs1 hp51 hH hz1 => ?_)
                obtain ⟨rfl, hM9, hz2⟩ := hp51
                replace hz := hz2.trans hz
                clear hz1 hz2
                rw [hM9] at hH
                refine fw_cv (y := iI (evF inp C V sp (chP sp (j - 1) 1))) (congrArg iI (by rw [e1, ← g1]; exact congrArg rs (by omega))) ?_
                refine lv_istore (lv' := [(9, .int (iI (evF inp C V sp (chP sp (j - 1) 1)))), (8, .int (iI s3)), (7, .int (iI s2)), (6, .int (iI ↑j)), (5, .int (iI (V (j - 1)))), (4, .int (iI (C (j - 1)))), (0, .ref ro), (1, .ref a), (2, .int (iI ↑p)), (3, .int (iI (↑j - 1)))]) E.1 E.2.1 dX5_resultOf_137 hl (by decide) rfl (fun ls hl => ?_)
                refine lv_goto (tgt := 167) E.1 E.2.1 dX5_resultOf_139 (by decide) ?_
                refine lv_aload_n E.1 E.2.1 dX5_resultOf_167 rfl (lv_at hl 6 rfl) ?_
                refine fw_get E hK hH k0 fc_X5 1 (by decide) ql_RX5_15 rfl rfl dX5_resultOf_168 ?_
                refine lv_iload_n E.1 E.2.1 dX5_resultOf_171 rfl (lv_at hl 9 rfl) ?_
                refine lv_iload E.1 E.2.1 dX5_resultOf_172 (lv_at hl 0 rfl) ?_
                refine fw_cS (As := [.int (iI (evF inp C V sp (chP sp (j - 1) 1)))]) (rest := [.int (iI (↑j - 1)), .ref (ro + 2)]) E hK hH hl fL_X5_limited ql_RX5_41 qs_yX5_limited (k_limited l G _ _ (evF inp C V sp (chP sp (j - 1) 1)) (by omega)) rfl rfl (Nat.le_of_ble_eq_true rfl) ⟨Nat.le_of_ble_eq_true rfl, Nat.le_of_ble_eq_true rfl⟩ ⟨Nat.le_of_ble_eq_true rfl, Nat.le_of_ble_eq_true rfl⟩ dX5_resultOf_174 (fw_ki fun r56 M55 H1 locs1 hp54 hH hz1 => ?_)
                obtain ⟨rfl, hM9, hz2⟩ := hp54
                replace hz := hz2.trans hz
                clear hz1 hz2
                rw [hM9] at hH
                refine fw_cSN (As := [.ref (ro + 2), .int (iI (↑j - 1)), .int (iI (limI (evF inp C V sp (chP sp (j - 1) 1))))]) (rest := []) E hK hH hl fL_X9_put ql_RX5_18 qs_yX9_put (k_put l G _ _ (ro + 2) 40 rs (↑j - 1) (j - 1) (limI (evF inp C V sp (chP sp (j - 1) 1))) k2 (by omega) (by omega) (by omega) (by omega)) rfl rfl (Nat.le_of_ble_eq_true rfl) ⟨Nat.le_of_ble_eq_true rfl, Nat.le_of_ble_eq_true rfl⟩ ⟨Nat.le_of_ble_eq_true rfl, Nat.le_of_ble_eq_true rfl⟩ dX5_resultOf_177 (fw_kv fun M58 H1 locs1 hp57 hH hz1 => ?_)
                obtain ⟨hM8, hz2⟩ := hp57
                have hfr : ∀ q, q ≠ ro + 2 → M58 q = Mw13 q := fun q h => by rw [hM8]; exact fw_up_ne h
                have k2 : M58 (ro + 2) = some (fI G 40 (fun j0 => iI ((zup rs (j - 1) (limI (evF inp C V sp (chP sp (j - 1) 1)))) j0))) := by rw [hM8]; exact fw_up_eq
                replace hz := hz2.trans hz
                clear hz1 hz2
                have fr59 := hfr
                replace hT := trAt.fr hT (fun q h1 h2 => fr59 q (by omega))
                replace k0 : M58 ro = some (.inr (5, [.ref (ro + 1), .ref (ro + 2)])) := (fr59 _ (by omega)).trans k0
                replace k1 : M58 (ro + 1) = some (fI G 3 (fun j0 => iI (ip j0))) := (fr59 _ (by omega)).trans k1
                refine lv_iinc (v := iI (↑(j - 1) - 1)) (lv' := [(3, .int (iI (↑(j - 1) - 1))), (9, .int (iI (evF inp C V sp (chP sp (j - 1) 1)))), (8, .int (iI s3)), (7, .int (iI s2)), (6, .int (iI ↑j)), (5, .int (iI (V (j - 1)))), (4, .int (iI (C (j - 1)))), (0, .ref ro), (1, .ref a), (2, .int (iI ↑p))]) E.1 E.2.1 dX5_resultOf_180 hl (k := 9) rfl (iI_inc (congrArg iI (by omega))) (by decide) rfl (fun ls hl => ?_)
                refine lv_goto (tgt := 13) E.1 E.2.1 dX5_resultOf_183 (by decide) ?_
                have hst : ∀ k, j - 1 ≤ k → k < p + sp p → (zup rs (j - 1) (limI (evF inp C V sp (chP sp (j - 1) 1)))) k = evF inp C V sp k := fun k h1 h2 => by
                  by_cases hk9 : k = j - 1
                  · rw [hk9, zup_eq, hev]
                    unfold evS
                    rw [if_neg (by omega), if_neg (by omega), if_pos (show (C (j - 1)) = 8 by omega)]
                    show _ = limI (if evF inp C V sp (chP sp (j - 1) 0) = 1 then evF inp C V sp (chP sp (j - 1) 1) else evF inp C V sp (chP sp (j - 1) 2))
                    rw [e0, if_pos (by omega)]
                  · rw [zup_ne hk9]; exact hRs k (by omega) h2
                exact ih13 (j - 1) _ _ _ _ _ (by omega) (by omega) (by omega) hst (fun q hq => by rw [fr59 q (by omega)]; exact hfr0 q hq) hH (by omega) hT k0 k1 k2 (lv_sub hl [7, 8, 9, 0] rfl)
          · have hvi := hnj.2.2.1 (by omega)
            have hib := hip (V (j - 1)).toNat (by omega)
            refine lv_aload_n E.1 E.2.1 dX5_resultOf_89 rfl (lv_at hl 5 rfl) ?_
            refine fw_get E hK hH k0 fc_X5 0 (by decide) ql_RX5_9 rfl rfl dX5_resultOf_90 ?_
            refine lv_iload E.1 E.2.1 dX5_resultOf_93 (lv_at hl 3 rfl) ?_
            refine fw_cSN (As := [.ref (ro + 1), .int (iI (V (j - 1)))]) (rest := []) E hK hH hl fL_X9_at ql_RX5_27 qs_yX9_at (k_at l G _ _ (ro + 1) 3 ip (V (j - 1)) ((V (j - 1)).toNat) k1 (by omega) (by omega) (by omega)) rfl rfl (Nat.le_of_ble_eq_true rfl) ⟨Nat.le_of_ble_eq_true rfl, Nat.le_of_ble_eq_true rfl⟩ ⟨Nat.le_of_ble_eq_true rfl, Nat.le_of_ble_eq_true rfl⟩ dX5_resultOf_95 (fw_ki fun r62 M61 H1 locs1 hp60 hH hz1 => ?_)
            obtain ⟨rfl, hM9, hz2⟩ := hp60
            replace hz := hz2.trans hz
            clear hz1 hz2
            rw [hM9] at hH
            refine fw_cv (y := iI (inp (V (j - 1)).toNat)) (congrArg iI (hip _ (by omega)).1) ?_
            refine lv_istore (lv' := [(9, .int (iI (inp (V (j - 1)).toNat))), (8, .int (iI s3)), (7, .int (iI s2)), (6, .int (iI ↑j)), (5, .int (iI (V (j - 1)))), (4, .int (iI (C (j - 1)))), (0, .ref ro), (1, .ref a), (2, .int (iI ↑p)), (3, .int (iI (↑j - 1)))]) E.1 E.2.1 dX5_resultOf_98 hl (by decide) rfl (fun ls hl => ?_)
            refine lv_goto (tgt := 167) E.1 E.2.1 dX5_resultOf_100 (by decide) ?_
            refine lv_aload_n E.1 E.2.1 dX5_resultOf_167 rfl (lv_at hl 6 rfl) ?_
            refine fw_get E hK hH k0 fc_X5 1 (by decide) ql_RX5_15 rfl rfl dX5_resultOf_168 ?_
            refine lv_iload_n E.1 E.2.1 dX5_resultOf_171 rfl (lv_at hl 9 rfl) ?_
            refine lv_iload E.1 E.2.1 dX5_resultOf_172 (lv_at hl 0 rfl) ?_
            refine fw_cS (As := [.int (iI (inp (V (j - 1)).toNat))]) (rest := [.int (iI (↑j - 1)), .ref (ro + 2)]) E hK hH hl fL_X5_limited ql_RX5_41 qs_yX5_limited (k_limited l G _ _ (inp (V (j - 1)).toNat) (by omega)) rfl rfl (Nat.le_of_ble_eq_true rfl) ⟨Nat.le_of_ble_eq_true rfl, Nat.le_of_ble_eq_true rfl⟩ ⟨Nat.le_of_ble_eq_true rfl, Nat.le_of_ble_eq_true rfl⟩ dX5_resultOf_174 (fw_ki fun r65 M64 H1 locs1 hp63 hH hz1 => ?_)
            obtain ⟨rfl, hM9, hz2⟩ := hp63
            replace hz := hz2.trans hz
            clear hz1 hz2
            rw [hM9] at hH
            refine fw_cSN (As := [.ref (ro + 2), .int (iI (↑j - 1)), .int (iI (limI (inp (V (j - 1)).toNat)))]) (rest := []) E hK hH hl fL_X9_put ql_RX5_18 qs_yX9_put (k_put l G _ _ (ro + 2) 40 rs (↑j - 1) (j - 1) (limI (inp (V (j - 1)).toNat)) k2 (by omega) (by omega) (by omega) (by omega)) rfl rfl (Nat.le_of_ble_eq_true rfl) ⟨Nat.le_of_ble_eq_true rfl, Nat.le_of_ble_eq_true rfl⟩ ⟨Nat.le_of_ble_eq_true rfl, Nat.le_of_ble_eq_true rfl⟩ dX5_resultOf_177 (fw_kv fun M67 H1 locs1 hp66 hH hz1 => ?_)
            obtain ⟨hM8, hz2⟩ := hp66
            have hfr : ∀ q, q ≠ ro + 2 → M67 q = Mw13 q := fun q h => by rw [hM8]; exact fw_up_ne h
            have k2 : M67 (ro + 2) = some (fI G 40 (fun j0 => iI ((zup rs (j - 1) (limI (inp (V (j - 1)).toNat))) j0))) := by rw [hM8]; exact fw_up_eq
            replace hz := hz2.trans hz
            clear hz1 hz2
            have fr68 := hfr
            replace hT := trAt.fr hT (fun q h1 h2 => fr68 q (by omega))
            replace k0 : M67 ro = some (.inr (5, [.ref (ro + 1), .ref (ro + 2)])) := (fr68 _ (by omega)).trans k0
            replace k1 : M67 (ro + 1) = some (fI G 3 (fun j0 => iI (ip j0))) := (fr68 _ (by omega)).trans k1
            refine lv_iinc (v := iI (↑(j - 1) - 1)) (lv' := [(3, .int (iI (↑(j - 1) - 1))), (9, .int (iI (inp (V (j - 1)).toNat))), (8, .int (iI s3)), (7, .int (iI s2)), (6, .int (iI ↑j)), (5, .int (iI (V (j - 1)))), (4, .int (iI (C (j - 1)))), (0, .ref ro), (1, .ref a), (2, .int (iI ↑p))]) E.1 E.2.1 dX5_resultOf_180 hl (k := 9) rfl (iI_inc (congrArg iI (by omega))) (by decide) rfl (fun ls hl => ?_)
            refine lv_goto (tgt := 13) E.1 E.2.1 dX5_resultOf_183 (by decide) ?_
            have hst : ∀ k, j - 1 ≤ k → k < p + sp p → (zup rs (j - 1) (limI (inp (V (j - 1)).toNat))) k = evF inp C V sp k := fun k h1 h2 => by
              by_cases hk9 : k = j - 1
              · rw [hk9, zup_eq, hev]
                unfold evS
                rw [if_neg (by omega), if_pos (show (C (j - 1)) = 1 by omega)]
              · rw [zup_ne hk9]; exact hRs k (by omega) h2
            exact ih13 (j - 1) _ _ _ _ _ (by omega) (by omega) (by omega) hst (fun q hq => by rw [fr68 q (by omega)]; exact hfr0 q hq) hH (by omega) hT k0 k1 k2 (lv_sub hl [7, 8, 9, 0] rfl)
        · refine lv_iload E.1 E.2.1 dX5_resultOf_76 (lv_at hl 3 rfl) ?_
          refine lv_istore (lv' := [(9, .int (iI (V (j - 1)))), (8, .int (iI s3)), (7, .int (iI s2)), (6, .int (iI ↑j)), (5, .int (iI (V (j - 1)))), (4, .int (iI (C (j - 1)))), (0, .ref ro), (1, .ref a), (2, .int (iI ↑p)), (3, .int (iI (↑j - 1)))]) E.1 E.2.1 dX5_resultOf_78 hl (by decide) rfl (fun ls hl => ?_)
          refine lv_goto (tgt := 167) E.1 E.2.1 dX5_resultOf_80 (by decide) ?_
          refine lv_aload_n E.1 E.2.1 dX5_resultOf_167 rfl (lv_at hl 6 rfl) ?_
          refine fw_get E hK hH k0 fc_X5 1 (by decide) ql_RX5_15 rfl rfl dX5_resultOf_168 ?_
          refine lv_iload_n E.1 E.2.1 dX5_resultOf_171 rfl (lv_at hl 9 rfl) ?_
          refine lv_iload E.1 E.2.1 dX5_resultOf_172 (lv_at hl 0 rfl) ?_
          refine fw_cS (As := [.int (iI (V (j - 1)))]) (rest := [.int (iI (↑j - 1)), .ref (ro + 2)]) E hK hH hl fL_X5_limited ql_RX5_41 qs_yX5_limited (k_limited l G _ _ (V (j - 1)) (by omega)) rfl rfl (Nat.le_of_ble_eq_true rfl) ⟨Nat.le_of_ble_eq_true rfl, Nat.le_of_ble_eq_true rfl⟩ ⟨Nat.le_of_ble_eq_true rfl, Nat.le_of_ble_eq_true rfl⟩ dX5_resultOf_174 (fw_ki fun r71 M70 H1 locs1 hp69 hH hz1 => ?_)
          obtain ⟨rfl, hM9, hz2⟩ := hp69
          replace hz := hz2.trans hz
          clear hz1 hz2
          rw [hM9] at hH
          refine fw_cSN (As := [.ref (ro + 2), .int (iI (↑j - 1)), .int (iI (limI (V (j - 1))))]) (rest := []) E hK hH hl fL_X9_put ql_RX5_18 qs_yX9_put (k_put l G _ _ (ro + 2) 40 rs (↑j - 1) (j - 1) (limI (V (j - 1))) k2 (by omega) (by omega) (by omega) (by omega)) rfl rfl (Nat.le_of_ble_eq_true rfl) ⟨Nat.le_of_ble_eq_true rfl, Nat.le_of_ble_eq_true rfl⟩ ⟨Nat.le_of_ble_eq_true rfl, Nat.le_of_ble_eq_true rfl⟩ dX5_resultOf_177 (fw_kv fun M73 H1 locs1 hp72 hH hz1 => ?_)
          obtain ⟨hM8, hz2⟩ := hp72
          have hfr : ∀ q, q ≠ ro + 2 → M73 q = Mw13 q := fun q h => by rw [hM8]; exact fw_up_ne h
          have k2 : M73 (ro + 2) = some (fI G 40 (fun j0 => iI ((zup rs (j - 1) (limI (V (j - 1)))) j0))) := by rw [hM8]; exact fw_up_eq
          replace hz := hz2.trans hz
          clear hz1 hz2
          have fr74 := hfr
          replace hT := trAt.fr hT (fun q h1 h2 => fr74 q (by omega))
          replace k0 : M73 ro = some (.inr (5, [.ref (ro + 1), .ref (ro + 2)])) := (fr74 _ (by omega)).trans k0
          replace k1 : M73 (ro + 1) = some (fI G 3 (fun j0 => iI (ip j0))) := (fr74 _ (by omega)).trans k1
          refine lv_iinc (v := iI (↑(j - 1) - 1)) (lv' := [(3, .int (iI (↑(j - 1) - 1))), (9, .int (iI (V (j - 1)))), (8, .int (iI s3)), (7, .int (iI s2)), (6, .int (iI ↑j)), (5, .int (iI (V (j - 1)))), (4, .int (iI (C (j - 1)))), (0, .ref ro), (1, .ref a), (2, .int (iI ↑p))]) E.1 E.2.1 dX5_resultOf_180 hl (k := 9) rfl (iI_inc (congrArg iI (by omega))) (by decide) rfl (fun ls hl => ?_)
          refine lv_goto (tgt := 13) E.1 E.2.1 dX5_resultOf_183 (by decide) ?_
          have hst : ∀ k, j - 1 ≤ k → k < p + sp p → (zup rs (j - 1) (limI (V (j - 1)))) k = evF inp C V sp k := fun k h1 h2 => by
            by_cases hk9 : k = j - 1
            · rw [hk9, zup_eq, hev]
              unfold evS
              rw [if_pos (show (C (j - 1)) = 0 by omega)]
            · rw [zup_ne hk9]; exact hRs k (by omega) h2
          exact ih13 (j - 1) _ _ _ _ _ (by omega) (by omega) (by omega) hst (fun q hq => by rw [fr74 q (by omega)]; exact hfr0 q hq) hH (by omega) hT k0 k1 k2 (lv_sub hl [7, 8, 9, 0] rfl)
  exact loop13_1 ((p + sp p) + 1) (p + sp p) rs _ _ _ _ (Nat.lt_succ_self _) (Nat.le_refl _) (by omega) (fun k h1 h2 => absurd h1 (by omega)) (fun _ _ => rfl) hH (by omega) hT k0 k1 k2 (lv_sub hl [1, 2, 3, 0] rfl)
end
section
def casI (fi se th : Nat → Int) (k : Nat) : Nat → Int := fun i => if i = 0 then fi k else if i = 1 then se k else th k
def casOK (fi se th du : Nat → Int) (cn : Nat) : Prop := ∀ k, k < cn → (-99 ≤ fi k ∧ fi k ≤ 99) ∧ (-99 ≤ se k ∧ se k ≤ 99) ∧ (-99 ≤ th k ∧ th k ≤ 99) ∧ (-9999 ≤ du k ∧ du k ≤ 9999)
theorem casI_ip {fi se th ip : Nat → Int} {k : Nat} (h0 : ip 0 = fi k) (h1 : ip 1 = se k) (h2 : ip 2 = th k) (b0 : -99 ≤ fi k ∧ fi k ≤ 99) (b1 : -99 ≤ se k ∧ se k ≤ 99) (b2 : -99 ≤ th k ∧ th k ≤ 99) : ∀ i, i < 3 → ip i = casI fi se th k i ∧ -99 ≤ casI fi se th k i ∧ casI fi se th k i ≤ 99 := by
  intro i hi
  unfold casI
  rcases (show i = 0 ∨ i = 1 ∨ i = 2 by omega) with rfl | rfl | rfl
  · rw [if_pos rfl]; exact ⟨h0, b0⟩
  · rw [if_neg (by decide), if_pos rfl]; exact ⟨h1, b1⟩
  · rw [if_neg (by decide), if_neg (by decide)]; exact ⟨h2, b2⟩
def absI (z : Int) : Int := if z < 0 then -z else z
def errS (fi se th du : Nat → Int) (C V : Nat → Int) (sp : Nat → Nat) (p : Nat) : Nat → Int
  | 0 => 0
  | k + 1 => errS fi se th du C V sp p k + absI (evF (casI fi se th k) C V sp p - du k)
def hitS (fi se th du : Nat → Int) (C V : Nat → Int) (sp : Nat → Nat) : Nat → Int
  | 0 => 0
  | k + 1 => hitS fi se th du C V sp k + (if evF (casI fi se th k) C V sp 0 = du k then 1 else 0)
theorem errS_b {fi se th du C V : Nat → Int} {sp : Nat → Nat} {n p cn : Nat} (hsp : spOK n C sp) (hn : n ≤ 40) (hp : p < n) (hc : casOK fi se th du cn) : ∀ k, k ≤ cn → 0 ≤ errS fi se th du C V sp p k ∧ errS fi se th du C V sp p k ≤ 19998 * ↑k := by
  intro k
  induction k with
  | zero => intro _; exact ⟨Int.le_refl _, Int.le_refl _⟩
  | succ k ih =>
    intro hk
    have h1 := ih (by omega)
    have h2 := evF_b (inp := casI fi se th k) (V := V) hsp hn hp
    have h3 := (hc k (by omega)).2.2.2
    show 0 ≤ errS fi se th du C V sp p k + absI (evF (casI fi se th k) C V sp p - du k) ∧ errS fi se th du C V sp p k + absI (evF (casI fi se th k) C V sp p - du k) ≤ _
    unfold absI
    split <;> omega
theorem errS_eq {fi se th du C V C1 V1 : Nat → Int} {sp sp1 : Nat → Nat} {p p1 cn : Nat} (h : ∀ k, k < cn → evF (casI fi se th k) C V sp p = evF (casI fi se th k) C1 V1 sp1 p1) : ∀ k, k ≤ cn → errS fi se th du C V sp p k = errS fi se th du C1 V1 sp1 p1 k := by
  intro k
  induction k with
  | zero => intro _; rfl
  | succ k ih =>
    intro hk
    show errS fi se th du C V sp p k + absI (evF (casI fi se th k) C V sp p - du k) = _
    rw [ih (by omega), h k (by omega)]
    rfl
def merF (wy wt er : Int) (n : Nat) : Int := if wy = 1 then er + wt * ↑n else er
theorem merF_b {wy wt er : Int} {n : Nat} (h1 : 0 ≤ wt ∧ wt ≤ 99) (h2 : 0 ≤ er ∧ er ≤ 239976) (h3 : n ≤ 40) : 0 ≤ merF wy wt er n ∧ merF wy wt er n ≤ 243936 := by
  unfold merF
  split
  · have g1 : 0 ≤ wt * (↑n : Int) := Int.mul_nonneg h1.1 (by omega)
    have g2 : wt * (↑n : Int) ≤ 99 * 40 := Int.mul_le_mul h1.2 (by omega) (by omega) (by omega)
    omega
  · omega
set_option maxHeartbeats 4000000 in
theorem k_errorOf (l : Launch) (G : fw_G) (M : fw_M) (N : Nat) (jo a n cn : Nat) (ip rs fi se th du : Nat → Int) (wy wt : Int) (C V : Nat → Int) (sp : Nat → Nat) (hJ : jdAt G M jo ip rs fi se th du ↑cn wy wt) (hA : tw G M a n C V sp) (hv : vtOK n C V sp) (hcn : cn ≤ 12) (hca : casOK fi se th du cn) (hsep : jo + 8 ≤ a ∨ a + 5 ≤ jo) (p : Nat) (hp : p < n) : fMet l yX3_errorOf cX3_errorOf 6 (some .int) 2 100 0 0 G M N [.ref jo, .ref a, .int (iI ↑p)] (fw_pi (fun r M1 n1 => r = iI (errS fi se th du C V sp p cn) ∧ (∃ ip1 rs1 : Nat → Int, jdAt G M1 jo ip1 rs1 fi se th du ↑cn wy wt) ∧ (∀ q, q < jo + 1 ∨ jo + 4 ≤ q → M1 q = M q) ∧ n1 = N)) := by
  refine fw_met RX3 rfl (by decide +kernel) (Nat.le_of_ble_eq_true rfl) ?_
  intro pG e s m args below meth cG ls E hr hlk hnm hK hH hz hl
  obtain ⟨hbj, w0, hR, w4, w5, w6, w7⟩ := hJ
  obtain ⟨cs, vs, ss, hs, hT, hag, hbd⟩ := hA
  obtain ⟨⟨hn0, hn1⟩, hs0, hc0, hsp, hty, hnd⟩ := id hv
  refine lv_iconst (v := iI 0) E.1 E.2.1 dX3_errorOf_0 (by decide) ?_
  refine lv_istore_n (lv' := [(3, .int (iI 0)), (0, .ref jo), (1, .ref a), (2, .int (iI ↑p))]) E.1 E.2.1 dX3_errorOf_1 rfl hl (by decide) rfl (fun ls hl => ?_)
  refine lv_iconst (v := iI 0) E.1 E.2.1 dX3_errorOf_2 (by decide) ?_
  refine lv_istore (lv' := [(4, .int (iI 0)), (3, .int (iI 0)), (0, .ref jo), (1, .ref a), (2, .int (iI ↑p))]) E.1 E.2.1 dX3_errorOf_3 hl (by decide) rfl (fun ls hl => ?_)
  have loop5_1 : ∀ (d5 : Nat) (i : Nat) (ip : Nat → Int) (rs : Nat → Int) (Mw5 : fw_M) (H : Heap) (locs : List Loc) (ls : Array Slot), cn - i < d5 → i ≤ cn → (∀ q, q < jo + 1 ∨ jo + 4 ≤ q → Mw5 q = M q) → fw_H G s Mw5 H locs → H.size = N → trAt G Mw5 a cs vs ss hs (↑n : Int) (↑(lvF n C sp) : Int) → Mw5 jo = some (.inr (3, [.ref (jo + 1), .ref (jo + 4), .ref (jo + 5), .ref (jo + 6), .ref (jo + 7), .int (iI ↑cn), .int (iI wy), .int (iI wt)])) → Mw5 (jo + 4) = some (fI G 12 (fun j0 => iI (fi j0))) → Mw5 (jo + 5) = some (fI G 12 (fun j0 => iI (se j0))) → Mw5 (jo + 6) = some (fI G 12 (fun j0 => iI (th j0))) → Mw5 (jo + 7) = some (fI G 12 (fun j0 => iI (du j0))) → rkAt G Mw5 (jo + 1) ip rs → lv_has ls 6 [(0, .ref jo), (1, .ref a), (2, .int (iI ↑p)), (3, .int (iI (errS fi se th du C V sp p i))), (4, .int (iI ↑i))] → W pG l e ({ frames := 2, cells := 0, slots := 0, locals := 100 } : Room) s m args below meth cG H locs (0) (0) (MQ below (fw_Q G (fw_pi (fun r M1 n1 => r = iI (errS fi se th du C V sp p cn) ∧ (∃ ip1 rs1 : Nat → Int, jdAt G M1 jo ip1 rs1 fi se th du ↑cn wy wt) ∧ (∀ q, q < jo + 1 ∨ jo + 4 ≤ q → M1 q = M q) ∧ n1 = N))) args s 0 0 (fun q => G.2.2.1 ≤ q)) (F0 m 5 ls []) := by
    intro d5
    induction d5 with
    | zero => intro i ip rs Mw5 H locs ls hd; exact absurd hd (Nat.not_lt_zero _)
    | succ d5 ih5 =>
      intro i ip rs Mw5 H locs ls hd5 i1 hfr0 hH hz hT w0 w4 w5 w6 w7 hR hl
      refine lv_iload E.1 E.2.1 dX3_errorOf_5 (lv_at hl 4 rfl) ?_
      refine lv_aload_n E.1 E.2.1 dX3_errorOf_7 rfl (lv_at hl 0 rfl) ?_
      refine fw_get E hK hH w0 fc_X3 5 (by decide) ql_RX3_35 rfl rfl dX3_errorOf_8 ?_
      refine fw_icmp_ge (tgt := 91) E dX3_errorOf_11 (by decide) (by omega) (by omega) (by omega) (by omega) (fun c1 => ?_) (fun c1 => ?_)
      · refine lv_iload_n E.1 E.2.1 dX3_errorOf_91 rfl (lv_at hl 3 rfl) ?_
        refine fw_iret E hr hlk hH ?_ dX3_errorOf_92
        exact ⟨by rw [show i = cn by omega], ⟨_, _, hbj, w0, hR, w4, w5, w6, w7⟩, hfr0, hz⟩
      · have hcb := hca i (by omega)
        have heb := evF_b (inp := casI fi se th i) (V := V) hsp hn1 hp
        refine lv_aload_n E.1 E.2.1 dX3_errorOf_14 rfl (lv_at hl 0 rfl) ?_
        refine fw_get E hK hH w0 fc_X3 0 (by decide) ql_RX3_12 rfl rfl dX3_errorOf_15 ?_
        refine lv_aload_n E.1 E.2.1 dX3_errorOf_18 rfl (lv_at hl 0 rfl) ?_
        refine fw_get E hK hH w0 fc_X3 1 (by decide) ql_RX3_18 rfl rfl dX3_errorOf_19 ?_
        refine lv_iload E.1 E.2.1 dX3_errorOf_22 (lv_at hl 4 rfl) ?_
        refine fw_cSN (As := [.ref (jo + 4), .int (iI ↑i)]) (rest := [.ref (jo + 1)]) E hK hH hl fL_X9_at ql_RX3_42 qs_yX9_at (k_at l G _ _ (jo + 4) 12 fi ↑i i w4 (by omega) (by omega) (by omega)) rfl rfl (Nat.le_of_ble_eq_true rfl) ⟨Nat.le_of_ble_eq_true rfl, Nat.le_of_ble_eq_true rfl⟩ ⟨Nat.le_of_ble_eq_true rfl, Nat.le_of_ble_eq_true rfl⟩ dX3_errorOf_24 (fw_ki fun r4 M3 H1 locs1 hp2 hH hz1 => ?_)
        obtain ⟨rfl, hM9, hz2⟩ := hp2
        refine fw_cv (y := iI (fi i)) rfl ?_
        replace hz := hz2.trans hz
        clear hz1 hz2
        rw [hM9] at hH
        refine lv_aload_n E.1 E.2.1 dX3_errorOf_27 rfl (lv_at hl 0 rfl) ?_
        refine fw_get E hK hH w0 fc_X3 2 (by decide) ql_RX3_22 rfl rfl dX3_errorOf_28 ?_
        refine lv_iload E.1 E.2.1 dX3_errorOf_31 (lv_at hl 4 rfl) ?_
        refine fw_cSN (As := [.ref (jo + 5), .int (iI ↑i)]) (rest := [.int (iI (fi i)), .ref (jo + 1)]) E hK hH hl fL_X9_at ql_RX3_42 qs_yX9_at (k_at l G _ _ (jo + 5) 12 se ↑i i w5 (by omega) (by omega) (by omega)) rfl rfl (Nat.le_of_ble_eq_true rfl) ⟨Nat.le_of_ble_eq_true rfl, Nat.le_of_ble_eq_true rfl⟩ ⟨Nat.le_of_ble_eq_true rfl, Nat.le_of_ble_eq_true rfl⟩ dX3_errorOf_33 (fw_ki fun r7 M6 H1 locs1 hp5 hH hz1 => ?_)
        obtain ⟨rfl, hM9, hz2⟩ := hp5
        refine fw_cv (y := iI (se i)) rfl ?_
        replace hz := hz2.trans hz
        clear hz1 hz2
        rw [hM9] at hH
        refine lv_aload_n E.1 E.2.1 dX3_errorOf_36 rfl (lv_at hl 0 rfl) ?_
        refine fw_get E hK hH w0 fc_X3 3 (by decide) ql_RX3_25 rfl rfl dX3_errorOf_37 ?_
        refine lv_iload E.1 E.2.1 dX3_errorOf_40 (lv_at hl 4 rfl) ?_
        refine fw_cSN (As := [.ref (jo + 6), .int (iI ↑i)]) (rest := [.int (iI (se i)), .int (iI (fi i)), .ref (jo + 1)]) E hK hH hl fL_X9_at ql_RX3_42 qs_yX9_at (k_at l G _ _ (jo + 6) 12 th ↑i i w6 (by omega) (by omega) (by omega)) rfl rfl (Nat.le_of_ble_eq_true rfl) ⟨Nat.le_of_ble_eq_true rfl, Nat.le_of_ble_eq_true rfl⟩ ⟨Nat.le_of_ble_eq_true rfl, Nat.le_of_ble_eq_true rfl⟩ dX3_errorOf_42 (fw_ki fun r10 M9 H1 locs1 hp8 hH hz1 => ?_)
        obtain ⟨rfl, hM9, hz2⟩ := hp8
        refine fw_cv (y := iI (th i)) rfl ?_
        replace hz := hz2.trans hz
        clear hz1 hz2
        rw [hM9] at hH
        refine fw_cV (As := [.int (iI (fi i)), .int (iI (se i)), .int (iI (th i))]) (rest := []) E hK hH hl hR.2.1 fc_X5 fL_X5_setInputs ql_RX3_46 qi_yX5_setInputs qv_yX5_setInputs (k_setInputs l G _ _ (jo + 1) ip rs (fi i) (se i) (th i) hR) rfl rfl (Nat.le_of_ble_eq_true rfl) ⟨Nat.le_of_ble_eq_true rfl, Nat.le_of_ble_eq_true rfl⟩ ⟨Nat.le_of_ble_eq_true rfl, Nat.le_of_ble_eq_true rfl⟩ dX3_errorOf_45 (fw_kv fun M12 H1 locs1 hp11 hH hz1 => ?_)
        obtain ⟨⟨ip55, hR55, ea55, eb55, ec55⟩, hfr, hz2⟩ := hp11
        replace hz := hz2.trans hz
        clear hz1 hz2
        have fr13 := hfr
        replace hT := trAt.fr hT (fun q h1 h2 => fr13 q (by omega))
        replace w0 : M12 jo = some (.inr (3, [.ref (jo + 1), .ref (jo + 4), .ref (jo + 5), .ref (jo + 6), .ref (jo + 7), .int (iI ↑cn), .int (iI wy), .int (iI wt)])) := (fr13 _ (by omega)).trans w0
        replace w4 : M12 (jo + 4) = some (fI G 12 (fun j0 => iI (fi j0))) := (fr13 _ (by omega)).trans w4
        replace w5 : M12 (jo + 5) = some (fI G 12 (fun j0 => iI (se j0))) := (fr13 _ (by omega)).trans w5
        replace w6 : M12 (jo + 6) = some (fI G 12 (fun j0 => iI (th j0))) := (fr13 _ (by omega)).trans w6
        replace w7 : M12 (jo + 7) = some (fI G 12 (fun j0 => iI (du j0))) := (fr13 _ (by omega)).trans w7
        refine lv_aload_n E.1 E.2.1 dX3_errorOf_48 rfl (lv_at hl 0 rfl) ?_
        refine fw_get E hK hH w0 fc_X3 0 (by decide) ql_RX3_12 rfl rfl dX3_errorOf_49 ?_
        refine lv_aload_n E.1 E.2.1 dX3_errorOf_52 rfl (lv_at hl 1 rfl) ?_
        refine lv_iload_n E.1 E.2.1 dX3_errorOf_53 rfl (lv_at hl 2 rfl) ?_
        refine fw_cV (As := [.ref a, .int (iI ↑p)]) (rest := []) E hK hH hl hR55.2.1 fc_X5 fL_X5_resultOf ql_RX3_50 qi_yX5_resultOf qv_yX5_resultOf (k_resultOf l G _ _ (jo + 1) a n p ip55 rs (casI fi se th i) C V sp hR55 ⟨_, _, _, _, hT, hag, hbd⟩ hv hp (by omega) (casI_ip ea55 eb55 ec55 hcb.1 hcb.2.1 hcb.2.2.1)) rfl rfl (Nat.le_of_ble_eq_true rfl) ⟨Nat.le_of_ble_eq_true rfl, Nat.le_of_ble_eq_true rfl⟩ ⟨Nat.le_of_ble_eq_true rfl, Nat.le_of_ble_eq_true rfl⟩ dX3_errorOf_54 (fw_ki fun r16 M15 H1 locs1 hp14 hH hz1 => ?_)
        obtain ⟨rfl, ⟨rs70, hR70⟩, hfr, hz2⟩ := hp14
        replace hz := hz2.trans hz
        clear hz1 hz2
        have fr17 := hfr
        replace hT := trAt.fr hT (fun q h1 h2 => fr17 q (by omega))
        replace w0 : M15 jo = some (.inr (3, [.ref (jo + 1), .ref (jo + 4), .ref (jo + 5), .ref (jo + 6), .ref (jo + 7), .int (iI ↑cn), .int (iI wy), .int (iI wt)])) := (fr17 _ (by omega)).trans w0
        replace w4 : M15 (jo + 4) = some (fI G 12 (fun j0 => iI (fi j0))) := (fr17 _ (by omega)).trans w4
        replace w5 : M15 (jo + 5) = some (fI G 12 (fun j0 => iI (se j0))) := (fr17 _ (by omega)).trans w5
        replace w6 : M15 (jo + 6) = some (fI G 12 (fun j0 => iI (th j0))) := (fr17 _ (by omega)).trans w6
        replace w7 : M15 (jo + 7) = some (fI G 12 (fun j0 => iI (du j0))) := (fr17 _ (by omega)).trans w7
        refine lv_aload_n E.1 E.2.1 dX3_errorOf_57 rfl (lv_at hl 0 rfl) ?_
        refine fw_get E hK hH w0 fc_X3 4 (by decide) ql_RX3_28 rfl rfl dX3_errorOf_58 ?_
        refine lv_iload E.1 E.2.1 dX3_errorOf_61 (lv_at hl 4 rfl) ?_
        refine fw_cSN (As := [.ref (jo + 7), .int (iI ↑i)]) (rest := [.int (iI (evF (casI fi se th i) C V sp p))]) E hK hH hl fL_X9_at ql_RX3_42 qs_yX9_at (k_at l G _ _ (jo + 7) 12 du ↑i i w7 (by omega) (by omega) (by omega)) rfl rfl (Nat.le_of_ble_eq_true rfl) ⟨Nat.le_of_ble_eq_true rfl, Nat.le_of_ble_eq_true rfl⟩ ⟨Nat.le_of_ble_eq_true rfl, Nat.le_of_ble_eq_true rfl⟩ dX3_errorOf_63 (fw_ki fun r20 M19 H1 locs1 hp18 hH hz1 => ?_)
        obtain ⟨rfl, hM9, hz2⟩ := hp18
        refine fw_cv (y := iI (du i)) rfl ?_
        replace hz := hz2.trans hz
        clear hz1 hz2
        rw [hM9] at hH
        refine fw_isub E dX3_errorOf_66 ?_
        refine lv_istore (lv' := [(5, .int (iI ((evF (casI fi se th i) C V sp p) - (du i)))), (0, .ref jo), (1, .ref a), (2, .int (iI ↑p)), (3, .int (iI (errS fi se th du C V sp p i))), (4, .int (iI ↑i))]) E.1 E.2.1 dX3_errorOf_67 hl (by decide) rfl (fun ls hl => ?_)
        refine lv_iload_n E.1 E.2.1 dX3_errorOf_69 rfl (lv_at hl 4 rfl) ?_
        refine lv_iload E.1 E.2.1 dX3_errorOf_70 (lv_at hl 0 rfl) ?_
        refine fw_if_ge (tgt := 81) E dX3_errorOf_72 (by decide) (by omega) (by omega) (fun c21 => ?_) (fun c21 => ?_)
        · refine lv_iload E.1 E.2.1 dX3_errorOf_81 (lv_at hl 0 rfl) ?_
          refine fw_iadd E dX3_errorOf_83 ?_
          refine fw_cv (y := iI (errS fi se th du C V sp p (i + 1))) (congrArg iI (by show _ = errS fi se th du C V sp p i + absI _; unfold absI; split <;> omega)) ?_
          refine lv_istore_n (lv' := [(3, .int (iI (errS fi se th du C V sp p (i + 1)))), (5, .int (iI ((evF (casI fi se th i) C V sp p) - (du i)))), (0, .ref jo), (1, .ref a), (2, .int (iI ↑p)), (4, .int (iI ↑i))]) E.1 E.2.1 dX3_errorOf_84 rfl hl (by decide) rfl (fun ls hl => ?_)
          refine lv_iinc (v := iI (↑i + 1)) (lv' := [(4, .int (iI (↑i + 1))), (3, .int (iI (errS fi se th du C V sp p (i + 1)))), (5, .int (iI ((evF (casI fi se th i) C V sp p) - (du i)))), (0, .ref jo), (1, .ref a), (2, .int (iI ↑p))]) E.1 E.2.1 dX3_errorOf_85 hl (k := 5) rfl (iI_inc rfl) (by decide) rfl (fun ls hl => ?_)
          refine lv_goto (tgt := 5) E.1 E.2.1 dX3_errorOf_88 (by decide) ?_
          exact ih5 (i + 1) ip55 rs70 _ _ _ _ (by omega) (by omega) (fun q hq => by rw [fr17 q (by omega), fr13 q (by omega)]; exact hfr0 q hq) hH (by omega) hT w0 w4 w5 w6 w7 hR70 (lv_sub hl [3, 4, 5, 1, 0] rfl)
        · refine lv_iload E.1 E.2.1 dX3_errorOf_75 (lv_at hl 0 rfl) ?_
          refine fw_ineg E dX3_errorOf_77 ?_
          refine lv_goto (tgt := 83) E.1 E.2.1 dX3_errorOf_78 (by decide) ?_
          refine fw_iadd E dX3_errorOf_83 ?_
          refine fw_cv (y := iI (errS fi se th du C V sp p (i + 1))) (congrArg iI (by show _ = errS fi se th du C V sp p i + absI _; unfold absI; split <;> omega)) ?_
          refine lv_istore_n (lv' := [(3, .int (iI (errS fi se th du C V sp p (i + 1)))), (5, .int (iI ((evF (casI fi se th i) C V sp p) - (du i)))), (0, .ref jo), (1, .ref a), (2, .int (iI ↑p)), (4, .int (iI ↑i))]) E.1 E.2.1 dX3_errorOf_84 rfl hl (by decide) rfl (fun ls hl => ?_)
          refine lv_iinc (v := iI (↑i + 1)) (lv' := [(4, .int (iI (↑i + 1))), (3, .int (iI (errS fi se th du C V sp p (i + 1)))), (5, .int (iI ((evF (casI fi se th i) C V sp p) - (du i)))), (0, .ref jo), (1, .ref a), (2, .int (iI ↑p))]) E.1 E.2.1 dX3_errorOf_85 hl (k := 5) rfl (iI_inc rfl) (by decide) rfl (fun ls hl => ?_)
          refine lv_goto (tgt := 5) E.1 E.2.1 dX3_errorOf_88 (by decide) ?_
          exact ih5 (i + 1) ip55 rs70 _ _ _ _ (by omega) (by omega) (fun q hq => by rw [fr17 q (by omega), fr13 q (by omega)]; exact hfr0 q hq) hH (by omega) hT w0 w4 w5 w6 w7 hR70 (lv_sub hl [3, 4, 5, 1, 0] rfl)
  exact loop5_1 (cn - 0 + 1) 0 ip rs _ _ _ _ (Nat.lt_succ_self _) (by omega) (fun _ _ => rfl) hH (by omega) hT w0 w4 w5 w6 w7 hR (lv_sub hl [2, 3, 4, 1, 0] rfl)
theorem k_meritOf (l : Launch) (G : fw_G) (M : fw_M) (N : Nat) (jo a n cn : Nat) (ip rs fi se th du : Nat → Int) (wy wt : Int) (C V : Nat → Int) (sp : Nat → Nat) (hJ : jdAt G M jo ip rs fi se th du ↑cn wy wt) (hA : tw G M a n C V sp) (hv : vtOK n C V sp) (hcn : cn ≤ 12) (hca : casOK fi se th du cn) (hsep : jo + 8 ≤ a ∨ a + 5 ≤ jo) (hwy : 0 ≤ wy ∧ wy ≤ 2) : fMet l yX3_meritOf cX3_meritOf 3 (some .int) 3 140 0 0 G M N [.ref jo, .ref a] (fw_pi (fun r M1 n1 => r = iI (merF wy wt (errS fi se th du C V sp 0 cn) n) ∧ (∃ ip1 rs1 : Nat → Int, jdAt G M1 jo ip1 rs1 fi se th du ↑cn wy wt) ∧ (∀ q, q < jo + 1 ∨ jo + 4 ≤ q → M1 q = M q) ∧ n1 = N)) := by
  refine fw_met RX3 rfl (by decide +kernel) (Nat.le_of_ble_eq_true rfl) ?_
  intro pG e s m args below meth cG ls E hr hlk hnm hK hH hz hl
  obtain ⟨cs, vs, ss, hs, hT, hag, hbd⟩ := hA
  obtain ⟨⟨hn0, hn1⟩, hs0, hc0, hsp, hty, hnd⟩ := id hv
  refine lv_aload_n E.1 E.2.1 dX3_meritOf_0 rfl (lv_at hl 0 rfl) ?_
  refine lv_aload_n E.1 E.2.1 dX3_meritOf_1 rfl (lv_at hl 1 rfl) ?_
  refine lv_iconst (v := iI 0) E.1 E.2.1 dX3_meritOf_2 (by decide) ?_
  refine fw_cV (As := [.ref a, .int (iI 0)]) (rest := []) E hK hH hl hJ.2.1 fc_X3 fL_X3_errorOf ql_RX3_54 qi_yX3_errorOf qv_yX3_errorOf (k_errorOf l G _ _ jo a n cn ip rs fi se th du wy wt C V sp hJ ⟨_, _, _, _, hT, hag, hbd⟩ hv (by omega) hca (by omega) 0 (by omega)) rfl rfl (Nat.le_of_ble_eq_true rfl) ⟨Nat.le_of_ble_eq_true rfl, Nat.le_of_ble_eq_true rfl⟩ ⟨Nat.le_of_ble_eq_true rfl, Nat.le_of_ble_eq_true rfl⟩ dX3_meritOf_3 (fw_ki fun r3 M2 H1 locs1 hp1 hH hz1 => ?_)
  obtain ⟨rfl, ⟨ip8, rs8, hJ8⟩, hfr, hz2⟩ := hp1
  replace hz := hz2.trans hz
  clear hz1 hz2
  have fr4 := hfr
  replace hT := trAt.fr hT (fun q h1 h2 => fr4 q (by omega))
  refine lv_istore_n (lv' := [(2, .int (iI (errS fi se th du C V sp 0 cn))), (0, .ref jo), (1, .ref a)]) E.1 E.2.1 dX3_meritOf_6 rfl hl (by decide) rfl (fun ls hl => ?_)
  refine lv_aload_n E.1 E.2.1 dX3_meritOf_7 rfl (lv_at hl 1 rfl) ?_
  refine fw_get E hK hH hJ8.2.1 fc_X3 6 (by decide) ql_RX3_57 rfl rfl dX3_meritOf_8 ?_
  refine lv_iconst (v := iI 1) E.1 E.2.1 dX3_meritOf_11 (by decide) ?_
  refine fw_icmp_ne (tgt := 29) E dX3_meritOf_12 (by decide) (by omega) (by omega) (by omega) (by omega) (fun c5 => ?_) (fun c5 => ?_)
  · refine lv_iload_n E.1 E.2.1 dX3_meritOf_29 rfl (lv_at hl 0 rfl) ?_
    refine fw_iret E hr hlk hH ?_ dX3_meritOf_30
    exact ⟨congrArg iI (by unfold merF; rw [if_neg (by omega)]), ⟨_, _, hJ8⟩, (fun q hq => by rw [fr4 q (by omega)]), hz⟩
  · refine lv_iload_n E.1 E.2.1 dX3_meritOf_15 rfl (lv_at hl 0 rfl) ?_
    refine lv_aload_n E.1 E.2.1 dX3_meritOf_16 rfl (lv_at hl 1 rfl) ?_
    refine fw_get E hK hH hJ8.2.1 fc_X3 7 (by decide) ql_RX3_31 rfl rfl dX3_meritOf_17 ?_
    refine lv_aload_n E.1 E.2.1 dX3_meritOf_20 rfl (lv_at hl 2 rfl) ?_
    refine fw_getN E hK hH hT.2.1 fc_X8 4 (by decide) ql_RX3_60 rfl rfl dX3_meritOf_21 ?_
    refine fw_imul E dX3_meritOf_24 ?_
    refine fw_iadd E dX3_meritOf_25 ?_
    refine lv_goto (tgt := 30) E.1 E.2.1 dX3_meritOf_26 (by decide) ?_
    refine fw_iret E hr hlk hH ?_ dX3_meritOf_30
    exact ⟨congrArg iI (by unfold merF; rw [if_pos (by omega)]), ⟨_, _, hJ8⟩, (fun q hq => by rw [fr4 q (by omega)]), hz⟩
set_option maxHeartbeats 4000000 in
theorem k_hitsOf (l : Launch) (G : fw_G) (M : fw_M) (N : Nat) (jo a n cn : Nat) (ip rs fi se th du : Nat → Int) (wy wt : Int) (C V : Nat → Int) (sp : Nat → Nat) (hJ : jdAt G M jo ip rs fi se th du ↑cn wy wt) (hA : tw G M a n C V sp) (hv : vtOK n C V sp) (hcn : cn ≤ 12) (hca : casOK fi se th du cn) (hsep : jo + 8 ≤ a ∨ a + 5 ≤ jo) : fMet l yX3_hitsOf cX3_hitsOf 4 (some .int) 2 100 0 0 G M N [.ref jo, .ref a] (fw_pi (fun r M1 n1 => r = iI (hitS fi se th du C V sp cn) ∧ (∃ ip1 rs1 : Nat → Int, jdAt G M1 jo ip1 rs1 fi se th du ↑cn wy wt) ∧ (∀ q, q < jo + 1 ∨ jo + 4 ≤ q → M1 q = M q) ∧ n1 = N)) := by
  refine fw_met RX3 rfl (by decide +kernel) (Nat.le_of_ble_eq_true rfl) ?_
  intro pG e s m args below meth cG ls E hr hlk hnm hK hH hz hl
  obtain ⟨hbj, w0, hR, w4, w5, w6, w7⟩ := hJ
  obtain ⟨cs, vs, ss, hs, hT, hag, hbd⟩ := hA
  obtain ⟨⟨hn0, hn1⟩, hs0, hc0, hsp, hty, hnd⟩ := id hv
  refine lv_iconst (v := iI 0) E.1 E.2.1 dX3_hitsOf_0 (by decide) ?_
  refine lv_istore_n (lv' := [(2, .int (iI 0)), (0, .ref jo), (1, .ref a)]) E.1 E.2.1 dX3_hitsOf_1 rfl hl (by decide) rfl (fun ls hl => ?_)
  refine lv_iconst (v := iI 0) E.1 E.2.1 dX3_hitsOf_2 (by decide) ?_
  refine lv_istore_n (lv' := [(3, .int (iI 0)), (2, .int (iI 0)), (0, .ref jo), (1, .ref a)]) E.1 E.2.1 dX3_hitsOf_3 rfl hl (by decide) rfl (fun ls hl => ?_)
  have loop4_1 : ∀ (d4 : Nat) (i : Nat) (fo : Int) (ip : Nat → Int) (rs : Nat → Int) (Mw4 : fw_M) (H : Heap) (locs : List Loc) (ls : Array Slot), cn - i < d4 → i ≤ cn → fo = hitS fi se th du C V sp i → (∀ q, q < jo + 1 ∨ jo + 4 ≤ q → Mw4 q = M q) → fw_H G s Mw4 H locs → H.size = N → trAt G Mw4 a cs vs ss hs (↑n : Int) (↑(lvF n C sp) : Int) → Mw4 jo = some (.inr (3, [.ref (jo + 1), .ref (jo + 4), .ref (jo + 5), .ref (jo + 6), .ref (jo + 7), .int (iI ↑cn), .int (iI wy), .int (iI wt)])) → Mw4 (jo + 4) = some (fI G 12 (fun j0 => iI (fi j0))) → Mw4 (jo + 5) = some (fI G 12 (fun j0 => iI (se j0))) → Mw4 (jo + 6) = some (fI G 12 (fun j0 => iI (th j0))) → Mw4 (jo + 7) = some (fI G 12 (fun j0 => iI (du j0))) → rkAt G Mw4 (jo + 1) ip rs → lv_has ls 4 [(0, .ref jo), (1, .ref a), (2, .int (iI fo)), (3, .int (iI ↑i))] → W pG l e ({ frames := 2, cells := 0, slots := 0, locals := 100 } : Room) s m args below meth cG H locs (0) (0) (MQ below (fw_Q G (fw_pi (fun r M1 n1 => r = iI (hitS fi se th du C V sp cn) ∧ (∃ ip1 rs1 : Nat → Int, jdAt G M1 jo ip1 rs1 fi se th du ↑cn wy wt) ∧ (∀ q, q < jo + 1 ∨ jo + 4 ≤ q → M1 q = M q) ∧ n1 = N))) args s 0 0 (fun q => G.2.2.1 ≤ q)) (F0 m 4 ls []) := by
    intro d4
    induction d4 with
    | zero => intro i fo ip rs Mw4 H locs ls hd; exact absurd hd (Nat.not_lt_zero _)
    | succ d4 ih4 =>
      intro i fo ip rs Mw4 H locs ls hd4 i1 hfo hfr0 hH hz hT w0 w4 w5 w6 w7 hR hl
      refine lv_iload_n E.1 E.2.1 dX3_hitsOf_4 rfl (lv_at hl 3 rfl) ?_
      refine lv_aload_n E.1 E.2.1 dX3_hitsOf_5 rfl (lv_at hl 0 rfl) ?_
      refine fw_get E hK hH w0 fc_X3 5 (by decide) ql_RX3_35 rfl rfl dX3_hitsOf_6 ?_
      refine fw_icmp_ge (tgt := 72) E dX3_hitsOf_9 (by decide) (by omega) (by omega) (by omega) (by omega) (fun c1 => ?_) (fun c1 => ?_)
      · refine lv_iload_n E.1 E.2.1 dX3_hitsOf_72 rfl (lv_at hl 2 rfl) ?_
        refine fw_iret E hr hlk hH ?_ dX3_hitsOf_73
        exact ⟨by rw [hfo, show i = cn by omega], ⟨_, _, hbj, w0, hR, w4, w5, w6, w7⟩, hfr0, hz⟩
      · have hcb := hca i (by omega)
        have heb := evF_b (inp := casI fi se th i) (V := V) hsp hn1 hn0
        refine lv_aload_n E.1 E.2.1 dX3_hitsOf_12 rfl (lv_at hl 0 rfl) ?_
        refine fw_get E hK hH w0 fc_X3 0 (by decide) ql_RX3_12 rfl rfl dX3_hitsOf_13 ?_
        refine lv_aload_n E.1 E.2.1 dX3_hitsOf_16 rfl (lv_at hl 0 rfl) ?_
        refine fw_get E hK hH w0 fc_X3 1 (by decide) ql_RX3_18 rfl rfl dX3_hitsOf_17 ?_
        refine lv_iload_n E.1 E.2.1 dX3_hitsOf_20 rfl (lv_at hl 3 rfl) ?_
        refine fw_cSN (As := [.ref (jo + 4), .int (iI ↑i)]) (rest := [.ref (jo + 1)]) E hK hH hl fL_X9_at ql_RX3_42 qs_yX9_at (k_at l G _ _ (jo + 4) 12 fi ↑i i w4 (by omega) (by omega) (by omega)) rfl rfl (Nat.le_of_ble_eq_true rfl) ⟨Nat.le_of_ble_eq_true rfl, Nat.le_of_ble_eq_true rfl⟩ ⟨Nat.le_of_ble_eq_true rfl, Nat.le_of_ble_eq_true rfl⟩ dX3_hitsOf_21 (fw_ki fun r4 M3 H1 locs1 hp2 hH hz1 => ?_)
        obtain ⟨rfl, hM9, hz2⟩ := hp2
        refine fw_cv (y := iI (fi i)) rfl ?_
        replace hz := hz2.trans hz
        clear hz1 hz2
        rw [hM9] at hH
        refine lv_aload_n E.1 E.2.1 dX3_hitsOf_24 rfl (lv_at hl 0 rfl) ?_
        refine fw_get E hK hH w0 fc_X3 2 (by decide) ql_RX3_22 rfl rfl dX3_hitsOf_25 ?_
        refine lv_iload_n E.1 E.2.1 dX3_hitsOf_28 rfl (lv_at hl 3 rfl) ?_
        refine fw_cSN (As := [.ref (jo + 5), .int (iI ↑i)]) (rest := [.int (iI (fi i)), .ref (jo + 1)]) E hK hH hl fL_X9_at ql_RX3_42 qs_yX9_at (k_at l G _ _ (jo + 5) 12 se ↑i i w5 (by omega) (by omega) (by omega)) rfl rfl (Nat.le_of_ble_eq_true rfl) ⟨Nat.le_of_ble_eq_true rfl, Nat.le_of_ble_eq_true rfl⟩ ⟨Nat.le_of_ble_eq_true rfl, Nat.le_of_ble_eq_true rfl⟩ dX3_hitsOf_29 (fw_ki fun r7 M6 H1 locs1 hp5 hH hz1 => ?_)
        obtain ⟨rfl, hM9, hz2⟩ := hp5
        refine fw_cv (y := iI (se i)) rfl ?_
        replace hz := hz2.trans hz
        clear hz1 hz2
        rw [hM9] at hH
        refine lv_aload_n E.1 E.2.1 dX3_hitsOf_32 rfl (lv_at hl 0 rfl) ?_
        refine fw_get E hK hH w0 fc_X3 3 (by decide) ql_RX3_25 rfl rfl dX3_hitsOf_33 ?_
        refine lv_iload_n E.1 E.2.1 dX3_hitsOf_36 rfl (lv_at hl 3 rfl) ?_
        refine fw_cSN (As := [.ref (jo + 6), .int (iI ↑i)]) (rest := [.int (iI (se i)), .int (iI (fi i)), .ref (jo + 1)]) E hK hH hl fL_X9_at ql_RX3_42 qs_yX9_at (k_at l G _ _ (jo + 6) 12 th ↑i i w6 (by omega) (by omega) (by omega)) rfl rfl (Nat.le_of_ble_eq_true rfl) ⟨Nat.le_of_ble_eq_true rfl, Nat.le_of_ble_eq_true rfl⟩ ⟨Nat.le_of_ble_eq_true rfl, Nat.le_of_ble_eq_true rfl⟩ dX3_hitsOf_37 (fw_ki fun r10 M9 H1 locs1 hp8 hH hz1 => ?_)
        obtain ⟨rfl, hM9, hz2⟩ := hp8
        refine fw_cv (y := iI (th i)) rfl ?_
        replace hz := hz2.trans hz
        clear hz1 hz2
        rw [hM9] at hH
        refine fw_cV (As := [.int (iI (fi i)), .int (iI (se i)), .int (iI (th i))]) (rest := []) E hK hH hl hR.2.1 fc_X5 fL_X5_setInputs ql_RX3_46 qi_yX5_setInputs qv_yX5_setInputs (k_setInputs l G _ _ (jo + 1) ip rs (fi i) (se i) (th i) hR) rfl rfl (Nat.le_of_ble_eq_true rfl) ⟨Nat.le_of_ble_eq_true rfl, Nat.le_of_ble_eq_true rfl⟩ ⟨Nat.le_of_ble_eq_true rfl, Nat.le_of_ble_eq_true rfl⟩ dX3_hitsOf_40 (fw_kv fun M12 H1 locs1 hp11 hH hz1 => ?_)
        obtain ⟨⟨ip55, hR55, ea55, eb55, ec55⟩, hfr, hz2⟩ := hp11
        replace hz := hz2.trans hz
        clear hz1 hz2
        have fr13 := hfr
        replace hT := trAt.fr hT (fun q h1 h2 => fr13 q (by omega))
        replace w0 : M12 jo = some (.inr (3, [.ref (jo + 1), .ref (jo + 4), .ref (jo + 5), .ref (jo + 6), .ref (jo + 7), .int (iI ↑cn), .int (iI wy), .int (iI wt)])) := (fr13 _ (by omega)).trans w0
        replace w4 : M12 (jo + 4) = some (fI G 12 (fun j0 => iI (fi j0))) := (fr13 _ (by omega)).trans w4
        replace w5 : M12 (jo + 5) = some (fI G 12 (fun j0 => iI (se j0))) := (fr13 _ (by omega)).trans w5
        replace w6 : M12 (jo + 6) = some (fI G 12 (fun j0 => iI (th j0))) := (fr13 _ (by omega)).trans w6
        replace w7 : M12 (jo + 7) = some (fI G 12 (fun j0 => iI (du j0))) := (fr13 _ (by omega)).trans w7
        refine lv_aload_n E.1 E.2.1 dX3_hitsOf_43 rfl (lv_at hl 0 rfl) ?_
        refine fw_get E hK hH w0 fc_X3 0 (by decide) ql_RX3_12 rfl rfl dX3_hitsOf_44 ?_
        refine lv_aload_n E.1 E.2.1 dX3_hitsOf_47 rfl (lv_at hl 1 rfl) ?_
        refine lv_iconst (v := iI 0) E.1 E.2.1 dX3_hitsOf_48 (by decide) ?_
        refine fw_cV (As := [.ref a, .int (iI 0)]) (rest := []) E hK hH hl hR55.2.1 fc_X5 fL_X5_resultOf ql_RX3_50 qi_yX5_resultOf qv_yX5_resultOf (k_resultOf l G _ _ (jo + 1) a n 0 ip55 rs (casI fi se th i) C V sp hR55 ⟨_, _, _, _, hT, hag, hbd⟩ hv hn0 (by omega) (casI_ip ea55 eb55 ec55 hcb.1 hcb.2.1 hcb.2.2.1)) rfl rfl (Nat.le_of_ble_eq_true rfl) ⟨Nat.le_of_ble_eq_true rfl, Nat.le_of_ble_eq_true rfl⟩ ⟨Nat.le_of_ble_eq_true rfl, Nat.le_of_ble_eq_true rfl⟩ dX3_hitsOf_49 (fw_ki fun r16 M15 H1 locs1 hp14 hH hz1 => ?_)
        obtain ⟨rfl, ⟨rs70, hR70⟩, hfr, hz2⟩ := hp14
        replace hz := hz2.trans hz
        clear hz1 hz2
        have fr17 := hfr
        replace hT := trAt.fr hT (fun q h1 h2 => fr17 q (by omega))
        replace w0 : M15 jo = some (.inr (3, [.ref (jo + 1), .ref (jo + 4), .ref (jo + 5), .ref (jo + 6), .ref (jo + 7), .int (iI ↑cn), .int (iI wy), .int (iI wt)])) := (fr17 _ (by omega)).trans w0
        replace w4 : M15 (jo + 4) = some (fI G 12 (fun j0 => iI (fi j0))) := (fr17 _ (by omega)).trans w4
        replace w5 : M15 (jo + 5) = some (fI G 12 (fun j0 => iI (se j0))) := (fr17 _ (by omega)).trans w5
        replace w6 : M15 (jo + 6) = some (fI G 12 (fun j0 => iI (th j0))) := (fr17 _ (by omega)).trans w6
        replace w7 : M15 (jo + 7) = some (fI G 12 (fun j0 => iI (du j0))) := (fr17 _ (by omega)).trans w7
        refine lv_aload_n E.1 E.2.1 dX3_hitsOf_52 rfl (lv_at hl 0 rfl) ?_
        refine fw_get E hK hH w0 fc_X3 4 (by decide) ql_RX3_28 rfl rfl dX3_hitsOf_53 ?_
        refine lv_iload_n E.1 E.2.1 dX3_hitsOf_56 rfl (lv_at hl 3 rfl) ?_
        refine fw_cSN (As := [.ref (jo + 7), .int (iI ↑i)]) (rest := [.int (iI (evF (casI fi se th i) C V sp 0))]) E hK hH hl fL_X9_at ql_RX3_42 qs_yX9_at (k_at l G _ _ (jo + 7) 12 du ↑i i w7 (by omega) (by omega) (by omega)) rfl rfl (Nat.le_of_ble_eq_true rfl) ⟨Nat.le_of_ble_eq_true rfl, Nat.le_of_ble_eq_true rfl⟩ ⟨Nat.le_of_ble_eq_true rfl, Nat.le_of_ble_eq_true rfl⟩ dX3_hitsOf_57 (fw_ki fun r20 M19 H1 locs1 hp18 hH hz1 => ?_)
        obtain ⟨rfl, hM9, hz2⟩ := hp18
        refine fw_cv (y := iI (du i)) rfl ?_
        replace hz := hz2.trans hz
        clear hz1 hz2
        rw [hM9] at hH
        refine fw_icmp_ne (tgt := 66) E dX3_hitsOf_60 (by decide) (by omega) (by omega) (by omega) (by omega) (fun c21 => ?_) (fun c21 => ?_)
        · refine lv_iinc (v := iI (↑i + 1)) (lv' := [(3, .int (iI (↑i + 1))), (0, .ref jo), (1, .ref a), (2, .int (iI fo))]) E.1 E.2.1 dX3_hitsOf_66 hl (k := 3) rfl (iI_inc rfl) (by decide) rfl (fun ls hl => ?_)
          refine lv_goto (tgt := 4) E.1 E.2.1 dX3_hitsOf_69 (by decide) ?_
          exact ih4 (i + 1) fo ip55 rs70 _ _ _ _ (by omega) (by omega) (by show _ = hitS fi se th du C V sp i + (if _ = _ then _ else _); split <;> omega) (fun q hq => by rw [fr17 q (by omega), fr13 q (by omega)]; exact hfr0 q hq) hH (by omega) hT w0 w4 w5 w6 w7 hR70 (lv_sub hl [1, 2, 3, 0] rfl)
        · refine lv_iinc (v := iI (fo + 1)) (lv' := [(2, .int (iI (fo + 1))), (0, .ref jo), (1, .ref a), (3, .int (iI ↑i))]) E.1 E.2.1 dX3_hitsOf_63 hl (k := 2) rfl (iI_inc rfl) (by decide) rfl (fun ls hl => ?_)
          refine lv_iinc (v := iI (↑i + 1)) (lv' := [(3, .int (iI (↑i + 1))), (2, .int (iI (fo + 1))), (0, .ref jo), (1, .ref a)]) E.1 E.2.1 dX3_hitsOf_66 hl (k := 3) rfl (iI_inc rfl) (by decide) rfl (fun ls hl => ?_)
          refine lv_goto (tgt := 4) E.1 E.2.1 dX3_hitsOf_69 (by decide) ?_
          exact ih4 (i + 1) (fo + 1) ip55 rs70 _ _ _ _ (by omega) (by omega) (by show _ = hitS fi se th du C V sp i + (if _ = _ then _ else _); split <;> omega) (fun q hq => by rw [fr17 q (by omega), fr13 q (by omega)]; exact hfr0 q hq) hH (by omega) hT w0 w4 w5 w6 w7 hR70 (lv_sub hl [2, 3, 1, 0] rfl)
  exact loop4_1 (cn - 0 + 1) 0 0 ip rs _ _ _ _ (Nat.lt_succ_self _) (by omega) rfl (fun _ _ => rfl) hH (by omega) hT w0 w4 w5 w6 w7 hR (lv_sub hl [2, 3, 1, 0] rfl)
theorem k_judgeAdd (l : Launch) (G : fw_G) (M : fw_M) (N : Nat) (jo cn : Nat) (ip rs fi se th du : Nat → Int) (wy wt x y z w : Int) (hJ : jdAt G M jo ip rs fi se th du ↑cn wy wt) (hcn : cn < 12) : fMet l yX3_add cX3_add 5 none 1 60 0 0 G M N [.ref jo, .int (iI x), .int (iI y), .int (iI z), .int (iI w)] (fw_pv (fun M1 n1 => jdAt G M1 jo ip rs (zup fi cn x) (zup se cn y) (zup th cn z) (zup du cn w) (↑cn + 1) wy wt ∧ (∀ q, q < jo ∨ jo + 8 ≤ q → M1 q = M q) ∧ n1 = N)) := by
  refine fw_met RX3 rfl (by decide +kernel) (Nat.le_of_ble_eq_true rfl) ?_
  intro pG e s m args below meth cG ls E hr hlk hnm hK hH hz hl
  obtain ⟨hbj, w0, hR, w4, w5, w6, w7⟩ := hJ
  refine lv_aload_n E.1 E.2.1 dX3_add_0 rfl (lv_at hl 0 rfl) ?_
  refine fw_get E hK hH w0 fc_X3 1 (by decide) ql_RX3_18 rfl rfl dX3_add_1 ?_
  refine lv_aload_n E.1 E.2.1 dX3_add_4 rfl (lv_at hl 0 rfl) ?_
  refine fw_get E hK hH w0 fc_X3 5 (by decide) ql_RX3_35 rfl rfl dX3_add_5 ?_
  refine lv_iload_n E.1 E.2.1 dX3_add_8 rfl (lv_at hl 1 rfl) ?_
  refine fw_cSN (As := [.ref (jo + 4), .int (iI ↑cn), .int (iI x)]) (rest := []) E hK hH hl fL_X9_put ql_RX3_38 qs_yX9_put (k_put l G _ _ (jo + 4) 12 fi ↑cn cn x w4 (by omega) (by omega) (by omega) (by omega)) rfl rfl (Nat.le_of_ble_eq_true rfl) ⟨Nat.le_of_ble_eq_true rfl, Nat.le_of_ble_eq_true rfl⟩ ⟨Nat.le_of_ble_eq_true rfl, Nat.le_of_ble_eq_true rfl⟩ dX3_add_9 (fw_kv fun M2 H1 locs1 hp1 hH hz1 => ?_)
  obtain ⟨hM8, hz2⟩ := hp1
  have hfr : ∀ q, q ≠ jo + 4 → M2 q = M q := fun q h => by rw [hM8]; exact fw_up_ne h
  have w4 : M2 (jo + 4) = some (fI G 12 (fun j0 => iI ((zup fi cn x) j0))) := by rw [hM8]; exact fw_up_eq
  replace hz := hz2.trans hz
  clear hz1 hz2
  have fr3 := hfr
  replace w0 : M2 jo = some (.inr (3, [.ref (jo + 1), .ref (jo + 4), .ref (jo + 5), .ref (jo + 6), .ref (jo + 7), .int (iI ↑cn), .int (iI wy), .int (iI wt)])) := (fr3 _ (by omega)).trans w0
  replace w5 : M2 (jo + 5) = some (fI G 12 (fun j0 => iI (se j0))) := (fr3 _ (by omega)).trans w5
  replace w6 : M2 (jo + 6) = some (fI G 12 (fun j0 => iI (th j0))) := (fr3 _ (by omega)).trans w6
  replace w7 : M2 (jo + 7) = some (fI G 12 (fun j0 => iI (du j0))) := (fr3 _ (by omega)).trans w7
  replace hR := rkAt.fr hR (fun q h1 h2 => fr3 q (by omega))
  refine lv_aload_n E.1 E.2.1 dX3_add_12 rfl (lv_at hl 0 rfl) ?_
  refine fw_get E hK hH w0 fc_X3 2 (by decide) ql_RX3_22 rfl rfl dX3_add_13 ?_
  refine lv_aload_n E.1 E.2.1 dX3_add_16 rfl (lv_at hl 0 rfl) ?_
  refine fw_get E hK hH w0 fc_X3 5 (by decide) ql_RX3_35 rfl rfl dX3_add_17 ?_
  refine lv_iload_n E.1 E.2.1 dX3_add_20 rfl (lv_at hl 2 rfl) ?_
  refine fw_cSN (As := [.ref (jo + 5), .int (iI ↑cn), .int (iI y)]) (rest := []) E hK hH hl fL_X9_put ql_RX3_38 qs_yX9_put (k_put l G _ _ (jo + 5) 12 se ↑cn cn y w5 (by omega) (by omega) (by omega) (by omega)) rfl rfl (Nat.le_of_ble_eq_true rfl) ⟨Nat.le_of_ble_eq_true rfl, Nat.le_of_ble_eq_true rfl⟩ ⟨Nat.le_of_ble_eq_true rfl, Nat.le_of_ble_eq_true rfl⟩ dX3_add_21 (fw_kv fun M5 H1 locs1 hp4 hH hz1 => ?_)
  obtain ⟨hM8, hz2⟩ := hp4
  have hfr : ∀ q, q ≠ jo + 5 → M5 q = M2 q := fun q h => by rw [hM8]; exact fw_up_ne h
  have w5 : M5 (jo + 5) = some (fI G 12 (fun j0 => iI ((zup se cn y) j0))) := by rw [hM8]; exact fw_up_eq
  replace hz := hz2.trans hz
  clear hz1 hz2
  have fr6 := hfr
  replace w0 : M5 jo = some (.inr (3, [.ref (jo + 1), .ref (jo + 4), .ref (jo + 5), .ref (jo + 6), .ref (jo + 7), .int (iI ↑cn), .int (iI wy), .int (iI wt)])) := (fr6 _ (by omega)).trans w0
  replace w6 : M5 (jo + 6) = some (fI G 12 (fun j0 => iI (th j0))) := (fr6 _ (by omega)).trans w6
  replace w7 : M5 (jo + 7) = some (fI G 12 (fun j0 => iI (du j0))) := (fr6 _ (by omega)).trans w7
  replace hR := rkAt.fr hR (fun q h1 h2 => fr6 q (by omega))
  replace w4 : M5 (jo + 4) = some (fI G 12 (fun j0 => iI ((zup fi cn x) j0))) := (fr6 _ (by omega)).trans w4
  refine lv_aload_n E.1 E.2.1 dX3_add_24 rfl (lv_at hl 0 rfl) ?_
  refine fw_get E hK hH w0 fc_X3 3 (by decide) ql_RX3_25 rfl rfl dX3_add_25 ?_
  refine lv_aload_n E.1 E.2.1 dX3_add_28 rfl (lv_at hl 0 rfl) ?_
  refine fw_get E hK hH w0 fc_X3 5 (by decide) ql_RX3_35 rfl rfl dX3_add_29 ?_
  refine lv_iload_n E.1 E.2.1 dX3_add_32 rfl (lv_at hl 3 rfl) ?_
  refine fw_cSN (As := [.ref (jo + 6), .int (iI ↑cn), .int (iI z)]) (rest := []) E hK hH hl fL_X9_put ql_RX3_38 qs_yX9_put (k_put l G _ _ (jo + 6) 12 th ↑cn cn z w6 (by omega) (by omega) (by omega) (by omega)) rfl rfl (Nat.le_of_ble_eq_true rfl) ⟨Nat.le_of_ble_eq_true rfl, Nat.le_of_ble_eq_true rfl⟩ ⟨Nat.le_of_ble_eq_true rfl, Nat.le_of_ble_eq_true rfl⟩ dX3_add_33 (fw_kv fun M8 H1 locs1 hp7 hH hz1 => ?_)
  obtain ⟨hM8, hz2⟩ := hp7
  have hfr : ∀ q, q ≠ jo + 6 → M8 q = M5 q := fun q h => by rw [hM8]; exact fw_up_ne h
  have w6 : M8 (jo + 6) = some (fI G 12 (fun j0 => iI ((zup th cn z) j0))) := by rw [hM8]; exact fw_up_eq
  replace hz := hz2.trans hz
  clear hz1 hz2
  have fr9 := hfr
  replace w0 : M8 jo = some (.inr (3, [.ref (jo + 1), .ref (jo + 4), .ref (jo + 5), .ref (jo + 6), .ref (jo + 7), .int (iI ↑cn), .int (iI wy), .int (iI wt)])) := (fr9 _ (by omega)).trans w0
  replace w7 : M8 (jo + 7) = some (fI G 12 (fun j0 => iI (du j0))) := (fr9 _ (by omega)).trans w7
  replace hR := rkAt.fr hR (fun q h1 h2 => fr9 q (by omega))
  replace w4 : M8 (jo + 4) = some (fI G 12 (fun j0 => iI ((zup fi cn x) j0))) := (fr9 _ (by omega)).trans w4
  replace w5 : M8 (jo + 5) = some (fI G 12 (fun j0 => iI ((zup se cn y) j0))) := (fr9 _ (by omega)).trans w5
  refine lv_aload_n E.1 E.2.1 dX3_add_36 rfl (lv_at hl 0 rfl) ?_
  refine fw_get E hK hH w0 fc_X3 4 (by decide) ql_RX3_28 rfl rfl dX3_add_37 ?_
  refine lv_aload_n E.1 E.2.1 dX3_add_40 rfl (lv_at hl 0 rfl) ?_
  refine fw_get E hK hH w0 fc_X3 5 (by decide) ql_RX3_35 rfl rfl dX3_add_41 ?_
  refine lv_iload E.1 E.2.1 dX3_add_44 (lv_at hl 4 rfl) ?_
  refine fw_cSN (As := [.ref (jo + 7), .int (iI ↑cn), .int (iI w)]) (rest := []) E hK hH hl fL_X9_put ql_RX3_38 qs_yX9_put (k_put l G _ _ (jo + 7) 12 du ↑cn cn w w7 (by omega) (by omega) (by omega) (by omega)) rfl rfl (Nat.le_of_ble_eq_true rfl) ⟨Nat.le_of_ble_eq_true rfl, Nat.le_of_ble_eq_true rfl⟩ ⟨Nat.le_of_ble_eq_true rfl, Nat.le_of_ble_eq_true rfl⟩ dX3_add_46 (fw_kv fun M11 H1 locs1 hp10 hH hz1 => ?_)
  obtain ⟨hM8, hz2⟩ := hp10
  have hfr : ∀ q, q ≠ jo + 7 → M11 q = M8 q := fun q h => by rw [hM8]; exact fw_up_ne h
  have w7 : M11 (jo + 7) = some (fI G 12 (fun j0 => iI ((zup du cn w) j0))) := by rw [hM8]; exact fw_up_eq
  replace hz := hz2.trans hz
  clear hz1 hz2
  have fr12 := hfr
  replace w0 : M11 jo = some (.inr (3, [.ref (jo + 1), .ref (jo + 4), .ref (jo + 5), .ref (jo + 6), .ref (jo + 7), .int (iI ↑cn), .int (iI wy), .int (iI wt)])) := (fr12 _ (by omega)).trans w0
  replace hR := rkAt.fr hR (fun q h1 h2 => fr12 q (by omega))
  replace w4 : M11 (jo + 4) = some (fI G 12 (fun j0 => iI ((zup fi cn x) j0))) := (fr12 _ (by omega)).trans w4
  replace w5 : M11 (jo + 5) = some (fI G 12 (fun j0 => iI ((zup se cn y) j0))) := (fr12 _ (by omega)).trans w5
  replace w6 : M11 (jo + 6) = some (fI G 12 (fun j0 => iI ((zup th cn z) j0))) := (fr12 _ (by omega)).trans w6
  refine lv_aload_n E.1 E.2.1 dX3_add_49 rfl (lv_at hl 0 rfl) ?_
  refine lv_dup E.1 E.2.1 dX3_add_50 rfl ?_
  refine fw_get E hK hH w0 fc_X3 5 (by decide) ql_RX3_35 rfl rfl dX3_add_51 ?_
  refine lv_iconst (v := iI 1) E.1 E.2.1 dX3_add_54 (by decide) ?_
  refine fw_iadd E dX3_add_55 ?_
  refine fw_put E hK hH (by omega) w0 fc_X3 5 (by decide) ql_RX3_35 rfl rfl rfl rfl (Nat.le_of_ble_eq_true rfl) dX3_add_56 (fun H1 locs1 hH hz1 => ?_)
  replace hz := hz1.trans hz; clear hz1
  obtain ⟨M13, hM14⟩ : ∃ MX, MX = fw_up M11 jo (.inr (3, [.ref (jo + 1), .ref (jo + 4), .ref (jo + 5), .ref (jo + 6), .ref (jo + 7), .int (iI ((↑cn) + 1)), .int (iI wy), .int (iI wt)])) := ⟨_, rfl⟩
  replace hH := fw_H.nm hM14 hH
  have fr15 : ∀ q, q ≠ jo → M13 q = M11 q := fun q h => by rw [hM14]; exact fw_up_ne h
  replace hR := rkAt.fr hR (fun q h1 h2 => fr15 q (by omega))
  replace w4 : M13 (jo + 4) = some (fI G 12 (fun j0 => iI ((zup fi cn x) j0))) := (fr15 _ (by omega)).trans w4
  replace w5 : M13 (jo + 5) = some (fI G 12 (fun j0 => iI ((zup se cn y) j0))) := (fr15 _ (by omega)).trans w5
  replace w6 : M13 (jo + 6) = some (fI G 12 (fun j0 => iI ((zup th cn z) j0))) := (fr15 _ (by omega)).trans w6
  replace w7 : M13 (jo + 7) = some (fI G 12 (fun j0 => iI ((zup du cn w) j0))) := (fr15 _ (by omega)).trans w7
  have w0 : M13 jo = some (.inr (3, [.ref (jo + 1), .ref (jo + 4), .ref (jo + 5), .ref (jo + 6), .ref (jo + 7), .int (iI ((↑cn) + 1)), .int (iI wy), .int (iI wt)])) := by rw [hM14]; exact fw_up_eq
  refine fw_vret E hr hlk hH ?_ dX3_add_59
  exact ⟨⟨hbj, w0, hR, w4, w5, w6, w7⟩, (fun q hq => by rw [fr15 q (by omega), fr12 q (by omega), fr9 q (by omega), fr6 q (by omega), fr3 q (by omega)]), hz⟩
end
section
theorem evF_const {inp : Nat → Int} {n : Nat} {C V : Nat → Int} {sp : Nat → Nat} (h : vtOK n C V sp) {k : Nat} (hk : k < n) (hc : C k = 0) : evF inp C V sp k = V k := by
  obtain ⟨⟨hn0, hn1⟩, hs0, hc0, hsp, hty, hnd⟩ := h
  have hv := (hnd k hk).2.1 hc
  rw [evF_eq hsp hn1 hk]
  unfold evS
  rw [if_pos hc]
  exact limI_id (by omega)
theorem evF_pr {inp : Nat → Int} {n : Nat} {C V : Nat → Int} {sp : Nat → Nat} (h : vtOK n C V sp) {k : Nat} (hk : k < n) (hc : 2 ≤ C k) (h8 : C k ≠ 8) : evF inp C V sp k = limI (prR (C k) (evF inp C V sp (chP sp k 0)) (evF inp C V sp (chP sp k 1))) := by
  obtain ⟨⟨hn0, hn1⟩, hs0, hc0, hsp, hty, hnd⟩ := h
  rw [evF_eq hsp hn1 hk]
  unfold evS
  rw [if_neg (by omega), if_neg (by omega), if_neg h8]
theorem evF_ch {inp : Nat → Int} {n : Nat} {C V : Nat → Int} {sp : Nat → Nat} (h : vtOK n C V sp) {k : Nat} (hk : k < n) (h8 : C k = 8) : evF inp C V sp k = limI (if evF inp C V sp (chP sp k 0) = 1 then evF inp C V sp (chP sp k 1) else evF inp C V sp (chP sp k 2)) := by
  obtain ⟨⟨hn0, hn1⟩, hs0, hc0, hsp, hty, hnd⟩ := h
  rw [evF_eq hsp hn1 hk]
  unfold evS
  rw [if_neg (by omega), if_neg (by omega), if_pos h8]
theorem evF_vb {inp : Nat → Int} {n : Nat} {C V : Nat → Int} {sp : Nat → Nat} (h : vtOK n C V sp) {k : Nat} (hk : k < n) : -9999 ≤ evF inp C V sp k ∧ evF inp C V sp k ≤ 9999 := evF_b h.2.2.2.1 h.1.2 hk
theorem evF_nth {n : Nat} {C V : Nat → Int} {sp : Nat → Nat} (h : vtOK n C V sp) {inp : Nat → Int} : ∀ d k, n - k ≤ d → k < n → 8 < C k → evF inp C V sp k = 0 ∨ evF inp C V sp k = 1 := by
  intro d
  induction d with
  | zero => intro k h1 h2; omega
  | succ d ih =>
    intro k h1 h2 h3
    have hb := (h.2.2.2.2.2 k h2).1
    have hc : ∀ i, i < arN (C k) → 11 ≤ C k → evF inp C V sp (chP sp k i) = 0 ∨ evF inp C V sp (chP sp k i) = 1 := by
      intro i hi h11
      have hl := chP_lt h.2.2.2.1 h2 hi
      have hgt := chP_gt sp k i
      have ht := h.2.2.2.2.1 k h2 i hi
      refine ih _ (by omega) hl.2 ?_
      rcases Int.lt_or_le 8 (C (chP sp k i)) with g | g
      · exact g
      · have g2 := ht.1 g
        unfold ptNm at g2
        omega
    rw [evF_pr h h2 (by omega) (by omega)]
    rcases (show C k = 9 ∨ C k = 10 ∨ C k = 11 ∨ C k = 12 ∨ C k = 13 by omega) with e | e | e | e | e
    · rw [e]; simp only [prR, limI]; (repeat' split) <;> omega
    · rw [e]; simp only [prR, limI]; (repeat' split) <;> omega
    · have g0 := hc 0 (by rw [e]; decide) (by omega)
      have g1 := hc 1 (by rw [e]; decide) (by omega)
      rw [e]; simp only [prR, limI]; (repeat' split) <;> omega
    · have g0 := hc 0 (by rw [e]; decide) (by omega)
      have g1 := hc 1 (by rw [e]; decide) (by omega)
      rw [e]; simp only [prR, limI]; (repeat' split) <;> omega
    · have g0 := hc 0 (by rw [e]; decide) (by omega)
      rw [e]; simp only [prR, limI]; (repeat' split) <;> omega
/-- what is at p can become what is at q -/
def stOK (n : Nat) (C V : Nat → Int) (sp : Nat → Nat) (p q : Nat) : Prop := p < q ∧ q < n ∧ q + sp q ≤ p + sp p ∧ (C p ≤ 8 ↔ C q ≤ 8) ∧ ∀ inp, evF inp C V sp q = evF inp C V sp p
theorem st_part {n : Nat} {C V : Nat → Int} {sp : Nat → Nat} (h : vtOK n C V sp) {p i q : Nat} (hp : p < n) (hi : i < arN (C p)) (hq : chP sp p i = q) (ht : C p ≤ 8 ↔ ptNm (C p) i) (hv : ∀ inp, evF inp C V sp q = evF inp C V sp p) : stOK n C V sp p q := by
  subst hq
  have hl := chP_lt h.2.2.2.1 hp hi
  have h9 := (h.2.2.2.1 p hp).2
  have hm := chP_mono sp p (show i + 1 ≤ arN (C p) by omega)
  have he : chP sp p (i + 1) = chP sp p i + sp (chP sp p i) := rfl
  exact ⟨chP_gt sp p i, hl.2, by omega, ht.trans (h.2.2.2.2.1 p hp i hi).symm, hv⟩
theorem st_pair {n : Nat} {C V : Nat → Int} {sp : Nat → Nat} (h : vtOK n C V sp) {p i q : Nat} (hp : p < n) (hi : i < arN (C p)) (hq : chP sp p i = q) (ht : C p ≤ 8 ↔ ptNm (C p) i) (h2 : 2 ≤ C p) (h8 : C p ≠ 8) (hv : ∀ inp, prR (C p) (evF inp C V sp (chP sp p 0)) (evF inp C V sp (chP sp p 1)) = evF inp C V sp q) : stOK n C V sp p q := by
  refine st_part h hp hi hq ht (fun inp => ?_)
  have hl := chP_lt h.2.2.2.1 hp hi
  rw [evF_pr h hp h2 h8, hv inp, ← hq, limI_id (evF_vb h hl.2)]
theorem st_same {n : Nat} {C V : Nat → Int} {sp : Nat → Nat} (h : vtOK n C V sp) {p q : Nat} (hp : p < n) (hq : q < n) (he : sp p = sp q) (hs : ∀ j, j < sp p → C (p + j) = C (q + j) ∧ V (p + j) = V (q + j)) (inp : Nat → Int) : evF inp C V sp p = evF inp C V sp q := same_rc (evS_ok inp) h.2.2.2.1 h.1.2 _ p q hp hq (Nat.le_refl _) he hs
end
