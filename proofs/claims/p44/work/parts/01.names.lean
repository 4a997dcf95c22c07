-- ===== PART A: goes FIRST, ahead of the names: the tables' words, and 'selects' of the private methods out of them =====
/-- a private method of a class that the tables say can be made, by its rows of tables_1 -/
def lw_okq (q : MethodName × Nat) : Prop := (q.1.cls ≠ "java/lang/invoke/MethodHandle" ∧ q.1.cls ≠ "java/lang/invoke/VarHandle") ∧ Cond.instantiable q.1.cls q.2 ∈ tables_1 ∧ Cond.privateMethod q.1 ∈ tables_1 ∧ Cond.instanceMethod q.1 ∈ tables_1
theorem lw_p0 : lw_okq (⟨"java/lang/Throwable", "fillInStackTrace", "(I)Ljava/lang/Throwable;"⟩, 6) := ⟨⟨by decide +kernel, by decide +kernel⟩, List.mem_of_getElem? (i := 65) (by decide +kernel), List.mem_of_getElem? (i := 63) (by decide +kernel), List.mem_of_getElem? (i := 64) (by decide +kernel)⟩
theorem lw_p1 : lw_okq (⟨"Barnacle", "requirePlace", "(II)LBarnacle$Tree;"⟩, 9) := ⟨⟨by decide +kernel, by decide +kernel⟩, List.mem_of_getElem? (i := 101) (by decide +kernel), List.mem_of_getElem? (i := 99) (by decide +kernel), List.mem_of_getElem? (i := 100) (by decide +kernel)⟩
theorem lw_p2 : lw_okq (⟨"Barnacle", "requireTree", "(I)LBarnacle$Tree;"⟩, 9) := ⟨⟨by decide +kernel, by decide +kernel⟩, List.mem_of_getElem? (i := 101) (by decide +kernel), List.mem_of_getElem? (i := 104) (by decide +kernel), List.mem_of_getElem? (i := 105) (by decide +kernel)⟩
theorem lw_p3 : lw_okq (⟨"Barnacle$Grove", "treeOf", "([LBarnacle$Tree;I)LBarnacle$Tree;"⟩, 7) := ⟨⟨by decide +kernel, by decide +kernel⟩, List.mem_of_getElem? (i := 130) (by decide +kernel), List.mem_of_getElem? (i := 128) (by decide +kernel), List.mem_of_getElem? (i := 129) (by decide +kernel)⟩
theorem lw_p4 : lw_okq (⟨"Barnacle$Tree", "appendFrom", "(LBarnacle$Tree;II)V"⟩, 6) := ⟨⟨by decide +kernel, by decide +kernel⟩, List.mem_of_getElem? (i := 151) (by decide +kernel), List.mem_of_getElem? (i := 149) (by decide +kernel), List.mem_of_getElem? (i := 150) (by decide +kernel)⟩
theorem lw_p5 : lw_okq (⟨"Barnacle$Tree", "measure", "()V"⟩, 6) := ⟨⟨by decide +kernel, by decide +kernel⟩, List.mem_of_getElem? (i := 151) (by decide +kernel), List.mem_of_getElem? (i := 161) (by decide +kernel), List.mem_of_getElem? (i := 162) (by decide +kernel)⟩
theorem lw_p6 : lw_okq (⟨"Barnacle$Tree", "closeGap", "(II)V"⟩, 6) := ⟨⟨by decide +kernel, by decide +kernel⟩, List.mem_of_getElem? (i := 151) (by decide +kernel), List.mem_of_getElem? (i := 195) (by decide +kernel), List.mem_of_getElem? (i := 196) (by decide +kernel)⟩
theorem lw_p7 : lw_okq (⟨"Barnacle$Simplifier", "changeAt", "(LBarnacle$Tree;I)Z"⟩, 1) := ⟨⟨by decide +kernel, by decide +kernel⟩, List.mem_of_getElem? (i := 218) (by decide +kernel), List.mem_of_getElem? (i := 216) (by decide +kernel), List.mem_of_getElem? (i := 217) (by decide +kernel)⟩
theorem lw_p8 : lw_okq (⟨"Barnacle", "requireBreeding", "(I)V"⟩, 9) := ⟨⟨by decide +kernel, by decide +kernel⟩, List.mem_of_getElem? (i := 101) (by decide +kernel), List.mem_of_getElem? (i := 274) (by decide +kernel), List.mem_of_getElem? (i := 275) (by decide +kernel)⟩
theorem lw_p9 : lw_okq (⟨"Barnacle$Ranking", "insert", "(I)V"⟩, 3) := ⟨⟨by decide +kernel, by decide +kernel⟩, List.mem_of_getElem? (i := 321) (by decide +kernel), List.mem_of_getElem? (i := 319) (by decide +kernel), List.mem_of_getElem? (i := 320) (by decide +kernel)⟩
theorem lw_p10 : lw_okq (⟨"Barnacle$Breeder", "makeYoung", "(LBarnacle$Grove;LBarnacle$Tree;)V"⟩, 6) := ⟨⟨by decide +kernel, by decide +kernel⟩, List.mem_of_getElem? (i := 344) (by decide +kernel), List.mem_of_getElem? (i := 342) (by decide +kernel), List.mem_of_getElem? (i := 343) (by decide +kernel)⟩
theorem lw_p11 : lw_okq (⟨"Barnacle$Draws", "takeFirst", "()I"⟩, 3) := ⟨⟨by decide +kernel, by decide +kernel⟩, List.mem_of_getElem? (i := 353) (by decide +kernel), List.mem_of_getElem? (i := 351) (by decide +kernel), List.mem_of_getElem? (i := 352) (by decide +kernel)⟩
theorem lw_p12 : lw_okq (⟨"Barnacle$Breeder", "choose", "(LBarnacle$Grove;)LBarnacle$Tree;"⟩, 6) := ⟨⟨by decide +kernel, by decide +kernel⟩, List.mem_of_getElem? (i := 344) (by decide +kernel), List.mem_of_getElem? (i := 358) (by decide +kernel), List.mem_of_getElem? (i := 359) (by decide +kernel)⟩
theorem lw_p13 : lw_okq (⟨"Barnacle", "digestWith", "(JLBarnacle$Tree;)J"⟩, 9) := ⟨⟨by decide +kernel, by decide +kernel⟩, List.mem_of_getElem? (i := 101) (by decide +kernel), List.mem_of_getElem? (i := 506) (by decide +kernel), List.mem_of_getElem? (i := 507) (by decide +kernel)⟩
theorem lw_p14 : lw_okq (⟨"Barnacle$Sketch", "miss", "(ZI)V"⟩, 5) := ⟨⟨by decide +kernel, by decide +kernel⟩, List.mem_of_getElem? (i := 525) (by decide +kernel), List.mem_of_getElem? (i := 571) (by decide +kernel), List.mem_of_getElem? (i := 572) (by decide +kernel)⟩
def lw_privs_1 : List (MethodName × Nat) := [(⟨"java/lang/Throwable", "fillInStackTrace", "(I)Ljava/lang/Throwable;"⟩, 6), (⟨"Barnacle", "requirePlace", "(II)LBarnacle$Tree;"⟩, 9), (⟨"Barnacle", "requireTree", "(I)LBarnacle$Tree;"⟩, 9), (⟨"Barnacle$Grove", "treeOf", "([LBarnacle$Tree;I)LBarnacle$Tree;"⟩, 7), (⟨"Barnacle$Tree", "appendFrom", "(LBarnacle$Tree;II)V"⟩, 6), (⟨"Barnacle$Tree", "measure", "()V"⟩, 6), (⟨"Barnacle$Tree", "closeGap", "(II)V"⟩, 6), (⟨"Barnacle$Simplifier", "changeAt", "(LBarnacle$Tree;I)Z"⟩, 1), (⟨"Barnacle", "requireBreeding", "(I)V"⟩, 9), (⟨"Barnacle$Ranking", "insert", "(I)V"⟩, 3), (⟨"Barnacle$Breeder", "makeYoung", "(LBarnacle$Grove;LBarnacle$Tree;)V"⟩, 6), (⟨"Barnacle$Draws", "takeFirst", "()I"⟩, 3), (⟨"Barnacle$Breeder", "choose", "(LBarnacle$Grove;)LBarnacle$Tree;"⟩, 6), (⟨"Barnacle", "digestWith", "(JLBarnacle$Tree;)J"⟩, 9), (⟨"Barnacle$Sketch", "miss", "(ZI)V"⟩, 5)]
theorem lw_r1 : ∀ q ∈ lw_privs_1, lw_okq q := List.forall_mem_cons.mpr ⟨lw_p0, List.forall_mem_cons.mpr ⟨lw_p1, List.forall_mem_cons.mpr ⟨lw_p2, List.forall_mem_cons.mpr ⟨lw_p3, List.forall_mem_cons.mpr ⟨lw_p4, List.forall_mem_cons.mpr ⟨lw_p5, List.forall_mem_cons.mpr ⟨lw_p6, List.forall_mem_cons.mpr ⟨lw_p7, List.forall_mem_cons.mpr ⟨lw_p8, List.forall_mem_cons.mpr ⟨lw_p9, List.forall_mem_cons.mpr ⟨lw_p10, List.forall_mem_cons.mpr ⟨lw_p11, List.forall_mem_cons.mpr ⟨lw_p12, List.forall_mem_cons.mpr ⟨lw_p13, List.forall_mem_cons.mpr ⟨lw_p14, fun _ h => absurd h List.not_mem_nil⟩⟩⟩⟩⟩⟩⟩⟩⟩⟩⟩⟩⟩⟩⟩
def lw_privs : List (MethodName × Nat) := lw_privs_1
def lw_tbl : List Cond := k2_sels lw_privs ++ tables_1
theorem lw_privs_ok : ∀ q ∈ lw_privs, lw_okq q := lw_r1
-- ===== end of PART A; then your names; then what follows =====
def RX0 : String := "Barnacle$Breeder"
def TX0 : u_T := fun k => match k with
  | 0 => ("Barnacle$Breeder", "ranking", "LBarnacle$Ranking;", true)
  | 1 => ("Barnacle$Breeder", "crossing", "I", false)
  | 2 => ("Barnacle$Breeder", "changing", "I", false)
  | 3 => ("Barnacle$Breeder", "hoisting", "I", false)
  | 4 => ("Barnacle$Breeder", "tournament", "I", false)
  | _ => ("Barnacle$Breeder", "elite", "I", false)
def tyX0 : Nat → FieldType := fun k => match k with
  | 0 => .object "Barnacle$Ranking"
  | 1 => .int
  | 2 => .int
  | 3 => .int
  | 4 => .int
  | _ => .int
abbrev wsX00 : List Cond := u_ws RX0 TX0 6
theorem nmX0 : ∀ a, a < 6 → ∀ b, b < 6 → a ≠ b → (TX0 a).2.1 ≠ (TX0 b).2.1 := by decide +kernel
theorem tyX0_ok : ∀ k, k < 6 → parseFieldDescriptor (TX0 k).2.2.1 = some (tyX0 k) := by decide +kernel
abbrev cX0_init : ByteArray := prog_2_method_1_code
def yX0_init : MethodName := ⟨RX0, "<init>", "()V"⟩
abbrev cX0_errorAfter : ByteArray := prog_2_method_2_code
def yX0_errorAfter : MethodName := ⟨RX0, "errorAfter", "(ILBarnacle$Grove;LBarnacle$Judge;)I"⟩
abbrev cX0_makeYoung : ByteArray := prog_2_method_3_code
def yX0_makeYoung : MethodName := ⟨RX0, "makeYoung", "(LBarnacle$Grove;LBarnacle$Tree;)V"⟩
abbrev cX0_choose : ByteArray := prog_2_method_4_code
def yX0_choose : MethodName := ⟨RX0, "choose", "(LBarnacle$Grove;)LBarnacle$Tree;"⟩
abbrev cX0_crossYoung : ByteArray := prog_2_method_5_code
def yX0_crossYoung : MethodName := ⟨RX0, "crossYoung", "(LBarnacle$Grove;LBarnacle$Tree;LBarnacle$Tree;LBarnacle$Tree;)V"⟩
abbrev cX0_changeYoung : ByteArray := prog_2_method_6_code
def yX0_changeYoung : MethodName := ⟨RX0, "changeYoung", "(LBarnacle$Draws;LBarnacle$Tree;)V"⟩
abbrev cX0_hoistYoung : ByteArray := prog_2_method_7_code
def yX0_hoistYoung : MethodName := ⟨RX0, "hoistYoung", "(LBarnacle$Draws;LBarnacle$Tree;)V"⟩
def RX1 : String := "Barnacle$Draws"
def TX1 : u_T := fun k => match k with
  | 0 => ("Barnacle$Draws", "told", "[I", true)
  | 1 => ("Barnacle$Draws", "waiting", "I", false)
  | _ => ("Barnacle$Draws", "luck", "I", false)
def tyX1 : Nat → FieldType := fun k => match k with
  | 0 => .array .int
  | 1 => .int
  | _ => .int
abbrev wsX10 : List Cond := u_ws RX1 TX1 3
theorem nmX1 : ∀ a, a < 3 → ∀ b, b < 3 → a ≠ b → (TX1 a).2.1 ≠ (TX1 b).2.1 := by decide +kernel
theorem tyX1_ok : ∀ k, k < 3 → parseFieldDescriptor (TX1 k).2.2.1 = some (tyX1 k) := by decide +kernel
abbrev cX1_init : ByteArray := prog_3_method_1_code
def yX1_init : MethodName := ⟨RX1, "<init>", "()V"⟩
abbrev cX1_below : ByteArray := prog_3_method_3_code
def yX1_below : MethodName := ⟨RX1, "below", "(I)I"⟩
abbrev cX1_copyFrom : ByteArray := prog_3_method_4_code
def yX1_copyFrom : MethodName := ⟨RX1, "copyFrom", "(LBarnacle$Draws;)V"⟩
abbrev cX1_takeFirst : ByteArray := prog_3_method_5_code
def yX1_takeFirst : MethodName := ⟨RX1, "takeFirst", "()I"⟩
def RX2 : String := "Barnacle$Grove"
def TX2 : u_T := fun k => match k with
  | 0 => ("Barnacle$Grove", "draws", "LBarnacle$Draws;", true)
  | 1 => ("Barnacle$Grove", "nothing", "LBarnacle$Tree;", true)
  | 2 => ("Barnacle$Grove", "trees", "[LBarnacle$Tree;", false)
  | 3 => ("Barnacle$Grove", "youngTrees", "[LBarnacle$Tree;", false)
  | 4 => ("Barnacle$Grove", "count", "I", false)
  | 5 => ("Barnacle$Grove", "generations", "I", false)
  | _ => ("Barnacle$Grove", "misses", "I", false)
def tyX2 : Nat → FieldType := fun k => match k with
  | 0 => .object "Barnacle$Draws"
  | 1 => .object "Barnacle$Tree"
  | 2 => .array (.object "Barnacle$Tree")
  | 3 => .array (.object "Barnacle$Tree")
  | 4 => .int
  | 5 => .int
  | _ => .int
abbrev wsX20 : List Cond := u_ws RX2 TX2 7
theorem nmX2 : ∀ a, a < 7 → ∀ b, b < 7 → a ≠ b → (TX2 a).2.1 ≠ (TX2 b).2.1 := by decide +kernel
theorem tyX2_ok : ∀ k, k < 7 → parseFieldDescriptor (TX2 k).2.2.1 = some (tyX2 k) := by decide +kernel
abbrev cX2_init : ByteArray := prog_4_method_1_code
def yX2_init : MethodName := ⟨RX2, "<init>", "()V"⟩
abbrev cX2_tree : ByteArray := prog_4_method_2_code
def yX2_tree : MethodName := ⟨RX2, "tree", "(I)LBarnacle$Tree;"⟩
abbrev cX2_youngTree : ByteArray := prog_4_method_3_code
def yX2_youngTree : MethodName := ⟨RX2, "youngTree", "(I)LBarnacle$Tree;"⟩
abbrev cX2_add : ByteArray := prog_4_method_4_code
def yX2_add : MethodName := ⟨RX2, "add", "(LBarnacle$Tree;)V"⟩
abbrev cX2_hasEarlierTwin : ByteArray := prog_4_method_6_code
def yX2_hasEarlierTwin : MethodName := ⟨RX2, "hasEarlierTwin", "(I)Z"⟩
abbrev cX2_replaceByYoung : ByteArray := prog_4_method_7_code
def yX2_replaceByYoung : MethodName := ⟨RX2, "replaceByYoung", "()V"⟩
abbrev cX2_copyFrom : ByteArray := prog_4_method_8_code
def yX2_copyFrom : MethodName := ⟨RX2, "copyFrom", "(LBarnacle$Grove;)V"⟩
abbrev cX2_treeOf : ByteArray := prog_4_method_9_code
def yX2_treeOf : MethodName := ⟨RX2, "treeOf", "([LBarnacle$Tree;I)LBarnacle$Tree;"⟩
def RX3 : String := "Barnacle$Judge"
def TX3 : u_T := fun k => match k with
  | 0 => ("Barnacle$Judge", "reckoner", "LBarnacle$Reckoner;", true)
  | 1 => ("Barnacle$Judge", "firsts", "[I", true)
  | 2 => ("Barnacle$Judge", "seconds", "[I", true)
  | 3 => ("Barnacle$Judge", "thirds", "[I", true)
  | 4 => ("Barnacle$Judge", "dues", "[I", true)
  | 5 => ("Barnacle$Judge", "cases", "I", false)
  | 6 => ("Barnacle$Judge", "way", "I", false)
  | _ => ("Barnacle$Judge", "weight", "I", false)
def tyX3 : Nat → FieldType := fun k => match k with
  | 0 => .object "Barnacle$Reckoner"
  | 1 => .array .int
  | 2 => .array .int
  | 3 => .array .int
  | 4 => .array .int
  | 5 => .int
  | 6 => .int
  | _ => .int
abbrev wsX30 : List Cond := u_ws RX3 TX3 8
theorem nmX3 : ∀ a, a < 8 → ∀ b, b < 8 → a ≠ b → (TX3 a).2.1 ≠ (TX3 b).2.1 := by decide +kernel
theorem tyX3_ok : ∀ k, k < 8 → parseFieldDescriptor (TX3 k).2.2.1 = some (tyX3 k) := by decide +kernel
abbrev cX3_init : ByteArray := prog_5_method_1_code
def yX3_init : MethodName := ⟨RX3, "<init>", "()V"⟩
abbrev cX3_add : ByteArray := prog_5_method_2_code
def yX3_add : MethodName := ⟨RX3, "add", "(IIII)V"⟩
abbrev cX3_errorOf : ByteArray := prog_5_method_3_code
def yX3_errorOf : MethodName := ⟨RX3, "errorOf", "(LBarnacle$Tree;I)I"⟩
abbrev cX3_meritOf : ByteArray := prog_5_method_4_code
def yX3_meritOf : MethodName := ⟨RX3, "meritOf", "(LBarnacle$Tree;)I"⟩
abbrev cX3_hitsOf : ByteArray := prog_5_method_5_code
def yX3_hitsOf : MethodName := ⟨RX3, "hitsOf", "(LBarnacle$Tree;)I"⟩
def RX4 : String := "Barnacle$Ranking"
def TX4 : u_T := fun k => match k with
  | 0 => ("Barnacle$Ranking", "merits", "[I", true)
  | 1 => ("Barnacle$Ranking", "sizes", "[I", true)
  | _ => ("Barnacle$Ranking", "order", "[I", true)
def tyX4 : Nat → FieldType := fun k => match k with
  | 0 => .array .int
  | 1 => .array .int
  | _ => .array .int
abbrev wsX40 : List Cond := u_ws RX4 TX4 3
theorem nmX4 : ∀ a, a < 3 → ∀ b, b < 3 → a ≠ b → (TX4 a).2.1 ≠ (TX4 b).2.1 := by decide +kernel
theorem tyX4_ok : ∀ k, k < 3 → parseFieldDescriptor (TX4 k).2.2.1 = some (tyX4 k) := by decide +kernel
abbrev cX4_init : ByteArray := prog_6_method_1_code
def yX4_init : MethodName := ⟨RX4, "<init>", "()V"⟩
abbrev cX4_rank : ByteArray := prog_6_method_2_code
def yX4_rank : MethodName := ⟨RX4, "rank", "(LBarnacle$Grove;LBarnacle$Judge;)V"⟩
abbrev cX4_withRank : ByteArray := prog_6_method_3_code
def yX4_withRank : MethodName := ⟨RX4, "withRank", "(I)I"⟩
abbrev cX4_isBetter : ByteArray := prog_6_method_4_code
def yX4_isBetter : MethodName := ⟨RX4, "isBetter", "(II)Z"⟩
abbrev cX4_insert : ByteArray := prog_6_method_5_code
def yX4_insert : MethodName := ⟨RX4, "insert", "(I)V"⟩
def RX5 : String := "Barnacle$Reckoner"
def TX5 : u_T := fun k => match k with
  | 0 => ("Barnacle$Reckoner", "inputs", "[I", true)
  | _ => ("Barnacle$Reckoner", "results", "[I", true)
def tyX5 : Nat → FieldType := fun k => match k with
  | 0 => .array .int
  | _ => .array .int
abbrev wsX50 : List Cond := u_ws RX5 TX5 2
theorem nmX5 : ∀ a, a < 2 → ∀ b, b < 2 → a ≠ b → (TX5 a).2.1 ≠ (TX5 b).2.1 := by decide +kernel
theorem tyX5_ok : ∀ k, k < 2 → parseFieldDescriptor (TX5 k).2.2.1 = some (tyX5 k) := by decide +kernel
abbrev cX5_init : ByteArray := prog_7_method_1_code
def yX5_init : MethodName := ⟨RX5, "<init>", "()V"⟩
abbrev cX5_setInputs : ByteArray := prog_7_method_2_code
def yX5_setInputs : MethodName := ⟨RX5, "setInputs", "(III)V"⟩
abbrev cX5_resultOf : ByteArray := prog_7_method_3_code
def yX5_resultOf : MethodName := ⟨RX5, "resultOf", "(LBarnacle$Tree;I)I"⟩
abbrev cX5_pairResult : ByteArray := prog_7_method_4_code
def yX5_pairResult : MethodName := ⟨RX5, "pairResult", "(III)I"⟩
abbrev cX5_limited : ByteArray := prog_7_method_5_code
def yX5_limited : MethodName := ⟨RX5, "limited", "(I)I"⟩
def RX6 : String := "Barnacle$Simplifier"
def TX6 : u_T := fun k => match k with
  | _ => ("Barnacle$Simplifier", "reckoner", "LBarnacle$Reckoner;", true)
def tyX6 : Nat → FieldType := fun k => match k with
  | _ => .object "Barnacle$Reckoner"
abbrev wsX60 : List Cond := u_ws RX6 TX6 1
theorem nmX6 : ∀ a, a < 1 → ∀ b, b < 1 → a ≠ b → (TX6 a).2.1 ≠ (TX6 b).2.1 := by decide +kernel
theorem tyX6_ok : ∀ k, k < 1 → parseFieldDescriptor (TX6 k).2.2.1 = some (tyX6 k) := by decide +kernel
abbrev cX6_init : ByteArray := prog_8_method_1_code
def yX6_init : MethodName := ⟨RX6, "<init>", "()V"⟩
abbrev cX6_finish : ByteArray := prog_8_method_2_code
def yX6_finish : MethodName := ⟨RX6, "finish", "(LBarnacle$Tree;)V"⟩
abbrev cX6_changeAt : ByteArray := prog_8_method_3_code
def yX6_changeAt : MethodName := ⟨RX6, "changeAt", "(LBarnacle$Tree;I)Z"⟩
abbrev cX6_isFoldable : ByteArray := prog_8_method_4_code
def yX6_isFoldable : MethodName := ⟨RX6, "isFoldable", "(LBarnacle$Tree;I)Z"⟩
abbrev cX6_partThatStays : ByteArray := prog_8_method_5_code
def yX6_partThatStays : MethodName := ⟨RX6, "partThatStays", "(LBarnacle$Tree;I)I"⟩
abbrev cX6_isNothing : ByteArray := prog_8_method_6_code
def yX6_isNothing : MethodName := ⟨RX6, "isNothing", "(LBarnacle$Tree;I)Z"⟩
def RX7 : String := "Barnacle$Sketch"
def TX7 : u_T := fun k => match k with
  | 0 => ("Barnacle$Sketch", "row", "LBarnacle$Tree;", true)
  | 1 => ("Barnacle$Sketch", "needs", "[I", true)
  | 2 => ("Barnacle$Sketch", "levels", "[I", true)
  | 3 => ("Barnacle$Sketch", "missing", "I", false)
  | _ => ("Barnacle$Sketch", "least", "I", false)
def tyX7 : Nat → FieldType := fun k => match k with
  | 0 => .object "Barnacle$Tree"
  | 1 => .array .int
  | 2 => .array .int
  | 3 => .int
  | _ => .int
abbrev wsX70 : List Cond := u_ws RX7 TX7 5
theorem nmX7 : ∀ a, a < 5 → ∀ b, b < 5 → a ≠ b → (TX7 a).2.1 ≠ (TX7 b).2.1 := by decide +kernel
theorem tyX7_ok : ∀ k, k < 5 → parseFieldDescriptor (TX7 k).2.2.1 = some (tyX7 k) := by decide +kernel
abbrev cX7_init : ByteArray := prog_9_method_1_code
def yX7_init : MethodName := ⟨RX7, "<init>", "()V"⟩
abbrev cX7_clear : ByteArray := prog_9_method_2_code
def yX7_clear : MethodName := ⟨RX7, "clear", "()V"⟩
abbrev cX7_accepts : ByteArray := prog_9_method_3_code
def yX7_accepts : MethodName := ⟨RX7, "accepts", "(I)Z"⟩
abbrev cX7_take : ByteArray := prog_9_method_4_code
def yX7_take : MethodName := ⟨RX7, "take", "(II)V"⟩
abbrev cX7_miss : ByteArray := prog_9_method_5_code
def yX7_miss : MethodName := ⟨RX7, "miss", "(ZI)V"⟩
abbrev cX7_needOf : ByteArray := prog_9_method_6_code
def yX7_needOf : MethodName := ⟨RX7, "needOf", "(Z)I"⟩
def RX8 : String := "Barnacle$Tree"
def TX8 : u_T := fun k => match k with
  | 0 => ("Barnacle$Tree", "codes", "[I", true)
  | 1 => ("Barnacle$Tree", "values", "[I", true)
  | 2 => ("Barnacle$Tree", "spans", "[I", true)
  | 3 => ("Barnacle$Tree", "heights", "[I", true)
  | 4 => ("Barnacle$Tree", "nodes", "I", false)
  | _ => ("Barnacle$Tree", "levels", "I", false)
def tyX8 : Nat → FieldType := fun k => match k with
  | 0 => .array .int
  | 1 => .array .int
  | 2 => .array .int
  | 3 => .array .int
  | 4 => .int
  | _ => .int
abbrev wsX80 : List Cond := u_ws RX8 TX8 6
theorem nmX8 : ∀ a, a < 6 → ∀ b, b < 6 → a ≠ b → (TX8 a).2.1 ≠ (TX8 b).2.1 := by decide +kernel
theorem tyX8_ok : ∀ k, k < 6 → parseFieldDescriptor (TX8 k).2.2.1 = some (tyX8 k) := by decide +kernel
abbrev cX8_init : ByteArray := prog_10_method_1_code
def yX8_init : MethodName := ⟨RX8, "<init>", "()V"⟩
abbrev cX8_code : ByteArray := prog_10_method_2_code
def yX8_code : MethodName := ⟨RX8, "code", "(I)I"⟩
abbrev cX8_value : ByteArray := prog_10_method_3_code
def yX8_value : MethodName := ⟨RX8, "value", "(I)I"⟩
abbrev cX8_span : ByteArray := prog_10_method_4_code
def yX8_span : MethodName := ⟨RX8, "span", "(I)I"⟩
abbrev cX8_isNumber : ByteArray := prog_10_method_5_code
def yX8_isNumber : MethodName := ⟨RX8, "isNumber", "(I)Z"⟩
abbrev cX8_isConstant : ByteArray := prog_10_method_6_code
def yX8_isConstant : MethodName := ⟨RX8, "isConstant", "(II)Z"⟩
abbrev cX8_behind : ByteArray := prog_10_method_7_code
def yX8_behind : MethodName := ⟨RX8, "behind", "(I)I"⟩
abbrev cX8_placeAbove : ByteArray := prog_10_method_8_code
def yX8_placeAbove : MethodName := ⟨RX8, "placeAbove", "(I)I"⟩
abbrev cX8_hasInput : ByteArray := prog_10_method_9_code
def yX8_hasInput : MethodName := ⟨RX8, "hasInput", "(I)Z"⟩
abbrev cX8_sameParts : ByteArray := prog_10_method_10_code
def yX8_sameParts : MethodName := ⟨RX8, "sameParts", "(II)Z"⟩
abbrev cX8_sameNodes : ByteArray := prog_10_method_11_code
def yX8_sameNodes : MethodName := ⟨RX8, "sameNodes", "(LBarnacle$Tree;)I"⟩
abbrev cX8_countOfType : ByteArray := prog_10_method_12_code
def yX8_countOfType : MethodName := ⟨RX8, "countOfType", "(Z)I"⟩
abbrev cX8_placeOfType : ByteArray := prog_10_method_13_code
def yX8_placeOfType : MethodName := ⟨RX8, "placeOfType", "(ZI)I"⟩
abbrev cX8_write : ByteArray := prog_10_method_14_code
def yX8_write : MethodName := ⟨RX8, "write", "(III)V"⟩
abbrev cX8_append : ByteArray := prog_10_method_15_code
def yX8_append : MethodName := ⟨RX8, "append", "(II)V"⟩
abbrev cX8_copyFrom : ByteArray := prog_10_method_16_code
def yX8_copyFrom : MethodName := ⟨RX8, "copyFrom", "(LBarnacle$Tree;)V"⟩
abbrev cX8_makeConstant : ByteArray := prog_10_method_17_code
def yX8_makeConstant : MethodName := ⟨RX8, "makeConstant", "(II)V"⟩
abbrev cX8_keepPart : ByteArray := prog_10_method_18_code
def yX8_keepPart : MethodName := ⟨RX8, "keepPart", "(II)V"⟩
abbrev cX8_becomeCrossed : ByteArray := prog_10_method_19_code
def yX8_becomeCrossed : MethodName := ⟨RX8, "becomeCrossed", "(LBarnacle$Tree;ILBarnacle$Tree;I)Z"⟩
abbrev cX8_appendFrom : ByteArray := prog_10_method_20_code
def yX8_appendFrom : MethodName := ⟨RX8, "appendFrom", "(LBarnacle$Tree;II)V"⟩
abbrev cX8_closeGap : ByteArray := prog_10_method_21_code
def yX8_closeGap : MethodName := ⟨RX8, "closeGap", "(II)V"⟩
abbrev cX8_measure : ByteArray := prog_10_method_22_code
def yX8_measure : MethodName := ⟨RX8, "measure", "()V"⟩
def RX9 : String := "Barnacle"
def TX9 : u_T := fun k => match k with
  | 0 => ("Barnacle", "sketch", "LBarnacle$Sketch;", true)
  | 1 => ("Barnacle", "judge", "LBarnacle$Judge;", true)
  | 2 => ("Barnacle", "ranking", "LBarnacle$Ranking;", true)
  | 3 => ("Barnacle", "breeder", "LBarnacle$Breeder;", true)
  | 4 => ("Barnacle", "simplifier", "LBarnacle$Simplifier;", true)
  | 5 => ("Barnacle", "reckoner", "LBarnacle$Reckoner;", true)
  | 6 => ("Barnacle", "grove", "LBarnacle$Grove;", true)
  | 7 => ("Barnacle", "trialGrove", "LBarnacle$Grove;", true)
  | _ => ("Barnacle", "trialTree", "LBarnacle$Tree;", true)
def tyX9 : Nat → FieldType := fun k => match k with
  | 0 => .object "Barnacle$Sketch"
  | 1 => .object "Barnacle$Judge"
  | 2 => .object "Barnacle$Ranking"
  | 3 => .object "Barnacle$Breeder"
  | 4 => .object "Barnacle$Simplifier"
  | 5 => .object "Barnacle$Reckoner"
  | 6 => .object "Barnacle$Grove"
  | 7 => .object "Barnacle$Grove"
  | _ => .object "Barnacle$Tree"
abbrev wsX90 : List Cond := u_ws RX9 TX9 9
theorem nmX9 : ∀ a, a < 9 → ∀ b, b < 9 → a ≠ b → (TX9 a).2.1 ≠ (TX9 b).2.1 := by decide +kernel
theorem tyX9_ok : ∀ k, k < 9 → parseFieldDescriptor (TX9 k).2.2.1 = some (tyX9 k) := by decide +kernel
abbrev cX9_init : ByteArray := prog_1_method_1_code
def yX9_init : MethodName := ⟨RX9, "<init>", "()V"⟩
abbrev cX9_sketch : ByteArray := prog_1_method_2_code
def yX9_sketch : MethodName := ⟨RX9, "sketch", "(II)I"⟩
abbrev cX9_plant : ByteArray := prog_1_method_4_code
def yX9_plant : MethodName := ⟨RX9, "plant", "()I"⟩
abbrev cX9_addCase : ByteArray := prog_1_method_6_code
def yX9_addCase : MethodName := ⟨RX9, "addCase", "(IIII)I"⟩
abbrev cX9_setWay : ByteArray := prog_1_method_7_code
def yX9_setWay : MethodName := ⟨RX9, "setWay", "(II)I"⟩
abbrev cX9_cross : ByteArray := prog_1_method_8_code
def yX9_cross : MethodName := ⟨RX9, "cross", "(IIII)I"⟩
abbrev cX9_hoist : ByteArray := prog_1_method_9_code
def yX9_hoist : MethodName := ⟨RX9, "hoist", "(II)I"⟩
abbrev cX9_wither : ByteArray := prog_1_method_11_code
def yX9_wither : MethodName := ⟨RX9, "wither", "(III)I"⟩
abbrev cX9_simplify : ByteArray := prog_1_method_12_code
def yX9_simplify : MethodName := ⟨RX9, "simplify", "(I)I"⟩
abbrev cX9_setChoosing : ByteArray := prog_1_method_14_code
def yX9_setChoosing : MethodName := ⟨RX9, "setChoosing", "(II)I"⟩
abbrev cX9_setLuck : ByteArray := prog_1_method_15_code
def yX9_setLuck : MethodName := ⟨RX9, "setLuck", "(I)I"⟩
abbrev cX9_breed : ByteArray := prog_1_method_17_code
def yX9_breed : MethodName := ⟨RX9, "breed", "(I)I"⟩
abbrev cX9_sketched : ByteArray := prog_1_method_18_code
def yX9_sketched : MethodName := ⟨RX9, "sketched", "()I"⟩
abbrev cX9_trees : ByteArray := prog_1_method_19_code
def yX9_trees : MethodName := ⟨RX9, "trees", "()I"⟩
abbrev cX9_size : ByteArray := prog_1_method_21_code
def yX9_size : MethodName := ⟨RX9, "size", "(I)I"⟩
abbrev cX9_depth : ByteArray := prog_1_method_22_code
def yX9_depth : MethodName := ⟨RX9, "depth", "(I)I"⟩
abbrev cX9_codeAt : ByteArray := prog_1_method_23_code
def yX9_codeAt : MethodName := ⟨RX9, "codeAt", "(II)I"⟩
abbrev cX9_valueAt : ByteArray := prog_1_method_24_code
def yX9_valueAt : MethodName := ⟨RX9, "valueAt", "(II)I"⟩
abbrev cX9_sizeAt : ByteArray := prog_1_method_25_code
def yX9_sizeAt : MethodName := ⟨RX9, "sizeAt", "(II)I"⟩
abbrev cX9_above : ByteArray := prog_1_method_26_code
def yX9_above : MethodName := ⟨RX9, "above", "(II)I"⟩
abbrev cX9_gives : ByteArray := prog_1_method_27_code
def yX9_gives : MethodName := ⟨RX9, "gives", "(IIII)I"⟩
abbrev cX9_error : ByteArray := prog_1_method_28_code
def yX9_error : MethodName := ⟨RX9, "error", "(I)I"⟩
abbrev cX9_merit : ByteArray := prog_1_method_29_code
def yX9_merit : MethodName := ⟨RX9, "merit", "(I)I"⟩
abbrev cX9_ranked : ByteArray := prog_1_method_31_code
def yX9_ranked : MethodName := ⟨RX9, "ranked", "(I)I"⟩
abbrev cX9_different : ByteArray := prog_1_method_32_code
def yX9_different : MethodName := ⟨RX9, "different", "()I"⟩
abbrev cX9_alike : ByteArray := prog_1_method_33_code
def yX9_alike : MethodName := ⟨RX9, "alike", "(II)I"⟩
abbrev cX9_errorCrossed : ByteArray := prog_1_method_39_code
def yX9_errorCrossed : MethodName := ⟨RX9, "errorCrossed", "(IIII)I"⟩
abbrev cX9_bestHoist : ByteArray := prog_1_method_40_code
def yX9_bestHoist : MethodName := ⟨RX9, "bestHoist", "(I)I"⟩
abbrev cX9_errorBred : ByteArray := prog_1_method_41_code
def yX9_errorBred : MethodName := ⟨RX9, "errorBred", "(I)I"⟩
abbrev cX9_digest : ByteArray := prog_1_method_42_code
def yX9_digest : MethodName := ⟨RX9, "digest", "()J"⟩
abbrev cX9_digestWith : ByteArray := prog_1_method_43_code
def yX9_digestWith : MethodName := ⟨RX9, "digestWith", "(JLBarnacle$Tree;)J"⟩
abbrev cX9_requireTree : ByteArray := prog_1_method_44_code
def yX9_requireTree : MethodName := ⟨RX9, "requireTree", "(I)LBarnacle$Tree;"⟩
abbrev cX9_requirePlace : ByteArray := prog_1_method_45_code
def yX9_requirePlace : MethodName := ⟨RX9, "requirePlace", "(II)LBarnacle$Tree;"⟩
abbrev cX9_requireBreeding : ByteArray := prog_1_method_46_code
def yX9_requireBreeding : MethodName := ⟨RX9, "requireBreeding", "(I)V"⟩
abbrev cX9_requireNode : ByteArray := prog_1_method_47_code
def yX9_requireNode : MethodName := ⟨RX9, "requireNode", "(II)V"⟩
abbrev cX9_requireInputs : ByteArray := prog_1_method_48_code
def yX9_requireInputs : MethodName := ⟨RX9, "requireInputs", "(III)V"⟩
abbrev cX9_isInput : ByteArray := prog_1_method_49_code
def yX9_isInput : MethodName := ⟨RX9, "isInput", "(I)Z"⟩
abbrev cX9_isNumberPart : ByteArray := prog_1_method_51_code
def yX9_isNumberPart : MethodName := ⟨RX9, "isNumberPart", "(II)Z"⟩
abbrev cX9_at : ByteArray := prog_1_method_52_code
def yX9_at : MethodName := ⟨RX9, "at", "([II)I"⟩
abbrev cX9_put : ByteArray := prog_1_method_53_code
def yX9_put : MethodName := ⟨RX9, "put", "([III)V"⟩
def RX10 : String := "BarnacleLaw$Grove"
def TX10 : u_T := fun k => match k with
  | 0 => ("BarnacleLaw$Grove", "m", "LBarnacle;", true)
  | 1 => ("BarnacleLaw$Grove", "s", "[I", true)
  | 2 => ("BarnacleLaw$Grove", "draws", "I", false)
  | 3 => ("BarnacleLaw$Grove", "trees", "I", false)
  | 4 => ("BarnacleLaw$Grove", "tree", "[[I", false)
  | 5 => ("BarnacleLaw$Grove", "cases", "I", false)
  | _ => ("BarnacleLaw$Grove", "its", "[[I", true)
def tyX10 : Nat → FieldType := fun k => match k with
  | 0 => .object "Barnacle"
  | 1 => .array .int
  | 2 => .int
  | 3 => .int
  | 4 => .array (.array .int)
  | 5 => .int
  | _ => .array (.array .int)
abbrev wsX100 : List Cond := u_ws RX10 TX10 7
theorem nmX10 : ∀ a, a < 7 → ∀ b, b < 7 → a ≠ b → (TX10 a).2.1 ≠ (TX10 b).2.1 := by decide +kernel
theorem tyX10_ok : ∀ k, k < 7 → parseFieldDescriptor (TX10 k).2.2.1 = some (tyX10 k) := by decide +kernel
abbrev cX10_init : ByteArray := prog_12_method_1_code
def yX10_init : MethodName := ⟨RX10, "<init>", "([II)V"⟩
abbrev cX10_draw : ByteArray := prog_12_method_2_code
def yX10_draw : MethodName := ⟨RX10, "draw", "(I)I"⟩
abbrev cX10_many : ByteArray := prog_12_method_3_code
def yX10_many : MethodName := ⟨RX10, "many", "(I)I"⟩
abbrev cX10_isNumber : ByteArray := prog_12_method_4_code
def yX10_isNumber : MethodName := ⟨RX10, "isNumber", "(II)Z"⟩
abbrev cX10_joined : ByteArray := prog_12_method_5_code
def yX10_joined : MethodName := ⟨RX10, "joined", "([I[I)[I"⟩
abbrev cX10_grown : ByteArray := prog_12_method_6_code
def yX10_grown : MethodName := ⟨RX10, "grown", "(ZI)[I"⟩
abbrev cX10_plant : ByteArray := prog_12_method_7_code
def yX10_plant : MethodName := ⟨RX10, "plant", "()Z"⟩
abbrev cX10_addCase : ByteArray := prog_12_method_8_code
def yX10_addCase : MethodName := ⟨RX10, "addCase", "()Z"⟩
def RX11 : String := "BarnacleModel"
def TX11 : u_T := fun k => match k with
  | _ => ("", "", "", false)
def tyX11 : Nat → FieldType := fun k => match k with
  | _ => .int
abbrev wsX110 : List Cond := u_ws RX11 TX11 0
theorem nmX11 : ∀ a, a < 0 → ∀ b, b < 0 → a ≠ b → (TX11 a).2.1 ≠ (TX11 b).2.1 := by decide +kernel
theorem tyX11_ok : ∀ k, k < 0 → parseFieldDescriptor (TX11 k).2.2.1 = some (tyX11 k) := by decide +kernel
def RJ9 : String := "java/lang/Math"
def TJ9 : u_T := fun k => match k with
  | _ => ("", "", "", false)
def tyJ9 : Nat → FieldType := fun k => match k with
  | _ => .int
abbrev cJ9_max_7cf53 : ByteArray := prog_18_method_65_code
def yJ9_max_7cf53 : MethodName := ⟨RJ9, "max", "(II)I"⟩
abbrev cJ9_min_7cf53 : ByteArray := prog_18_method_69_code
def yJ9_min_7cf53 : MethodName := ⟨RJ9, "min", "(II)I"⟩
def RJ0 : String := "java/lang/String"
def TJ0 : u_T := fun k => match k with
  | _ => ("", "", "", false)
def tyJ0 : Nat → FieldType := fun k => match k with
  | _ => .int
def RJ10 : String := "java/lang/System"
def TJ10 : u_T := fun k => match k with
  | _ => ("", "", "", false)
def tyJ10 : Nat → FieldType := fun k => match k with
  | _ => .int
def RL : String := "BarnacleLaw"
abbrev cL_below : ByteArray := method_2_code
def yL_below : MethodName := ⟨RL, "below", "(II)I"⟩
abbrev cL_cell : ByteArray := method_3_code
def yL_cell : MethodName := ⟨RL, "cell", "([II)I"⟩
abbrev cL_law : ByteArray := code
def yL_law : MethodName := ⟨RL, "law", "([I)Z"⟩
abbrev vwCl : List vw_C := [(RX0, TX0, 6), (RX1, TX1, 3), (RX2, TX2, 7), (RX3, TX3, 8), (RX4, TX4, 3), (RX5, TX5, 2), (RX6, TX6, 1), (RX7, TX7, 5), (RX8, TX8, 6), (RX9, TX9, 9), (RX10, TX10, 7)]
/-- the words of the tables that stay when entries are resolved -/
def fwOk : Cond → Bool
  | .fieldLinkNest _ _ _ _ _ _ => true
  | .methodLinkNest _ _ _ _ => true
  | .arrayOver _ => true
  | .declares _ => true
  | .castable _ _ => true
  | w => goodWord w
def fwT : List Cond := lw_tbl.filter fwOk
theorem fw_mem {i : Nat} {w : Cond} (h : lw_tbl[i]? = some w) (h2 : fwOk w = true) : w ∈ fwT := List.mem_filter.mpr ⟨List.mem_of_getElem? h, h2⟩
/-- the String constants: class, entry, text -/
def fwStr : List (String × Nat × String) := [(RX9, 133, "way is not 0 to 2, or weight is not 0 to 99"), (RX9, 301, "there is no such TREE"), (RX9, 303, "there is no such PLACE"), (RX9, 173, "value is not -99 to 99"), (RX9, 195, "tournament is not 1 to 5, or elite is not 0 to 4"), (RX9, 203, "luck is not 0 to 9999"), (RX9, 305, "generations is not 1 to 10"), (RX9, 307, "the GROVE is empty"), (RX9, 318, "an input is not -99 to 99"), (RX9, 261, "there is no such rank"), (RX9, 309, "code is not 0 to 13"), (RX9, 311, "the value of a CONSTANT is not -99 to 99"), (RX9, 313, "the value of an INPUT is not 0 to 2"), (RX9, 78, "the NODE cannot come to the SKETCH"), (RX9, 102, "the SKETCH is no TREE, or the GROVE is full"), (RX9, 122, "what is due is not -9999 to 9999"), (RX9, 128, "there are 12 CASES")]
theorem qu_RX0 : ∀ w ∈ wsX00, w ∈ fwT := by decide +kernel
theorem qu_RX1 : ∀ w ∈ wsX10, w ∈ fwT := by decide +kernel
theorem qu_RX2 : ∀ w ∈ wsX20, w ∈ fwT := by decide +kernel
theorem qu_RX3 : ∀ w ∈ wsX30, w ∈ fwT := by decide +kernel
theorem qu_RX4 : ∀ w ∈ wsX40, w ∈ fwT := by decide +kernel
theorem qu_RX5 : ∀ w ∈ wsX50, w ∈ fwT := by decide +kernel
theorem qu_RX6 : ∀ w ∈ wsX60, w ∈ fwT := by decide +kernel
theorem qu_RX7 : ∀ w ∈ wsX70, w ∈ fwT := by decide +kernel
theorem qu_RX8 : ∀ w ∈ wsX80, w ∈ fwT := by decide +kernel
theorem qu_RX9 : ∀ w ∈ wsX90, w ∈ fwT := by decide +kernel
theorem qu_RX10 : ∀ w ∈ wsX100, w ∈ fwT := by decide +kernel
theorem qv_yX9_requirePlace : Cond.selects RX9 yX9_requirePlace yX9_requirePlace ∈ fwT := fw_mem (i := 1) (by decide +kernel) (by decide +kernel)
theorem qv_yX9_requireTree : Cond.selects RX9 yX9_requireTree yX9_requireTree ∈ fwT := fw_mem (i := 2) (by decide +kernel) (by decide +kernel)
theorem qv_yX2_treeOf : Cond.selects RX2 yX2_treeOf yX2_treeOf ∈ fwT := fw_mem (i := 3) (by decide +kernel) (by decide +kernel)
theorem qv_yX8_appendFrom : Cond.selects RX8 yX8_appendFrom yX8_appendFrom ∈ fwT := fw_mem (i := 4) (by decide +kernel) (by decide +kernel)
theorem qv_yX8_measure : Cond.selects RX8 yX8_measure yX8_measure ∈ fwT := fw_mem (i := 5) (by decide +kernel) (by decide +kernel)
theorem qv_yX8_closeGap : Cond.selects RX8 yX8_closeGap yX8_closeGap ∈ fwT := fw_mem (i := 6) (by decide +kernel) (by decide +kernel)
theorem qv_yX6_changeAt : Cond.selects RX6 yX6_changeAt yX6_changeAt ∈ fwT := fw_mem (i := 7) (by decide +kernel) (by decide +kernel)
theorem qv_yX9_requireBreeding : Cond.selects RX9 yX9_requireBreeding yX9_requireBreeding ∈ fwT := fw_mem (i := 8) (by decide +kernel) (by decide +kernel)
theorem qv_yX4_insert : Cond.selects RX4 yX4_insert yX4_insert ∈ fwT := fw_mem (i := 9) (by decide +kernel) (by decide +kernel)
theorem qv_yX0_makeYoung : Cond.selects RX0 yX0_makeYoung yX0_makeYoung ∈ fwT := fw_mem (i := 10) (by decide +kernel) (by decide +kernel)
theorem qv_yX1_takeFirst : Cond.selects RX1 yX1_takeFirst yX1_takeFirst ∈ fwT := fw_mem (i := 11) (by decide +kernel) (by decide +kernel)
theorem qv_yX0_choose : Cond.selects RX0 yX0_choose yX0_choose ∈ fwT := fw_mem (i := 12) (by decide +kernel) (by decide +kernel)
theorem qv_yX9_digestWith : Cond.selects RX9 yX9_digestWith yX9_digestWith ∈ fwT := fw_mem (i := 13) (by decide +kernel) (by decide +kernel)
theorem qv_yX7_miss : Cond.selects RX7 yX7_miss yX7_miss ∈ fwT := fw_mem (i := 14) (by decide +kernel) (by decide +kernel)
theorem qn_RL : Cond.initialized RL ∈ fwT := fw_mem (i := 15) (by decide +kernel) (by decide +kernel)
theorem qn_RX10 : Cond.initialized RX10 ∈ fwT := fw_mem (i := 16) (by decide +kernel) (by decide +kernel)
theorem qn_RX9 : Cond.initialized RX9 ∈ fwT := fw_mem (i := 17) (by decide +kernel) (by decide +kernel)
theorem qn_RX7 : Cond.initialized RX7 ∈ fwT := fw_mem (i := 18) (by decide +kernel) (by decide +kernel)
theorem qn_RX8 : Cond.initialized RX8 ∈ fwT := fw_mem (i := 19) (by decide +kernel) (by decide +kernel)
theorem qn_RX3 : Cond.initialized RX3 ∈ fwT := fw_mem (i := 20) (by decide +kernel) (by decide +kernel)
theorem qn_RX5 : Cond.initialized RX5 ∈ fwT := fw_mem (i := 21) (by decide +kernel) (by decide +kernel)
theorem qn_RX4 : Cond.initialized RX4 ∈ fwT := fw_mem (i := 22) (by decide +kernel) (by decide +kernel)
theorem qn_RX0 : Cond.initialized RX0 ∈ fwT := fw_mem (i := 23) (by decide +kernel) (by decide +kernel)
theorem qn_RX6 : Cond.initialized RX6 ∈ fwT := fw_mem (i := 24) (by decide +kernel) (by decide +kernel)
theorem qn_RX2 : Cond.initialized RX2 ∈ fwT := fw_mem (i := 25) (by decide +kernel) (by decide +kernel)
theorem qn_RX1 : Cond.initialized RX1 ∈ fwT := fw_mem (i := 26) (by decide +kernel) (by decide +kernel)
theorem qn_RJ10 : Cond.initialized RJ10 ∈ fwT := fw_mem (i := 27) (by decide +kernel) (by decide +kernel)
theorem qn_J9 : Cond.initialized "java/lang/Math" ∈ fwT := fw_mem (i := 33) (by decide +kernel) (by decide +kernel)
theorem ql_RL_38 : Cond.methodLink RL 38 yX9_setWay ∈ fwT := fw_mem (i := 35) (by decide +kernel) (by decide +kernel)
theorem qi_yX9_setWay : Cond.instanceMethod yX9_setWay ∈ fwT := fw_mem (i := 36) (by decide +kernel) (by decide +kernel)
theorem qv_yX9_setWay : Cond.selects RX9 yX9_setWay yX9_setWay ∈ fwT := fw_mem (i := 37) (by decide +kernel) (by decide +kernel)
theorem qc_yX9_setWay : Cond.code yX9_setWay cX9_setWay 4 (Option.some Jvm.ClassFile.FieldType.int) ∈ fwT := fw_mem (i := 38) (by decide +kernel) (by decide +kernel)
theorem ql_RX9_120 : Cond.classLink RX9 120 "java/lang/IllegalArgumentException" ∈ fwT := fw_mem (i := 39) (by decide +kernel) (by decide +kernel)
theorem qk_IAE_IAE : Cond.castable "java/lang/IllegalArgumentException" "java/lang/IllegalArgumentException" ∈ fwT := fw_mem (i := 41) (by decide +kernel) (by decide +kernel)
theorem qi_obj : Cond.instanceMethod objectInit ∈ fwT := fw_mem (i := 65) (by decide +kernel) (by decide +kernel)
theorem qc_obj : Cond.code objectInit ⟨#[0xb1]⟩ 1 none ∈ fwT := fw_mem (i := 66) (by decide +kernel) (by decide +kernel)
theorem qa_byte : Cond.arrayClass Jvm.ClassFile.FieldType.byte ∈ fwT := fw_mem (i := 108) (by decide +kernel) (by decide +kernel)
theorem ql_RL_71 : Cond.methodLink RL 71 yX9_cross ∈ fwT := fw_mem (i := 109) (by decide +kernel) (by decide +kernel)
theorem qi_yX9_cross : Cond.instanceMethod yX9_cross ∈ fwT := fw_mem (i := 110) (by decide +kernel) (by decide +kernel)
theorem qv_yX9_cross : Cond.selects RX9 yX9_cross yX9_cross ∈ fwT := fw_mem (i := 111) (by decide +kernel) (by decide +kernel)
theorem qc_yX9_cross : Cond.code yX9_cross cX9_cross 7 (Option.some Jvm.ClassFile.FieldType.int) ∈ fwT := fw_mem (i := 112) (by decide +kernel) (by decide +kernel)
theorem ql_RX9_141 : Cond.methodLink RX9 141 yX9_requirePlace ∈ fwT := fw_mem (i := 113) (by decide +kernel) (by decide +kernel)
theorem qi_yX9_requirePlace : Cond.instanceMethod yX9_requirePlace ∈ fwT := fw_mem (i := 115) (by decide +kernel) (by decide +kernel)
theorem qt_RX9 : Cond.instantiable RX9 9 ∈ fwT := fw_mem (i := 116) (by decide +kernel) (by decide +kernel)
theorem qc_yX9_requirePlace : Cond.code yX9_requirePlace cX9_requirePlace 4 (Option.some (Jvm.ClassFile.FieldType.object "Barnacle$Tree")) ∈ fwT := fw_mem (i := 117) (by decide +kernel) (by decide +kernel)
theorem ql_RX9_108 : Cond.methodLink RX9 108 yX9_requireTree ∈ fwT := fw_mem (i := 118) (by decide +kernel) (by decide +kernel)
theorem qi_yX9_requireTree : Cond.instanceMethod yX9_requireTree ∈ fwT := fw_mem (i := 120) (by decide +kernel) (by decide +kernel)
theorem qc_yX9_requireTree : Cond.code yX9_requireTree cX9_requireTree 2 (Option.some (Jvm.ClassFile.FieldType.object "Barnacle$Tree")) ∈ fwT := fw_mem (i := 121) (by decide +kernel) (by decide +kernel)
theorem ql_RX9_259 : Cond.classLink RX9 259 "java/lang/IndexOutOfBoundsException" ∈ fwT := fw_mem (i := 122) (by decide +kernel) (by decide +kernel)
theorem qk_IOB_IOB : Cond.castable "java/lang/IndexOutOfBoundsException" "java/lang/IndexOutOfBoundsException" ∈ fwT := fw_mem (i := 124) (by decide +kernel) (by decide +kernel)
theorem ql_RX9_277 : Cond.methodLink RX9 277 yX2_tree ∈ fwT := fw_mem (i := 138) (by decide +kernel) (by decide +kernel)
theorem qi_yX2_tree : Cond.instanceMethod yX2_tree ∈ fwT := fw_mem (i := 139) (by decide +kernel) (by decide +kernel)
theorem qv_yX2_tree : Cond.selects RX2 yX2_tree yX2_tree ∈ fwT := fw_mem (i := 140) (by decide +kernel) (by decide +kernel)
theorem qc_yX2_tree : Cond.code yX2_tree cX2_tree 2 (Option.some (Jvm.ClassFile.FieldType.object "Barnacle$Tree")) ∈ fwT := fw_mem (i := 141) (by decide +kernel) (by decide +kernel)
theorem ql_RX2_32 : Cond.methodLink RX2 32 yX2_treeOf ∈ fwT := fw_mem (i := 142) (by decide +kernel) (by decide +kernel)
theorem qi_yX2_treeOf : Cond.instanceMethod yX2_treeOf ∈ fwT := fw_mem (i := 144) (by decide +kernel) (by decide +kernel)
theorem qt_RX2 : Cond.instantiable RX2 7 ∈ fwT := fw_mem (i := 145) (by decide +kernel) (by decide +kernel)
theorem qc_yX2_treeOf : Cond.code yX2_treeOf cX2_treeOf 4 (Option.some (Jvm.ClassFile.FieldType.object "Barnacle$Tree")) ∈ fwT := fw_mem (i := 146) (by decide +kernel) (by decide +kernel)
theorem ql_RX9_145 : Cond.methodLink RX9 145 yX8_becomeCrossed ∈ fwT := fw_mem (i := 148) (by decide +kernel) (by decide +kernel)
theorem qi_yX8_becomeCrossed : Cond.instanceMethod yX8_becomeCrossed ∈ fwT := fw_mem (i := 149) (by decide +kernel) (by decide +kernel)
theorem qv_yX8_becomeCrossed : Cond.selects RX8 yX8_becomeCrossed yX8_becomeCrossed ∈ fwT := fw_mem (i := 150) (by decide +kernel) (by decide +kernel)
theorem qc_yX8_becomeCrossed : Cond.code yX8_becomeCrossed cX8_becomeCrossed 6 (Option.some Jvm.ClassFile.FieldType.boolean) ∈ fwT := fw_mem (i := 151) (by decide +kernel) (by decide +kernel)
theorem ql_RX8_38 : Cond.methodLink RX8 38 yX8_span ∈ fwT := fw_mem (i := 152) (by decide +kernel) (by decide +kernel)
theorem qi_yX8_span : Cond.instanceMethod yX8_span ∈ fwT := fw_mem (i := 153) (by decide +kernel) (by decide +kernel)
theorem qv_yX8_span : Cond.selects RX8 yX8_span yX8_span ∈ fwT := fw_mem (i := 154) (by decide +kernel) (by decide +kernel)
theorem qc_yX8_span : Cond.code yX8_span cX8_span 2 (Option.some Jvm.ClassFile.FieldType.int) ∈ fwT := fw_mem (i := 155) (by decide +kernel) (by decide +kernel)
theorem ql_RX8_24 : Cond.methodLinkNest RX8 24 yX9_at "Barnacle" ∈ fwT := fw_mem (i := 156) (by decide +kernel) (by decide +kernel)
theorem qs_yX9_at : Cond.static yX9_at ∈ fwT := fw_mem (i := 157) (by decide +kernel) (by decide +kernel)
theorem qc_yX9_at : Cond.code yX9_at cX9_at 2 (Option.some Jvm.ClassFile.FieldType.int) ∈ fwT := fw_mem (i := 158) (by decide +kernel) (by decide +kernel)
theorem ql_RX8_51 : Cond.methodLink RX8 51 yX8_isNumber ∈ fwT := fw_mem (i := 159) (by decide +kernel) (by decide +kernel)
theorem qi_yX8_isNumber : Cond.instanceMethod yX8_isNumber ∈ fwT := fw_mem (i := 160) (by decide +kernel) (by decide +kernel)
theorem qv_yX8_isNumber : Cond.selects RX8 yX8_isNumber yX8_isNumber ∈ fwT := fw_mem (i := 161) (by decide +kernel) (by decide +kernel)
theorem qc_yX8_isNumber : Cond.code yX8_isNumber cX8_isNumber 2 (Option.some Jvm.ClassFile.FieldType.boolean) ∈ fwT := fw_mem (i := 162) (by decide +kernel) (by decide +kernel)
theorem ql_RX8_63 : Cond.methodLink RX8 63 yX8_appendFrom ∈ fwT := fw_mem (i := 163) (by decide +kernel) (by decide +kernel)
theorem qi_yX8_appendFrom : Cond.instanceMethod yX8_appendFrom ∈ fwT := fw_mem (i := 165) (by decide +kernel) (by decide +kernel)
theorem qt_RX8 : Cond.instantiable RX8 6 ∈ fwT := fw_mem (i := 166) (by decide +kernel) (by decide +kernel)
theorem qc_yX8_appendFrom : Cond.code yX8_appendFrom cX8_appendFrom 5 (Option.none : Option Jvm.ClassFile.FieldType) ∈ fwT := fw_mem (i := 167) (by decide +kernel) (by decide +kernel)
theorem ql_RX8_55 : Cond.methodLinkNest RX8 55 yX9_put "Barnacle" ∈ fwT := fw_mem (i := 168) (by decide +kernel) (by decide +kernel)
theorem qs_yX9_put : Cond.static yX9_put ∈ fwT := fw_mem (i := 169) (by decide +kernel) (by decide +kernel)
theorem qc_yX9_put : Cond.code yX9_put cX9_put 3 (Option.none : Option Jvm.ClassFile.FieldType) ∈ fwT := fw_mem (i := 170) (by decide +kernel) (by decide +kernel)
theorem ql_RX8_35 : Cond.methodLink RX8 35 yX8_behind ∈ fwT := fw_mem (i := 171) (by decide +kernel) (by decide +kernel)
theorem qi_yX8_behind : Cond.instanceMethod yX8_behind ∈ fwT := fw_mem (i := 172) (by decide +kernel) (by decide +kernel)
theorem qv_yX8_behind : Cond.selects RX8 yX8_behind yX8_behind ∈ fwT := fw_mem (i := 173) (by decide +kernel) (by decide +kernel)
theorem qc_yX8_behind : Cond.code yX8_behind cX8_behind 2 (Option.some Jvm.ClassFile.FieldType.int) ∈ fwT := fw_mem (i := 174) (by decide +kernel) (by decide +kernel)
theorem ql_RX8_67 : Cond.methodLink RX8 67 yX8_measure ∈ fwT := fw_mem (i := 175) (by decide +kernel) (by decide +kernel)
theorem qi_yX8_measure : Cond.instanceMethod yX8_measure ∈ fwT := fw_mem (i := 177) (by decide +kernel) (by decide +kernel)
theorem qc_yX8_measure : Cond.code yX8_measure cX8_measure 6 (Option.none : Option Jvm.ClassFile.FieldType) ∈ fwT := fw_mem (i := 178) (by decide +kernel) (by decide +kernel)
theorem ql_RX8_77 : Cond.fieldLinkNest RX8 77 "Barnacle" "PARTS" "[I" "Barnacle" ∈ fwT := fw_mem (i := 179) (by decide +kernel) (by decide +kernel)
theorem ql_RX8_80 : Cond.methodLink RX8 80 Lib.Math.max.name ∈ fwT := fw_mem (i := 181) (by decide +kernel) (by decide +kernel)
theorem qs_J9_max : Cond.static Lib.Math.max.name ∈ fwT := fw_mem (i := 182) (by decide +kernel) (by decide +kernel)
theorem qc_J9_max : Cond.code Lib.Math.max.name Lib.Math.max.code 2 (some .int) ∈ fwT := fw_mem (i := 183) (by decide +kernel) (by decide +kernel)
theorem ql_RX9_149 : Cond.methodLink RX9 149 yX8_copyFrom ∈ fwT := fw_mem (i := 184) (by decide +kernel) (by decide +kernel)
theorem qi_yX8_copyFrom : Cond.instanceMethod yX8_copyFrom ∈ fwT := fw_mem (i := 185) (by decide +kernel) (by decide +kernel)
theorem qv_yX8_copyFrom : Cond.selects RX8 yX8_copyFrom yX8_copyFrom ∈ fwT := fw_mem (i := 186) (by decide +kernel) (by decide +kernel)
theorem qc_yX8_copyFrom : Cond.code yX8_copyFrom cX8_copyFrom 2 (Option.none : Option Jvm.ClassFile.FieldType) ∈ fwT := fw_mem (i := 187) (by decide +kernel) (by decide +kernel)
theorem ql_RL_74 : Cond.methodLink RL 74 yX9_hoist ∈ fwT := fw_mem (i := 188) (by decide +kernel) (by decide +kernel)
theorem qi_yX9_hoist : Cond.instanceMethod yX9_hoist ∈ fwT := fw_mem (i := 189) (by decide +kernel) (by decide +kernel)
theorem qv_yX9_hoist : Cond.selects RX9 yX9_hoist yX9_hoist ∈ fwT := fw_mem (i := 190) (by decide +kernel) (by decide +kernel)
theorem qc_yX9_hoist : Cond.code yX9_hoist cX9_hoist 4 (Option.some Jvm.ClassFile.FieldType.int) ∈ fwT := fw_mem (i := 191) (by decide +kernel) (by decide +kernel)
theorem ql_RX9_152 : Cond.methodLink RX9 152 yX8_isNumber ∈ fwT := fw_mem (i := 192) (by decide +kernel) (by decide +kernel)
theorem ql_RX9_155 : Cond.methodLink RX9 155 yX8_keepPart ∈ fwT := fw_mem (i := 193) (by decide +kernel) (by decide +kernel)
theorem qi_yX8_keepPart : Cond.instanceMethod yX8_keepPart ∈ fwT := fw_mem (i := 194) (by decide +kernel) (by decide +kernel)
theorem qv_yX8_keepPart : Cond.selects RX8 yX8_keepPart yX8_keepPart ∈ fwT := fw_mem (i := 195) (by decide +kernel) (by decide +kernel)
theorem qc_yX8_keepPart : Cond.code yX8_keepPart cX8_keepPart 6 (Option.none : Option Jvm.ClassFile.FieldType) ∈ fwT := fw_mem (i := 196) (by decide +kernel) (by decide +kernel)
theorem ql_RX8_28 : Cond.methodLink RX8 28 yX8_code ∈ fwT := fw_mem (i := 197) (by decide +kernel) (by decide +kernel)
theorem qi_yX8_code : Cond.instanceMethod yX8_code ∈ fwT := fw_mem (i := 198) (by decide +kernel) (by decide +kernel)
theorem qv_yX8_code : Cond.selects RX8 yX8_code yX8_code ∈ fwT := fw_mem (i := 199) (by decide +kernel) (by decide +kernel)
theorem qc_yX8_code : Cond.code yX8_code cX8_code 2 (Option.some Jvm.ClassFile.FieldType.int) ∈ fwT := fw_mem (i := 200) (by decide +kernel) (by decide +kernel)
theorem ql_RX8_32 : Cond.methodLink RX8 32 yX8_value ∈ fwT := fw_mem (i := 201) (by decide +kernel) (by decide +kernel)
theorem qi_yX8_value : Cond.instanceMethod yX8_value ∈ fwT := fw_mem (i := 202) (by decide +kernel) (by decide +kernel)
theorem qv_yX8_value : Cond.selects RX8 yX8_value yX8_value ∈ fwT := fw_mem (i := 203) (by decide +kernel) (by decide +kernel)
theorem qc_yX8_value : Cond.code yX8_value cX8_value 2 (Option.some Jvm.ClassFile.FieldType.int) ∈ fwT := fw_mem (i := 204) (by decide +kernel) (by decide +kernel)
theorem ql_RX8_59 : Cond.methodLink RX8 59 yX8_write ∈ fwT := fw_mem (i := 205) (by decide +kernel) (by decide +kernel)
theorem qi_yX8_write : Cond.instanceMethod yX8_write ∈ fwT := fw_mem (i := 206) (by decide +kernel) (by decide +kernel)
theorem qv_yX8_write : Cond.selects RX8 yX8_write yX8_write ∈ fwT := fw_mem (i := 207) (by decide +kernel) (by decide +kernel)
theorem qc_yX8_write : Cond.code yX8_write cX8_write 4 (Option.none : Option Jvm.ClassFile.FieldType) ∈ fwT := fw_mem (i := 208) (by decide +kernel) (by decide +kernel)
theorem ql_RX8_70 : Cond.methodLink RX8 70 yX8_closeGap ∈ fwT := fw_mem (i := 209) (by decide +kernel) (by decide +kernel)
theorem qi_yX8_closeGap : Cond.instanceMethod yX8_closeGap ∈ fwT := fw_mem (i := 211) (by decide +kernel) (by decide +kernel)
theorem qc_yX8_closeGap : Cond.code yX8_closeGap cX8_closeGap 5 (Option.none : Option Jvm.ClassFile.FieldType) ∈ fwT := fw_mem (i := 212) (by decide +kernel) (by decide +kernel)
theorem ql_RL_83 : Cond.methodLink RL 83 yX9_wither ∈ fwT := fw_mem (i := 213) (by decide +kernel) (by decide +kernel)
theorem qi_yX9_wither : Cond.instanceMethod yX9_wither ∈ fwT := fw_mem (i := 214) (by decide +kernel) (by decide +kernel)
theorem qv_yX9_wither : Cond.selects RX9 yX9_wither yX9_wither ∈ fwT := fw_mem (i := 215) (by decide +kernel) (by decide +kernel)
theorem qc_yX9_wither : Cond.code yX9_wither cX9_wither 5 (Option.some Jvm.ClassFile.FieldType.int) ∈ fwT := fw_mem (i := 216) (by decide +kernel) (by decide +kernel)
theorem ql_RX9_175 : Cond.methodLink RX9 175 yX8_makeConstant ∈ fwT := fw_mem (i := 218) (by decide +kernel) (by decide +kernel)
theorem qi_yX8_makeConstant : Cond.instanceMethod yX8_makeConstant ∈ fwT := fw_mem (i := 219) (by decide +kernel) (by decide +kernel)
theorem qv_yX8_makeConstant : Cond.selects RX8 yX8_makeConstant yX8_makeConstant ∈ fwT := fw_mem (i := 220) (by decide +kernel) (by decide +kernel)
theorem qc_yX8_makeConstant : Cond.code yX8_makeConstant cX8_makeConstant 4 (Option.none : Option Jvm.ClassFile.FieldType) ∈ fwT := fw_mem (i := 221) (by decide +kernel) (by decide +kernel)
theorem ql_RL_80 : Cond.methodLink RL 80 yX9_simplify ∈ fwT := fw_mem (i := 222) (by decide +kernel) (by decide +kernel)
theorem qi_yX9_simplify : Cond.instanceMethod yX9_simplify ∈ fwT := fw_mem (i := 223) (by decide +kernel) (by decide +kernel)
theorem qv_yX9_simplify : Cond.selects RX9 yX9_simplify yX9_simplify ∈ fwT := fw_mem (i := 224) (by decide +kernel) (by decide +kernel)
theorem qc_yX9_simplify : Cond.code yX9_simplify cX9_simplify 4 (Option.some Jvm.ClassFile.FieldType.int) ∈ fwT := fw_mem (i := 225) (by decide +kernel) (by decide +kernel)
theorem ql_RX9_178 : Cond.methodLink RX9 178 yX6_finish ∈ fwT := fw_mem (i := 226) (by decide +kernel) (by decide +kernel)
theorem qi_yX6_finish : Cond.instanceMethod yX6_finish ∈ fwT := fw_mem (i := 227) (by decide +kernel) (by decide +kernel)
theorem qv_yX6_finish : Cond.selects RX6 yX6_finish yX6_finish ∈ fwT := fw_mem (i := 228) (by decide +kernel) (by decide +kernel)
theorem qc_yX6_finish : Cond.code yX6_finish cX6_finish 4 (Option.none : Option Jvm.ClassFile.FieldType) ∈ fwT := fw_mem (i := 229) (by decide +kernel) (by decide +kernel)
theorem ql_RX6_24 : Cond.methodLink RX6 24 yX6_changeAt ∈ fwT := fw_mem (i := 230) (by decide +kernel) (by decide +kernel)
theorem qi_yX6_changeAt : Cond.instanceMethod yX6_changeAt ∈ fwT := fw_mem (i := 232) (by decide +kernel) (by decide +kernel)
theorem qt_RX6 : Cond.instantiable RX6 1 ∈ fwT := fw_mem (i := 233) (by decide +kernel) (by decide +kernel)
theorem qc_yX6_changeAt : Cond.code yX6_changeAt cX6_changeAt 4 (Option.some Jvm.ClassFile.FieldType.boolean) ∈ fwT := fw_mem (i := 234) (by decide +kernel) (by decide +kernel)
theorem ql_RX6_28 : Cond.methodLink RX6 28 yX6_isFoldable ∈ fwT := fw_mem (i := 235) (by decide +kernel) (by decide +kernel)
theorem qs_yX6_isFoldable : Cond.static yX6_isFoldable ∈ fwT := fw_mem (i := 236) (by decide +kernel) (by decide +kernel)
theorem qc_yX6_isFoldable : Cond.code yX6_isFoldable cX6_isFoldable 2 (Option.some Jvm.ClassFile.FieldType.boolean) ∈ fwT := fw_mem (i := 237) (by decide +kernel) (by decide +kernel)
theorem ql_RX6_48 : Cond.methodLink RX6 48 yX8_isNumber ∈ fwT := fw_mem (i := 238) (by decide +kernel) (by decide +kernel)
theorem ql_RX6_52 : Cond.methodLink RX6 52 yX8_span ∈ fwT := fw_mem (i := 239) (by decide +kernel) (by decide +kernel)
theorem ql_RX6_56 : Cond.methodLink RX6 56 yX8_hasInput ∈ fwT := fw_mem (i := 240) (by decide +kernel) (by decide +kernel)
theorem qi_yX8_hasInput : Cond.instanceMethod yX8_hasInput ∈ fwT := fw_mem (i := 241) (by decide +kernel) (by decide +kernel)
theorem qv_yX8_hasInput : Cond.selects RX8 yX8_hasInput yX8_hasInput ∈ fwT := fw_mem (i := 242) (by decide +kernel) (by decide +kernel)
theorem qc_yX8_hasInput : Cond.code yX8_hasInput cX8_hasInput 4 (Option.some Jvm.ClassFile.FieldType.boolean) ∈ fwT := fw_mem (i := 243) (by decide +kernel) (by decide +kernel)
theorem ql_RX6_31 : Cond.methodLink RX6 31 yX5_resultOf ∈ fwT := fw_mem (i := 244) (by decide +kernel) (by decide +kernel)
theorem qi_yX5_resultOf : Cond.instanceMethod yX5_resultOf ∈ fwT := fw_mem (i := 245) (by decide +kernel) (by decide +kernel)
theorem qv_yX5_resultOf : Cond.selects RX5 yX5_resultOf yX5_resultOf ∈ fwT := fw_mem (i := 246) (by decide +kernel) (by decide +kernel)
theorem qc_yX5_resultOf : Cond.code yX5_resultOf cX5_resultOf 10 (Option.some Jvm.ClassFile.FieldType.int) ∈ fwT := fw_mem (i := 247) (by decide +kernel) (by decide +kernel)
theorem ql_RX5_27 : Cond.methodLinkNest RX5 27 yX9_at "Barnacle" ∈ fwT := fw_mem (i := 248) (by decide +kernel) (by decide +kernel)
theorem ql_RX5_37 : Cond.methodLink RX5 37 yX5_pairResult ∈ fwT := fw_mem (i := 249) (by decide +kernel) (by decide +kernel)
theorem qs_yX5_pairResult : Cond.static yX5_pairResult ∈ fwT := fw_mem (i := 250) (by decide +kernel) (by decide +kernel)
theorem qc_yX5_pairResult : Cond.code yX5_pairResult cX5_pairResult 3 (Option.some Jvm.ClassFile.FieldType.int) ∈ fwT := fw_mem (i := 251) (by decide +kernel) (by decide +kernel)
theorem ql_RX5_41 : Cond.methodLink RX5 41 yX5_limited ∈ fwT := fw_mem (i := 252) (by decide +kernel) (by decide +kernel)
theorem qs_yX5_limited : Cond.static yX5_limited ∈ fwT := fw_mem (i := 253) (by decide +kernel) (by decide +kernel)
theorem qc_yX5_limited : Cond.code yX5_limited cX5_limited 1 (Option.some Jvm.ClassFile.FieldType.int) ∈ fwT := fw_mem (i := 254) (by decide +kernel) (by decide +kernel)
theorem ql_RX5_18 : Cond.methodLinkNest RX5 18 yX9_put "Barnacle" ∈ fwT := fw_mem (i := 255) (by decide +kernel) (by decide +kernel)
theorem ql_RX6_35 : Cond.methodLink RX6 35 yX8_makeConstant ∈ fwT := fw_mem (i := 256) (by decide +kernel) (by decide +kernel)
theorem ql_RX6_39 : Cond.methodLink RX6 39 yX6_partThatStays ∈ fwT := fw_mem (i := 257) (by decide +kernel) (by decide +kernel)
theorem qs_yX6_partThatStays : Cond.static yX6_partThatStays ∈ fwT := fw_mem (i := 258) (by decide +kernel) (by decide +kernel)
theorem qc_yX6_partThatStays : Cond.code yX6_partThatStays cX6_partThatStays 4 (Option.some Jvm.ClassFile.FieldType.int) ∈ fwT := fw_mem (i := 259) (by decide +kernel) (by decide +kernel)
theorem ql_RX6_59 : Cond.methodLink RX6 59 yX8_behind ∈ fwT := fw_mem (i := 260) (by decide +kernel) (by decide +kernel)
theorem ql_RX6_62 : Cond.methodLink RX6 62 yX8_code ∈ fwT := fw_mem (i := 261) (by decide +kernel) (by decide +kernel)
theorem ql_RX6_65 : Cond.methodLink RX6 65 yX8_isConstant ∈ fwT := fw_mem (i := 262) (by decide +kernel) (by decide +kernel)
theorem qi_yX8_isConstant : Cond.instanceMethod yX8_isConstant ∈ fwT := fw_mem (i := 263) (by decide +kernel) (by decide +kernel)
theorem qv_yX8_isConstant : Cond.selects RX8 yX8_isConstant yX8_isConstant ∈ fwT := fw_mem (i := 264) (by decide +kernel) (by decide +kernel)
theorem qc_yX8_isConstant : Cond.code yX8_isConstant cX8_isConstant 3 (Option.some Jvm.ClassFile.FieldType.boolean) ∈ fwT := fw_mem (i := 265) (by decide +kernel) (by decide +kernel)
theorem ql_RX6_69 : Cond.methodLink RX6 69 yX8_sameParts ∈ fwT := fw_mem (i := 266) (by decide +kernel) (by decide +kernel)
theorem qi_yX8_sameParts : Cond.instanceMethod yX8_sameParts ∈ fwT := fw_mem (i := 267) (by decide +kernel) (by decide +kernel)
theorem qv_yX8_sameParts : Cond.selects RX8 yX8_sameParts yX8_sameParts ∈ fwT := fw_mem (i := 268) (by decide +kernel) (by decide +kernel)
theorem qc_yX8_sameParts : Cond.code yX8_sameParts cX8_sameParts 5 (Option.some Jvm.ClassFile.FieldType.boolean) ∈ fwT := fw_mem (i := 269) (by decide +kernel) (by decide +kernel)
theorem ql_RX6_42 : Cond.methodLink RX6 42 yX8_keepPart ∈ fwT := fw_mem (i := 270) (by decide +kernel) (by decide +kernel)
theorem ql_RX6_45 : Cond.methodLink RX6 45 yX6_isNothing ∈ fwT := fw_mem (i := 271) (by decide +kernel) (by decide +kernel)
theorem qs_yX6_isNothing : Cond.static yX6_isNothing ∈ fwT := fw_mem (i := 272) (by decide +kernel) (by decide +kernel)
theorem qc_yX6_isNothing : Cond.code yX6_isNothing cX6_isNothing 5 (Option.some Jvm.ClassFile.FieldType.boolean) ∈ fwT := fw_mem (i := 273) (by decide +kernel) (by decide +kernel)
theorem ql_RL_34 : Cond.methodLink RL 34 yX9_setChoosing ∈ fwT := fw_mem (i := 274) (by decide +kernel) (by decide +kernel)
theorem qi_yX9_setChoosing : Cond.instanceMethod yX9_setChoosing ∈ fwT := fw_mem (i := 275) (by decide +kernel) (by decide +kernel)
theorem qv_yX9_setChoosing : Cond.selects RX9 yX9_setChoosing yX9_setChoosing ∈ fwT := fw_mem (i := 276) (by decide +kernel) (by decide +kernel)
theorem qc_yX9_setChoosing : Cond.code yX9_setChoosing cX9_setChoosing 4 (Option.some Jvm.ClassFile.FieldType.int) ∈ fwT := fw_mem (i := 277) (by decide +kernel) (by decide +kernel)
theorem ql_RL_29 : Cond.methodLink RL 29 yX9_setLuck ∈ fwT := fw_mem (i := 279) (by decide +kernel) (by decide +kernel)
theorem qi_yX9_setLuck : Cond.instanceMethod yX9_setLuck ∈ fwT := fw_mem (i := 280) (by decide +kernel) (by decide +kernel)
theorem qv_yX9_setLuck : Cond.selects RX9 yX9_setLuck yX9_setLuck ∈ fwT := fw_mem (i := 281) (by decide +kernel) (by decide +kernel)
theorem qc_yX9_setLuck : Cond.code yX9_setLuck cX9_setLuck 3 (Option.some Jvm.ClassFile.FieldType.int) ∈ fwT := fw_mem (i := 282) (by decide +kernel) (by decide +kernel)
theorem ql_RL_93 : Cond.methodLink RL 93 yX9_breed ∈ fwT := fw_mem (i := 284) (by decide +kernel) (by decide +kernel)
theorem qi_yX9_breed : Cond.instanceMethod yX9_breed ∈ fwT := fw_mem (i := 285) (by decide +kernel) (by decide +kernel)
theorem qv_yX9_breed : Cond.selects RX9 yX9_breed yX9_breed ∈ fwT := fw_mem (i := 286) (by decide +kernel) (by decide +kernel)
theorem qc_yX9_breed : Cond.code yX9_breed cX9_breed 2 (Option.some Jvm.ClassFile.FieldType.int) ∈ fwT := fw_mem (i := 287) (by decide +kernel) (by decide +kernel)
theorem ql_RX9_223 : Cond.methodLink RX9 223 yX9_requireBreeding ∈ fwT := fw_mem (i := 288) (by decide +kernel) (by decide +kernel)
theorem qi_yX9_requireBreeding : Cond.instanceMethod yX9_requireBreeding ∈ fwT := fw_mem (i := 290) (by decide +kernel) (by decide +kernel)
theorem qc_yX9_requireBreeding : Cond.code yX9_requireBreeding cX9_requireBreeding 2 (Option.none : Option Jvm.ClassFile.FieldType) ∈ fwT := fw_mem (i := 291) (by decide +kernel) (by decide +kernel)
theorem ql_RX9_76 : Cond.classLink RX9 76 "java/lang/IllegalStateException" ∈ fwT := fw_mem (i := 293) (by decide +kernel) (by decide +kernel)
theorem qk_ISE_ISE : Cond.castable "java/lang/IllegalStateException" "java/lang/IllegalStateException" ∈ fwT := fw_mem (i := 295) (by decide +kernel) (by decide +kernel)
theorem ql_RX9_226 : Cond.methodLink RX9 226 yX0_errorAfter ∈ fwT := fw_mem (i := 309) (by decide +kernel) (by decide +kernel)
theorem qi_yX0_errorAfter : Cond.instanceMethod yX0_errorAfter ∈ fwT := fw_mem (i := 310) (by decide +kernel) (by decide +kernel)
theorem qv_yX0_errorAfter : Cond.selects RX0 yX0_errorAfter yX0_errorAfter ∈ fwT := fw_mem (i := 311) (by decide +kernel) (by decide +kernel)
theorem qc_yX0_errorAfter : Cond.code yX0_errorAfter cX0_errorAfter 7 (Option.some Jvm.ClassFile.FieldType.int) ∈ fwT := fw_mem (i := 312) (by decide +kernel) (by decide +kernel)
theorem ql_RX0_34 : Cond.methodLink RX0 34 yX4_rank ∈ fwT := fw_mem (i := 313) (by decide +kernel) (by decide +kernel)
theorem qi_yX4_rank : Cond.instanceMethod yX4_rank ∈ fwT := fw_mem (i := 314) (by decide +kernel) (by decide +kernel)
theorem qv_yX4_rank : Cond.selects RX4 yX4_rank yX4_rank ∈ fwT := fw_mem (i := 315) (by decide +kernel) (by decide +kernel)
theorem qc_yX4_rank : Cond.code yX4_rank cX4_rank 5 (Option.none : Option Jvm.ClassFile.FieldType) ∈ fwT := fw_mem (i := 316) (by decide +kernel) (by decide +kernel)
theorem ql_RX4_27 : Cond.methodLink RX4 27 yX2_tree ∈ fwT := fw_mem (i := 317) (by decide +kernel) (by decide +kernel)
theorem ql_RX4_31 : Cond.methodLink RX4 31 yX3_meritOf ∈ fwT := fw_mem (i := 318) (by decide +kernel) (by decide +kernel)
theorem qi_yX3_meritOf : Cond.instanceMethod yX3_meritOf ∈ fwT := fw_mem (i := 319) (by decide +kernel) (by decide +kernel)
theorem qv_yX3_meritOf : Cond.selects RX3 yX3_meritOf yX3_meritOf ∈ fwT := fw_mem (i := 320) (by decide +kernel) (by decide +kernel)
theorem qc_yX3_meritOf : Cond.code yX3_meritOf cX3_meritOf 3 (Option.some Jvm.ClassFile.FieldType.int) ∈ fwT := fw_mem (i := 321) (by decide +kernel) (by decide +kernel)
theorem ql_RX3_54 : Cond.methodLink RX3 54 yX3_errorOf ∈ fwT := fw_mem (i := 322) (by decide +kernel) (by decide +kernel)
theorem qi_yX3_errorOf : Cond.instanceMethod yX3_errorOf ∈ fwT := fw_mem (i := 323) (by decide +kernel) (by decide +kernel)
theorem qv_yX3_errorOf : Cond.selects RX3 yX3_errorOf yX3_errorOf ∈ fwT := fw_mem (i := 324) (by decide +kernel) (by decide +kernel)
theorem qc_yX3_errorOf : Cond.code yX3_errorOf cX3_errorOf 6 (Option.some Jvm.ClassFile.FieldType.int) ∈ fwT := fw_mem (i := 325) (by decide +kernel) (by decide +kernel)
theorem ql_RX3_42 : Cond.methodLinkNest RX3 42 yX9_at "Barnacle" ∈ fwT := fw_mem (i := 326) (by decide +kernel) (by decide +kernel)
theorem ql_RX3_46 : Cond.methodLink RX3 46 yX5_setInputs ∈ fwT := fw_mem (i := 327) (by decide +kernel) (by decide +kernel)
theorem qi_yX5_setInputs : Cond.instanceMethod yX5_setInputs ∈ fwT := fw_mem (i := 328) (by decide +kernel) (by decide +kernel)
theorem qv_yX5_setInputs : Cond.selects RX5 yX5_setInputs yX5_setInputs ∈ fwT := fw_mem (i := 329) (by decide +kernel) (by decide +kernel)
theorem qc_yX5_setInputs : Cond.code yX5_setInputs cX5_setInputs 4 (Option.none : Option Jvm.ClassFile.FieldType) ∈ fwT := fw_mem (i := 330) (by decide +kernel) (by decide +kernel)
theorem ql_RX3_50 : Cond.methodLink RX3 50 yX5_resultOf ∈ fwT := fw_mem (i := 331) (by decide +kernel) (by decide +kernel)
theorem ql_RX4_37 : Cond.methodLinkNest RX4 37 yX9_put "Barnacle" ∈ fwT := fw_mem (i := 332) (by decide +kernel) (by decide +kernel)
theorem ql_RX4_49 : Cond.methodLink RX4 49 yX4_insert ∈ fwT := fw_mem (i := 333) (by decide +kernel) (by decide +kernel)
theorem qi_yX4_insert : Cond.instanceMethod yX4_insert ∈ fwT := fw_mem (i := 335) (by decide +kernel) (by decide +kernel)
theorem qt_RX4 : Cond.instantiable RX4 3 ∈ fwT := fw_mem (i := 336) (by decide +kernel) (by decide +kernel)
theorem qc_yX4_insert : Cond.code yX4_insert cX4_insert 3 (Option.none : Option Jvm.ClassFile.FieldType) ∈ fwT := fw_mem (i := 337) (by decide +kernel) (by decide +kernel)
theorem ql_RX4_53 : Cond.methodLinkNest RX4 53 yX9_at "Barnacle" ∈ fwT := fw_mem (i := 338) (by decide +kernel) (by decide +kernel)
theorem ql_RX4_57 : Cond.methodLink RX4 57 yX4_isBetter ∈ fwT := fw_mem (i := 339) (by decide +kernel) (by decide +kernel)
theorem qi_yX4_isBetter : Cond.instanceMethod yX4_isBetter ∈ fwT := fw_mem (i := 340) (by decide +kernel) (by decide +kernel)
theorem qv_yX4_isBetter : Cond.selects RX4 yX4_isBetter yX4_isBetter ∈ fwT := fw_mem (i := 341) (by decide +kernel) (by decide +kernel)
theorem qc_yX4_isBetter : Cond.code yX4_isBetter cX4_isBetter 3 (Option.some Jvm.ClassFile.FieldType.boolean) ∈ fwT := fw_mem (i := 342) (by decide +kernel) (by decide +kernel)
theorem ql_RX0_43 : Cond.methodLink RX0 43 Lib.Math.min.name ∈ fwT := fw_mem (i := 343) (by decide +kernel) (by decide +kernel)
theorem qs_J9_min : Cond.static Lib.Math.min.name ∈ fwT := fw_mem (i := 344) (by decide +kernel) (by decide +kernel)
theorem qc_J9_min : Cond.code Lib.Math.min.name Lib.Math.min.code 2 (some .int) ∈ fwT := fw_mem (i := 345) (by decide +kernel) (by decide +kernel)
theorem ql_RX0_49 : Cond.methodLink RX0 49 yX2_youngTree ∈ fwT := fw_mem (i := 346) (by decide +kernel) (by decide +kernel)
theorem qi_yX2_youngTree : Cond.instanceMethod yX2_youngTree ∈ fwT := fw_mem (i := 347) (by decide +kernel) (by decide +kernel)
theorem qv_yX2_youngTree : Cond.selects RX2 yX2_youngTree yX2_youngTree ∈ fwT := fw_mem (i := 348) (by decide +kernel) (by decide +kernel)
theorem qc_yX2_youngTree : Cond.code yX2_youngTree cX2_youngTree 2 (Option.some (Jvm.ClassFile.FieldType.object "Barnacle$Tree")) ∈ fwT := fw_mem (i := 349) (by decide +kernel) (by decide +kernel)
theorem ql_RX0_53 : Cond.methodLink RX0 53 yX4_withRank ∈ fwT := fw_mem (i := 350) (by decide +kernel) (by decide +kernel)
theorem qi_yX4_withRank : Cond.instanceMethod yX4_withRank ∈ fwT := fw_mem (i := 351) (by decide +kernel) (by decide +kernel)
theorem qv_yX4_withRank : Cond.selects RX4 yX4_withRank yX4_withRank ∈ fwT := fw_mem (i := 352) (by decide +kernel) (by decide +kernel)
theorem qc_yX4_withRank : Cond.code yX4_withRank cX4_withRank 2 (Option.some Jvm.ClassFile.FieldType.int) ∈ fwT := fw_mem (i := 353) (by decide +kernel) (by decide +kernel)
theorem ql_RX0_57 : Cond.methodLink RX0 57 yX2_tree ∈ fwT := fw_mem (i := 354) (by decide +kernel) (by decide +kernel)
theorem ql_RX0_60 : Cond.methodLink RX0 60 yX8_copyFrom ∈ fwT := fw_mem (i := 355) (by decide +kernel) (by decide +kernel)
theorem ql_RX0_66 : Cond.methodLink RX0 66 yX0_makeYoung ∈ fwT := fw_mem (i := 356) (by decide +kernel) (by decide +kernel)
theorem qi_yX0_makeYoung : Cond.instanceMethod yX0_makeYoung ∈ fwT := fw_mem (i := 358) (by decide +kernel) (by decide +kernel)
theorem qt_RX0 : Cond.instantiable RX0 6 ∈ fwT := fw_mem (i := 359) (by decide +kernel) (by decide +kernel)
theorem qc_yX0_makeYoung : Cond.code yX0_makeYoung cX0_makeYoung 5 (Option.none : Option Jvm.ClassFile.FieldType) ∈ fwT := fw_mem (i := 360) (by decide +kernel) (by decide +kernel)
theorem ql_RX0_83 : Cond.methodLink RX0 83 yX1_below ∈ fwT := fw_mem (i := 361) (by decide +kernel) (by decide +kernel)
theorem qi_yX1_below : Cond.instanceMethod yX1_below ∈ fwT := fw_mem (i := 362) (by decide +kernel) (by decide +kernel)
theorem qv_yX1_below : Cond.selects RX1 yX1_below yX1_below ∈ fwT := fw_mem (i := 363) (by decide +kernel) (by decide +kernel)
theorem qc_yX1_below : Cond.code yX1_below cX1_below 2 (Option.some Jvm.ClassFile.FieldType.int) ∈ fwT := fw_mem (i := 364) (by decide +kernel) (by decide +kernel)
theorem ql_RX1_23 : Cond.methodLink RX1 23 yX1_takeFirst ∈ fwT := fw_mem (i := 365) (by decide +kernel) (by decide +kernel)
theorem qi_yX1_takeFirst : Cond.instanceMethod yX1_takeFirst ∈ fwT := fw_mem (i := 367) (by decide +kernel) (by decide +kernel)
theorem qt_RX1 : Cond.instantiable RX1 3 ∈ fwT := fw_mem (i := 368) (by decide +kernel) (by decide +kernel)
theorem qc_yX1_takeFirst : Cond.code yX1_takeFirst cX1_takeFirst 3 (Option.some Jvm.ClassFile.FieldType.int) ∈ fwT := fw_mem (i := 369) (by decide +kernel) (by decide +kernel)
theorem ql_RX1_30 : Cond.methodLinkNest RX1 30 yX9_at "Barnacle" ∈ fwT := fw_mem (i := 370) (by decide +kernel) (by decide +kernel)
theorem ql_RX1_19 : Cond.methodLinkNest RX1 19 yX9_put "Barnacle" ∈ fwT := fw_mem (i := 371) (by decide +kernel) (by decide +kernel)
theorem ql_RX0_88 : Cond.methodLink RX0 88 yX0_choose ∈ fwT := fw_mem (i := 372) (by decide +kernel) (by decide +kernel)
theorem qi_yX0_choose : Cond.instanceMethod yX0_choose ∈ fwT := fw_mem (i := 374) (by decide +kernel) (by decide +kernel)
theorem qc_yX0_choose : Cond.code yX0_choose cX0_choose 5 (Option.some (Jvm.ClassFile.FieldType.object "Barnacle$Tree")) ∈ fwT := fw_mem (i := 375) (by decide +kernel) (by decide +kernel)
theorem ql_RX0_103 : Cond.methodLink RX0 103 yX4_isBetter ∈ fwT := fw_mem (i := 376) (by decide +kernel) (by decide +kernel)
theorem ql_RX0_92 : Cond.methodLink RX0 92 yX0_crossYoung ∈ fwT := fw_mem (i := 377) (by decide +kernel) (by decide +kernel)
theorem qs_yX0_crossYoung : Cond.static yX0_crossYoung ∈ fwT := fw_mem (i := 378) (by decide +kernel) (by decide +kernel)
theorem qc_yX0_crossYoung : Cond.code yX0_crossYoung cX0_crossYoung 8 (Option.none : Option Jvm.ClassFile.FieldType) ∈ fwT := fw_mem (i := 379) (by decide +kernel) (by decide +kernel)
theorem ql_RX0_110 : Cond.methodLink RX0 110 yX8_isNumber ∈ fwT := fw_mem (i := 380) (by decide +kernel) (by decide +kernel)
theorem ql_RX0_114 : Cond.methodLink RX0 114 yX8_countOfType ∈ fwT := fw_mem (i := 381) (by decide +kernel) (by decide +kernel)
theorem qi_yX8_countOfType : Cond.instanceMethod yX8_countOfType ∈ fwT := fw_mem (i := 382) (by decide +kernel) (by decide +kernel)
theorem qv_yX8_countOfType : Cond.selects RX8 yX8_countOfType yX8_countOfType ∈ fwT := fw_mem (i := 383) (by decide +kernel) (by decide +kernel)
theorem qc_yX8_countOfType : Cond.code yX8_countOfType cX8_countOfType 4 (Option.some Jvm.ClassFile.FieldType.int) ∈ fwT := fw_mem (i := 384) (by decide +kernel) (by decide +kernel)
theorem ql_RX0_121 : Cond.methodLink RX0 121 yX8_placeOfType ∈ fwT := fw_mem (i := 385) (by decide +kernel) (by decide +kernel)
theorem qi_yX8_placeOfType : Cond.instanceMethod yX8_placeOfType ∈ fwT := fw_mem (i := 386) (by decide +kernel) (by decide +kernel)
theorem qv_yX8_placeOfType : Cond.selects RX8 yX8_placeOfType yX8_placeOfType ∈ fwT := fw_mem (i := 387) (by decide +kernel) (by decide +kernel)
theorem qc_yX8_placeOfType : Cond.code yX8_placeOfType cX8_placeOfType 5 (Option.some Jvm.ClassFile.FieldType.int) ∈ fwT := fw_mem (i := 388) (by decide +kernel) (by decide +kernel)
theorem ql_RX0_125 : Cond.methodLink RX0 125 yX8_becomeCrossed ∈ fwT := fw_mem (i := 389) (by decide +kernel) (by decide +kernel)
theorem ql_RX0_96 : Cond.methodLink RX0 96 yX0_changeYoung ∈ fwT := fw_mem (i := 390) (by decide +kernel) (by decide +kernel)
theorem qs_yX0_changeYoung : Cond.static yX0_changeYoung ∈ fwT := fw_mem (i := 391) (by decide +kernel) (by decide +kernel)
theorem qc_yX0_changeYoung : Cond.code yX0_changeYoung cX0_changeYoung 4 (Option.none : Option Jvm.ClassFile.FieldType) ∈ fwT := fw_mem (i := 392) (by decide +kernel) (by decide +kernel)
theorem ql_RX0_129 : Cond.methodLink RX0 129 yX8_code ∈ fwT := fw_mem (i := 393) (by decide +kernel) (by decide +kernel)
theorem ql_RX0_132 : Cond.methodLink RX0 132 yX8_write ∈ fwT := fw_mem (i := 394) (by decide +kernel) (by decide +kernel)
theorem ql_RX0_136 : Cond.fieldLinkNest RX0 136 "Barnacle" "KIN_STARTS" "[I" "Barnacle" ∈ fwT := fw_mem (i := 395) (by decide +kernel) (by decide +kernel)
theorem ql_RX0_140 : Cond.methodLinkNest RX0 140 yX9_at "Barnacle" ∈ fwT := fw_mem (i := 397) (by decide +kernel) (by decide +kernel)
theorem ql_RX0_144 : Cond.fieldLinkNest RX0 144 "Barnacle" "KIN_COUNTS" "[I" "Barnacle" ∈ fwT := fw_mem (i := 398) (by decide +kernel) (by decide +kernel)
theorem ql_RX0_100 : Cond.methodLink RX0 100 yX0_hoistYoung ∈ fwT := fw_mem (i := 400) (by decide +kernel) (by decide +kernel)
theorem qs_yX0_hoistYoung : Cond.static yX0_hoistYoung ∈ fwT := fw_mem (i := 401) (by decide +kernel) (by decide +kernel)
theorem qc_yX0_hoistYoung : Cond.code yX0_hoistYoung cX0_hoistYoung 3 (Option.none : Option Jvm.ClassFile.FieldType) ∈ fwT := fw_mem (i := 402) (by decide +kernel) (by decide +kernel)
theorem ql_RX0_147 : Cond.methodLink RX0 147 yX8_keepPart ∈ fwT := fw_mem (i := 403) (by decide +kernel) (by decide +kernel)
theorem ql_RX0_70 : Cond.methodLink RX0 70 yX2_replaceByYoung ∈ fwT := fw_mem (i := 404) (by decide +kernel) (by decide +kernel)
theorem qi_yX2_replaceByYoung : Cond.instanceMethod yX2_replaceByYoung ∈ fwT := fw_mem (i := 405) (by decide +kernel) (by decide +kernel)
theorem qv_yX2_replaceByYoung : Cond.selects RX2 yX2_replaceByYoung yX2_replaceByYoung ∈ fwT := fw_mem (i := 406) (by decide +kernel) (by decide +kernel)
theorem qc_yX2_replaceByYoung : Cond.code yX2_replaceByYoung cX2_replaceByYoung 2 (Option.none : Option Jvm.ClassFile.FieldType) ∈ fwT := fw_mem (i := 407) (by decide +kernel) (by decide +kernel)
theorem ql_RX0_73 : Cond.methodLink RX0 73 yX3_errorOf ∈ fwT := fw_mem (i := 408) (by decide +kernel) (by decide +kernel)
theorem ql_RL_41 : Cond.methodLink RL 41 yX9_trees ∈ fwT := fw_mem (i := 409) (by decide +kernel) (by decide +kernel)
theorem qi_yX9_trees : Cond.instanceMethod yX9_trees ∈ fwT := fw_mem (i := 410) (by decide +kernel) (by decide +kernel)
theorem qv_yX9_trees : Cond.selects RX9 yX9_trees yX9_trees ∈ fwT := fw_mem (i := 411) (by decide +kernel) (by decide +kernel)
theorem qc_yX9_trees : Cond.code yX9_trees cX9_trees 1 (Option.some Jvm.ClassFile.FieldType.int) ∈ fwT := fw_mem (i := 412) (by decide +kernel) (by decide +kernel)
theorem ql_RL_45 : Cond.methodLink RL 45 yX9_size ∈ fwT := fw_mem (i := 413) (by decide +kernel) (by decide +kernel)
theorem qi_yX9_size : Cond.instanceMethod yX9_size ∈ fwT := fw_mem (i := 414) (by decide +kernel) (by decide +kernel)
theorem qv_yX9_size : Cond.selects RX9 yX9_size yX9_size ∈ fwT := fw_mem (i := 415) (by decide +kernel) (by decide +kernel)
theorem qc_yX9_size : Cond.code yX9_size cX9_size 2 (Option.some Jvm.ClassFile.FieldType.int) ∈ fwT := fw_mem (i := 416) (by decide +kernel) (by decide +kernel)
theorem ql_RL_96 : Cond.methodLink RL 96 yX9_depth ∈ fwT := fw_mem (i := 417) (by decide +kernel) (by decide +kernel)
theorem qi_yX9_depth : Cond.instanceMethod yX9_depth ∈ fwT := fw_mem (i := 418) (by decide +kernel) (by decide +kernel)
theorem qv_yX9_depth : Cond.selects RX9 yX9_depth yX9_depth ∈ fwT := fw_mem (i := 419) (by decide +kernel) (by decide +kernel)
theorem qc_yX9_depth : Cond.code yX9_depth cX9_depth 2 (Option.some Jvm.ClassFile.FieldType.int) ∈ fwT := fw_mem (i := 420) (by decide +kernel) (by decide +kernel)
theorem ql_RL_87 : Cond.methodLink RL 87 yX9_codeAt ∈ fwT := fw_mem (i := 421) (by decide +kernel) (by decide +kernel)
theorem qi_yX9_codeAt : Cond.instanceMethod yX9_codeAt ∈ fwT := fw_mem (i := 422) (by decide +kernel) (by decide +kernel)
theorem qv_yX9_codeAt : Cond.selects RX9 yX9_codeAt yX9_codeAt ∈ fwT := fw_mem (i := 423) (by decide +kernel) (by decide +kernel)
theorem qc_yX9_codeAt : Cond.code yX9_codeAt cX9_codeAt 3 (Option.some Jvm.ClassFile.FieldType.int) ∈ fwT := fw_mem (i := 424) (by decide +kernel) (by decide +kernel)
theorem ql_RX9_158 : Cond.methodLink RX9 158 yX8_code ∈ fwT := fw_mem (i := 425) (by decide +kernel) (by decide +kernel)
theorem ql_RL_90 : Cond.methodLink RL 90 yX9_valueAt ∈ fwT := fw_mem (i := 426) (by decide +kernel) (by decide +kernel)
theorem qi_yX9_valueAt : Cond.instanceMethod yX9_valueAt ∈ fwT := fw_mem (i := 427) (by decide +kernel) (by decide +kernel)
theorem qv_yX9_valueAt : Cond.selects RX9 yX9_valueAt yX9_valueAt ∈ fwT := fw_mem (i := 428) (by decide +kernel) (by decide +kernel)
theorem qc_yX9_valueAt : Cond.code yX9_valueAt cX9_valueAt 3 (Option.some Jvm.ClassFile.FieldType.int) ∈ fwT := fw_mem (i := 429) (by decide +kernel) (by decide +kernel)
theorem ql_RX9_233 : Cond.methodLink RX9 233 yX8_value ∈ fwT := fw_mem (i := 430) (by decide +kernel) (by decide +kernel)
theorem ql_RL_99 : Cond.methodLink RL 99 yX9_sizeAt ∈ fwT := fw_mem (i := 431) (by decide +kernel) (by decide +kernel)
theorem qi_yX9_sizeAt : Cond.instanceMethod yX9_sizeAt ∈ fwT := fw_mem (i := 432) (by decide +kernel) (by decide +kernel)
theorem qv_yX9_sizeAt : Cond.selects RX9 yX9_sizeAt yX9_sizeAt ∈ fwT := fw_mem (i := 433) (by decide +kernel) (by decide +kernel)
theorem qc_yX9_sizeAt : Cond.code yX9_sizeAt cX9_sizeAt 3 (Option.some Jvm.ClassFile.FieldType.int) ∈ fwT := fw_mem (i := 434) (by decide +kernel) (by decide +kernel)
theorem ql_RX9_236 : Cond.methodLink RX9 236 yX8_span ∈ fwT := fw_mem (i := 435) (by decide +kernel) (by decide +kernel)
theorem ql_RL_105 : Cond.methodLink RL 105 yX9_above ∈ fwT := fw_mem (i := 436) (by decide +kernel) (by decide +kernel)
theorem qi_yX9_above : Cond.instanceMethod yX9_above ∈ fwT := fw_mem (i := 437) (by decide +kernel) (by decide +kernel)
theorem qv_yX9_above : Cond.selects RX9 yX9_above yX9_above ∈ fwT := fw_mem (i := 438) (by decide +kernel) (by decide +kernel)
theorem qc_yX9_above : Cond.code yX9_above cX9_above 3 (Option.some Jvm.ClassFile.FieldType.int) ∈ fwT := fw_mem (i := 439) (by decide +kernel) (by decide +kernel)
theorem ql_RX9_239 : Cond.methodLink RX9 239 yX8_placeAbove ∈ fwT := fw_mem (i := 440) (by decide +kernel) (by decide +kernel)
theorem qi_yX8_placeAbove : Cond.instanceMethod yX8_placeAbove ∈ fwT := fw_mem (i := 441) (by decide +kernel) (by decide +kernel)
theorem qv_yX8_placeAbove : Cond.selects RX8 yX8_placeAbove yX8_placeAbove ∈ fwT := fw_mem (i := 442) (by decide +kernel) (by decide +kernel)
theorem qc_yX8_placeAbove : Cond.code yX8_placeAbove cX8_placeAbove 3 (Option.some Jvm.ClassFile.FieldType.int) ∈ fwT := fw_mem (i := 443) (by decide +kernel) (by decide +kernel)
theorem ql_RL_77 : Cond.methodLink RL 77 yX9_gives ∈ fwT := fw_mem (i := 444) (by decide +kernel) (by decide +kernel)
theorem qi_yX9_gives : Cond.instanceMethod yX9_gives ∈ fwT := fw_mem (i := 445) (by decide +kernel) (by decide +kernel)
theorem qv_yX9_gives : Cond.selects RX9 yX9_gives yX9_gives ∈ fwT := fw_mem (i := 446) (by decide +kernel) (by decide +kernel)
theorem qc_yX9_gives : Cond.code yX9_gives cX9_gives 6 (Option.some Jvm.ClassFile.FieldType.int) ∈ fwT := fw_mem (i := 447) (by decide +kernel) (by decide +kernel)
theorem ql_RX9_116 : Cond.methodLink RX9 116 yX9_requireInputs ∈ fwT := fw_mem (i := 448) (by decide +kernel) (by decide +kernel)
theorem qs_yX9_requireInputs : Cond.static yX9_requireInputs ∈ fwT := fw_mem (i := 449) (by decide +kernel) (by decide +kernel)
theorem qc_yX9_requireInputs : Cond.code yX9_requireInputs cX9_requireInputs 3 (Option.none : Option Jvm.ClassFile.FieldType) ∈ fwT := fw_mem (i := 450) (by decide +kernel) (by decide +kernel)
theorem ql_RX9_315 : Cond.methodLink RX9 315 yX9_isInput ∈ fwT := fw_mem (i := 451) (by decide +kernel) (by decide +kernel)
theorem qs_yX9_isInput : Cond.static yX9_isInput ∈ fwT := fw_mem (i := 452) (by decide +kernel) (by decide +kernel)
theorem qc_yX9_isInput : Cond.code yX9_isInput cX9_isInput 1 (Option.some Jvm.ClassFile.FieldType.boolean) ∈ fwT := fw_mem (i := 453) (by decide +kernel) (by decide +kernel)
theorem ql_RX9_242 : Cond.methodLink RX9 242 yX5_setInputs ∈ fwT := fw_mem (i := 455) (by decide +kernel) (by decide +kernel)
theorem ql_RX9_245 : Cond.methodLink RX9 245 yX5_resultOf ∈ fwT := fw_mem (i := 456) (by decide +kernel) (by decide +kernel)
theorem ql_RL_59 : Cond.methodLink RL 59 yX9_error ∈ fwT := fw_mem (i := 457) (by decide +kernel) (by decide +kernel)
theorem qi_yX9_error : Cond.instanceMethod yX9_error ∈ fwT := fw_mem (i := 458) (by decide +kernel) (by decide +kernel)
theorem qv_yX9_error : Cond.selects RX9 yX9_error yX9_error ∈ fwT := fw_mem (i := 459) (by decide +kernel) (by decide +kernel)
theorem qc_yX9_error : Cond.code yX9_error cX9_error 2 (Option.some Jvm.ClassFile.FieldType.int) ∈ fwT := fw_mem (i := 460) (by decide +kernel) (by decide +kernel)
theorem ql_RX9_249 : Cond.methodLink RX9 249 yX3_errorOf ∈ fwT := fw_mem (i := 461) (by decide +kernel) (by decide +kernel)
theorem ql_RL_68 : Cond.methodLink RL 68 yX9_merit ∈ fwT := fw_mem (i := 462) (by decide +kernel) (by decide +kernel)
theorem qi_yX9_merit : Cond.instanceMethod yX9_merit ∈ fwT := fw_mem (i := 463) (by decide +kernel) (by decide +kernel)
theorem qv_yX9_merit : Cond.selects RX9 yX9_merit yX9_merit ∈ fwT := fw_mem (i := 464) (by decide +kernel) (by decide +kernel)
theorem qc_yX9_merit : Cond.code yX9_merit cX9_merit 2 (Option.some Jvm.ClassFile.FieldType.int) ∈ fwT := fw_mem (i := 465) (by decide +kernel) (by decide +kernel)
theorem ql_RX9_252 : Cond.methodLink RX9 252 yX3_meritOf ∈ fwT := fw_mem (i := 466) (by decide +kernel) (by decide +kernel)
theorem ql_RL_65 : Cond.methodLink RL 65 yX9_ranked ∈ fwT := fw_mem (i := 467) (by decide +kernel) (by decide +kernel)
theorem qi_yX9_ranked : Cond.instanceMethod yX9_ranked ∈ fwT := fw_mem (i := 468) (by decide +kernel) (by decide +kernel)
theorem qv_yX9_ranked : Cond.selects RX9 yX9_ranked yX9_ranked ∈ fwT := fw_mem (i := 469) (by decide +kernel) (by decide +kernel)
theorem qc_yX9_ranked : Cond.code yX9_ranked cX9_ranked 2 (Option.some Jvm.ClassFile.FieldType.int) ∈ fwT := fw_mem (i := 470) (by decide +kernel) (by decide +kernel)
theorem ql_RX9_264 : Cond.methodLink RX9 264 yX4_rank ∈ fwT := fw_mem (i := 472) (by decide +kernel) (by decide +kernel)
theorem ql_RX9_268 : Cond.methodLink RX9 268 yX4_withRank ∈ fwT := fw_mem (i := 473) (by decide +kernel) (by decide +kernel)
theorem ql_RL_102 : Cond.methodLink RL 102 yX9_alike ∈ fwT := fw_mem (i := 474) (by decide +kernel) (by decide +kernel)
theorem qi_yX9_alike : Cond.instanceMethod yX9_alike ∈ fwT := fw_mem (i := 475) (by decide +kernel) (by decide +kernel)
theorem qv_yX9_alike : Cond.selects RX9 yX9_alike yX9_alike ∈ fwT := fw_mem (i := 476) (by decide +kernel) (by decide +kernel)
theorem qc_yX9_alike : Cond.code yX9_alike cX9_alike 3 (Option.some Jvm.ClassFile.FieldType.int) ∈ fwT := fw_mem (i := 477) (by decide +kernel) (by decide +kernel)
theorem ql_RX9_274 : Cond.methodLink RX9 274 yX8_sameNodes ∈ fwT := fw_mem (i := 478) (by decide +kernel) (by decide +kernel)
theorem qi_yX8_sameNodes : Cond.instanceMethod yX8_sameNodes ∈ fwT := fw_mem (i := 479) (by decide +kernel) (by decide +kernel)
theorem qv_yX8_sameNodes : Cond.selects RX8 yX8_sameNodes yX8_sameNodes ∈ fwT := fw_mem (i := 480) (by decide +kernel) (by decide +kernel)
theorem qc_yX8_sameNodes : Cond.code yX8_sameNodes cX8_sameNodes 4 (Option.some Jvm.ClassFile.FieldType.int) ∈ fwT := fw_mem (i := 481) (by decide +kernel) (by decide +kernel)
theorem ql_RX8_45 : Cond.methodLink RX8 45 Lib.Math.min.name ∈ fwT := fw_mem (i := 482) (by decide +kernel) (by decide +kernel)
theorem ql_RL_52 : Cond.methodLink RL 52 yX9_errorCrossed ∈ fwT := fw_mem (i := 483) (by decide +kernel) (by decide +kernel)
theorem qi_yX9_errorCrossed : Cond.instanceMethod yX9_errorCrossed ∈ fwT := fw_mem (i := 484) (by decide +kernel) (by decide +kernel)
theorem qv_yX9_errorCrossed : Cond.selects RX9 yX9_errorCrossed yX9_errorCrossed ∈ fwT := fw_mem (i := 485) (by decide +kernel) (by decide +kernel)
theorem qc_yX9_errorCrossed : Cond.code yX9_errorCrossed cX9_errorCrossed 7 (Option.some Jvm.ClassFile.FieldType.int) ∈ fwT := fw_mem (i := 486) (by decide +kernel) (by decide +kernel)
theorem ql_RL_56 : Cond.methodLink RL 56 yX9_bestHoist ∈ fwT := fw_mem (i := 487) (by decide +kernel) (by decide +kernel)
theorem qi_yX9_bestHoist : Cond.instanceMethod yX9_bestHoist ∈ fwT := fw_mem (i := 488) (by decide +kernel) (by decide +kernel)
theorem qv_yX9_bestHoist : Cond.selects RX9 yX9_bestHoist yX9_bestHoist ∈ fwT := fw_mem (i := 489) (by decide +kernel) (by decide +kernel)
theorem qc_yX9_bestHoist : Cond.code yX9_bestHoist cX9_bestHoist 7 (Option.some Jvm.ClassFile.FieldType.int) ∈ fwT := fw_mem (i := 490) (by decide +kernel) (by decide +kernel)
theorem ql_RL_62 : Cond.methodLink RL 62 yX9_errorBred ∈ fwT := fw_mem (i := 491) (by decide +kernel) (by decide +kernel)
theorem qi_yX9_errorBred : Cond.instanceMethod yX9_errorBred ∈ fwT := fw_mem (i := 492) (by decide +kernel) (by decide +kernel)
theorem qv_yX9_errorBred : Cond.selects RX9 yX9_errorBred yX9_errorBred ∈ fwT := fw_mem (i := 493) (by decide +kernel) (by decide +kernel)
theorem qc_yX9_errorBred : Cond.code yX9_errorBred cX9_errorBred 2 (Option.some Jvm.ClassFile.FieldType.int) ∈ fwT := fw_mem (i := 494) (by decide +kernel) (by decide +kernel)
theorem ql_RX9_286 : Cond.methodLink RX9 286 yX2_copyFrom ∈ fwT := fw_mem (i := 495) (by decide +kernel) (by decide +kernel)
theorem qi_yX2_copyFrom : Cond.instanceMethod yX2_copyFrom ∈ fwT := fw_mem (i := 496) (by decide +kernel) (by decide +kernel)
theorem qv_yX2_copyFrom : Cond.selects RX2 yX2_copyFrom yX2_copyFrom ∈ fwT := fw_mem (i := 497) (by decide +kernel) (by decide +kernel)
theorem qc_yX2_copyFrom : Cond.code yX2_copyFrom cX2_copyFrom 3 (Option.none : Option Jvm.ClassFile.FieldType) ∈ fwT := fw_mem (i := 498) (by decide +kernel) (by decide +kernel)
theorem ql_RX2_58 : Cond.methodLink RX2 58 yX1_copyFrom ∈ fwT := fw_mem (i := 499) (by decide +kernel) (by decide +kernel)
theorem qi_yX1_copyFrom : Cond.instanceMethod yX1_copyFrom ∈ fwT := fw_mem (i := 500) (by decide +kernel) (by decide +kernel)
theorem qv_yX1_copyFrom : Cond.selects RX1 yX1_copyFrom yX1_copyFrom ∈ fwT := fw_mem (i := 501) (by decide +kernel) (by decide +kernel)
theorem qc_yX1_copyFrom : Cond.code yX1_copyFrom cX1_copyFrom 3 (Option.none : Option Jvm.ClassFile.FieldType) ∈ fwT := fw_mem (i := 502) (by decide +kernel) (by decide +kernel)
theorem ql_RX2_40 : Cond.methodLink RX2 40 yX2_tree ∈ fwT := fw_mem (i := 503) (by decide +kernel) (by decide +kernel)
theorem ql_RX2_44 : Cond.methodLink RX2 44 yX8_copyFrom ∈ fwT := fw_mem (i := 504) (by decide +kernel) (by decide +kernel)
theorem ql_RL_48 : Cond.methodLink RL 48 yX9_digest ∈ fwT := fw_mem (i := 505) (by decide +kernel) (by decide +kernel)
theorem qi_yX9_digest : Cond.instanceMethod yX9_digest ∈ fwT := fw_mem (i := 506) (by decide +kernel) (by decide +kernel)
theorem qv_yX9_digest : Cond.selects RX9 yX9_digest yX9_digest ∈ fwT := fw_mem (i := 507) (by decide +kernel) (by decide +kernel)
theorem qc_yX9_digest : Cond.code yX9_digest cX9_digest 4 (Option.some Jvm.ClassFile.FieldType.long) ∈ fwT := fw_mem (i := 508) (by decide +kernel) (by decide +kernel)
theorem ql_RX9_289 : Cond.constantLong RX9 289 (58042) ∈ fwT := fw_mem (i := 509) (by decide +kernel) (by decide +kernel)
theorem ql_RX9_291 : Cond.constantLong RX9 291 (31) ∈ fwT := fw_mem (i := 510) (by decide +kernel) (by decide +kernel)
theorem ql_RX9_293 : Cond.methodLink RX9 293 yX9_different ∈ fwT := fw_mem (i := 511) (by decide +kernel) (by decide +kernel)
theorem qi_yX9_different : Cond.instanceMethod yX9_different ∈ fwT := fw_mem (i := 512) (by decide +kernel) (by decide +kernel)
theorem qv_yX9_different : Cond.selects RX9 yX9_different yX9_different ∈ fwT := fw_mem (i := 513) (by decide +kernel) (by decide +kernel)
theorem qc_yX9_different : Cond.code yX9_different cX9_different 3 (Option.some Jvm.ClassFile.FieldType.int) ∈ fwT := fw_mem (i := 514) (by decide +kernel) (by decide +kernel)
theorem ql_RX9_271 : Cond.methodLink RX9 271 yX2_hasEarlierTwin ∈ fwT := fw_mem (i := 515) (by decide +kernel) (by decide +kernel)
theorem qi_yX2_hasEarlierTwin : Cond.instanceMethod yX2_hasEarlierTwin ∈ fwT := fw_mem (i := 516) (by decide +kernel) (by decide +kernel)
theorem qv_yX2_hasEarlierTwin : Cond.selects RX2 yX2_hasEarlierTwin yX2_hasEarlierTwin ∈ fwT := fw_mem (i := 517) (by decide +kernel) (by decide +kernel)
theorem qc_yX2_hasEarlierTwin : Cond.code yX2_hasEarlierTwin cX2_hasEarlierTwin 5 (Option.some Jvm.ClassFile.FieldType.boolean) ∈ fwT := fw_mem (i := 518) (by decide +kernel) (by decide +kernel)
theorem ql_RX2_51 : Cond.methodLink RX2 51 yX8_sameNodes ∈ fwT := fw_mem (i := 519) (by decide +kernel) (by decide +kernel)
theorem ql_RX9_297 : Cond.methodLink RX9 297 yX9_digestWith ∈ fwT := fw_mem (i := 520) (by decide +kernel) (by decide +kernel)
theorem qi_yX9_digestWith : Cond.instanceMethod yX9_digestWith ∈ fwT := fw_mem (i := 522) (by decide +kernel) (by decide +kernel)
theorem qc_yX9_digestWith : Cond.code yX9_digestWith cX9_digestWith 7 (Option.some Jvm.ClassFile.FieldType.long) ∈ fwT := fw_mem (i := 523) (by decide +kernel) (by decide +kernel)
theorem ql_RX9_256 : Cond.methodLink RX9 256 yX3_hitsOf ∈ fwT := fw_mem (i := 524) (by decide +kernel) (by decide +kernel)
theorem qi_yX3_hitsOf : Cond.instanceMethod yX3_hitsOf ∈ fwT := fw_mem (i := 525) (by decide +kernel) (by decide +kernel)
theorem qv_yX3_hitsOf : Cond.selects RX3 yX3_hitsOf yX3_hitsOf ∈ fwT := fw_mem (i := 526) (by decide +kernel) (by decide +kernel)
theorem qc_yX3_hitsOf : Cond.code yX3_hitsOf cX3_hitsOf 4 (Option.some Jvm.ClassFile.FieldType.int) ∈ fwT := fw_mem (i := 527) (by decide +kernel) (by decide +kernel)
theorem ql_RL_9 : Cond.classLink RL 9 RX10 ∈ fwT := fw_mem (i := 528) (by decide +kernel) (by decide +kernel)
theorem qt_RX10 : Cond.instantiable RX10 7 ∈ fwT := fw_mem (i := 529) (by decide +kernel) (by decide +kernel)
theorem ql_RL_11 : Cond.methodLink RL 11 yX10_init ∈ fwT := fw_mem (i := 530) (by decide +kernel) (by decide +kernel)
theorem qi_yX10_init : Cond.instanceMethod yX10_init ∈ fwT := fw_mem (i := 531) (by decide +kernel) (by decide +kernel)
theorem qc_yX10_init : Cond.code yX10_init cX10_init 3 (Option.none : Option Jvm.ClassFile.FieldType) ∈ fwT := fw_mem (i := 532) (by decide +kernel) (by decide +kernel)
theorem ql_RX10_1 : Cond.methodLink RX10 1 objectInit ∈ fwT := fw_mem (i := 533) (by decide +kernel) (by decide +kernel)
theorem ql_RX10_7 : Cond.classLink RX10 7 RX9 ∈ fwT := fw_mem (i := 534) (by decide +kernel) (by decide +kernel)
theorem ql_RX10_9 : Cond.methodLink RX10 9 yX9_init ∈ fwT := fw_mem (i := 535) (by decide +kernel) (by decide +kernel)
theorem qi_yX9_init : Cond.instanceMethod yX9_init ∈ fwT := fw_mem (i := 536) (by decide +kernel) (by decide +kernel)
theorem qc_yX9_init : Cond.code yX9_init cX9_init 1 (Option.none : Option Jvm.ClassFile.FieldType) ∈ fwT := fw_mem (i := 537) (by decide +kernel) (by decide +kernel)
theorem ql_RX9_1 : Cond.methodLink RX9 1 objectInit ∈ fwT := fw_mem (i := 538) (by decide +kernel) (by decide +kernel)
theorem ql_RX9_7 : Cond.classLink RX9 7 RX7 ∈ fwT := fw_mem (i := 539) (by decide +kernel) (by decide +kernel)
theorem qt_RX7 : Cond.instantiable RX7 5 ∈ fwT := fw_mem (i := 540) (by decide +kernel) (by decide +kernel)
theorem ql_RX9_9 : Cond.methodLink RX9 9 yX7_init ∈ fwT := fw_mem (i := 541) (by decide +kernel) (by decide +kernel)
theorem qi_yX7_init : Cond.instanceMethod yX7_init ∈ fwT := fw_mem (i := 542) (by decide +kernel) (by decide +kernel)
theorem qc_yX7_init : Cond.code yX7_init cX7_init 1 (Option.none : Option Jvm.ClassFile.FieldType) ∈ fwT := fw_mem (i := 543) (by decide +kernel) (by decide +kernel)
theorem ql_RX7_3 : Cond.methodLink RX7 3 objectInit ∈ fwT := fw_mem (i := 544) (by decide +kernel) (by decide +kernel)
theorem ql_RX7_9 : Cond.classLink RX7 9 RX8 ∈ fwT := fw_mem (i := 545) (by decide +kernel) (by decide +kernel)
theorem ql_RX7_11 : Cond.methodLinkNest RX7 11 yX8_init "Barnacle" ∈ fwT := fw_mem (i := 546) (by decide +kernel) (by decide +kernel)
theorem qi_yX8_init : Cond.instanceMethod yX8_init ∈ fwT := fw_mem (i := 547) (by decide +kernel) (by decide +kernel)
theorem qc_yX8_init : Cond.code yX8_init cX8_init 1 (Option.none : Option Jvm.ClassFile.FieldType) ∈ fwT := fw_mem (i := 548) (by decide +kernel) (by decide +kernel)
theorem ql_RX8_3 : Cond.methodLink RX8 3 objectInit ∈ fwT := fw_mem (i := 549) (by decide +kernel) (by decide +kernel)
theorem ql_RX8_9 : Cond.fieldLink RX8 9 "Barnacle$Tree" "codes" "[I" ∈ fwT := fw_mem (i := 550) (by decide +kernel) (by decide +kernel)
theorem ql_RX5_31 : Cond.fieldLinkNest RX5 31 "Barnacle$Tree" "codes" "[I" "Barnacle" ∈ fwT := fw_mem (i := 551) (by decide +kernel) (by decide +kernel)
theorem ql_RX8_15 : Cond.fieldLink RX8 15 "Barnacle$Tree" "values" "[I" ∈ fwT := fw_mem (i := 552) (by decide +kernel) (by decide +kernel)
theorem ql_RX5_34 : Cond.fieldLinkNest RX5 34 "Barnacle$Tree" "values" "[I" "Barnacle" ∈ fwT := fw_mem (i := 553) (by decide +kernel) (by decide +kernel)
theorem ql_RX8_18 : Cond.fieldLink RX8 18 "Barnacle$Tree" "spans" "[I" ∈ fwT := fw_mem (i := 554) (by decide +kernel) (by decide +kernel)
theorem ql_RX5_22 : Cond.fieldLinkNest RX5 22 "Barnacle$Tree" "spans" "[I" "Barnacle" ∈ fwT := fw_mem (i := 555) (by decide +kernel) (by decide +kernel)
theorem ql_RX8_21 : Cond.fieldLink RX8 21 "Barnacle$Tree" "heights" "[I" ∈ fwT := fw_mem (i := 556) (by decide +kernel) (by decide +kernel)
theorem ql_RX7_28 : Cond.fieldLinkNest RX7 28 "Barnacle$Tree" "nodes" "I" "Barnacle" ∈ fwT := fw_mem (i := 557) (by decide +kernel) (by decide +kernel)
theorem ql_RX6_18 : Cond.fieldLinkNest RX6 18 "Barnacle$Tree" "nodes" "I" "Barnacle" ∈ fwT := fw_mem (i := 558) (by decide +kernel) (by decide +kernel)
theorem ql_RX4_44 : Cond.fieldLinkNest RX4 44 "Barnacle$Tree" "nodes" "I" "Barnacle" ∈ fwT := fw_mem (i := 559) (by decide +kernel) (by decide +kernel)
theorem ql_RX3_60 : Cond.fieldLinkNest RX3 60 "Barnacle$Tree" "nodes" "I" "Barnacle" ∈ fwT := fw_mem (i := 560) (by decide +kernel) (by decide +kernel)
theorem ql_RX0_107 : Cond.fieldLinkNest RX0 107 "Barnacle$Tree" "nodes" "I" "Barnacle" ∈ fwT := fw_mem (i := 561) (by decide +kernel) (by decide +kernel)
theorem ql_RX2_48 : Cond.fieldLinkNest RX2 48 "Barnacle$Tree" "nodes" "I" "Barnacle" ∈ fwT := fw_mem (i := 562) (by decide +kernel) (by decide +kernel)
theorem ql_RX9_93 : Cond.fieldLinkNest RX9 93 "Barnacle$Tree" "nodes" "I" "Barnacle" ∈ fwT := fw_mem (i := 563) (by decide +kernel) (by decide +kernel)
theorem ql_RX8_41 : Cond.fieldLink RX8 41 "Barnacle$Tree" "nodes" "I" ∈ fwT := fw_mem (i := 564) (by decide +kernel) (by decide +kernel)
theorem ql_RX8_74 : Cond.fieldLink RX8 74 "Barnacle$Tree" "levels" "I" ∈ fwT := fw_mem (i := 565) (by decide +kernel) (by decide +kernel)
theorem ql_RX9_230 : Cond.fieldLinkNest RX9 230 "Barnacle$Tree" "levels" "I" "Barnacle" ∈ fwT := fw_mem (i := 566) (by decide +kernel) (by decide +kernel)
theorem qa_int : Cond.arrayClass Jvm.ClassFile.FieldType.int ∈ fwT := fw_mem (i := 580) (by decide +kernel) (by decide +kernel)
theorem ql_RX7_25 : Cond.methodLink RX7 25 yX7_clear ∈ fwT := fw_mem (i := 581) (by decide +kernel) (by decide +kernel)
theorem qi_yX7_clear : Cond.instanceMethod yX7_clear ∈ fwT := fw_mem (i := 582) (by decide +kernel) (by decide +kernel)
theorem qv_yX7_clear : Cond.selects RX7 yX7_clear yX7_clear ∈ fwT := fw_mem (i := 583) (by decide +kernel) (by decide +kernel)
theorem qc_yX7_clear : Cond.code yX7_clear cX7_clear 1 (Option.none : Option Jvm.ClassFile.FieldType) ∈ fwT := fw_mem (i := 584) (by decide +kernel) (by decide +kernel)
theorem ql_RX7_38 : Cond.methodLink RX7 38 yX7_miss ∈ fwT := fw_mem (i := 585) (by decide +kernel) (by decide +kernel)
theorem qi_yX7_miss : Cond.instanceMethod yX7_miss ∈ fwT := fw_mem (i := 587) (by decide +kernel) (by decide +kernel)
theorem qc_yX7_miss : Cond.code yX7_miss cX7_miss 3 (Option.none : Option Jvm.ClassFile.FieldType) ∈ fwT := fw_mem (i := 588) (by decide +kernel) (by decide +kernel)
theorem ql_RX7_46 : Cond.methodLink RX7 46 yX7_needOf ∈ fwT := fw_mem (i := 589) (by decide +kernel) (by decide +kernel)
theorem qs_yX7_needOf : Cond.static yX7_needOf ∈ fwT := fw_mem (i := 590) (by decide +kernel) (by decide +kernel)
theorem qc_yX7_needOf : Cond.code yX7_needOf cX7_needOf 1 (Option.some Jvm.ClassFile.FieldType.int) ∈ fwT := fw_mem (i := 591) (by decide +kernel) (by decide +kernel)
theorem ql_RX7_61 : Cond.methodLinkNest RX7 61 yX9_put "Barnacle" ∈ fwT := fw_mem (i := 592) (by decide +kernel) (by decide +kernel)
theorem ql_RX7_12 : Cond.fieldLink RX7 12 "Barnacle$Sketch" "row" "LBarnacle$Tree;" ∈ fwT := fw_mem (i := 593) (by decide +kernel) (by decide +kernel)
theorem ql_RX9_90 : Cond.fieldLinkNest RX9 90 "Barnacle$Sketch" "row" "LBarnacle$Tree;" "Barnacle" ∈ fwT := fw_mem (i := 594) (by decide +kernel) (by decide +kernel)
theorem ql_RX7_18 : Cond.fieldLink RX7 18 "Barnacle$Sketch" "needs" "[I" ∈ fwT := fw_mem (i := 595) (by decide +kernel) (by decide +kernel)
theorem ql_RX7_22 : Cond.fieldLink RX7 22 "Barnacle$Sketch" "levels" "[I" ∈ fwT := fw_mem (i := 596) (by decide +kernel) (by decide +kernel)
theorem ql_RX7_32 : Cond.fieldLink RX7 32 "Barnacle$Sketch" "missing" "I" ∈ fwT := fw_mem (i := 597) (by decide +kernel) (by decide +kernel)
theorem ql_RX9_86 : Cond.fieldLinkNest RX9 86 "Barnacle$Sketch" "missing" "I" "Barnacle" ∈ fwT := fw_mem (i := 598) (by decide +kernel) (by decide +kernel)
theorem ql_RX7_35 : Cond.fieldLink RX7 35 "Barnacle$Sketch" "least" "I" ∈ fwT := fw_mem (i := 599) (by decide +kernel) (by decide +kernel)
theorem ql_RX9_16 : Cond.classLink RX9 16 RX3 ∈ fwT := fw_mem (i := 611) (by decide +kernel) (by decide +kernel)
theorem qt_RX3 : Cond.instantiable RX3 8 ∈ fwT := fw_mem (i := 612) (by decide +kernel) (by decide +kernel)
theorem ql_RX9_18 : Cond.methodLinkNest RX9 18 yX3_init "Barnacle" ∈ fwT := fw_mem (i := 613) (by decide +kernel) (by decide +kernel)
theorem qi_yX3_init : Cond.instanceMethod yX3_init ∈ fwT := fw_mem (i := 614) (by decide +kernel) (by decide +kernel)
theorem qc_yX3_init : Cond.code yX3_init cX3_init 1 (Option.none : Option Jvm.ClassFile.FieldType) ∈ fwT := fw_mem (i := 615) (by decide +kernel) (by decide +kernel)
theorem ql_RX3_3 : Cond.methodLink RX3 3 objectInit ∈ fwT := fw_mem (i := 616) (by decide +kernel) (by decide +kernel)
theorem ql_RX3_9 : Cond.classLink RX3 9 RX5 ∈ fwT := fw_mem (i := 617) (by decide +kernel) (by decide +kernel)
theorem qt_RX5 : Cond.instantiable RX5 2 ∈ fwT := fw_mem (i := 618) (by decide +kernel) (by decide +kernel)
theorem ql_RX3_11 : Cond.methodLinkNest RX3 11 yX5_init "Barnacle" ∈ fwT := fw_mem (i := 619) (by decide +kernel) (by decide +kernel)
theorem qi_yX5_init : Cond.instanceMethod yX5_init ∈ fwT := fw_mem (i := 620) (by decide +kernel) (by decide +kernel)
theorem qc_yX5_init : Cond.code yX5_init cX5_init 1 (Option.none : Option Jvm.ClassFile.FieldType) ∈ fwT := fw_mem (i := 621) (by decide +kernel) (by decide +kernel)
theorem ql_RX5_3 : Cond.methodLink RX5 3 objectInit ∈ fwT := fw_mem (i := 622) (by decide +kernel) (by decide +kernel)
theorem ql_RX5_9 : Cond.fieldLink RX5 9 "Barnacle$Reckoner" "inputs" "[I" ∈ fwT := fw_mem (i := 623) (by decide +kernel) (by decide +kernel)
theorem ql_RX5_15 : Cond.fieldLink RX5 15 "Barnacle$Reckoner" "results" "[I" ∈ fwT := fw_mem (i := 624) (by decide +kernel) (by decide +kernel)
theorem ql_RX3_12 : Cond.fieldLink RX3 12 "Barnacle$Judge" "reckoner" "LBarnacle$Reckoner;" ∈ fwT := fw_mem (i := 630) (by decide +kernel) (by decide +kernel)
theorem ql_RX3_18 : Cond.fieldLink RX3 18 "Barnacle$Judge" "firsts" "[I" ∈ fwT := fw_mem (i := 631) (by decide +kernel) (by decide +kernel)
theorem ql_RX3_22 : Cond.fieldLink RX3 22 "Barnacle$Judge" "seconds" "[I" ∈ fwT := fw_mem (i := 632) (by decide +kernel) (by decide +kernel)
theorem ql_RX3_25 : Cond.fieldLink RX3 25 "Barnacle$Judge" "thirds" "[I" ∈ fwT := fw_mem (i := 633) (by decide +kernel) (by decide +kernel)
theorem ql_RX3_28 : Cond.fieldLink RX3 28 "Barnacle$Judge" "dues" "[I" ∈ fwT := fw_mem (i := 634) (by decide +kernel) (by decide +kernel)
theorem ql_RX3_35 : Cond.fieldLink RX3 35 "Barnacle$Judge" "cases" "I" ∈ fwT := fw_mem (i := 635) (by decide +kernel) (by decide +kernel)
theorem ql_RX9_125 : Cond.fieldLinkNest RX9 125 "Barnacle$Judge" "cases" "I" "Barnacle" ∈ fwT := fw_mem (i := 636) (by decide +kernel) (by decide +kernel)
theorem ql_RX4_41 : Cond.fieldLinkNest RX4 41 "Barnacle$Judge" "way" "I" "Barnacle" ∈ fwT := fw_mem (i := 637) (by decide +kernel) (by decide +kernel)
theorem ql_RX3_57 : Cond.fieldLink RX3 57 "Barnacle$Judge" "way" "I" ∈ fwT := fw_mem (i := 638) (by decide +kernel) (by decide +kernel)
theorem ql_RX9_135 : Cond.fieldLinkNest RX9 135 "Barnacle$Judge" "way" "I" "Barnacle" ∈ fwT := fw_mem (i := 639) (by decide +kernel) (by decide +kernel)
theorem ql_RX3_31 : Cond.fieldLink RX3 31 "Barnacle$Judge" "weight" "I" ∈ fwT := fw_mem (i := 640) (by decide +kernel) (by decide +kernel)
theorem ql_RX9_138 : Cond.fieldLinkNest RX9 138 "Barnacle$Judge" "weight" "I" "Barnacle" ∈ fwT := fw_mem (i := 641) (by decide +kernel) (by decide +kernel)
theorem ql_RX9_23 : Cond.classLink RX9 23 RX4 ∈ fwT := fw_mem (i := 659) (by decide +kernel) (by decide +kernel)
theorem ql_RX9_25 : Cond.methodLinkNest RX9 25 yX4_init "Barnacle" ∈ fwT := fw_mem (i := 660) (by decide +kernel) (by decide +kernel)
theorem qi_yX4_init : Cond.instanceMethod yX4_init ∈ fwT := fw_mem (i := 661) (by decide +kernel) (by decide +kernel)
theorem qc_yX4_init : Cond.code yX4_init cX4_init 1 (Option.none : Option Jvm.ClassFile.FieldType) ∈ fwT := fw_mem (i := 662) (by decide +kernel) (by decide +kernel)
theorem ql_RX4_3 : Cond.methodLink RX4 3 objectInit ∈ fwT := fw_mem (i := 663) (by decide +kernel) (by decide +kernel)
theorem ql_RX4_9 : Cond.fieldLink RX4 9 "Barnacle$Ranking" "merits" "[I" ∈ fwT := fw_mem (i := 664) (by decide +kernel) (by decide +kernel)
theorem ql_RX4_15 : Cond.fieldLink RX4 15 "Barnacle$Ranking" "sizes" "[I" ∈ fwT := fw_mem (i := 665) (by decide +kernel) (by decide +kernel)
theorem ql_RX4_18 : Cond.fieldLink RX4 18 "Barnacle$Ranking" "order" "[I" ∈ fwT := fw_mem (i := 666) (by decide +kernel) (by decide +kernel)
theorem ql_RX9_30 : Cond.classLink RX9 30 RX0 ∈ fwT := fw_mem (i := 674) (by decide +kernel) (by decide +kernel)
theorem ql_RX9_32 : Cond.methodLinkNest RX9 32 yX0_init "Barnacle" ∈ fwT := fw_mem (i := 675) (by decide +kernel) (by decide +kernel)
theorem qi_yX0_init : Cond.instanceMethod yX0_init ∈ fwT := fw_mem (i := 676) (by decide +kernel) (by decide +kernel)
theorem qc_yX0_init : Cond.code yX0_init cX0_init 1 (Option.none : Option Jvm.ClassFile.FieldType) ∈ fwT := fw_mem (i := 677) (by decide +kernel) (by decide +kernel)
theorem ql_RX0_3 : Cond.methodLink RX0 3 objectInit ∈ fwT := fw_mem (i := 678) (by decide +kernel) (by decide +kernel)
theorem ql_RX0_9 : Cond.classLink RX0 9 RX4 ∈ fwT := fw_mem (i := 679) (by decide +kernel) (by decide +kernel)
theorem ql_RX0_11 : Cond.methodLinkNest RX0 11 yX4_init "Barnacle" ∈ fwT := fw_mem (i := 680) (by decide +kernel) (by decide +kernel)
theorem ql_RX0_12 : Cond.fieldLink RX0 12 "Barnacle$Breeder" "ranking" "LBarnacle$Ranking;" ∈ fwT := fw_mem (i := 681) (by decide +kernel) (by decide +kernel)
theorem ql_RX0_18 : Cond.fieldLink RX0 18 "Barnacle$Breeder" "crossing" "I" ∈ fwT := fw_mem (i := 682) (by decide +kernel) (by decide +kernel)
theorem ql_RX0_22 : Cond.fieldLink RX0 22 "Barnacle$Breeder" "changing" "I" ∈ fwT := fw_mem (i := 683) (by decide +kernel) (by decide +kernel)
theorem ql_RX0_25 : Cond.fieldLink RX0 25 "Barnacle$Breeder" "hoisting" "I" ∈ fwT := fw_mem (i := 684) (by decide +kernel) (by decide +kernel)
theorem ql_RX0_28 : Cond.fieldLink RX0 28 "Barnacle$Breeder" "tournament" "I" ∈ fwT := fw_mem (i := 685) (by decide +kernel) (by decide +kernel)
theorem ql_RX9_197 : Cond.fieldLinkNest RX9 197 "Barnacle$Breeder" "tournament" "I" "Barnacle" ∈ fwT := fw_mem (i := 686) (by decide +kernel) (by decide +kernel)
theorem ql_RX0_31 : Cond.fieldLink RX0 31 "Barnacle$Breeder" "elite" "I" ∈ fwT := fw_mem (i := 687) (by decide +kernel) (by decide +kernel)
theorem ql_RX9_200 : Cond.fieldLinkNest RX9 200 "Barnacle$Breeder" "elite" "I" "Barnacle" ∈ fwT := fw_mem (i := 688) (by decide +kernel) (by decide +kernel)
theorem ql_RX9_37 : Cond.classLink RX9 37 RX6 ∈ fwT := fw_mem (i := 702) (by decide +kernel) (by decide +kernel)
theorem ql_RX9_39 : Cond.methodLinkNest RX9 39 yX6_init "Barnacle" ∈ fwT := fw_mem (i := 703) (by decide +kernel) (by decide +kernel)
theorem qi_yX6_init : Cond.instanceMethod yX6_init ∈ fwT := fw_mem (i := 704) (by decide +kernel) (by decide +kernel)
theorem qc_yX6_init : Cond.code yX6_init cX6_init 1 (Option.none : Option Jvm.ClassFile.FieldType) ∈ fwT := fw_mem (i := 705) (by decide +kernel) (by decide +kernel)
theorem ql_RX6_3 : Cond.methodLink RX6 3 objectInit ∈ fwT := fw_mem (i := 706) (by decide +kernel) (by decide +kernel)
theorem ql_RX6_9 : Cond.classLink RX6 9 RX5 ∈ fwT := fw_mem (i := 707) (by decide +kernel) (by decide +kernel)
theorem ql_RX6_11 : Cond.methodLinkNest RX6 11 yX5_init "Barnacle" ∈ fwT := fw_mem (i := 708) (by decide +kernel) (by decide +kernel)
theorem ql_RX6_12 : Cond.fieldLink RX6 12 "Barnacle$Simplifier" "reckoner" "LBarnacle$Reckoner;" ∈ fwT := fw_mem (i := 709) (by decide +kernel) (by decide +kernel)
theorem ql_RX9_44 : Cond.classLink RX9 44 RX5 ∈ fwT := fw_mem (i := 713) (by decide +kernel) (by decide +kernel)
theorem ql_RX9_46 : Cond.methodLinkNest RX9 46 yX5_init "Barnacle" ∈ fwT := fw_mem (i := 714) (by decide +kernel) (by decide +kernel)
theorem ql_RX9_51 : Cond.classLink RX9 51 RX2 ∈ fwT := fw_mem (i := 715) (by decide +kernel) (by decide +kernel)
theorem ql_RX9_53 : Cond.methodLink RX9 53 yX2_init ∈ fwT := fw_mem (i := 716) (by decide +kernel) (by decide +kernel)
theorem qi_yX2_init : Cond.instanceMethod yX2_init ∈ fwT := fw_mem (i := 717) (by decide +kernel) (by decide +kernel)
theorem qc_yX2_init : Cond.code yX2_init cX2_init 2 (Option.none : Option Jvm.ClassFile.FieldType) ∈ fwT := fw_mem (i := 718) (by decide +kernel) (by decide +kernel)
theorem ql_RX2_3 : Cond.methodLink RX2 3 objectInit ∈ fwT := fw_mem (i := 719) (by decide +kernel) (by decide +kernel)
theorem ql_RX2_9 : Cond.classLink RX2 9 RX1 ∈ fwT := fw_mem (i := 720) (by decide +kernel) (by decide +kernel)
theorem ql_RX2_11 : Cond.methodLinkNest RX2 11 yX1_init "Barnacle" ∈ fwT := fw_mem (i := 721) (by decide +kernel) (by decide +kernel)
theorem qi_yX1_init : Cond.instanceMethod yX1_init ∈ fwT := fw_mem (i := 722) (by decide +kernel) (by decide +kernel)
theorem qc_yX1_init : Cond.code yX1_init cX1_init 1 (Option.none : Option Jvm.ClassFile.FieldType) ∈ fwT := fw_mem (i := 723) (by decide +kernel) (by decide +kernel)
theorem ql_RX1_3 : Cond.methodLink RX1 3 objectInit ∈ fwT := fw_mem (i := 724) (by decide +kernel) (by decide +kernel)
theorem ql_RX1_9 : Cond.fieldLink RX1 9 "Barnacle$Draws" "told" "[I" ∈ fwT := fw_mem (i := 725) (by decide +kernel) (by decide +kernel)
theorem ql_RX1_15 : Cond.fieldLink RX1 15 "Barnacle$Draws" "waiting" "I" ∈ fwT := fw_mem (i := 726) (by decide +kernel) (by decide +kernel)
theorem ql_RX9_216 : Cond.fieldLinkNest RX9 216 "Barnacle$Draws" "waiting" "I" "Barnacle" ∈ fwT := fw_mem (i := 727) (by decide +kernel) (by decide +kernel)
theorem ql_RX1_27 : Cond.fieldLink RX1 27 "Barnacle$Draws" "luck" "I" ∈ fwT := fw_mem (i := 728) (by decide +kernel) (by decide +kernel)
theorem ql_RX9_209 : Cond.fieldLinkNest RX9 209 "Barnacle$Draws" "luck" "I" "Barnacle" ∈ fwT := fw_mem (i := 729) (by decide +kernel) (by decide +kernel)
theorem ql_RX2_18 : Cond.classLink RX2 18 RX8 ∈ fwT := fw_mem (i := 737) (by decide +kernel) (by decide +kernel)
theorem ql_RX2_20 : Cond.methodLinkNest RX2 20 yX8_init "Barnacle" ∈ fwT := fw_mem (i := 738) (by decide +kernel) (by decide +kernel)
theorem qo_RX8 : Cond.arrayOver (.object RX8) ∈ fwT := fw_mem (i := 739) (by decide +kernel) (by decide +kernel)
theorem ql_RX2_12 : Cond.fieldLink RX2 12 "Barnacle$Grove" "draws" "LBarnacle$Draws;" ∈ fwT := fw_mem (i := 740) (by decide +kernel) (by decide +kernel)
theorem ql_RX0_79 : Cond.fieldLinkNest RX0 79 "Barnacle$Grove" "draws" "LBarnacle$Draws;" "Barnacle" ∈ fwT := fw_mem (i := 741) (by decide +kernel) (by decide +kernel)
theorem ql_RX9_205 : Cond.fieldLinkNest RX9 205 "Barnacle$Grove" "draws" "LBarnacle$Draws;" "Barnacle" ∈ fwT := fw_mem (i := 742) (by decide +kernel) (by decide +kernel)
theorem ql_RX2_21 : Cond.fieldLink RX2 21 "Barnacle$Grove" "nothing" "LBarnacle$Tree;" ∈ fwT := fw_mem (i := 743) (by decide +kernel) (by decide +kernel)
theorem ql_RX2_25 : Cond.fieldLink RX2 25 "Barnacle$Grove" "trees" "[LBarnacle$Tree;" ∈ fwT := fw_mem (i := 744) (by decide +kernel) (by decide +kernel)
theorem ql_RX2_29 : Cond.fieldLink RX2 29 "Barnacle$Grove" "youngTrees" "[LBarnacle$Tree;" ∈ fwT := fw_mem (i := 745) (by decide +kernel) (by decide +kernel)
theorem ql_RX4_21 : Cond.fieldLinkNest RX4 21 "Barnacle$Grove" "count" "I" "Barnacle" ∈ fwT := fw_mem (i := 746) (by decide +kernel) (by decide +kernel)
theorem ql_RX0_38 : Cond.fieldLinkNest RX0 38 "Barnacle$Grove" "count" "I" "Barnacle" ∈ fwT := fw_mem (i := 747) (by decide +kernel) (by decide +kernel)
theorem ql_RX2_36 : Cond.fieldLink RX2 36 "Barnacle$Grove" "count" "I" ∈ fwT := fw_mem (i := 748) (by decide +kernel) (by decide +kernel)
theorem ql_RX9_99 : Cond.fieldLinkNest RX9 99 "Barnacle$Grove" "count" "I" "Barnacle" ∈ fwT := fw_mem (i := 749) (by decide +kernel) (by decide +kernel)
theorem ql_RX2_55 : Cond.fieldLink RX2 55 "Barnacle$Grove" "generations" "I" ∈ fwT := fw_mem (i := 750) (by decide +kernel) (by decide +kernel)
theorem ql_RX9_280 : Cond.fieldLinkNest RX9 280 "Barnacle$Grove" "generations" "I" "Barnacle" ∈ fwT := fw_mem (i := 751) (by decide +kernel) (by decide +kernel)
theorem ql_RX0_118 : Cond.fieldLinkNest RX0 118 "Barnacle$Grove" "misses" "I" "Barnacle" ∈ fwT := fw_mem (i := 752) (by decide +kernel) (by decide +kernel)
theorem ql_RX2_61 : Cond.fieldLink RX2 61 "Barnacle$Grove" "misses" "I" ∈ fwT := fw_mem (i := 753) (by decide +kernel) (by decide +kernel)
theorem ql_RX9_283 : Cond.fieldLinkNest RX9 283 "Barnacle$Grove" "misses" "I" "Barnacle" ∈ fwT := fw_mem (i := 754) (by decide +kernel) (by decide +kernel)
theorem ql_RX9_61 : Cond.classLink RX9 61 RX8 ∈ fwT := fw_mem (i := 770) (by decide +kernel) (by decide +kernel)
theorem ql_RX9_63 : Cond.methodLinkNest RX9 63 yX8_init "Barnacle" ∈ fwT := fw_mem (i := 771) (by decide +kernel) (by decide +kernel)
theorem ql_RX9_10 : Cond.fieldLink RX9 10 "Barnacle" "sketch" "LBarnacle$Sketch;" ∈ fwT := fw_mem (i := 772) (by decide +kernel) (by decide +kernel)
theorem ql_RX9_19 : Cond.fieldLink RX9 19 "Barnacle" "judge" "LBarnacle$Judge;" ∈ fwT := fw_mem (i := 773) (by decide +kernel) (by decide +kernel)
theorem ql_RX9_26 : Cond.fieldLink RX9 26 "Barnacle" "ranking" "LBarnacle$Ranking;" ∈ fwT := fw_mem (i := 774) (by decide +kernel) (by decide +kernel)
theorem ql_RX9_33 : Cond.fieldLink RX9 33 "Barnacle" "breeder" "LBarnacle$Breeder;" ∈ fwT := fw_mem (i := 775) (by decide +kernel) (by decide +kernel)
theorem ql_RX9_40 : Cond.fieldLink RX9 40 "Barnacle" "simplifier" "LBarnacle$Simplifier;" ∈ fwT := fw_mem (i := 776) (by decide +kernel) (by decide +kernel)
theorem ql_RX9_47 : Cond.fieldLink RX9 47 "Barnacle" "reckoner" "LBarnacle$Reckoner;" ∈ fwT := fw_mem (i := 777) (by decide +kernel) (by decide +kernel)
theorem ql_RX9_54 : Cond.fieldLink RX9 54 "Barnacle" "grove" "LBarnacle$Grove;" ∈ fwT := fw_mem (i := 778) (by decide +kernel) (by decide +kernel)
theorem ql_RX9_58 : Cond.fieldLink RX9 58 "Barnacle" "trialGrove" "LBarnacle$Grove;" ∈ fwT := fw_mem (i := 779) (by decide +kernel) (by decide +kernel)
theorem ql_RX9_64 : Cond.fieldLink RX9 64 "Barnacle" "trialTree" "LBarnacle$Tree;" ∈ fwT := fw_mem (i := 780) (by decide +kernel) (by decide +kernel)
theorem ql_RX10_16 : Cond.classLink RX10 16 "[I" ∈ fwT := fw_mem (i := 800) (by decide +kernel) (by decide +kernel)
theorem qo_arr : Cond.arrayOver (.array .int) ∈ fwT := fw_mem (i := 801) (by decide +kernel) (by decide +kernel)
theorem ql_RX10_10 : Cond.fieldLink RX10 10 "BarnacleLaw$Grove" "m" "LBarnacle;" ∈ fwT := fw_mem (i := 802) (by decide +kernel) (by decide +kernel)
theorem ql_RL_14 : Cond.fieldLink RL 14 "BarnacleLaw$Grove" "m" "LBarnacle;" ∈ fwT := fw_mem (i := 803) (by decide +kernel) (by decide +kernel)
theorem ql_RX10_25 : Cond.fieldLink RX10 25 "BarnacleLaw$Grove" "s" "[I" ∈ fwT := fw_mem (i := 804) (by decide +kernel) (by decide +kernel)
theorem ql_RX10_28 : Cond.fieldLink RX10 28 "BarnacleLaw$Grove" "draws" "I" ∈ fwT := fw_mem (i := 805) (by decide +kernel) (by decide +kernel)
theorem ql_RX10_74 : Cond.fieldLink RX10 74 "BarnacleLaw$Grove" "trees" "I" ∈ fwT := fw_mem (i := 806) (by decide +kernel) (by decide +kernel)
theorem ql_RX10_18 : Cond.fieldLink RX10 18 "BarnacleLaw$Grove" "tree" "[[I" ∈ fwT := fw_mem (i := 807) (by decide +kernel) (by decide +kernel)
theorem ql_RX10_80 : Cond.fieldLink RX10 80 "BarnacleLaw$Grove" "cases" "I" ∈ fwT := fw_mem (i := 808) (by decide +kernel) (by decide +kernel)
theorem ql_RX10_22 : Cond.fieldLink RX10 22 "BarnacleLaw$Grove" "its" "[[I" ∈ fwT := fw_mem (i := 809) (by decide +kernel) (by decide +kernel)
theorem ql_RL_18 : Cond.methodLink RL 18 yX10_draw ∈ fwT := fw_mem (i := 825) (by decide +kernel) (by decide +kernel)
theorem qi_yX10_draw : Cond.instanceMethod yX10_draw ∈ fwT := fw_mem (i := 826) (by decide +kernel) (by decide +kernel)
theorem qv_yX10_draw : Cond.selects RX10 yX10_draw yX10_draw ∈ fwT := fw_mem (i := 827) (by decide +kernel) (by decide +kernel)
theorem qc_yX10_draw : Cond.code yX10_draw cX10_draw 3 (Option.some Jvm.ClassFile.FieldType.int) ∈ fwT := fw_mem (i := 828) (by decide +kernel) (by decide +kernel)
theorem ql_RX10_32 : Cond.methodLinkNest RX10 32 yL_cell "BarnacleLaw" ∈ fwT := fw_mem (i := 829) (by decide +kernel) (by decide +kernel)
theorem qs_yL_cell : Cond.static yL_cell ∈ fwT := fw_mem (i := 830) (by decide +kernel) (by decide +kernel)
theorem qc_yL_cell : Cond.code yL_cell cL_cell 2 (Option.some Jvm.ClassFile.FieldType.int) ∈ fwT := fw_mem (i := 831) (by decide +kernel) (by decide +kernel)
theorem ql_RL_8 : Cond.constant RL 8 (790386105) ∈ fwT := fw_mem (i := 832) (by decide +kernel) (by decide +kernel)
theorem ql_RX10_38 : Cond.methodLinkNest RX10 38 yL_below "BarnacleLaw" ∈ fwT := fw_mem (i := 833) (by decide +kernel) (by decide +kernel)
theorem qs_yL_below : Cond.static yL_below ∈ fwT := fw_mem (i := 834) (by decide +kernel) (by decide +kernel)
theorem qc_yL_below : Cond.code yL_below cL_below 2 (Option.some Jvm.ClassFile.FieldType.int) ∈ fwT := fw_mem (i := 835) (by decide +kernel) (by decide +kernel)
theorem ql_RL_7 : Cond.constant RL 7 (2147483647) ∈ fwT := fw_mem (i := 836) (by decide +kernel) (by decide +kernel)
theorem ql_RL_108 : Cond.methodLink RL 108 yX10_many ∈ fwT := fw_mem (i := 837) (by decide +kernel) (by decide +kernel)
theorem qs_yX10_many : Cond.static yX10_many ∈ fwT := fw_mem (i := 838) (by decide +kernel) (by decide +kernel)
theorem qc_yX10_many : Cond.code yX10_many cX10_many 1 (Option.some Jvm.ClassFile.FieldType.int) ∈ fwT := fw_mem (i := 839) (by decide +kernel) (by decide +kernel)
theorem ql_RL_111 : Cond.methodLink RL 111 yX10_isNumber ∈ fwT := fw_mem (i := 840) (by decide +kernel) (by decide +kernel)
theorem qs_yX10_isNumber : Cond.static yX10_isNumber ∈ fwT := fw_mem (i := 841) (by decide +kernel) (by decide +kernel)
theorem qc_yX10_isNumber : Cond.code yX10_isNumber cX10_isNumber 2 (Option.some Jvm.ClassFile.FieldType.boolean) ∈ fwT := fw_mem (i := 842) (by decide +kernel) (by decide +kernel)
theorem ql_RL_22 : Cond.methodLink RL 22 yX10_plant ∈ fwT := fw_mem (i := 843) (by decide +kernel) (by decide +kernel)
theorem qi_yX10_plant : Cond.instanceMethod yX10_plant ∈ fwT := fw_mem (i := 844) (by decide +kernel) (by decide +kernel)
theorem qv_yX10_plant : Cond.selects RX10 yX10_plant yX10_plant ∈ fwT := fw_mem (i := 845) (by decide +kernel) (by decide +kernel)
theorem qc_yX10_plant : Cond.code yX10_plant cX10_plant 4 (Option.some Jvm.ClassFile.FieldType.boolean) ∈ fwT := fw_mem (i := 846) (by decide +kernel) (by decide +kernel)
theorem ql_RX10_48 : Cond.methodLink RX10 48 yX10_draw ∈ fwT := fw_mem (i := 847) (by decide +kernel) (by decide +kernel)
theorem ql_RX10_59 : Cond.methodLink RX10 59 yX10_grown ∈ fwT := fw_mem (i := 848) (by decide +kernel) (by decide +kernel)
theorem qi_yX10_grown : Cond.instanceMethod yX10_grown ∈ fwT := fw_mem (i := 849) (by decide +kernel) (by decide +kernel)
theorem qv_yX10_grown : Cond.selects RX10 yX10_grown yX10_grown ∈ fwT := fw_mem (i := 850) (by decide +kernel) (by decide +kernel)
theorem qc_yX10_grown : Cond.code yX10_grown cX10_grown 6 (Option.some (Jvm.ClassFile.FieldType.array Jvm.ClassFile.FieldType.int)) ∈ fwT := fw_mem (i := 851) (by decide +kernel) (by decide +kernel)
theorem ql_RX10_52 : Cond.methodLink RX10 52 yX10_many ∈ fwT := fw_mem (i := 852) (by decide +kernel) (by decide +kernel)
theorem ql_RX10_55 : Cond.methodLink RX10 55 yX10_isNumber ∈ fwT := fw_mem (i := 853) (by decide +kernel) (by decide +kernel)
theorem ql_RX10_63 : Cond.methodLink RX10 63 yX10_joined ∈ fwT := fw_mem (i := 854) (by decide +kernel) (by decide +kernel)
theorem qs_yX10_joined : Cond.static yX10_joined ∈ fwT := fw_mem (i := 855) (by decide +kernel) (by decide +kernel)
theorem qc_yX10_joined : Cond.code yX10_joined cX10_joined 3 (Option.some (Jvm.ClassFile.FieldType.array Jvm.ClassFile.FieldType.int)) ∈ fwT := fw_mem (i := 856) (by decide +kernel) (by decide +kernel)
theorem ql_RX10_67 : Cond.methodLink RX10 67 yX9_sketch ∈ fwT := fw_mem (i := 860) (by decide +kernel) (by decide +kernel)
theorem qi_yX9_sketch : Cond.instanceMethod yX9_sketch ∈ fwT := fw_mem (i := 861) (by decide +kernel) (by decide +kernel)
theorem qv_yX9_sketch : Cond.selects RX9 yX9_sketch yX9_sketch ∈ fwT := fw_mem (i := 862) (by decide +kernel) (by decide +kernel)
theorem qc_yX9_sketch : Cond.code yX9_sketch cX9_sketch 3 (Option.some Jvm.ClassFile.FieldType.int) ∈ fwT := fw_mem (i := 863) (by decide +kernel) (by decide +kernel)
theorem ql_RX9_68 : Cond.methodLink RX9 68 yX9_requireNode ∈ fwT := fw_mem (i := 864) (by decide +kernel) (by decide +kernel)
theorem qs_yX9_requireNode : Cond.static yX9_requireNode ∈ fwT := fw_mem (i := 865) (by decide +kernel) (by decide +kernel)
theorem qc_yX9_requireNode : Cond.code yX9_requireNode cX9_requireNode 2 (Option.none : Option Jvm.ClassFile.FieldType) ∈ fwT := fw_mem (i := 866) (by decide +kernel) (by decide +kernel)
theorem ql_RX9_72 : Cond.methodLink RX9 72 yX7_accepts ∈ fwT := fw_mem (i := 870) (by decide +kernel) (by decide +kernel)
theorem qi_yX7_accepts : Cond.instanceMethod yX7_accepts ∈ fwT := fw_mem (i := 871) (by decide +kernel) (by decide +kernel)
theorem qv_yX7_accepts : Cond.selects RX7 yX7_accepts yX7_accepts ∈ fwT := fw_mem (i := 872) (by decide +kernel) (by decide +kernel)
theorem qc_yX7_accepts : Cond.code yX7_accepts cX7_accepts 7 (Option.some Jvm.ClassFile.FieldType.boolean) ∈ fwT := fw_mem (i := 873) (by decide +kernel) (by decide +kernel)
theorem ql_RX7_42 : Cond.methodLinkNest RX7 42 yX9_at "Barnacle" ∈ fwT := fw_mem (i := 874) (by decide +kernel) (by decide +kernel)
theorem ql_RX7_50 : Cond.fieldLinkNest RX7 50 "Barnacle" "PARTS" "[I" "Barnacle" ∈ fwT := fw_mem (i := 875) (by decide +kernel) (by decide +kernel)
theorem ql_RX7_53 : Cond.methodLinkNest RX7 53 yX9_isNumberPart "Barnacle" ∈ fwT := fw_mem (i := 876) (by decide +kernel) (by decide +kernel)
theorem qs_yX9_isNumberPart : Cond.static yX9_isNumberPart ∈ fwT := fw_mem (i := 877) (by decide +kernel) (by decide +kernel)
theorem qc_yX9_isNumberPart : Cond.code yX9_isNumberPart cX9_isNumberPart 2 (Option.some Jvm.ClassFile.FieldType.boolean) ∈ fwT := fw_mem (i := 878) (by decide +kernel) (by decide +kernel)
theorem ql_RX9_83 : Cond.methodLink RX9 83 yX7_take ∈ fwT := fw_mem (i := 880) (by decide +kernel) (by decide +kernel)
theorem qi_yX7_take : Cond.instanceMethod yX7_take ∈ fwT := fw_mem (i := 881) (by decide +kernel) (by decide +kernel)
theorem qv_yX7_take : Cond.selects RX7 yX7_take yX7_take ∈ fwT := fw_mem (i := 882) (by decide +kernel) (by decide +kernel)
theorem qc_yX7_take : Cond.code yX7_take cX7_take 5 (Option.none : Option Jvm.ClassFile.FieldType) ∈ fwT := fw_mem (i := 883) (by decide +kernel) (by decide +kernel)
theorem ql_RX7_57 : Cond.methodLink RX7 57 yX8_append ∈ fwT := fw_mem (i := 884) (by decide +kernel) (by decide +kernel)
theorem qi_yX8_append : Cond.instanceMethod yX8_append ∈ fwT := fw_mem (i := 885) (by decide +kernel) (by decide +kernel)
theorem qv_yX8_append : Cond.selects RX8 yX8_append yX8_append ∈ fwT := fw_mem (i := 886) (by decide +kernel) (by decide +kernel)
theorem qc_yX8_append : Cond.code yX8_append cX8_append 3 (Option.none : Option Jvm.ClassFile.FieldType) ∈ fwT := fw_mem (i := 887) (by decide +kernel) (by decide +kernel)
theorem ql_RX10_70 : Cond.methodLink RX10 70 yX9_sketched ∈ fwT := fw_mem (i := 888) (by decide +kernel) (by decide +kernel)
theorem qi_yX9_sketched : Cond.instanceMethod yX9_sketched ∈ fwT := fw_mem (i := 889) (by decide +kernel) (by decide +kernel)
theorem qv_yX9_sketched : Cond.selects RX9 yX9_sketched yX9_sketched ∈ fwT := fw_mem (i := 890) (by decide +kernel) (by decide +kernel)
theorem qc_yX9_sketched : Cond.code yX9_sketched cX9_sketched 1 (Option.some Jvm.ClassFile.FieldType.int) ∈ fwT := fw_mem (i := 891) (by decide +kernel) (by decide +kernel)
theorem ql_RX10_77 : Cond.methodLink RX10 77 yX9_plant ∈ fwT := fw_mem (i := 892) (by decide +kernel) (by decide +kernel)
theorem qi_yX9_plant : Cond.instanceMethod yX9_plant ∈ fwT := fw_mem (i := 893) (by decide +kernel) (by decide +kernel)
theorem qv_yX9_plant : Cond.selects RX9 yX9_plant yX9_plant ∈ fwT := fw_mem (i := 894) (by decide +kernel) (by decide +kernel)
theorem qc_yX9_plant : Cond.code yX9_plant cX9_plant 2 (Option.some Jvm.ClassFile.FieldType.int) ∈ fwT := fw_mem (i := 895) (by decide +kernel) (by decide +kernel)
theorem ql_RX9_104 : Cond.methodLink RX9 104 yX2_add ∈ fwT := fw_mem (i := 897) (by decide +kernel) (by decide +kernel)
theorem qi_yX2_add : Cond.instanceMethod yX2_add ∈ fwT := fw_mem (i := 898) (by decide +kernel) (by decide +kernel)
theorem qv_yX2_add : Cond.selects RX2 yX2_add yX2_add ∈ fwT := fw_mem (i := 899) (by decide +kernel) (by decide +kernel)
theorem qc_yX2_add : Cond.code yX2_add cX2_add 2 (Option.none : Option Jvm.ClassFile.FieldType) ∈ fwT := fw_mem (i := 900) (by decide +kernel) (by decide +kernel)
theorem ql_RX9_96 : Cond.methodLink RX9 96 yX7_clear ∈ fwT := fw_mem (i := 901) (by decide +kernel) (by decide +kernel)
theorem ql_RL_26 : Cond.methodLink RL 26 yX10_addCase ∈ fwT := fw_mem (i := 902) (by decide +kernel) (by decide +kernel)
theorem qi_yX10_addCase : Cond.instanceMethod yX10_addCase ∈ fwT := fw_mem (i := 903) (by decide +kernel) (by decide +kernel)
theorem qv_yX10_addCase : Cond.selects RX10 yX10_addCase yX10_addCase ∈ fwT := fw_mem (i := 904) (by decide +kernel) (by decide +kernel)
theorem qc_yX10_addCase : Cond.code yX10_addCase cX10_addCase 2 (Option.some Jvm.ClassFile.FieldType.boolean) ∈ fwT := fw_mem (i := 905) (by decide +kernel) (by decide +kernel)
theorem ql_RX10_83 : Cond.methodLink RX10 83 yX9_addCase ∈ fwT := fw_mem (i := 906) (by decide +kernel) (by decide +kernel)
theorem qi_yX9_addCase : Cond.instanceMethod yX9_addCase ∈ fwT := fw_mem (i := 907) (by decide +kernel) (by decide +kernel)
theorem qv_yX9_addCase : Cond.selects RX9 yX9_addCase yX9_addCase ∈ fwT := fw_mem (i := 908) (by decide +kernel) (by decide +kernel)
theorem qc_yX9_addCase : Cond.code yX9_addCase cX9_addCase 6 (Option.some Jvm.ClassFile.FieldType.int) ∈ fwT := fw_mem (i := 909) (by decide +kernel) (by decide +kernel)
theorem ql_RX9_130 : Cond.methodLink RX9 130 yX3_add ∈ fwT := fw_mem (i := 912) (by decide +kernel) (by decide +kernel)
theorem qi_yX3_add : Cond.instanceMethod yX3_add ∈ fwT := fw_mem (i := 913) (by decide +kernel) (by decide +kernel)
theorem qv_yX3_add : Cond.selects RX3 yX3_add yX3_add ∈ fwT := fw_mem (i := 914) (by decide +kernel) (by decide +kernel)
theorem qc_yX3_add : Cond.code yX3_add cX3_add 5 (Option.none : Option Jvm.ClassFile.FieldType) ∈ fwT := fw_mem (i := 915) (by decide +kernel) (by decide +kernel)
theorem ql_RX3_38 : Cond.methodLinkNest RX3 38 yX9_put "Barnacle" ∈ fwT := fw_mem (i := 916) (by decide +kernel) (by decide +kernel)
theorem qa_boolean : Cond.arrayClass Jvm.ClassFile.FieldType.boolean ∈ fwT := fw_mem (i := 917) (by decide +kernel) (by decide +kernel)
