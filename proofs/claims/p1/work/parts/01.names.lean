-- ===== PART A: goes FIRST, ahead of the names: the tables' words, and 'selects' of the private methods out of them =====
/-- a private method of a class that the tables say can be made, by its rows of tables_1 -/
def lw_okq (q : MethodName × Nat) : Prop := (q.1.cls ≠ "java/lang/invoke/MethodHandle" ∧ q.1.cls ≠ "java/lang/invoke/VarHandle") ∧ Cond.instantiable q.1.cls q.2 ∈ tables_1 ∧ Cond.privateMethod q.1 ∈ tables_1 ∧ Cond.instanceMethod q.1 ∈ tables_1
theorem lw_p0 : lw_okq (⟨"Barnacle$Sketch", "miss", "(ZI)V"⟩, 5) := ⟨⟨by decide +kernel, by decide +kernel⟩, List.mem_of_getElem? (i := 33) (by decide +kernel), List.mem_of_getElem? (i := 80) (by decide +kernel), List.mem_of_getElem? (i := 81) (by decide +kernel)⟩
theorem lw_p1 : lw_okq (⟨"Barnacle$Grove", "treeOf", "([LBarnacle$Tree;I)LBarnacle$Tree;"⟩, 7) := ⟨⟨by decide +kernel, by decide +kernel⟩, List.mem_of_getElem? (i := 218) (by decide +kernel), List.mem_of_getElem? (i := 334) (by decide +kernel), List.mem_of_getElem? (i := 335) (by decide +kernel)⟩
theorem lw_p2 : lw_okq (⟨"Barnacle", "digestWith", "(JLBarnacle$Tree;)J"⟩, 9) := ⟨⟨by decide +kernel, by decide +kernel⟩, List.mem_of_getElem? (i := 25) (by decide +kernel), List.mem_of_getElem? (i := 384) (by decide +kernel), List.mem_of_getElem? (i := 385) (by decide +kernel)⟩
theorem lw_p3 : lw_okq (⟨"Barnacle$Ranking", "insert", "(I)V"⟩, 3) := ⟨⟨by decide +kernel, by decide +kernel⟩, List.mem_of_getElem? (i := 156) (by decide +kernel), List.mem_of_getElem? (i := 427) (by decide +kernel), List.mem_of_getElem? (i := 428) (by decide +kernel)⟩
theorem lw_p4 : lw_okq (⟨"java/lang/Throwable", "fillInStackTrace", "(I)Ljava/lang/Throwable;"⟩, 6) := ⟨⟨by decide +kernel, by decide +kernel⟩, List.mem_of_getElem? (i := 490) (by decide +kernel), List.mem_of_getElem? (i := 488) (by decide +kernel), List.mem_of_getElem? (i := 489) (by decide +kernel)⟩
theorem lw_p5 : lw_okq (⟨"Barnacle$Tree", "appendFrom", "(LBarnacle$Tree;II)V"⟩, 6) := ⟨⟨by decide +kernel, by decide +kernel⟩, List.mem_of_getElem? (i := 39) (by decide +kernel), List.mem_of_getElem? (i := 577) (by decide +kernel), List.mem_of_getElem? (i := 578) (by decide +kernel)⟩
theorem lw_p6 : lw_okq (⟨"Barnacle$Tree", "measure", "()V"⟩, 6) := ⟨⟨by decide +kernel, by decide +kernel⟩, List.mem_of_getElem? (i := 39) (by decide +kernel), List.mem_of_getElem? (i := 581) (by decide +kernel), List.mem_of_getElem? (i := 582) (by decide +kernel)⟩
theorem lw_p7 : lw_okq (⟨"Barnacle", "requireTree", "(I)LBarnacle$Tree;"⟩, 9) := ⟨⟨by decide +kernel, by decide +kernel⟩, List.mem_of_getElem? (i := 25) (by decide +kernel), List.mem_of_getElem? (i := 597) (by decide +kernel), List.mem_of_getElem? (i := 598) (by decide +kernel)⟩
theorem lw_p8 : lw_okq (⟨"Barnacle", "requirePlace", "(II)LBarnacle$Tree;"⟩, 9) := ⟨⟨by decide +kernel, by decide +kernel⟩, List.mem_of_getElem? (i := 25) (by decide +kernel), List.mem_of_getElem? (i := 657) (by decide +kernel), List.mem_of_getElem? (i := 658) (by decide +kernel)⟩
theorem lw_p9 : lw_okq (⟨"Barnacle$Tree", "closeGap", "(II)V"⟩, 6) := ⟨⟨by decide +kernel, by decide +kernel⟩, List.mem_of_getElem? (i := 39) (by decide +kernel), List.mem_of_getElem? (i := 691) (by decide +kernel), List.mem_of_getElem? (i := 692) (by decide +kernel)⟩
theorem lw_p10 : lw_okq (⟨"Barnacle$Simplifier", "changeAt", "(LBarnacle$Tree;I)Z"⟩, 1) := ⟨⟨by decide +kernel, by decide +kernel⟩, List.mem_of_getElem? (i := 204) (by decide +kernel), List.mem_of_getElem? (i := 729) (by decide +kernel), List.mem_of_getElem? (i := 730) (by decide +kernel)⟩
theorem lw_p11 : lw_okq (⟨"Barnacle", "requireBreeding", "(I)V"⟩, 9) := ⟨⟨by decide +kernel, by decide +kernel⟩, List.mem_of_getElem? (i := 25) (by decide +kernel), List.mem_of_getElem? (i := 809) (by decide +kernel), List.mem_of_getElem? (i := 810) (by decide +kernel)⟩
theorem lw_p12 : lw_okq (⟨"Barnacle$Breeder", "makeYoung", "(LBarnacle$Grove;LBarnacle$Tree;)V"⟩, 6) := ⟨⟨by decide +kernel, by decide +kernel⟩, List.mem_of_getElem? (i := 172) (by decide +kernel), List.mem_of_getElem? (i := 828) (by decide +kernel), List.mem_of_getElem? (i := 829) (by decide +kernel)⟩
theorem lw_p13 : lw_okq (⟨"Barnacle$Draws", "takeFirst", "()I"⟩, 3) := ⟨⟨by decide +kernel, by decide +kernel⟩, List.mem_of_getElem? (i := 224) (by decide +kernel), List.mem_of_getElem? (i := 836) (by decide +kernel), List.mem_of_getElem? (i := 837) (by decide +kernel)⟩
theorem lw_p14 : lw_okq (⟨"Barnacle$Breeder", "choose", "(LBarnacle$Grove;)LBarnacle$Tree;"⟩, 6) := ⟨⟨by decide +kernel, by decide +kernel⟩, List.mem_of_getElem? (i := 172) (by decide +kernel), List.mem_of_getElem? (i := 841) (by decide +kernel), List.mem_of_getElem? (i := 842) (by decide +kernel)⟩
theorem lw_p15 : lw_okq (⟨"BarnacleModel", "no", "(I)I"⟩, 21) := ⟨⟨by decide +kernel, by decide +kernel⟩, List.mem_of_getElem? (i := 999) (by decide +kernel), List.mem_of_getElem? (i := 1085) (by decide +kernel), List.mem_of_getElem? (i := 1086) (by decide +kernel)⟩
def lw_privs_1 : List (MethodName × Nat) := [(⟨"Barnacle$Sketch", "miss", "(ZI)V"⟩, 5), (⟨"Barnacle$Grove", "treeOf", "([LBarnacle$Tree;I)LBarnacle$Tree;"⟩, 7), (⟨"Barnacle", "digestWith", "(JLBarnacle$Tree;)J"⟩, 9), (⟨"Barnacle$Ranking", "insert", "(I)V"⟩, 3), (⟨"java/lang/Throwable", "fillInStackTrace", "(I)Ljava/lang/Throwable;"⟩, 6), (⟨"Barnacle$Tree", "appendFrom", "(LBarnacle$Tree;II)V"⟩, 6), (⟨"Barnacle$Tree", "measure", "()V"⟩, 6), (⟨"Barnacle", "requireTree", "(I)LBarnacle$Tree;"⟩, 9), (⟨"Barnacle", "requirePlace", "(II)LBarnacle$Tree;"⟩, 9), (⟨"Barnacle$Tree", "closeGap", "(II)V"⟩, 6), (⟨"Barnacle$Simplifier", "changeAt", "(LBarnacle$Tree;I)Z"⟩, 1), (⟨"Barnacle", "requireBreeding", "(I)V"⟩, 9), (⟨"Barnacle$Breeder", "makeYoung", "(LBarnacle$Grove;LBarnacle$Tree;)V"⟩, 6), (⟨"Barnacle$Draws", "takeFirst", "()I"⟩, 3), (⟨"Barnacle$Breeder", "choose", "(LBarnacle$Grove;)LBarnacle$Tree;"⟩, 6), (⟨"BarnacleModel", "no", "(I)I"⟩, 21)]
theorem lw_r1 : ∀ q ∈ lw_privs_1, lw_okq q := List.forall_mem_cons.mpr ⟨lw_p0, List.forall_mem_cons.mpr ⟨lw_p1, List.forall_mem_cons.mpr ⟨lw_p2, List.forall_mem_cons.mpr ⟨lw_p3, List.forall_mem_cons.mpr ⟨lw_p4, List.forall_mem_cons.mpr ⟨lw_p5, List.forall_mem_cons.mpr ⟨lw_p6, List.forall_mem_cons.mpr ⟨lw_p7, List.forall_mem_cons.mpr ⟨lw_p8, List.forall_mem_cons.mpr ⟨lw_p9, List.forall_mem_cons.mpr ⟨lw_p10, List.forall_mem_cons.mpr ⟨lw_p11, List.forall_mem_cons.mpr ⟨lw_p12, List.forall_mem_cons.mpr ⟨lw_p13, List.forall_mem_cons.mpr ⟨lw_p14, List.forall_mem_cons.mpr ⟨lw_p15, fun _ h => absurd h List.not_mem_nil⟩⟩⟩⟩⟩⟩⟩⟩⟩⟩⟩⟩⟩⟩⟩⟩
theorem lw_p16 : lw_okq (⟨"BarnacleModel", "isTree", "(I)Z"⟩, 21) := ⟨⟨by decide +kernel, by decide +kernel⟩, List.mem_of_getElem? (i := 999) (by decide +kernel), List.mem_of_getElem? (i := 1179) (by decide +kernel), List.mem_of_getElem? (i := 1180) (by decide +kernel)⟩
theorem lw_p17 : lw_okq (⟨"BarnacleModel", "isPlace", "(II)Z"⟩, 21) := ⟨⟨by decide +kernel, by decide +kernel⟩, List.mem_of_getElem? (i := 999) (by decide +kernel), List.mem_of_getElem? (i := 1195) (by decide +kernel), List.mem_of_getElem? (i := 1196) (by decide +kernel)⟩
theorem lw_p18 : lw_okq (⟨"BarnacleModel", "become", "(I[I)I"⟩, 21) := ⟨⟨by decide +kernel, by decide +kernel⟩, List.mem_of_getElem? (i := 999) (by decide +kernel), List.mem_of_getElem? (i := 1221) (by decide +kernel), List.mem_of_getElem? (i := 1222) (by decide +kernel)⟩
theorem lw_p19 : lw_okq (⟨"BarnacleModel", "simplified", "([I)[I"⟩, 21) := ⟨⟨by decide +kernel, by decide +kernel⟩, List.mem_of_getElem? (i := 999) (by decide +kernel), List.mem_of_getElem? (i := 1253) (by decide +kernel), List.mem_of_getElem? (i := 1254) (by decide +kernel)⟩
theorem lw_p20 : lw_okq (⟨"BarnacleModel", "simpler", "([II)[I"⟩, 21) := ⟨⟨by decide +kernel, by decide +kernel⟩, List.mem_of_getElem? (i := 999) (by decide +kernel), List.mem_of_getElem? (i := 1257) (by decide +kernel), List.mem_of_getElem? (i := 1258) (by decide +kernel)⟩
theorem lw_p21 : lw_okq (⟨"BarnacleModel", "gives", "([IIII)I"⟩, 21) := ⟨⟨by decide +kernel, by decide +kernel⟩, List.mem_of_getElem? (i := 999) (by decide +kernel), List.mem_of_getElem? (i := 1261) (by decide +kernel), List.mem_of_getElem? (i := 1262) (by decide +kernel)⟩
theorem lw_p22 : lw_okq (⟨"BarnacleModel", "breedNow", "(I)I"⟩, 21) := ⟨⟨by decide +kernel, by decide +kernel⟩, List.mem_of_getElem? (i := 999) (by decide +kernel), List.mem_of_getElem? (i := 1304) (by decide +kernel), List.mem_of_getElem? (i := 1305) (by decide +kernel)⟩
theorem lw_p23 : lw_okq (⟨"BarnacleModel", "generation", "()V"⟩, 21) := ⟨⟨by decide +kernel, by decide +kernel⟩, List.mem_of_getElem? (i := 999) (by decide +kernel), List.mem_of_getElem? (i := 1308) (by decide +kernel), List.mem_of_getElem? (i := 1309) (by decide +kernel)⟩
theorem lw_p24 : lw_okq (⟨"BarnacleModel", "ranks", "()[I"⟩, 21) := ⟨⟨by decide +kernel, by decide +kernel⟩, List.mem_of_getElem? (i := 999) (by decide +kernel), List.mem_of_getElem? (i := 1312) (by decide +kernel), List.mem_of_getElem? (i := 1313) (by decide +kernel)⟩
theorem lw_p25 : lw_okq (⟨"BarnacleModel", "meritOf", "([I)I"⟩, 21) := ⟨⟨by decide +kernel, by decide +kernel⟩, List.mem_of_getElem? (i := 999) (by decide +kernel), List.mem_of_getElem? (i := 1316) (by decide +kernel), List.mem_of_getElem? (i := 1317) (by decide +kernel)⟩
theorem lw_p26 : lw_okq (⟨"BarnacleModel", "errorOf", "([I)I"⟩, 21) := ⟨⟨by decide +kernel, by decide +kernel⟩, List.mem_of_getElem? (i := 999) (by decide +kernel), List.mem_of_getElem? (i := 1320) (by decide +kernel), List.mem_of_getElem? (i := 1321) (by decide +kernel)⟩
theorem lw_p27 : lw_okq (⟨"BarnacleModel", "isBetter", "(II[I)Z"⟩, 21) := ⟨⟨by decide +kernel, by decide +kernel⟩, List.mem_of_getElem? (i := 999) (by decide +kernel), List.mem_of_getElem? (i := 1327) (by decide +kernel), List.mem_of_getElem? (i := 1328) (by decide +kernel)⟩
theorem lw_p28 : lw_okq (⟨"BarnacleModel", "draw", "(I)I"⟩, 21) := ⟨⟨by decide +kernel, by decide +kernel⟩, List.mem_of_getElem? (i := 999) (by decide +kernel), List.mem_of_getElem? (i := 1331) (by decide +kernel), List.mem_of_getElem? (i := 1332) (by decide +kernel)⟩
theorem lw_p29 : lw_okq (⟨"BarnacleModel", "choose", "([I)I"⟩, 21) := ⟨⟨by decide +kernel, by decide +kernel⟩, List.mem_of_getElem? (i := 999) (by decide +kernel), List.mem_of_getElem? (i := 1335) (by decide +kernel), List.mem_of_getElem? (i := 1336) (by decide +kernel)⟩
theorem lw_p30 : lw_okq (⟨"BarnacleModel", "bred", "(I[I[I)[I"⟩, 21) := ⟨⟨by decide +kernel, by decide +kernel⟩, List.mem_of_getElem? (i := 999) (by decide +kernel), List.mem_of_getElem? (i := 1339) (by decide +kernel), List.mem_of_getElem? (i := 1340) (by decide +kernel)⟩
theorem lw_p31 : lw_okq (⟨"BarnacleModel", "drawPlace", "([IZ)I"⟩, 21) := ⟨⟨by decide +kernel, by decide +kernel⟩, List.mem_of_getElem? (i := 999) (by decide +kernel), List.mem_of_getElem? (i := 1343) (by decide +kernel), List.mem_of_getElem? (i := 1344) (by decide +kernel)⟩
def lw_privs_2 : List (MethodName × Nat) := [(⟨"BarnacleModel", "isTree", "(I)Z"⟩, 21), (⟨"BarnacleModel", "isPlace", "(II)Z"⟩, 21), (⟨"BarnacleModel", "become", "(I[I)I"⟩, 21), (⟨"BarnacleModel", "simplified", "([I)[I"⟩, 21), (⟨"BarnacleModel", "simpler", "([II)[I"⟩, 21), (⟨"BarnacleModel", "gives", "([IIII)I"⟩, 21), (⟨"BarnacleModel", "breedNow", "(I)I"⟩, 21), (⟨"BarnacleModel", "generation", "()V"⟩, 21), (⟨"BarnacleModel", "ranks", "()[I"⟩, 21), (⟨"BarnacleModel", "meritOf", "([I)I"⟩, 21), (⟨"BarnacleModel", "errorOf", "([I)I"⟩, 21), (⟨"BarnacleModel", "isBetter", "(II[I)Z"⟩, 21), (⟨"BarnacleModel", "draw", "(I)I"⟩, 21), (⟨"BarnacleModel", "choose", "([I)I"⟩, 21), (⟨"BarnacleModel", "bred", "(I[I[I)[I"⟩, 21), (⟨"BarnacleModel", "drawPlace", "([IZ)I"⟩, 21)]
theorem lw_r2 : ∀ q ∈ lw_privs_2, lw_okq q := List.forall_mem_cons.mpr ⟨lw_p16, List.forall_mem_cons.mpr ⟨lw_p17, List.forall_mem_cons.mpr ⟨lw_p18, List.forall_mem_cons.mpr ⟨lw_p19, List.forall_mem_cons.mpr ⟨lw_p20, List.forall_mem_cons.mpr ⟨lw_p21, List.forall_mem_cons.mpr ⟨lw_p22, List.forall_mem_cons.mpr ⟨lw_p23, List.forall_mem_cons.mpr ⟨lw_p24, List.forall_mem_cons.mpr ⟨lw_p25, List.forall_mem_cons.mpr ⟨lw_p26, List.forall_mem_cons.mpr ⟨lw_p27, List.forall_mem_cons.mpr ⟨lw_p28, List.forall_mem_cons.mpr ⟨lw_p29, List.forall_mem_cons.mpr ⟨lw_p30, List.forall_mem_cons.mpr ⟨lw_p31, fun _ h => absurd h List.not_mem_nil⟩⟩⟩⟩⟩⟩⟩⟩⟩⟩⟩⟩⟩⟩⟩⟩
theorem lw_p32 : lw_okq (⟨"BarnacleModel", "changed", "([I)[I"⟩, 21) := ⟨⟨by decide +kernel, by decide +kernel⟩, List.mem_of_getElem? (i := 999) (by decide +kernel), List.mem_of_getElem? (i := 1347) (by decide +kernel), List.mem_of_getElem? (i := 1348) (by decide +kernel)⟩
theorem lw_p33 : lw_okq (⟨"BarnacleModel", "ok", "(I)I"⟩, 21) := ⟨⟨by decide +kernel, by decide +kernel⟩, List.mem_of_getElem? (i := 999) (by decide +kernel), List.mem_of_getElem? (i := 1355) (by decide +kernel), List.mem_of_getElem? (i := 1356) (by decide +kernel)⟩
theorem lw_p34 : lw_okq (⟨"BarnacleModel", "hitsOf", "([I)I"⟩, 21) := ⟨⟨by decide +kernel, by decide +kernel⟩, List.mem_of_getElem? (i := 999) (by decide +kernel), List.mem_of_getElem? (i := 1407) (by decide +kernel), List.mem_of_getElem? (i := 1408) (by decide +kernel)⟩
theorem lw_p35 : lw_okq (⟨"BarnacleModel", "differentNow", "()I"⟩, 21) := ⟨⟨by decide +kernel, by decide +kernel⟩, List.mem_of_getElem? (i := 999) (by decide +kernel), List.mem_of_getElem? (i := 1419) (by decide +kernel), List.mem_of_getElem? (i := 1420) (by decide +kernel)⟩
def lw_privs_3 : List (MethodName × Nat) := [(⟨"BarnacleModel", "changed", "([I)[I"⟩, 21), (⟨"BarnacleModel", "ok", "(I)I"⟩, 21), (⟨"BarnacleModel", "hitsOf", "([I)I"⟩, 21), (⟨"BarnacleModel", "differentNow", "()I"⟩, 21)]
theorem lw_r3 : ∀ q ∈ lw_privs_3, lw_okq q := List.forall_mem_cons.mpr ⟨lw_p32, List.forall_mem_cons.mpr ⟨lw_p33, List.forall_mem_cons.mpr ⟨lw_p34, List.forall_mem_cons.mpr ⟨lw_p35, fun _ h => absurd h List.not_mem_nil⟩⟩⟩⟩
def lw_privs : List (MethodName × Nat) := lw_privs_1 ++ (lw_privs_2 ++ (lw_privs_3))
def lw_tbl : List Cond := k2_sels lw_privs ++ tables_1
theorem lw_privs_ok : ∀ q ∈ lw_privs, lw_okq q := by
  show ∀ q ∈ lw_privs_1 ++ (lw_privs_2 ++ (lw_privs_3)), lw_okq q
  exact List.forall_mem_append.mpr ⟨lw_r1, List.forall_mem_append.mpr ⟨lw_r2, lw_r3⟩⟩
/-- the streams that the claim lets the run draw from -/
abbrev lw_cs : List Choice := [Jvm.Choice.named "NaN.bits"]
theorem lw_bits : nanBits ∈ lw_cs := by first | decide | exact List.mem_cons_self | simp [lw_cs, nanBits]
-- ===== end of PART A; then your names; then what follows =====
def RX0 : String := "Barnacle$Breeder"
def TX0 : u_T := fun k => match k with
  | 0 => ("Barnacle$Breeder", "ranking", "LBarnacle$Ranking;", true)
  | 1 => ("Barnacle$Breeder", "crossing", "I", false)
  | 2 => ("Barnacle$Breeder", "changing", "I", false)
  | 3 => ("Barnacle$Breeder", "hoisting", "I", false)
  | 4 => ("Barnacle$Breeder", "tournament", "I", false)
  | _ => ("Barnacle$Breeder", "elite", "I", false)
def tyX0 : Nat → FieldType := fun k => match k with
  | 0 => .object "Barnacle$Ranking"
  | 1 => .int
  | 2 => .int
  | 3 => .int
  | 4 => .int
  | _ => .int
abbrev wsX00 : List Cond := u_ws RX0 TX0 6
theorem nmX0 : ∀ a, a < 6 → ∀ b, b < 6 → a ≠ b → (TX0 a).2.1 ≠ (TX0 b).2.1 := by decide +kernel
theorem tyX0_ok : ∀ k, k < 6 → parseFieldDescriptor (TX0 k).2.2.1 = some (tyX0 k) := by decide +kernel
abbrev cX0_init : ByteArray := prog_2_method_1_code
def yX0_init : MethodName := ⟨RX0, "<init>", "()V"⟩
abbrev cX0_errorAfter : ByteArray := prog_2_method_2_code
def yX0_errorAfter : MethodName := ⟨RX0, "errorAfter", "(ILBarnacle$Grove;LBarnacle$Judge;)I"⟩
abbrev cX0_makeYoung : ByteArray := prog_2_method_3_code
def yX0_makeYoung : MethodName := ⟨RX0, "makeYoung", "(LBarnacle$Grove;LBarnacle$Tree;)V"⟩
abbrev cX0_choose : ByteArray := prog_2_method_4_code
def yX0_choose : MethodName := ⟨RX0, "choose", "(LBarnacle$Grove;)LBarnacle$Tree;"⟩
abbrev cX0_crossYoung : ByteArray := prog_2_method_5_code
def yX0_crossYoung : MethodName := ⟨RX0, "crossYoung", "(LBarnacle$Grove;LBarnacle$Tree;LBarnacle$Tree;LBarnacle$Tree;)V"⟩
abbrev cX0_changeYoung : ByteArray := prog_2_method_6_code
def yX0_changeYoung : MethodName := ⟨RX0, "changeYoung", "(LBarnacle$Draws;LBarnacle$Tree;)V"⟩
abbrev cX0_hoistYoung : ByteArray := prog_2_method_7_code
def yX0_hoistYoung : MethodName := ⟨RX0, "hoistYoung", "(LBarnacle$Draws;LBarnacle$Tree;)V"⟩
def RX1 : String := "Barnacle$Draws"
def TX1 : u_T := fun k => match k with
  | 0 => ("Barnacle$Draws", "told", "[I", true)
  | 1 => ("Barnacle$Draws", "waiting", "I", false)
  | _ => ("Barnacle$Draws", "luck", "I", false)
def tyX1 : Nat → FieldType := fun k => match k with
  | 0 => .array .int
  | 1 => .int
  | _ => .int
abbrev wsX10 : List Cond := u_ws RX1 TX1 3
theorem nmX1 : ∀ a, a < 3 → ∀ b, b < 3 → a ≠ b → (TX1 a).2.1 ≠ (TX1 b).2.1 := by decide +kernel
theorem tyX1_ok : ∀ k, k < 3 → parseFieldDescriptor (TX1 k).2.2.1 = some (tyX1 k) := by decide +kernel
abbrev cX1_init : ByteArray := prog_3_method_1_code
def yX1_init : MethodName := ⟨RX1, "<init>", "()V"⟩
abbrev cX1_add : ByteArray := prog_3_method_2_code
def yX1_add : MethodName := ⟨RX1, "add", "(I)V"⟩
abbrev cX1_below : ByteArray := prog_3_method_3_code
def yX1_below : MethodName := ⟨RX1, "below", "(I)I"⟩
abbrev cX1_copyFrom : ByteArray := prog_3_method_4_code
def yX1_copyFrom : MethodName := ⟨RX1, "copyFrom", "(LBarnacle$Draws;)V"⟩
abbrev cX1_takeFirst : ByteArray := prog_3_method_5_code
def yX1_takeFirst : MethodName := ⟨RX1, "takeFirst", "()I"⟩
def RX2 : String := "Barnacle$Grove"
def TX2 : u_T := fun k => match k with
  | 0 => ("Barnacle$Grove", "draws", "LBarnacle$Draws;", true)
  | 1 => ("Barnacle$Grove", "nothing", "LBarnacle$Tree;", true)
  | 2 => ("Barnacle$Grove", "trees", "[LBarnacle$Tree;", false)
  | 3 => ("Barnacle$Grove", "youngTrees", "[LBarnacle$Tree;", false)
  | 4 => ("Barnacle$Grove", "count", "I", false)
  | 5 => ("Barnacle$Grove", "generations", "I", false)
  | _ => ("Barnacle$Grove", "misses", "I", false)
def tyX2 : Nat → FieldType := fun k => match k with
  | 0 => .object "Barnacle$Draws"
  | 1 => .object "Barnacle$Tree"
  | 2 => .array (.object "Barnacle$Tree")
  | 3 => .array (.object "Barnacle$Tree")
  | 4 => .int
  | 5 => .int
  | _ => .int
abbrev wsX20 : List Cond := u_ws RX2 TX2 7
theorem nmX2 : ∀ a, a < 7 → ∀ b, b < 7 → a ≠ b → (TX2 a).2.1 ≠ (TX2 b).2.1 := by decide +kernel
theorem tyX2_ok : ∀ k, k < 7 → parseFieldDescriptor (TX2 k).2.2.1 = some (tyX2 k) := by decide +kernel
abbrev cX2_init : ByteArray := prog_4_method_1_code
def yX2_init : MethodName := ⟨RX2, "<init>", "()V"⟩
abbrev cX2_tree : ByteArray := prog_4_method_2_code
def yX2_tree : MethodName := ⟨RX2, "tree", "(I)LBarnacle$Tree;"⟩
abbrev cX2_youngTree : ByteArray := prog_4_method_3_code
def yX2_youngTree : MethodName := ⟨RX2, "youngTree", "(I)LBarnacle$Tree;"⟩
abbrev cX2_add : ByteArray := prog_4_method_4_code
def yX2_add : MethodName := ⟨RX2, "add", "(LBarnacle$Tree;)V"⟩
abbrev cX2_remove : ByteArray := prog_4_method_5_code
def yX2_remove : MethodName := ⟨RX2, "remove", "(I)V"⟩
abbrev cX2_hasEarlierTwin : ByteArray := prog_4_method_6_code
def yX2_hasEarlierTwin : MethodName := ⟨RX2, "hasEarlierTwin", "(I)Z"⟩
abbrev cX2_replaceByYoung : ByteArray := prog_4_method_7_code
def yX2_replaceByYoung : MethodName := ⟨RX2, "replaceByYoung", "()V"⟩
abbrev cX2_copyFrom : ByteArray := prog_4_method_8_code
def yX2_copyFrom : MethodName := ⟨RX2, "copyFrom", "(LBarnacle$Grove;)V"⟩
abbrev cX2_treeOf : ByteArray := prog_4_method_9_code
def yX2_treeOf : MethodName := ⟨RX2, "treeOf", "([LBarnacle$Tree;I)LBarnacle$Tree;"⟩
def RX3 : String := "Barnacle$Judge"
def TX3 : u_T := fun k => match k with
  | 0 => ("Barnacle$Judge", "reckoner", "LBarnacle$Reckoner;", true)
  | 1 => ("Barnacle$Judge", "firsts", "[I", true)
  | 2 => ("Barnacle$Judge", "seconds", "[I", true)
  | 3 => ("Barnacle$Judge", "thirds", "[I", true)
  | 4 => ("Barnacle$Judge", "dues", "[I", true)
  | 5 => ("Barnacle$Judge", "cases", "I", false)
  | 6 => ("Barnacle$Judge", "way", "I", false)
  | _ => ("Barnacle$Judge", "weight", "I", false)
def tyX3 : Nat → FieldType := fun k => match k with
  | 0 => .object "Barnacle$Reckoner"
  | 1 => .array .int
  | 2 => .array .int
  | 3 => .array .int
  | 4 => .array .int
  | 5 => .int
  | 6 => .int
  | _ => .int
abbrev wsX30 : List Cond := u_ws RX3 TX3 8
theorem nmX3 : ∀ a, a < 8 → ∀ b, b < 8 → a ≠ b → (TX3 a).2.1 ≠ (TX3 b).2.1 := by decide +kernel
theorem tyX3_ok : ∀ k, k < 8 → parseFieldDescriptor (TX3 k).2.2.1 = some (tyX3 k) := by decide +kernel
abbrev cX3_init : ByteArray := prog_5_method_1_code
def yX3_init : MethodName := ⟨RX3, "<init>", "()V"⟩
abbrev cX3_add : ByteArray := prog_5_method_2_code
def yX3_add : MethodName := ⟨RX3, "add", "(IIII)V"⟩
abbrev cX3_errorOf : ByteArray := prog_5_method_3_code
def yX3_errorOf : MethodName := ⟨RX3, "errorOf", "(LBarnacle$Tree;I)I"⟩
abbrev cX3_meritOf : ByteArray := prog_5_method_4_code
def yX3_meritOf : MethodName := ⟨RX3, "meritOf", "(LBarnacle$Tree;)I"⟩
abbrev cX3_hitsOf : ByteArray := prog_5_method_5_code
def yX3_hitsOf : MethodName := ⟨RX3, "hitsOf", "(LBarnacle$Tree;)I"⟩
def RX4 : String := "Barnacle$Ranking"
def TX4 : u_T := fun k => match k with
  | 0 => ("Barnacle$Ranking", "merits", "[I", true)
  | 1 => ("Barnacle$Ranking", "sizes", "[I", true)
  | _ => ("Barnacle$Ranking", "order", "[I", true)
def tyX4 : Nat → FieldType := fun k => match k with
  | 0 => .array .int
  | 1 => .array .int
  | _ => .array .int
abbrev wsX40 : List Cond := u_ws RX4 TX4 3
theorem nmX4 : ∀ a, a < 3 → ∀ b, b < 3 → a ≠ b → (TX4 a).2.1 ≠ (TX4 b).2.1 := by decide +kernel
theorem tyX4_ok : ∀ k, k < 3 → parseFieldDescriptor (TX4 k).2.2.1 = some (tyX4 k) := by decide +kernel
abbrev cX4_init : ByteArray := prog_6_method_1_code
def yX4_init : MethodName := ⟨RX4, "<init>", "()V"⟩
abbrev cX4_rank : ByteArray := prog_6_method_2_code
def yX4_rank : MethodName := ⟨RX4, "rank", "(LBarnacle$Grove;LBarnacle$Judge;)V"⟩
abbrev cX4_withRank : ByteArray := prog_6_method_3_code
def yX4_withRank : MethodName := ⟨RX4, "withRank", "(I)I"⟩
abbrev cX4_isBetter : ByteArray := prog_6_method_4_code
def yX4_isBetter : MethodName := ⟨RX4, "isBetter", "(II)Z"⟩
abbrev cX4_insert : ByteArray := prog_6_method_5_code
def yX4_insert : MethodName := ⟨RX4, "insert", "(I)V"⟩
def RX5 : String := "Barnacle$Reckoner"
def TX5 : u_T := fun k => match k with
  | 0 => ("Barnacle$Reckoner", "inputs", "[I", true)
  | _ => ("Barnacle$Reckoner", "results", "[I", true)
def tyX5 : Nat → FieldType := fun k => match k with
  | 0 => .array .int
  | _ => .array .int
abbrev wsX50 : List Cond := u_ws RX5 TX5 2
theorem nmX5 : ∀ a, a < 2 → ∀ b, b < 2 → a ≠ b → (TX5 a).2.1 ≠ (TX5 b).2.1 := by decide +kernel
theorem tyX5_ok : ∀ k, k < 2 → parseFieldDescriptor (TX5 k).2.2.1 = some (tyX5 k) := by decide +kernel
abbrev cX5_init : ByteArray := prog_7_method_1_code
def yX5_init : MethodName := ⟨RX5, "<init>", "()V"⟩
abbrev cX5_setInputs : ByteArray := prog_7_method_2_code
def yX5_setInputs : MethodName := ⟨RX5, "setInputs", "(III)V"⟩
abbrev cX5_resultOf : ByteArray := prog_7_method_3_code
def yX5_resultOf : MethodName := ⟨RX5, "resultOf", "(LBarnacle$Tree;I)I"⟩
abbrev cX5_pairResult : ByteArray := prog_7_method_4_code
def yX5_pairResult : MethodName := ⟨RX5, "pairResult", "(III)I"⟩
abbrev cX5_limited : ByteArray := prog_7_method_5_code
def yX5_limited : MethodName := ⟨RX5, "limited", "(I)I"⟩
def RX6 : String := "Barnacle$Simplifier"
def TX6 : u_T := fun k => match k with
  | _ => ("Barnacle$Simplifier", "reckoner", "LBarnacle$Reckoner;", true)
def tyX6 : Nat → FieldType := fun k => match k with
  | _ => .object "Barnacle$Reckoner"
abbrev wsX60 : List Cond := u_ws RX6 TX6 1
theorem nmX6 : ∀ a, a < 1 → ∀ b, b < 1 → a ≠ b → (TX6 a).2.1 ≠ (TX6 b).2.1 := by decide +kernel
theorem tyX6_ok : ∀ k, k < 1 → parseFieldDescriptor (TX6 k).2.2.1 = some (tyX6 k) := by decide +kernel
abbrev cX6_init : ByteArray := prog_8_method_1_code
def yX6_init : MethodName := ⟨RX6, "<init>", "()V"⟩
abbrev cX6_finish : ByteArray := prog_8_method_2_code
def yX6_finish : MethodName := ⟨RX6, "finish", "(LBarnacle$Tree;)V"⟩
abbrev cX6_changeAt : ByteArray := prog_8_method_3_code
def yX6_changeAt : MethodName := ⟨RX6, "changeAt", "(LBarnacle$Tree;I)Z"⟩
abbrev cX6_isFoldable : ByteArray := prog_8_method_4_code
def yX6_isFoldable : MethodName := ⟨RX6, "isFoldable", "(LBarnacle$Tree;I)Z"⟩
abbrev cX6_partThatStays : ByteArray := prog_8_method_5_code
def yX6_partThatStays : MethodName := ⟨RX6, "partThatStays", "(LBarnacle$Tree;I)I"⟩
abbrev cX6_isNothing : ByteArray := prog_8_method_6_code
def yX6_isNothing : MethodName := ⟨RX6, "isNothing", "(LBarnacle$Tree;I)Z"⟩
def RX7 : String := "Barnacle$Sketch"
def TX7 : u_T := fun k => match k with
  | 0 => ("Barnacle$Sketch", "row", "LBarnacle$Tree;", true)
  | 1 => ("Barnacle$Sketch", "needs", "[I", true)
  | 2 => ("Barnacle$Sketch", "levels", "[I", true)
  | 3 => ("Barnacle$Sketch", "missing", "I", false)
  | _ => ("Barnacle$Sketch", "least", "I", false)
def tyX7 : Nat → FieldType := fun k => match k with
  | 0 => .object "Barnacle$Tree"
  | 1 => .array .int
  | 2 => .array .int
  | 3 => .int
  | _ => .int
abbrev wsX70 : List Cond := u_ws RX7 TX7 5
theorem nmX7 : ∀ a, a < 5 → ∀ b, b < 5 → a ≠ b → (TX7 a).2.1 ≠ (TX7 b).2.1 := by decide +kernel
theorem tyX7_ok : ∀ k, k < 5 → parseFieldDescriptor (TX7 k).2.2.1 = some (tyX7 k) := by decide +kernel
abbrev cX7_init : ByteArray := prog_9_method_1_code
def yX7_init : MethodName := ⟨RX7, "<init>", "()V"⟩
abbrev cX7_clear : ByteArray := prog_9_method_2_code
def yX7_clear : MethodName := ⟨RX7, "clear", "()V"⟩
abbrev cX7_accepts : ByteArray := prog_9_method_3_code
def yX7_accepts : MethodName := ⟨RX7, "accepts", "(I)Z"⟩
abbrev cX7_take : ByteArray := prog_9_method_4_code
def yX7_take : MethodName := ⟨RX7, "take", "(II)V"⟩
abbrev cX7_miss : ByteArray := prog_9_method_5_code
def yX7_miss : MethodName := ⟨RX7, "miss", "(ZI)V"⟩
abbrev cX7_needOf : ByteArray := prog_9_method_6_code
def yX7_needOf : MethodName := ⟨RX7, "needOf", "(Z)I"⟩
def RX8 : String := "Barnacle$Tree"
def TX8 : u_T := fun k => match k with
  | 0 => ("Barnacle$Tree", "codes", "[I", true)
  | 1 => ("Barnacle$Tree", "values", "[I", true)
  | 2 => ("Barnacle$Tree", "spans", "[I", true)
  | 3 => ("Barnacle$Tree", "heights", "[I", true)
  | 4 => ("Barnacle$Tree", "nodes", "I", false)
  | _ => ("Barnacle$Tree", "levels", "I", false)
def tyX8 : Nat → FieldType := fun k => match k with
  | 0 => .array .int
  | 1 => .array .int
  | 2 => .array .int
  | 3 => .array .int
  | 4 => .int
  | _ => .int
abbrev wsX80 : List Cond := u_ws RX8 TX8 6
theorem nmX8 : ∀ a, a < 6 → ∀ b, b < 6 → a ≠ b → (TX8 a).2.1 ≠ (TX8 b).2.1 := by decide +kernel
theorem tyX8_ok : ∀ k, k < 6 → parseFieldDescriptor (TX8 k).2.2.1 = some (tyX8 k) := by decide +kernel
abbrev cX8_init : ByteArray := prog_10_method_1_code
def yX8_init : MethodName := ⟨RX8, "<init>", "()V"⟩
abbrev cX8_code : ByteArray := prog_10_method_2_code
def yX8_code : MethodName := ⟨RX8, "code", "(I)I"⟩
abbrev cX8_value : ByteArray := prog_10_method_3_code
def yX8_value : MethodName := ⟨RX8, "value", "(I)I"⟩
abbrev cX8_span : ByteArray := prog_10_method_4_code
def yX8_span : MethodName := ⟨RX8, "span", "(I)I"⟩
abbrev cX8_isNumber : ByteArray := prog_10_method_5_code
def yX8_isNumber : MethodName := ⟨RX8, "isNumber", "(I)Z"⟩
abbrev cX8_isConstant : ByteArray := prog_10_method_6_code
def yX8_isConstant : MethodName := ⟨RX8, "isConstant", "(II)Z"⟩
abbrev cX8_behind : ByteArray := prog_10_method_7_code
def yX8_behind : MethodName := ⟨RX8, "behind", "(I)I"⟩
abbrev cX8_placeAbove : ByteArray := prog_10_method_8_code
def yX8_placeAbove : MethodName := ⟨RX8, "placeAbove", "(I)I"⟩
abbrev cX8_hasInput : ByteArray := prog_10_method_9_code
def yX8_hasInput : MethodName := ⟨RX8, "hasInput", "(I)Z"⟩
abbrev cX8_sameParts : ByteArray := prog_10_method_10_code
def yX8_sameParts : MethodName := ⟨RX8, "sameParts", "(II)Z"⟩
abbrev cX8_sameNodes : ByteArray := prog_10_method_11_code
def yX8_sameNodes : MethodName := ⟨RX8, "sameNodes", "(LBarnacle$Tree;)I"⟩
abbrev cX8_countOfType : ByteArray := prog_10_method_12_code
def yX8_countOfType : MethodName := ⟨RX8, "countOfType", "(Z)I"⟩
abbrev cX8_placeOfType : ByteArray := prog_10_method_13_code
def yX8_placeOfType : MethodName := ⟨RX8, "placeOfType", "(ZI)I"⟩
abbrev cX8_write : ByteArray := prog_10_method_14_code
def yX8_write : MethodName := ⟨RX8, "write", "(III)V"⟩
abbrev cX8_append : ByteArray := prog_10_method_15_code
def yX8_append : MethodName := ⟨RX8, "append", "(II)V"⟩
abbrev cX8_copyFrom : ByteArray := prog_10_method_16_code
def yX8_copyFrom : MethodName := ⟨RX8, "copyFrom", "(LBarnacle$Tree;)V"⟩
abbrev cX8_makeConstant : ByteArray := prog_10_method_17_code
def yX8_makeConstant : MethodName := ⟨RX8, "makeConstant", "(II)V"⟩
abbrev cX8_keepPart : ByteArray := prog_10_method_18_code
def yX8_keepPart : MethodName := ⟨RX8, "keepPart", "(II)V"⟩
abbrev cX8_becomeCrossed : ByteArray := prog_10_method_19_code
def yX8_becomeCrossed : MethodName := ⟨RX8, "becomeCrossed", "(LBarnacle$Tree;ILBarnacle$Tree;I)Z"⟩
abbrev cX8_appendFrom : ByteArray := prog_10_method_20_code
def yX8_appendFrom : MethodName := ⟨RX8, "appendFrom", "(LBarnacle$Tree;II)V"⟩
abbrev cX8_closeGap : ByteArray := prog_10_method_21_code
def yX8_closeGap : MethodName := ⟨RX8, "closeGap", "(II)V"⟩
abbrev cX8_measure : ByteArray := prog_10_method_22_code
def yX8_measure : MethodName := ⟨RX8, "measure", "()V"⟩
def RX9 : String := "Barnacle"
def TX9 : u_T := fun k => match k with
  | 0 => ("Barnacle", "sketch", "LBarnacle$Sketch;", true)
  | 1 => ("Barnacle", "judge", "LBarnacle$Judge;", true)
  | 2 => ("Barnacle", "ranking", "LBarnacle$Ranking;", true)
  | 3 => ("Barnacle", "breeder", "LBarnacle$Breeder;", true)
  | 4 => ("Barnacle", "simplifier", "LBarnacle$Simplifier;", true)
  | 5 => ("Barnacle", "reckoner", "LBarnacle$Reckoner;", true)
  | 6 => ("Barnacle", "grove", "LBarnacle$Grove;", true)
  | 7 => ("Barnacle", "trialGrove", "LBarnacle$Grove;", true)
  | _ => ("Barnacle", "trialTree", "LBarnacle$Tree;", true)
def tyX9 : Nat → FieldType := fun k => match k with
  | 0 => .object "Barnacle$Sketch"
  | 1 => .object "Barnacle$Judge"
  | 2 => .object "Barnacle$Ranking"
  | 3 => .object "Barnacle$Breeder"
  | 4 => .object "Barnacle$Simplifier"
  | 5 => .object "Barnacle$Reckoner"
  | 6 => .object "Barnacle$Grove"
  | 7 => .object "Barnacle$Grove"
  | _ => .object "Barnacle$Tree"
abbrev wsX90 : List Cond := u_ws RX9 TX9 9
theorem nmX9 : ∀ a, a < 9 → ∀ b, b < 9 → a ≠ b → (TX9 a).2.1 ≠ (TX9 b).2.1 := by decide +kernel
theorem tyX9_ok : ∀ k, k < 9 → parseFieldDescriptor (TX9 k).2.2.1 = some (tyX9 k) := by decide +kernel
abbrev cX9_init : ByteArray := prog_1_method_1_code
def yX9_init : MethodName := ⟨RX9, "<init>", "()V"⟩
abbrev cX9_sketch : ByteArray := prog_1_method_2_code
def yX9_sketch : MethodName := ⟨RX9, "sketch", "(II)I"⟩
abbrev cX9_erase : ByteArray := prog_1_method_3_code
def yX9_erase : MethodName := ⟨RX9, "erase", "()I"⟩
abbrev cX9_plant : ByteArray := prog_1_method_4_code
def yX9_plant : MethodName := ⟨RX9, "plant", "()I"⟩
abbrev cX9_fell : ByteArray := prog_1_method_5_code
def yX9_fell : MethodName := ⟨RX9, "fell", "(I)I"⟩
abbrev cX9_addCase : ByteArray := prog_1_method_6_code
def yX9_addCase : MethodName := ⟨RX9, "addCase", "(IIII)I"⟩
abbrev cX9_setWay : ByteArray := prog_1_method_7_code
def yX9_setWay : MethodName := ⟨RX9, "setWay", "(II)I"⟩
abbrev cX9_cross : ByteArray := prog_1_method_8_code
def yX9_cross : MethodName := ⟨RX9, "cross", "(IIII)I"⟩
abbrev cX9_hoist : ByteArray := prog_1_method_9_code
def yX9_hoist : MethodName := ⟨RX9, "hoist", "(II)I"⟩
abbrev cX9_recode : ByteArray := prog_1_method_10_code
def yX9_recode : MethodName := ⟨RX9, "recode", "(IIII)I"⟩
abbrev cX9_wither : ByteArray := prog_1_method_11_code
def yX9_wither : MethodName := ⟨RX9, "wither", "(III)I"⟩
abbrev cX9_simplify : ByteArray := prog_1_method_12_code
def yX9_simplify : MethodName := ⟨RX9, "simplify", "(I)I"⟩
abbrev cX9_setRates : ByteArray := prog_1_method_13_code
def yX9_setRates : MethodName := ⟨RX9, "setRates", "(III)I"⟩
abbrev cX9_setChoosing : ByteArray := prog_1_method_14_code
def yX9_setChoosing : MethodName := ⟨RX9, "setChoosing", "(II)I"⟩
abbrev cX9_setLuck : ByteArray := prog_1_method_15_code
def yX9_setLuck : MethodName := ⟨RX9, "setLuck", "(I)I"⟩
abbrev cX9_tell : ByteArray := prog_1_method_16_code
def yX9_tell : MethodName := ⟨RX9, "tell", "(I)I"⟩
abbrev cX9_breed : ByteArray := prog_1_method_17_code
def yX9_breed : MethodName := ⟨RX9, "breed", "(I)I"⟩
abbrev cX9_sketched : ByteArray := prog_1_method_18_code
def yX9_sketched : MethodName := ⟨RX9, "sketched", "()I"⟩
abbrev cX9_trees : ByteArray := prog_1_method_19_code
def yX9_trees : MethodName := ⟨RX9, "trees", "()I"⟩
abbrev cX9_cases : ByteArray := prog_1_method_20_code
def yX9_cases : MethodName := ⟨RX9, "cases", "()I"⟩
abbrev cX9_size : ByteArray := prog_1_method_21_code
def yX9_size : MethodName := ⟨RX9, "size", "(I)I"⟩
abbrev cX9_depth : ByteArray := prog_1_method_22_code
def yX9_depth : MethodName := ⟨RX9, "depth", "(I)I"⟩
abbrev cX9_codeAt : ByteArray := prog_1_method_23_code
def yX9_codeAt : MethodName := ⟨RX9, "codeAt", "(II)I"⟩
abbrev cX9_valueAt : ByteArray := prog_1_method_24_code
def yX9_valueAt : MethodName := ⟨RX9, "valueAt", "(II)I"⟩
abbrev cX9_sizeAt : ByteArray := prog_1_method_25_code
def yX9_sizeAt : MethodName := ⟨RX9, "sizeAt", "(II)I"⟩
abbrev cX9_above : ByteArray := prog_1_method_26_code
def yX9_above : MethodName := ⟨RX9, "above", "(II)I"⟩
abbrev cX9_gives : ByteArray := prog_1_method_27_code
def yX9_gives : MethodName := ⟨RX9, "gives", "(IIII)I"⟩
abbrev cX9_error : ByteArray := prog_1_method_28_code
def yX9_error : MethodName := ⟨RX9, "error", "(I)I"⟩
abbrev cX9_merit : ByteArray := prog_1_method_29_code
def yX9_merit : MethodName := ⟨RX9, "merit", "(I)I"⟩
abbrev cX9_hits : ByteArray := prog_1_method_30_code
def yX9_hits : MethodName := ⟨RX9, "hits", "(I)I"⟩
abbrev cX9_ranked : ByteArray := prog_1_method_31_code
def yX9_ranked : MethodName := ⟨RX9, "ranked", "(I)I"⟩
abbrev cX9_different : ByteArray := prog_1_method_32_code
def yX9_different : MethodName := ⟨RX9, "different", "()I"⟩
abbrev cX9_alike : ByteArray := prog_1_method_33_code
def yX9_alike : MethodName := ⟨RX9, "alike", "(II)I"⟩
abbrev cX9_meanSize : ByteArray := prog_1_method_34_code
def yX9_meanSize : MethodName := ⟨RX9, "meanSize", "()D"⟩
abbrev cX9_generations : ByteArray := prog_1_method_35_code
def yX9_generations : MethodName := ⟨RX9, "generations", "()I"⟩
abbrev cX9_misses : ByteArray := prog_1_method_36_code
def yX9_misses : MethodName := ⟨RX9, "misses", "()I"⟩
abbrev cX9_luck : ByteArray := prog_1_method_37_code
def yX9_luck : MethodName := ⟨RX9, "luck", "()I"⟩
abbrev cX9_waiting : ByteArray := prog_1_method_38_code
def yX9_waiting : MethodName := ⟨RX9, "waiting", "()I"⟩
abbrev cX9_errorCrossed : ByteArray := prog_1_method_39_code
def yX9_errorCrossed : MethodName := ⟨RX9, "errorCrossed", "(IIII)I"⟩
abbrev cX9_bestHoist : ByteArray := prog_1_method_40_code
def yX9_bestHoist : MethodName := ⟨RX9, "bestHoist", "(I)I"⟩
abbrev cX9_errorBred : ByteArray := prog_1_method_41_code
def yX9_errorBred : MethodName := ⟨RX9, "errorBred", "(I)I"⟩
abbrev cX9_digest : ByteArray := prog_1_method_42_code
def yX9_digest : MethodName := ⟨RX9, "digest", "()J"⟩
abbrev cX9_digestWith : ByteArray := prog_1_method_43_code
def yX9_digestWith : MethodName := ⟨RX9, "digestWith", "(JLBarnacle$Tree;)J"⟩
abbrev cX9_requireTree : ByteArray := prog_1_method_44_code
def yX9_requireTree : MethodName := ⟨RX9, "requireTree", "(I)LBarnacle$Tree;"⟩
abbrev cX9_requirePlace : ByteArray := prog_1_method_45_code
def yX9_requirePlace : MethodName := ⟨RX9, "requirePlace", "(II)LBarnacle$Tree;"⟩
abbrev cX9_requireBreeding : ByteArray := prog_1_method_46_code
def yX9_requireBreeding : MethodName := ⟨RX9, "requireBreeding", "(I)V"⟩
abbrev cX9_requireNode : ByteArray := prog_1_method_47_code
def yX9_requireNode : MethodName := ⟨RX9, "requireNode", "(II)V"⟩
abbrev cX9_requireInputs : ByteArray := prog_1_method_48_code
def yX9_requireInputs : MethodName := ⟨RX9, "requireInputs", "(III)V"⟩
abbrev cX9_isInput : ByteArray := prog_1_method_49_code
def yX9_isInput : MethodName := ⟨RX9, "isInput", "(I)Z"⟩
abbrev cX9_isRate : ByteArray := prog_1_method_50_code
def yX9_isRate : MethodName := ⟨RX9, "isRate", "(I)Z"⟩
abbrev cX9_isNumberPart : ByteArray := prog_1_method_51_code
def yX9_isNumberPart : MethodName := ⟨RX9, "isNumberPart", "(II)Z"⟩
abbrev cX9_at : ByteArray := prog_1_method_52_code
def yX9_at : MethodName := ⟨RX9, "at", "([II)I"⟩
abbrev cX9_put : ByteArray := prog_1_method_53_code
def yX9_put : MethodName := ⟨RX9, "put", "([III)V"⟩
def RX10 : String := "BarnacleModel"
def TX10 : u_T := fun k => match k with
  | 0 => ("BarnacleModel", "row", "[I", true)
  | 1 => ("BarnacleModel", "thrown", "I", false)
  | 2 => ("BarnacleModel", "sketch", "[I", true)
  | 3 => ("BarnacleModel", "sketched", "I", false)
  | 4 => ("BarnacleModel", "trees", "I", false)
  | 5 => ("BarnacleModel", "grove", "[[I", false)
  | 6 => ("BarnacleModel", "cases", "I", false)
  | 7 => ("BarnacleModel", "inputs", "[I", true)
  | 8 => ("BarnacleModel", "due", "[I", true)
  | 9 => ("BarnacleModel", "way", "I", false)
  | 10 => ("BarnacleModel", "weight", "I", false)
  | 11 => ("BarnacleModel", "waiting", "I", false)
  | 12 => ("BarnacleModel", "told", "[I", false)
  | 13 => ("BarnacleModel", "luck", "I", false)
  | 14 => ("BarnacleModel", "crossing", "I", false)
  | 15 => ("BarnacleModel", "changing", "I", false)
  | 16 => ("BarnacleModel", "hoisting", "I", false)
  | 17 => ("BarnacleModel", "tournament", "I", false)
  | 18 => ("BarnacleModel", "elite", "I", false)
  | 19 => ("BarnacleModel", "generations", "I", false)
  | _ => ("BarnacleModel", "misses", "I", false)
def tyX10 : Nat → FieldType := fun k => match k with
  | 0 => .array .int
  | 1 => .int
  | 2 => .array .int
  | 3 => .int
  | 4 => .int
  | 5 => .array (.array .int)
  | 6 => .int
  | 7 => .array .int
  | 8 => .array .int
  | 9 => .int
  | 10 => .int
  | 11 => .int
  | 12 => .array .int
  | 13 => .int
  | 14 => .int
  | 15 => .int
  | 16 => .int
  | 17 => .int
  | 18 => .int
  | 19 => .int
  | _ => .int
abbrev wsX100 : List Cond := u_ws RX10 TX10 21
theorem nmX10 : ∀ a, a < 21 → ∀ b, b < 21 → a ≠ b → (TX10 a).2.1 ≠ (TX10 b).2.1 := by decide +kernel
theorem tyX10_ok : ∀ k, k < 21 → parseFieldDescriptor (TX10 k).2.2.1 = some (tyX10 k) := by decide +kernel
abbrev cX10_isIn : ByteArray := prog_12_method_1_code
def yX10_isIn : MethodName := ⟨RX10, "isIn", "(III)Z"⟩
abbrev cX10_node : ByteArray := prog_12_method_2_code
def yX10_node : MethodName := ⟨RX10, "node", "(II)I"⟩
abbrev cX10_codeOf : ByteArray := prog_12_method_3_code
def yX10_codeOf : MethodName := ⟨RX10, "codeOf", "(I)I"⟩
abbrev cX10_valueOf : ByteArray := prog_12_method_4_code
def yX10_valueOf : MethodName := ⟨RX10, "valueOf", "(I)I"⟩
abbrev cX10_isNumber : ByteArray := prog_12_method_5_code
def yX10_isNumber : MethodName := ⟨RX10, "isNumber", "(I)Z"⟩
abbrev cX10_beneath : ByteArray := prog_12_method_6_code
def yX10_beneath : MethodName := ⟨RX10, "beneath", "(I)Ljava/lang/String;"⟩
abbrev cX10_isSameText : ByteArray := prog_12_method_7_code
def yX10_isSameText : MethodName := ⟨RX10, "isSameText", "(Ljava/lang/String;Ljava/lang/String;)Z"⟩
abbrev cX10_isFor : ByteArray := prog_12_method_8_code
def yX10_isFor : MethodName := ⟨RX10, "isFor", "(II)Z"⟩
abbrev cX10_endOf : ByteArray := prog_12_method_9_code
def yX10_endOf : MethodName := ⟨RX10, "endOf", "([II)I"⟩
abbrev cX10_childOf : ByteArray := prog_12_method_10_code
def yX10_childOf : MethodName := ⟨RX10, "childOf", "([III)I"⟩
abbrev cX10_aboveOf : ByteArray := prog_12_method_11_code
def yX10_aboveOf : MethodName := ⟨RX10, "aboveOf", "([II)I"⟩
abbrev cX10_depthOf : ByteArray := prog_12_method_12_code
def yX10_depthOf : MethodName := ⟨RX10, "depthOf", "([I)I"⟩
abbrev cX10_isAllowed : ByteArray := prog_12_method_13_code
def yX10_isAllowed : MethodName := ⟨RX10, "isAllowed", "([I)Z"⟩
abbrev cX10_part : ByteArray := prog_12_method_14_code
def yX10_part : MethodName := ⟨RX10, "part", "([III)[I"⟩
abbrev cX10_with : ByteArray := prog_12_method_15_code
def yX10_with : MethodName := ⟨RX10, "with", "([II[I)[I"⟩
abbrev cX10_constant : ByteArray := prog_12_method_16_code
def yX10_constant : MethodName := ⟨RX10, "constant", "(I)[I"⟩
abbrev cX10_isSame : ByteArray := prog_12_method_17_code
def yX10_isSame : MethodName := ⟨RX10, "isSame", "([I[I)Z"⟩
abbrev cX10_at : ByteArray := prog_12_method_18_code
def yX10_at : MethodName := ⟨RX10, "at", "([II)[I"⟩
abbrev cX10_cut : ByteArray := prog_12_method_19_code
def yX10_cut : MethodName := ⟨RX10, "cut", "(I)I"⟩
abbrev cX10_gives : ByteArray := prog_12_method_20_code
def yX10_gives : MethodName := ⟨RX10, "gives", "([IIII)I"⟩
abbrev cX10_result : ByteArray := prog_12_method_21_code
def yX10_result : MethodName := ⟨RX10, "result", "(IIIIIIII)I"⟩
abbrev cX10_isConstant : ByteArray := prog_12_method_22_code
def yX10_isConstant : MethodName := ⟨RX10, "isConstant", "([II)Z"⟩
abbrev cX10_simpler : ByteArray := prog_12_method_23_code
def yX10_simpler : MethodName := ⟨RX10, "simpler", "([II)[I"⟩
abbrev cX10_simplified : ByteArray := prog_12_method_24_code
def yX10_simplified : MethodName := ⟨RX10, "simplified", "([I)[I"⟩
abbrev cX10_init : ByteArray := prog_12_method_25_code
def yX10_init : MethodName := ⟨RX10, "<init>", "()V"⟩
abbrev cX10_thrown : ByteArray := prog_12_method_26_code
def yX10_thrown : MethodName := ⟨RX10, "thrown", "()I"⟩
abbrev cX10_no : ByteArray := prog_12_method_27_code
def yX10_no : MethodName := ⟨RX10, "no", "(I)I"⟩
abbrev cX10_ok : ByteArray := prog_12_method_28_code
def yX10_ok : MethodName := ⟨RX10, "ok", "(I)I"⟩
abbrev cX10_isTree : ByteArray := prog_12_method_29_code
def yX10_isTree : MethodName := ⟨RX10, "isTree", "(I)Z"⟩
abbrev cX10_isPlace : ByteArray := prog_12_method_30_code
def yX10_isPlace : MethodName := ⟨RX10, "isPlace", "(II)Z"⟩
abbrev cX10_isCode : ByteArray := prog_12_method_31_code
def yX10_isCode : MethodName := ⟨RX10, "isCode", "(II)Z"⟩
abbrev cX10_nodeOf : ByteArray := prog_12_method_32_code
def yX10_nodeOf : MethodName := ⟨RX10, "nodeOf", "(II)I"⟩
abbrev cX10_missing : ByteArray := prog_12_method_33_code
def yX10_missing : MethodName := ⟨RX10, "missing", "([II[Z[I)I"⟩
abbrev cX10_sketch : ByteArray := prog_12_method_34_code
def yX10_sketch : MethodName := ⟨RX10, "sketch", "(II)I"⟩
abbrev cX10_erase : ByteArray := prog_12_method_35_code
def yX10_erase : MethodName := ⟨RX10, "erase", "()I"⟩
abbrev cX10_plant : ByteArray := prog_12_method_36_code
def yX10_plant : MethodName := ⟨RX10, "plant", "()I"⟩
abbrev cX10_fell : ByteArray := prog_12_method_37_code
def yX10_fell : MethodName := ⟨RX10, "fell", "(I)I"⟩
abbrev cX10_addCase : ByteArray := prog_12_method_38_code
def yX10_addCase : MethodName := ⟨RX10, "addCase", "(IIII)I"⟩
abbrev cX10_setWay : ByteArray := prog_12_method_39_code
def yX10_setWay : MethodName := ⟨RX10, "setWay", "(II)I"⟩
abbrev cX10_crossed : ByteArray := prog_12_method_40_code
def yX10_crossed : MethodName := ⟨RX10, "crossed", "([II[II)[I"⟩
abbrev cX10_become : ByteArray := prog_12_method_41_code
def yX10_become : MethodName := ⟨RX10, "become", "(I[I)I"⟩
abbrev cX10_cross : ByteArray := prog_12_method_42_code
def yX10_cross : MethodName := ⟨RX10, "cross", "(IIII)I"⟩
abbrev cX10_hoisted : ByteArray := prog_12_method_43_code
def yX10_hoisted : MethodName := ⟨RX10, "hoisted", "([II)[I"⟩
abbrev cX10_hoist : ByteArray := prog_12_method_44_code
def yX10_hoist : MethodName := ⟨RX10, "hoist", "(II)I"⟩
abbrev cX10_recode : ByteArray := prog_12_method_45_code
def yX10_recode : MethodName := ⟨RX10, "recode", "(IIII)I"⟩
abbrev cX10_wither : ByteArray := prog_12_method_46_code
def yX10_wither : MethodName := ⟨RX10, "wither", "(III)I"⟩
abbrev cX10_simplify : ByteArray := prog_12_method_47_code
def yX10_simplify : MethodName := ⟨RX10, "simplify", "(I)I"⟩
abbrev cX10_setRates : ByteArray := prog_12_method_48_code
def yX10_setRates : MethodName := ⟨RX10, "setRates", "(III)I"⟩
abbrev cX10_setChoosing : ByteArray := prog_12_method_49_code
def yX10_setChoosing : MethodName := ⟨RX10, "setChoosing", "(II)I"⟩
abbrev cX10_setLuck : ByteArray := prog_12_method_50_code
def yX10_setLuck : MethodName := ⟨RX10, "setLuck", "(I)I"⟩
abbrev cX10_tell : ByteArray := prog_12_method_51_code
def yX10_tell : MethodName := ⟨RX10, "tell", "(I)I"⟩
abbrev cX10_draw : ByteArray := prog_12_method_52_code
def yX10_draw : MethodName := ⟨RX10, "draw", "(I)I"⟩
abbrev cX10_errorOf : ByteArray := prog_12_method_53_code
def yX10_errorOf : MethodName := ⟨RX10, "errorOf", "([I)I"⟩
abbrev cX10_meritOf : ByteArray := prog_12_method_54_code
def yX10_meritOf : MethodName := ⟨RX10, "meritOf", "([I)I"⟩
abbrev cX10_isBetter : ByteArray := prog_12_method_55_code
def yX10_isBetter : MethodName := ⟨RX10, "isBetter", "(II[I)Z"⟩
abbrev cX10_ranks : ByteArray := prog_12_method_56_code
def yX10_ranks : MethodName := ⟨RX10, "ranks", "()[I"⟩
abbrev cX10_choose : ByteArray := prog_12_method_57_code
def yX10_choose : MethodName := ⟨RX10, "choose", "([I)I"⟩
abbrev cX10_drawPlace : ByteArray := prog_12_method_58_code
def yX10_drawPlace : MethodName := ⟨RX10, "drawPlace", "([IZ)I"⟩
abbrev cX10_changed : ByteArray := prog_12_method_59_code
def yX10_changed : MethodName := ⟨RX10, "changed", "([I)[I"⟩
abbrev cX10_bred : ByteArray := prog_12_method_60_code
def yX10_bred : MethodName := ⟨RX10, "bred", "(I[I[I)[I"⟩
abbrev cX10_generation : ByteArray := prog_12_method_61_code
def yX10_generation : MethodName := ⟨RX10, "generation", "()V"⟩
abbrev cX10_breedNow : ByteArray := prog_12_method_62_code
def yX10_breedNow : MethodName := ⟨RX10, "breedNow", "(I)I"⟩
abbrev cX10_breed : ByteArray := prog_12_method_63_code
def yX10_breed : MethodName := ⟨RX10, "breed", "(I)I"⟩
abbrev cX10_sketched : ByteArray := prog_12_method_64_code
def yX10_sketched : MethodName := ⟨RX10, "sketched", "()I"⟩
abbrev cX10_trees : ByteArray := prog_12_method_65_code
def yX10_trees : MethodName := ⟨RX10, "trees", "()I"⟩
abbrev cX10_cases : ByteArray := prog_12_method_66_code
def yX10_cases : MethodName := ⟨RX10, "cases", "()I"⟩
abbrev cX10_size : ByteArray := prog_12_method_67_code
def yX10_size : MethodName := ⟨RX10, "size", "(I)I"⟩
abbrev cX10_depth : ByteArray := prog_12_method_68_code
def yX10_depth : MethodName := ⟨RX10, "depth", "(I)I"⟩
abbrev cX10_codeAt : ByteArray := prog_12_method_69_code
def yX10_codeAt : MethodName := ⟨RX10, "codeAt", "(II)I"⟩
abbrev cX10_valueAt : ByteArray := prog_12_method_70_code
def yX10_valueAt : MethodName := ⟨RX10, "valueAt", "(II)I"⟩
abbrev cX10_sizeAt : ByteArray := prog_12_method_71_code
def yX10_sizeAt : MethodName := ⟨RX10, "sizeAt", "(II)I"⟩
abbrev cX10_above : ByteArray := prog_12_method_72_code
def yX10_above : MethodName := ⟨RX10, "above", "(II)I"⟩
abbrev cX10_gives_ : ByteArray := prog_12_method_73_code
def yX10_gives_ : MethodName := ⟨RX10, "gives", "(IIII)I"⟩
abbrev cX10_error : ByteArray := prog_12_method_74_code
def yX10_error : MethodName := ⟨RX10, "error", "(I)I"⟩
abbrev cX10_merit : ByteArray := prog_12_method_75_code
def yX10_merit : MethodName := ⟨RX10, "merit", "(I)I"⟩
abbrev cX10_hitsOf : ByteArray := prog_12_method_76_code
def yX10_hitsOf : MethodName := ⟨RX10, "hitsOf", "([I)I"⟩
abbrev cX10_hits : ByteArray := prog_12_method_77_code
def yX10_hits : MethodName := ⟨RX10, "hits", "(I)I"⟩
abbrev cX10_ranked : ByteArray := prog_12_method_78_code
def yX10_ranked : MethodName := ⟨RX10, "ranked", "(I)I"⟩
abbrev cX10_differentNow : ByteArray := prog_12_method_79_code
def yX10_differentNow : MethodName := ⟨RX10, "differentNow", "()I"⟩
abbrev cX10_different : ByteArray := prog_12_method_80_code
def yX10_different : MethodName := ⟨RX10, "different", "()I"⟩
abbrev cX10_alike : ByteArray := prog_12_method_81_code
def yX10_alike : MethodName := ⟨RX10, "alike", "(II)I"⟩
abbrev cX10_meanSize : ByteArray := prog_12_method_82_code
def yX10_meanSize : MethodName := ⟨RX10, "meanSize", "()D"⟩
abbrev cX10_generations : ByteArray := prog_12_method_83_code
def yX10_generations : MethodName := ⟨RX10, "generations", "()I"⟩
abbrev cX10_misses : ByteArray := prog_12_method_84_code
def yX10_misses : MethodName := ⟨RX10, "misses", "()I"⟩
abbrev cX10_luck : ByteArray := prog_12_method_85_code
def yX10_luck : MethodName := ⟨RX10, "luck", "()I"⟩
abbrev cX10_waiting : ByteArray := prog_12_method_86_code
def yX10_waiting : MethodName := ⟨RX10, "waiting", "()I"⟩
abbrev cX10_errorCrossed : ByteArray := prog_12_method_87_code
def yX10_errorCrossed : MethodName := ⟨RX10, "errorCrossed", "(IIII)I"⟩
abbrev cX10_bestHoist : ByteArray := prog_12_method_88_code
def yX10_bestHoist : MethodName := ⟨RX10, "bestHoist", "(I)I"⟩
abbrev cX10_errorBred : ByteArray := prog_12_method_89_code
def yX10_errorBred : MethodName := ⟨RX10, "errorBred", "(I)I"⟩
abbrev cX10_digest : ByteArray := prog_12_method_90_code
def yX10_digest : MethodName := ⟨RX10, "digest", "()J"⟩
def RJ9 : String := "java/lang/Math"
def TJ9 : u_T := fun k => match k with
  | _ => ("", "", "", false)
def tyJ9 : Nat → FieldType := fun k => match k with
  | _ => .int
abbrev cJ9_abs_0f7a4 : ByteArray := prog_17_method_59_code
def yJ9_abs_0f7a4 : MethodName := ⟨RJ9, "abs", "(I)I"⟩
abbrev cJ9_max_7cf53 : ByteArray := prog_17_method_65_code
def yJ9_max_7cf53 : MethodName := ⟨RJ9, "max", "(II)I"⟩
abbrev cJ9_min_7cf53 : ByteArray := prog_17_method_69_code
def yJ9_min_7cf53 : MethodName := ⟨RJ9, "min", "(II)I"⟩
def RJ0 : String := "java/lang/String"
def TJ0 : u_T := fun k => match k with
  | _ => ("", "", "", false)
def tyJ0 : Nat → FieldType := fun k => match k with
  | _ => .int
abbrev cJ0_length_8abf5 : ByteArray := prog_19_method_54_code
def yJ0_length_8abf5 : MethodName := ⟨RJ0, "length", "()I"⟩
abbrev cJ0_charAt_5068e : ByteArray := prog_19_method_56_code
def yJ0_charAt_5068e : MethodName := ⟨RJ0, "charAt", "(I)C"⟩
abbrev cJ0_coder_7d493 : ByteArray := prog_19_method_152_code
def yJ0_coder_7d493 : MethodName := ⟨RJ0, "coder", "()B"⟩
abbrev cJ0_isLatin1_aae02 : ByteArray := prog_19_method_154_code
def yJ0_isLatin1_aae02 : MethodName := ⟨RJ0, "isLatin1", "()Z"⟩
abbrev cJ0_checkIndex_df160 : ByteArray := prog_19_method_155_code
def yJ0_checkIndex_df160 : MethodName := ⟨RJ0, "checkIndex", "(II)V"⟩
def RJ1 : String := "java/lang/StringLatin1"
def TJ1 : u_T := fun k => match k with
  | _ => ("", "", "", false)
def tyJ1 : Nat → FieldType := fun k => match k with
  | _ => .int
abbrev cJ1_charAt_3b067 : ByteArray := prog_20_method_2_code
def yJ1_charAt_3b067 : MethodName := ⟨RJ1, "charAt", "([BI)C"⟩
def RJ2 : String := "java/lang/StringUTF16"
def TJ2 : u_T := fun k => match k with
  | _ => ("", "", "", false)
def tyJ2 : Nat → FieldType := fun k => match k with
  | _ => .int
abbrev cJ2_getChar_3b067 : ByteArray := prog_21_method_5_code
def yJ2_getChar_3b067 : MethodName := ⟨RJ2, "getChar", "([BI)C"⟩
abbrev cJ2_length_9d52b : ByteArray := prog_21_method_6_code
def yJ2_length_9d52b : MethodName := ⟨RJ2, "length", "([B)I"⟩
abbrev cJ2_charAt_3b067 : ByteArray := prog_21_method_83_code
def yJ2_charAt_3b067 : MethodName := ⟨RJ2, "charAt", "([BI)C"⟩
abbrev cJ2_checkIndex_2214a : ByteArray := prog_21_method_91_code
def yJ2_checkIndex_2214a : MethodName := ⟨RJ2, "checkIndex", "(I[B)V"⟩
def RJ10 : String := "java/lang/System"
def TJ10 : u_T := fun k => match k with
  | _ => ("", "", "", false)
def tyJ10 : Nat → FieldType := fun k => match k with
  | _ => .int
def RJ3 : String := "jdk/internal/util/Preconditions"
def TJ3 : u_T := fun k => match k with
  | _ => ("", "", "", false)
def tyJ3 : Nat → FieldType := fun k => match k with
  | _ => .int
abbrev cJ3_checkIndex_8e157 : ByteArray := prog_24_method_11_code
def yJ3_checkIndex_8e157 : MethodName := ⟨RJ3, "checkIndex", "(IILjava/util/function/BiFunction;)I"⟩
def RL : String := "BarnacleLaw"
abbrev cL_sketch : ByteArray := method_3_code
def yL_sketch : MethodName := ⟨RL, "sketch", "(LBarnacle;II[J)I"⟩
abbrev cL_plant : ByteArray := method_4_code
def yL_plant : MethodName := ⟨RL, "plant", "(LBarnacle;[J)I"⟩
abbrev cL_fell : ByteArray := method_5_code
def yL_fell : MethodName := ⟨RL, "fell", "(LBarnacle;I[J)I"⟩
abbrev cL_addCase : ByteArray := method_6_code
def yL_addCase : MethodName := ⟨RL, "addCase", "(LBarnacle;IIII[J)I"⟩
abbrev cL_setWay : ByteArray := method_7_code
def yL_setWay : MethodName := ⟨RL, "setWay", "(LBarnacle;II[J)I"⟩
abbrev cL_cross : ByteArray := method_8_code
def yL_cross : MethodName := ⟨RL, "cross", "(LBarnacle;IIII[J)I"⟩
abbrev cL_hoist : ByteArray := method_9_code
def yL_hoist : MethodName := ⟨RL, "hoist", "(LBarnacle;II[J)I"⟩
abbrev cL_recode : ByteArray := method_10_code
def yL_recode : MethodName := ⟨RL, "recode", "(LBarnacle;IIII[J)I"⟩
abbrev cL_wither : ByteArray := method_11_code
def yL_wither : MethodName := ⟨RL, "wither", "(LBarnacle;III[J)I"⟩
abbrev cL_simplify : ByteArray := method_12_code
def yL_simplify : MethodName := ⟨RL, "simplify", "(LBarnacle;I[J)I"⟩
abbrev cL_setRates : ByteArray := method_13_code
def yL_setRates : MethodName := ⟨RL, "setRates", "(LBarnacle;III[J)I"⟩
abbrev cL_setChoosing : ByteArray := method_14_code
def yL_setChoosing : MethodName := ⟨RL, "setChoosing", "(LBarnacle;II[J)I"⟩
abbrev cL_setLuck : ByteArray := method_15_code
def yL_setLuck : MethodName := ⟨RL, "setLuck", "(LBarnacle;I[J)I"⟩
abbrev cL_tell : ByteArray := method_16_code
def yL_tell : MethodName := ⟨RL, "tell", "(LBarnacle;I[J)I"⟩
abbrev cL_breed : ByteArray := method_17_code
def yL_breed : MethodName := ⟨RL, "breed", "(LBarnacle;I[J)I"⟩
abbrev cL_size : ByteArray := method_18_code
def yL_size : MethodName := ⟨RL, "size", "(LBarnacle;I[J)I"⟩
abbrev cL_depth : ByteArray := method_19_code
def yL_depth : MethodName := ⟨RL, "depth", "(LBarnacle;I[J)I"⟩
abbrev cL_codeAt : ByteArray := method_20_code
def yL_codeAt : MethodName := ⟨RL, "codeAt", "(LBarnacle;II[J)I"⟩
abbrev cL_valueAt : ByteArray := method_21_code
def yL_valueAt : MethodName := ⟨RL, "valueAt", "(LBarnacle;II[J)I"⟩
abbrev cL_sizeAt : ByteArray := method_22_code
def yL_sizeAt : MethodName := ⟨RL, "sizeAt", "(LBarnacle;II[J)I"⟩
abbrev cL_above : ByteArray := method_23_code
def yL_above : MethodName := ⟨RL, "above", "(LBarnacle;II[J)I"⟩
abbrev cL_gives : ByteArray := method_24_code
def yL_gives : MethodName := ⟨RL, "gives", "(LBarnacle;IIII[J)I"⟩
abbrev cL_error : ByteArray := method_25_code
def yL_error : MethodName := ⟨RL, "error", "(LBarnacle;I[J)I"⟩
abbrev cL_merit : ByteArray := method_26_code
def yL_merit : MethodName := ⟨RL, "merit", "(LBarnacle;I[J)I"⟩
abbrev cL_hits : ByteArray := method_27_code
def yL_hits : MethodName := ⟨RL, "hits", "(LBarnacle;I[J)I"⟩
abbrev cL_ranked : ByteArray := method_28_code
def yL_ranked : MethodName := ⟨RL, "ranked", "(LBarnacle;I[J)I"⟩
abbrev cL_alike : ByteArray := method_29_code
def yL_alike : MethodName := ⟨RL, "alike", "(LBarnacle;II[J)I"⟩
abbrev cL_errorCrossed : ByteArray := method_30_code
def yL_errorCrossed : MethodName := ⟨RL, "errorCrossed", "(LBarnacle;IIII[J)I"⟩
abbrev cL_bestHoist : ByteArray := method_31_code
def yL_bestHoist : MethodName := ⟨RL, "bestHoist", "(LBarnacle;I[J)I"⟩
abbrev cL_errorBred : ByteArray := method_32_code
def yL_errorBred : MethodName := ⟨RL, "errorBred", "(LBarnacle;I[J)I"⟩
abbrev cL_law : ByteArray := code
def yL_law : MethodName := ⟨RL, "law", "([I)Z"⟩
abbrev vwCl : List vw_C := [(RX0, TX0, 6), (RX1, TX1, 3), (RX2, TX2, 7), (RX3, TX3, 8), (RX4, TX4, 3), (RX5, TX5, 2), (RX6, TX6, 1), (RX7, TX7, 5), (RX8, TX8, 6), (RX9, TX9, 9), (RX10, TX10, 21)]
/-- the words of the tables that stay when entries are resolved -/
def fwOk : Cond → Bool
  | .fieldLinkNest _ _ _ _ _ _ => true
  | .methodLinkNest _ _ _ _ => true
  | .arrayOver _ => true
  | .declares _ => true
  | .castable _ _ => true
  | w => goodWord w
def fwT : List Cond := lw_tbl.filter fwOk
theorem fw_mem {i : Nat} {w : Cond} (h : lw_tbl[i]? = some w) (h2 : fwOk w = true) : w ∈ fwT := List.mem_filter.mpr ⟨List.mem_of_getElem? h, h2⟩
/-- the String constants: class, entry, text -/
def fwStr : List (String × Nat × String) := [(RX9, 309, "code is not 0 to 13"), (RX9, 311, "the value of a CONSTANT is not -99 to 99"), (RX9, 313, "the value of an INPUT is not 0 to 2"), (RX9, 78, "the NODE cannot come to the SKETCH"), (RX9, 102, "the SKETCH is no TREE, or the GROVE is full"), (RX9, 301, "there is no such TREE"), (RX9, 318, "an input is not -99 to 99"), (RX9, 122, "what is due is not -9999 to 9999"), (RX9, 128, "there are 12 CASES"), (RX9, 133, "way is not 0 to 2, or weight is not 0 to 99"), (RX9, 303, "there is no such PLACE"), (RX9, 173, "value is not -99 to 99"), (RX9, 184, "a rate is not 0 to 100, or they are more than 100 together"), (RX9, 195, "tournament is not 1 to 5, or elite is not 0 to 4"), (RX9, 203, "luck is not 0 to 9999"), (RX9, 214, "number is less than 0"), (RX9, 219, "40 numbers wait"), (RX9, 305, "generations is not 1 to 10"), (RX9, 307, "the GROVE is empty"), (RX9, 261, "there is no such rank"), (RX10, 3, ""), (RX10, 5, "nn"), (RX10, 7, "cnn"), (RX10, 9, "c"), (RX10, 11, "cc")]
theorem qu_RX0 : ∀ w ∈ wsX00, w ∈ fwT := by decide +kernel
theorem qu_RX1 : ∀ w ∈ wsX10, w ∈ fwT := by decide +kernel
theorem qu_RX2 : ∀ w ∈ wsX20, w ∈ fwT := by decide +kernel
theorem qu_RX3 : ∀ w ∈ wsX30, w ∈ fwT := by decide +kernel
theorem qu_RX4 : ∀ w ∈ wsX40, w ∈ fwT := by decide +kernel
theorem qu_RX5 : ∀ w ∈ wsX50, w ∈ fwT := by decide +kernel
theorem qu_RX6 : ∀ w ∈ wsX60, w ∈ fwT := by decide +kernel
theorem qu_RX7 : ∀ w ∈ wsX70, w ∈ fwT := by decide +kernel
theorem qu_RX8 : ∀ w ∈ wsX80, w ∈ fwT := by decide +kernel
theorem qu_RX9 : ∀ w ∈ wsX90, w ∈ fwT := by decide +kernel
theorem qu_RX10 : ∀ w ∈ wsX100, w ∈ fwT := by decide +kernel
theorem qv_yX7_miss : Cond.selects RX7 yX7_miss yX7_miss ∈ fwT := fw_mem (i := 0) (by decide +kernel) (by decide +kernel)
theorem qv_yX2_treeOf : Cond.selects RX2 yX2_treeOf yX2_treeOf ∈ fwT := fw_mem (i := 1) (by decide +kernel) (by decide +kernel)
theorem qv_yX9_digestWith : Cond.selects RX9 yX9_digestWith yX9_digestWith ∈ fwT := fw_mem (i := 2) (by decide +kernel) (by decide +kernel)
theorem qv_yX4_insert : Cond.selects RX4 yX4_insert yX4_insert ∈ fwT := fw_mem (i := 3) (by decide +kernel) (by decide +kernel)
theorem qv_yX8_appendFrom : Cond.selects RX8 yX8_appendFrom yX8_appendFrom ∈ fwT := fw_mem (i := 5) (by decide +kernel) (by decide +kernel)
theorem qv_yX8_measure : Cond.selects RX8 yX8_measure yX8_measure ∈ fwT := fw_mem (i := 6) (by decide +kernel) (by decide +kernel)
theorem qv_yX9_requireTree : Cond.selects RX9 yX9_requireTree yX9_requireTree ∈ fwT := fw_mem (i := 7) (by decide +kernel) (by decide +kernel)
theorem qv_yX9_requirePlace : Cond.selects RX9 yX9_requirePlace yX9_requirePlace ∈ fwT := fw_mem (i := 8) (by decide +kernel) (by decide +kernel)
theorem qv_yX8_closeGap : Cond.selects RX8 yX8_closeGap yX8_closeGap ∈ fwT := fw_mem (i := 9) (by decide +kernel) (by decide +kernel)
theorem qv_yX6_changeAt : Cond.selects RX6 yX6_changeAt yX6_changeAt ∈ fwT := fw_mem (i := 10) (by decide +kernel) (by decide +kernel)
theorem qv_yX9_requireBreeding : Cond.selects RX9 yX9_requireBreeding yX9_requireBreeding ∈ fwT := fw_mem (i := 11) (by decide +kernel) (by decide +kernel)
theorem qv_yX0_makeYoung : Cond.selects RX0 yX0_makeYoung yX0_makeYoung ∈ fwT := fw_mem (i := 12) (by decide +kernel) (by decide +kernel)
theorem qv_yX1_takeFirst : Cond.selects RX1 yX1_takeFirst yX1_takeFirst ∈ fwT := fw_mem (i := 13) (by decide +kernel) (by decide +kernel)
theorem qv_yX0_choose : Cond.selects RX0 yX0_choose yX0_choose ∈ fwT := fw_mem (i := 14) (by decide +kernel) (by decide +kernel)
theorem qv_yX10_no : Cond.selects RX10 yX10_no yX10_no ∈ fwT := fw_mem (i := 15) (by decide +kernel) (by decide +kernel)
theorem qv_yX10_isTree : Cond.selects RX10 yX10_isTree yX10_isTree ∈ fwT := fw_mem (i := 16) (by decide +kernel) (by decide +kernel)
theorem qv_yX10_isPlace : Cond.selects RX10 yX10_isPlace yX10_isPlace ∈ fwT := fw_mem (i := 17) (by decide +kernel) (by decide +kernel)
theorem qv_yX10_become : Cond.selects RX10 yX10_become yX10_become ∈ fwT := fw_mem (i := 18) (by decide +kernel) (by decide +kernel)
theorem qv_yX10_simplified : Cond.selects RX10 yX10_simplified yX10_simplified ∈ fwT := fw_mem (i := 19) (by decide +kernel) (by decide +kernel)
theorem qv_yX10_simpler : Cond.selects RX10 yX10_simpler yX10_simpler ∈ fwT := fw_mem (i := 20) (by decide +kernel) (by decide +kernel)
theorem qv_yX10_gives : Cond.selects RX10 yX10_gives yX10_gives ∈ fwT := fw_mem (i := 21) (by decide +kernel) (by decide +kernel)
theorem qv_yX10_breedNow : Cond.selects RX10 yX10_breedNow yX10_breedNow ∈ fwT := fw_mem (i := 22) (by decide +kernel) (by decide +kernel)
theorem qv_yX10_generation : Cond.selects RX10 yX10_generation yX10_generation ∈ fwT := fw_mem (i := 23) (by decide +kernel) (by decide +kernel)
theorem qv_yX10_ranks : Cond.selects RX10 yX10_ranks yX10_ranks ∈ fwT := fw_mem (i := 24) (by decide +kernel) (by decide +kernel)
theorem qv_yX10_meritOf : Cond.selects RX10 yX10_meritOf yX10_meritOf ∈ fwT := fw_mem (i := 25) (by decide +kernel) (by decide +kernel)
theorem qv_yX10_errorOf : Cond.selects RX10 yX10_errorOf yX10_errorOf ∈ fwT := fw_mem (i := 26) (by decide +kernel) (by decide +kernel)
theorem qv_yX10_isBetter : Cond.selects RX10 yX10_isBetter yX10_isBetter ∈ fwT := fw_mem (i := 27) (by decide +kernel) (by decide +kernel)
theorem qv_yX10_draw : Cond.selects RX10 yX10_draw yX10_draw ∈ fwT := fw_mem (i := 28) (by decide +kernel) (by decide +kernel)
theorem qv_yX10_choose : Cond.selects RX10 yX10_choose yX10_choose ∈ fwT := fw_mem (i := 29) (by decide +kernel) (by decide +kernel)
theorem qv_yX10_bred : Cond.selects RX10 yX10_bred yX10_bred ∈ fwT := fw_mem (i := 30) (by decide +kernel) (by decide +kernel)
theorem qv_yX10_drawPlace : Cond.selects RX10 yX10_drawPlace yX10_drawPlace ∈ fwT := fw_mem (i := 31) (by decide +kernel) (by decide +kernel)
theorem qv_yX10_changed : Cond.selects RX10 yX10_changed yX10_changed ∈ fwT := fw_mem (i := 32) (by decide +kernel) (by decide +kernel)
theorem qv_yX10_ok : Cond.selects RX10 yX10_ok yX10_ok ∈ fwT := fw_mem (i := 33) (by decide +kernel) (by decide +kernel)
theorem qv_yX10_hitsOf : Cond.selects RX10 yX10_hitsOf yX10_hitsOf ∈ fwT := fw_mem (i := 34) (by decide +kernel) (by decide +kernel)
theorem qv_yX10_differentNow : Cond.selects RX10 yX10_differentNow yX10_differentNow ∈ fwT := fw_mem (i := 35) (by decide +kernel) (by decide +kernel)
theorem qn_RL : Cond.initialized RL ∈ fwT := fw_mem (i := 36) (by decide +kernel) (by decide +kernel)
theorem qn_RX9 : Cond.initialized RX9 ∈ fwT := fw_mem (i := 37) (by decide +kernel) (by decide +kernel)
theorem qn_RX7 : Cond.initialized RX7 ∈ fwT := fw_mem (i := 38) (by decide +kernel) (by decide +kernel)
theorem qn_RX8 : Cond.initialized RX8 ∈ fwT := fw_mem (i := 39) (by decide +kernel) (by decide +kernel)
theorem qn_RX3 : Cond.initialized RX3 ∈ fwT := fw_mem (i := 40) (by decide +kernel) (by decide +kernel)
theorem qn_RX5 : Cond.initialized RX5 ∈ fwT := fw_mem (i := 41) (by decide +kernel) (by decide +kernel)
theorem qn_RX4 : Cond.initialized RX4 ∈ fwT := fw_mem (i := 42) (by decide +kernel) (by decide +kernel)
theorem qn_RX0 : Cond.initialized RX0 ∈ fwT := fw_mem (i := 43) (by decide +kernel) (by decide +kernel)
theorem qn_RX6 : Cond.initialized RX6 ∈ fwT := fw_mem (i := 44) (by decide +kernel) (by decide +kernel)
theorem qn_RX2 : Cond.initialized RX2 ∈ fwT := fw_mem (i := 45) (by decide +kernel) (by decide +kernel)
theorem qn_RX1 : Cond.initialized RX1 ∈ fwT := fw_mem (i := 46) (by decide +kernel) (by decide +kernel)
theorem qn_RX10 : Cond.initialized RX10 ∈ fwT := fw_mem (i := 47) (by decide +kernel) (by decide +kernel)
theorem qn_RJ0 : Cond.initialized RJ0 ∈ fwT := fw_mem (i := 53) (by decide +kernel) (by decide +kernel)
theorem qn_RJ1 : Cond.initialized RJ1 ∈ fwT := fw_mem (i := 54) (by decide +kernel) (by decide +kernel)
theorem qn_RJ3 : Cond.initialized RJ3 ∈ fwT := fw_mem (i := 55) (by decide +kernel) (by decide +kernel)
theorem qn_RJ2 : Cond.initialized RJ2 ∈ fwT := fw_mem (i := 56) (by decide +kernel) (by decide +kernel)
theorem qn_J9 : Cond.initialized "java/lang/Math" ∈ fwT := fw_mem (i := 57) (by decide +kernel) (by decide +kernel)
theorem qn_RJ10 : Cond.initialized RJ10 ∈ fwT := fw_mem (i := 58) (by decide +kernel) (by decide +kernel)
theorem ql_RL_8 : Cond.classLink RL 8 RX9 ∈ fwT := fw_mem (i := 60) (by decide +kernel) (by decide +kernel)
theorem qt_RX9 : Cond.instantiable RX9 9 ∈ fwT := fw_mem (i := 61) (by decide +kernel) (by decide +kernel)
theorem ql_RL_110 : Cond.methodLink RL 110 yX9_init ∈ fwT := fw_mem (i := 62) (by decide +kernel) (by decide +kernel)
theorem qi_yX9_init : Cond.instanceMethod yX9_init ∈ fwT := fw_mem (i := 63) (by decide +kernel) (by decide +kernel)
theorem qc_yX9_init : Cond.code yX9_init cX9_init 1 (Option.none : Option Jvm.ClassFile.FieldType) ∈ fwT := fw_mem (i := 64) (by decide +kernel) (by decide +kernel)
theorem ql_RX9_1 : Cond.methodLink RX9 1 objectInit ∈ fwT := fw_mem (i := 65) (by decide +kernel) (by decide +kernel)
theorem qi_obj : Cond.instanceMethod objectInit ∈ fwT := fw_mem (i := 66) (by decide +kernel) (by decide +kernel)
theorem qc_obj : Cond.code objectInit ⟨#[0xb1]⟩ 1 none ∈ fwT := fw_mem (i := 67) (by decide +kernel) (by decide +kernel)
theorem ql_RX9_7 : Cond.classLink RX9 7 RX7 ∈ fwT := fw_mem (i := 68) (by decide +kernel) (by decide +kernel)
theorem qt_RX7 : Cond.instantiable RX7 5 ∈ fwT := fw_mem (i := 69) (by decide +kernel) (by decide +kernel)
theorem ql_RX9_9 : Cond.methodLink RX9 9 yX7_init ∈ fwT := fw_mem (i := 70) (by decide +kernel) (by decide +kernel)
theorem qi_yX7_init : Cond.instanceMethod yX7_init ∈ fwT := fw_mem (i := 71) (by decide +kernel) (by decide +kernel)
theorem qc_yX7_init : Cond.code yX7_init cX7_init 1 (Option.none : Option Jvm.ClassFile.FieldType) ∈ fwT := fw_mem (i := 72) (by decide +kernel) (by decide +kernel)
theorem ql_RX7_3 : Cond.methodLink RX7 3 objectInit ∈ fwT := fw_mem (i := 73) (by decide +kernel) (by decide +kernel)
theorem ql_RX7_9 : Cond.classLink RX7 9 RX8 ∈ fwT := fw_mem (i := 74) (by decide +kernel) (by decide +kernel)
theorem qt_RX8 : Cond.instantiable RX8 6 ∈ fwT := fw_mem (i := 75) (by decide +kernel) (by decide +kernel)
theorem ql_RX7_11 : Cond.methodLinkNest RX7 11 yX8_init "Barnacle" ∈ fwT := fw_mem (i := 76) (by decide +kernel) (by decide +kernel)
theorem qi_yX8_init : Cond.instanceMethod yX8_init ∈ fwT := fw_mem (i := 77) (by decide +kernel) (by decide +kernel)
theorem qc_yX8_init : Cond.code yX8_init cX8_init 1 (Option.none : Option Jvm.ClassFile.FieldType) ∈ fwT := fw_mem (i := 78) (by decide +kernel) (by decide +kernel)
theorem ql_RX8_3 : Cond.methodLink RX8 3 objectInit ∈ fwT := fw_mem (i := 79) (by decide +kernel) (by decide +kernel)
theorem ql_RX8_9 : Cond.fieldLink RX8 9 "Barnacle$Tree" "codes" "[I" ∈ fwT := fw_mem (i := 80) (by decide +kernel) (by decide +kernel)
theorem ql_RX5_31 : Cond.fieldLinkNest RX5 31 "Barnacle$Tree" "codes" "[I" "Barnacle" ∈ fwT := fw_mem (i := 81) (by decide +kernel) (by decide +kernel)
theorem ql_RX8_15 : Cond.fieldLink RX8 15 "Barnacle$Tree" "values" "[I" ∈ fwT := fw_mem (i := 82) (by decide +kernel) (by decide +kernel)
theorem ql_RX5_34 : Cond.fieldLinkNest RX5 34 "Barnacle$Tree" "values" "[I" "Barnacle" ∈ fwT := fw_mem (i := 83) (by decide +kernel) (by decide +kernel)
theorem ql_RX8_18 : Cond.fieldLink RX8 18 "Barnacle$Tree" "spans" "[I" ∈ fwT := fw_mem (i := 84) (by decide +kernel) (by decide +kernel)
theorem ql_RX5_22 : Cond.fieldLinkNest RX5 22 "Barnacle$Tree" "spans" "[I" "Barnacle" ∈ fwT := fw_mem (i := 85) (by decide +kernel) (by decide +kernel)
theorem ql_RX8_21 : Cond.fieldLink RX8 21 "Barnacle$Tree" "heights" "[I" ∈ fwT := fw_mem (i := 86) (by decide +kernel) (by decide +kernel)
theorem ql_RX7_28 : Cond.fieldLinkNest RX7 28 "Barnacle$Tree" "nodes" "I" "Barnacle" ∈ fwT := fw_mem (i := 87) (by decide +kernel) (by decide +kernel)
theorem ql_RX6_18 : Cond.fieldLinkNest RX6 18 "Barnacle$Tree" "nodes" "I" "Barnacle" ∈ fwT := fw_mem (i := 88) (by decide +kernel) (by decide +kernel)
theorem ql_RX4_44 : Cond.fieldLinkNest RX4 44 "Barnacle$Tree" "nodes" "I" "Barnacle" ∈ fwT := fw_mem (i := 89) (by decide +kernel) (by decide +kernel)
theorem ql_RX9_93 : Cond.fieldLinkNest RX9 93 "Barnacle$Tree" "nodes" "I" "Barnacle" ∈ fwT := fw_mem (i := 90) (by decide +kernel) (by decide +kernel)
theorem ql_RX3_60 : Cond.fieldLinkNest RX3 60 "Barnacle$Tree" "nodes" "I" "Barnacle" ∈ fwT := fw_mem (i := 91) (by decide +kernel) (by decide +kernel)
theorem ql_RX0_107 : Cond.fieldLinkNest RX0 107 "Barnacle$Tree" "nodes" "I" "Barnacle" ∈ fwT := fw_mem (i := 92) (by decide +kernel) (by decide +kernel)
theorem ql_RX2_48 : Cond.fieldLinkNest RX2 48 "Barnacle$Tree" "nodes" "I" "Barnacle" ∈ fwT := fw_mem (i := 93) (by decide +kernel) (by decide +kernel)
theorem ql_RX8_41 : Cond.fieldLink RX8 41 "Barnacle$Tree" "nodes" "I" ∈ fwT := fw_mem (i := 94) (by decide +kernel) (by decide +kernel)
theorem ql_RX8_74 : Cond.fieldLink RX8 74 "Barnacle$Tree" "levels" "I" ∈ fwT := fw_mem (i := 95) (by decide +kernel) (by decide +kernel)
theorem ql_RX9_230 : Cond.fieldLinkNest RX9 230 "Barnacle$Tree" "levels" "I" "Barnacle" ∈ fwT := fw_mem (i := 96) (by decide +kernel) (by decide +kernel)
theorem qa_int : Cond.arrayClass Jvm.ClassFile.FieldType.int ∈ fwT := fw_mem (i := 110) (by decide +kernel) (by decide +kernel)
theorem ql_RX7_25 : Cond.methodLink RX7 25 yX7_clear ∈ fwT := fw_mem (i := 111) (by decide +kernel) (by decide +kernel)
theorem qi_yX7_clear : Cond.instanceMethod yX7_clear ∈ fwT := fw_mem (i := 112) (by decide +kernel) (by decide +kernel)
theorem qv_yX7_clear : Cond.selects RX7 yX7_clear yX7_clear ∈ fwT := fw_mem (i := 113) (by decide +kernel) (by decide +kernel)
theorem qc_yX7_clear : Cond.code yX7_clear cX7_clear 1 (Option.none : Option Jvm.ClassFile.FieldType) ∈ fwT := fw_mem (i := 114) (by decide +kernel) (by decide +kernel)
theorem ql_RX7_38 : Cond.methodLink RX7 38 yX7_miss ∈ fwT := fw_mem (i := 115) (by decide +kernel) (by decide +kernel)
theorem qi_yX7_miss : Cond.instanceMethod yX7_miss ∈ fwT := fw_mem (i := 117) (by decide +kernel) (by decide +kernel)
theorem qc_yX7_miss : Cond.code yX7_miss cX7_miss 3 (Option.none : Option Jvm.ClassFile.FieldType) ∈ fwT := fw_mem (i := 118) (by decide +kernel) (by decide +kernel)
theorem ql_RX7_46 : Cond.methodLink RX7 46 yX7_needOf ∈ fwT := fw_mem (i := 119) (by decide +kernel) (by decide +kernel)
theorem qs_yX7_needOf : Cond.static yX7_needOf ∈ fwT := fw_mem (i := 120) (by decide +kernel) (by decide +kernel)
theorem qc_yX7_needOf : Cond.code yX7_needOf cX7_needOf 1 (Option.some Jvm.ClassFile.FieldType.int) ∈ fwT := fw_mem (i := 121) (by decide +kernel) (by decide +kernel)
theorem ql_RX7_61 : Cond.methodLinkNest RX7 61 yX9_put "Barnacle" ∈ fwT := fw_mem (i := 122) (by decide +kernel) (by decide +kernel)
theorem qs_yX9_put : Cond.static yX9_put ∈ fwT := fw_mem (i := 123) (by decide +kernel) (by decide +kernel)
theorem qc_yX9_put : Cond.code yX9_put cX9_put 3 (Option.none : Option Jvm.ClassFile.FieldType) ∈ fwT := fw_mem (i := 124) (by decide +kernel) (by decide +kernel)
theorem ql_RX7_12 : Cond.fieldLink RX7 12 "Barnacle$Sketch" "row" "LBarnacle$Tree;" ∈ fwT := fw_mem (i := 125) (by decide +kernel) (by decide +kernel)
theorem ql_RX9_90 : Cond.fieldLinkNest RX9 90 "Barnacle$Sketch" "row" "LBarnacle$Tree;" "Barnacle" ∈ fwT := fw_mem (i := 126) (by decide +kernel) (by decide +kernel)
theorem ql_RX7_18 : Cond.fieldLink RX7 18 "Barnacle$Sketch" "needs" "[I" ∈ fwT := fw_mem (i := 127) (by decide +kernel) (by decide +kernel)
theorem ql_RX7_22 : Cond.fieldLink RX7 22 "Barnacle$Sketch" "levels" "[I" ∈ fwT := fw_mem (i := 128) (by decide +kernel) (by decide +kernel)
theorem ql_RX7_32 : Cond.fieldLink RX7 32 "Barnacle$Sketch" "missing" "I" ∈ fwT := fw_mem (i := 129) (by decide +kernel) (by decide +kernel)
theorem ql_RX9_86 : Cond.fieldLinkNest RX9 86 "Barnacle$Sketch" "missing" "I" "Barnacle" ∈ fwT := fw_mem (i := 130) (by decide +kernel) (by decide +kernel)
theorem ql_RX7_35 : Cond.fieldLink RX7 35 "Barnacle$Sketch" "least" "I" ∈ fwT := fw_mem (i := 131) (by decide +kernel) (by decide +kernel)
theorem ql_RX9_16 : Cond.classLink RX9 16 RX3 ∈ fwT := fw_mem (i := 143) (by decide +kernel) (by decide +kernel)
theorem qt_RX3 : Cond.instantiable RX3 8 ∈ fwT := fw_mem (i := 144) (by decide +kernel) (by decide +kernel)
theorem ql_RX9_18 : Cond.methodLinkNest RX9 18 yX3_init "Barnacle" ∈ fwT := fw_mem (i := 145) (by decide +kernel) (by decide +kernel)
theorem qi_yX3_init : Cond.instanceMethod yX3_init ∈ fwT := fw_mem (i := 146) (by decide +kernel) (by decide +kernel)
theorem qc_yX3_init : Cond.code yX3_init cX3_init 1 (Option.none : Option Jvm.ClassFile.FieldType) ∈ fwT := fw_mem (i := 147) (by decide +kernel) (by decide +kernel)
theorem ql_RX3_3 : Cond.methodLink RX3 3 objectInit ∈ fwT := fw_mem (i := 148) (by decide +kernel) (by decide +kernel)
theorem ql_RX3_9 : Cond.classLink RX3 9 RX5 ∈ fwT := fw_mem (i := 149) (by decide +kernel) (by decide +kernel)
theorem qt_RX5 : Cond.instantiable RX5 2 ∈ fwT := fw_mem (i := 150) (by decide +kernel) (by decide +kernel)
theorem ql_RX3_11 : Cond.methodLinkNest RX3 11 yX5_init "Barnacle" ∈ fwT := fw_mem (i := 151) (by decide +kernel) (by decide +kernel)
theorem qi_yX5_init : Cond.instanceMethod yX5_init ∈ fwT := fw_mem (i := 152) (by decide +kernel) (by decide +kernel)
theorem qc_yX5_init : Cond.code yX5_init cX5_init 1 (Option.none : Option Jvm.ClassFile.FieldType) ∈ fwT := fw_mem (i := 153) (by decide +kernel) (by decide +kernel)
theorem ql_RX5_3 : Cond.methodLink RX5 3 objectInit ∈ fwT := fw_mem (i := 154) (by decide +kernel) (by decide +kernel)
theorem ql_RX5_9 : Cond.fieldLink RX5 9 "Barnacle$Reckoner" "inputs" "[I" ∈ fwT := fw_mem (i := 155) (by decide +kernel) (by decide +kernel)
theorem ql_RX5_15 : Cond.fieldLink RX5 15 "Barnacle$Reckoner" "results" "[I" ∈ fwT := fw_mem (i := 156) (by decide +kernel) (by decide +kernel)
theorem ql_RX3_12 : Cond.fieldLink RX3 12 "Barnacle$Judge" "reckoner" "LBarnacle$Reckoner;" ∈ fwT := fw_mem (i := 162) (by decide +kernel) (by decide +kernel)
theorem ql_RX3_18 : Cond.fieldLink RX3 18 "Barnacle$Judge" "firsts" "[I" ∈ fwT := fw_mem (i := 163) (by decide +kernel) (by decide +kernel)
theorem ql_RX3_22 : Cond.fieldLink RX3 22 "Barnacle$Judge" "seconds" "[I" ∈ fwT := fw_mem (i := 164) (by decide +kernel) (by decide +kernel)
theorem ql_RX3_25 : Cond.fieldLink RX3 25 "Barnacle$Judge" "thirds" "[I" ∈ fwT := fw_mem (i := 165) (by decide +kernel) (by decide +kernel)
theorem ql_RX3_28 : Cond.fieldLink RX3 28 "Barnacle$Judge" "dues" "[I" ∈ fwT := fw_mem (i := 166) (by decide +kernel) (by decide +kernel)
theorem ql_RX3_35 : Cond.fieldLink RX3 35 "Barnacle$Judge" "cases" "I" ∈ fwT := fw_mem (i := 167) (by decide +kernel) (by decide +kernel)
theorem ql_RX9_125 : Cond.fieldLinkNest RX9 125 "Barnacle$Judge" "cases" "I" "Barnacle" ∈ fwT := fw_mem (i := 168) (by decide +kernel) (by decide +kernel)
theorem ql_RX4_41 : Cond.fieldLinkNest RX4 41 "Barnacle$Judge" "way" "I" "Barnacle" ∈ fwT := fw_mem (i := 169) (by decide +kernel) (by decide +kernel)
theorem ql_RX3_57 : Cond.fieldLink RX3 57 "Barnacle$Judge" "way" "I" ∈ fwT := fw_mem (i := 170) (by decide +kernel) (by decide +kernel)
theorem ql_RX9_135 : Cond.fieldLinkNest RX9 135 "Barnacle$Judge" "way" "I" "Barnacle" ∈ fwT := fw_mem (i := 171) (by decide +kernel) (by decide +kernel)
theorem ql_RX3_31 : Cond.fieldLink RX3 31 "Barnacle$Judge" "weight" "I" ∈ fwT := fw_mem (i := 172) (by decide +kernel) (by decide +kernel)
theorem ql_RX9_138 : Cond.fieldLinkNest RX9 138 "Barnacle$Judge" "weight" "I" "Barnacle" ∈ fwT := fw_mem (i := 173) (by decide +kernel) (by decide +kernel)
theorem ql_RX9_23 : Cond.classLink RX9 23 RX4 ∈ fwT := fw_mem (i := 191) (by decide +kernel) (by decide +kernel)
theorem qt_RX4 : Cond.instantiable RX4 3 ∈ fwT := fw_mem (i := 192) (by decide +kernel) (by decide +kernel)
theorem ql_RX9_25 : Cond.methodLinkNest RX9 25 yX4_init "Barnacle" ∈ fwT := fw_mem (i := 193) (by decide +kernel) (by decide +kernel)
theorem qi_yX4_init : Cond.instanceMethod yX4_init ∈ fwT := fw_mem (i := 194) (by decide +kernel) (by decide +kernel)
theorem qc_yX4_init : Cond.code yX4_init cX4_init 1 (Option.none : Option Jvm.ClassFile.FieldType) ∈ fwT := fw_mem (i := 195) (by decide +kernel) (by decide +kernel)
theorem ql_RX4_3 : Cond.methodLink RX4 3 objectInit ∈ fwT := fw_mem (i := 196) (by decide +kernel) (by decide +kernel)
theorem ql_RX4_9 : Cond.fieldLink RX4 9 "Barnacle$Ranking" "merits" "[I" ∈ fwT := fw_mem (i := 197) (by decide +kernel) (by decide +kernel)
theorem ql_RX4_15 : Cond.fieldLink RX4 15 "Barnacle$Ranking" "sizes" "[I" ∈ fwT := fw_mem (i := 198) (by decide +kernel) (by decide +kernel)
theorem ql_RX4_18 : Cond.fieldLink RX4 18 "Barnacle$Ranking" "order" "[I" ∈ fwT := fw_mem (i := 199) (by decide +kernel) (by decide +kernel)
theorem ql_RX9_30 : Cond.classLink RX9 30 RX0 ∈ fwT := fw_mem (i := 207) (by decide +kernel) (by decide +kernel)
theorem qt_RX0 : Cond.instantiable RX0 6 ∈ fwT := fw_mem (i := 208) (by decide +kernel) (by decide +kernel)
theorem ql_RX9_32 : Cond.methodLinkNest RX9 32 yX0_init "Barnacle" ∈ fwT := fw_mem (i := 209) (by decide +kernel) (by decide +kernel)
theorem qi_yX0_init : Cond.instanceMethod yX0_init ∈ fwT := fw_mem (i := 210) (by decide +kernel) (by decide +kernel)
theorem qc_yX0_init : Cond.code yX0_init cX0_init 1 (Option.none : Option Jvm.ClassFile.FieldType) ∈ fwT := fw_mem (i := 211) (by decide +kernel) (by decide +kernel)
theorem ql_RX0_3 : Cond.methodLink RX0 3 objectInit ∈ fwT := fw_mem (i := 212) (by decide +kernel) (by decide +kernel)
theorem ql_RX0_9 : Cond.classLink RX0 9 RX4 ∈ fwT := fw_mem (i := 213) (by decide +kernel) (by decide +kernel)
theorem ql_RX0_11 : Cond.methodLinkNest RX0 11 yX4_init "Barnacle" ∈ fwT := fw_mem (i := 214) (by decide +kernel) (by decide +kernel)
theorem ql_RX0_12 : Cond.fieldLink RX0 12 "Barnacle$Breeder" "ranking" "LBarnacle$Ranking;" ∈ fwT := fw_mem (i := 215) (by decide +kernel) (by decide +kernel)
theorem ql_RX0_18 : Cond.fieldLink RX0 18 "Barnacle$Breeder" "crossing" "I" ∈ fwT := fw_mem (i := 216) (by decide +kernel) (by decide +kernel)
theorem ql_RX9_186 : Cond.fieldLinkNest RX9 186 "Barnacle$Breeder" "crossing" "I" "Barnacle" ∈ fwT := fw_mem (i := 217) (by decide +kernel) (by decide +kernel)
theorem ql_RX0_22 : Cond.fieldLink RX0 22 "Barnacle$Breeder" "changing" "I" ∈ fwT := fw_mem (i := 218) (by decide +kernel) (by decide +kernel)
theorem ql_RX9_189 : Cond.fieldLinkNest RX9 189 "Barnacle$Breeder" "changing" "I" "Barnacle" ∈ fwT := fw_mem (i := 219) (by decide +kernel) (by decide +kernel)
theorem ql_RX0_25 : Cond.fieldLink RX0 25 "Barnacle$Breeder" "hoisting" "I" ∈ fwT := fw_mem (i := 220) (by decide +kernel) (by decide +kernel)
theorem ql_RX9_192 : Cond.fieldLinkNest RX9 192 "Barnacle$Breeder" "hoisting" "I" "Barnacle" ∈ fwT := fw_mem (i := 221) (by decide +kernel) (by decide +kernel)
theorem ql_RX0_28 : Cond.fieldLink RX0 28 "Barnacle$Breeder" "tournament" "I" ∈ fwT := fw_mem (i := 222) (by decide +kernel) (by decide +kernel)
theorem ql_RX9_197 : Cond.fieldLinkNest RX9 197 "Barnacle$Breeder" "tournament" "I" "Barnacle" ∈ fwT := fw_mem (i := 223) (by decide +kernel) (by decide +kernel)
theorem ql_RX0_31 : Cond.fieldLink RX0 31 "Barnacle$Breeder" "elite" "I" ∈ fwT := fw_mem (i := 224) (by decide +kernel) (by decide +kernel)
theorem ql_RX9_200 : Cond.fieldLinkNest RX9 200 "Barnacle$Breeder" "elite" "I" "Barnacle" ∈ fwT := fw_mem (i := 225) (by decide +kernel) (by decide +kernel)
theorem ql_RX9_37 : Cond.classLink RX9 37 RX6 ∈ fwT := fw_mem (i := 239) (by decide +kernel) (by decide +kernel)
theorem qt_RX6 : Cond.instantiable RX6 1 ∈ fwT := fw_mem (i := 240) (by decide +kernel) (by decide +kernel)
theorem ql_RX9_39 : Cond.methodLinkNest RX9 39 yX6_init "Barnacle" ∈ fwT := fw_mem (i := 241) (by decide +kernel) (by decide +kernel)
theorem qi_yX6_init : Cond.instanceMethod yX6_init ∈ fwT := fw_mem (i := 242) (by decide +kernel) (by decide +kernel)
theorem qc_yX6_init : Cond.code yX6_init cX6_init 1 (Option.none : Option Jvm.ClassFile.FieldType) ∈ fwT := fw_mem (i := 243) (by decide +kernel) (by decide +kernel)
theorem ql_RX6_3 : Cond.methodLink RX6 3 objectInit ∈ fwT := fw_mem (i := 244) (by decide +kernel) (by decide +kernel)
theorem ql_RX6_9 : Cond.classLink RX6 9 RX5 ∈ fwT := fw_mem (i := 245) (by decide +kernel) (by decide +kernel)
theorem ql_RX6_11 : Cond.methodLinkNest RX6 11 yX5_init "Barnacle" ∈ fwT := fw_mem (i := 246) (by decide +kernel) (by decide +kernel)
theorem ql_RX6_12 : Cond.fieldLink RX6 12 "Barnacle$Simplifier" "reckoner" "LBarnacle$Reckoner;" ∈ fwT := fw_mem (i := 247) (by decide +kernel) (by decide +kernel)
theorem ql_RX9_44 : Cond.classLink RX9 44 RX5 ∈ fwT := fw_mem (i := 251) (by decide +kernel) (by decide +kernel)
theorem ql_RX9_46 : Cond.methodLinkNest RX9 46 yX5_init "Barnacle" ∈ fwT := fw_mem (i := 252) (by decide +kernel) (by decide +kernel)
theorem ql_RX9_51 : Cond.classLink RX9 51 RX2 ∈ fwT := fw_mem (i := 253) (by decide +kernel) (by decide +kernel)
theorem qt_RX2 : Cond.instantiable RX2 7 ∈ fwT := fw_mem (i := 254) (by decide +kernel) (by decide +kernel)
theorem ql_RX9_53 : Cond.methodLink RX9 53 yX2_init ∈ fwT := fw_mem (i := 255) (by decide +kernel) (by decide +kernel)
theorem qi_yX2_init : Cond.instanceMethod yX2_init ∈ fwT := fw_mem (i := 256) (by decide +kernel) (by decide +kernel)
theorem qc_yX2_init : Cond.code yX2_init cX2_init 2 (Option.none : Option Jvm.ClassFile.FieldType) ∈ fwT := fw_mem (i := 257) (by decide +kernel) (by decide +kernel)
theorem ql_RX2_3 : Cond.methodLink RX2 3 objectInit ∈ fwT := fw_mem (i := 258) (by decide +kernel) (by decide +kernel)
theorem ql_RX2_9 : Cond.classLink RX2 9 RX1 ∈ fwT := fw_mem (i := 259) (by decide +kernel) (by decide +kernel)
theorem qt_RX1 : Cond.instantiable RX1 3 ∈ fwT := fw_mem (i := 260) (by decide +kernel) (by decide +kernel)
theorem ql_RX2_11 : Cond.methodLinkNest RX2 11 yX1_init "Barnacle" ∈ fwT := fw_mem (i := 261) (by decide +kernel) (by decide +kernel)
theorem qi_yX1_init : Cond.instanceMethod yX1_init ∈ fwT := fw_mem (i := 262) (by decide +kernel) (by decide +kernel)
theorem qc_yX1_init : Cond.code yX1_init cX1_init 1 (Option.none : Option Jvm.ClassFile.FieldType) ∈ fwT := fw_mem (i := 263) (by decide +kernel) (by decide +kernel)
theorem ql_RX1_3 : Cond.methodLink RX1 3 objectInit ∈ fwT := fw_mem (i := 264) (by decide +kernel) (by decide +kernel)
theorem ql_RX1_9 : Cond.fieldLink RX1 9 "Barnacle$Draws" "told" "[I" ∈ fwT := fw_mem (i := 265) (by decide +kernel) (by decide +kernel)
theorem ql_RX1_15 : Cond.fieldLink RX1 15 "Barnacle$Draws" "waiting" "I" ∈ fwT := fw_mem (i := 266) (by decide +kernel) (by decide +kernel)
theorem ql_RX9_216 : Cond.fieldLinkNest RX9 216 "Barnacle$Draws" "waiting" "I" "Barnacle" ∈ fwT := fw_mem (i := 267) (by decide +kernel) (by decide +kernel)
theorem ql_RX1_27 : Cond.fieldLink RX1 27 "Barnacle$Draws" "luck" "I" ∈ fwT := fw_mem (i := 268) (by decide +kernel) (by decide +kernel)
theorem ql_RX9_209 : Cond.fieldLinkNest RX9 209 "Barnacle$Draws" "luck" "I" "Barnacle" ∈ fwT := fw_mem (i := 269) (by decide +kernel) (by decide +kernel)
theorem ql_RX2_18 : Cond.classLink RX2 18 RX8 ∈ fwT := fw_mem (i := 277) (by decide +kernel) (by decide +kernel)
theorem ql_RX2_20 : Cond.methodLinkNest RX2 20 yX8_init "Barnacle" ∈ fwT := fw_mem (i := 278) (by decide +kernel) (by decide +kernel)
theorem qo_RX8 : Cond.arrayOver (.object RX8) ∈ fwT := fw_mem (i := 279) (by decide +kernel) (by decide +kernel)
theorem ql_RX2_12 : Cond.fieldLink RX2 12 "Barnacle$Grove" "draws" "LBarnacle$Draws;" ∈ fwT := fw_mem (i := 280) (by decide +kernel) (by decide +kernel)
theorem ql_RX0_79 : Cond.fieldLinkNest RX0 79 "Barnacle$Grove" "draws" "LBarnacle$Draws;" "Barnacle" ∈ fwT := fw_mem (i := 281) (by decide +kernel) (by decide +kernel)
theorem ql_RX9_205 : Cond.fieldLinkNest RX9 205 "Barnacle$Grove" "draws" "LBarnacle$Draws;" "Barnacle" ∈ fwT := fw_mem (i := 282) (by decide +kernel) (by decide +kernel)
theorem ql_RX2_21 : Cond.fieldLink RX2 21 "Barnacle$Grove" "nothing" "LBarnacle$Tree;" ∈ fwT := fw_mem (i := 283) (by decide +kernel) (by decide +kernel)
theorem ql_RX2_25 : Cond.fieldLink RX2 25 "Barnacle$Grove" "trees" "[LBarnacle$Tree;" ∈ fwT := fw_mem (i := 284) (by decide +kernel) (by decide +kernel)
theorem ql_RX2_29 : Cond.fieldLink RX2 29 "Barnacle$Grove" "youngTrees" "[LBarnacle$Tree;" ∈ fwT := fw_mem (i := 285) (by decide +kernel) (by decide +kernel)
theorem ql_RX4_21 : Cond.fieldLinkNest RX4 21 "Barnacle$Grove" "count" "I" "Barnacle" ∈ fwT := fw_mem (i := 286) (by decide +kernel) (by decide +kernel)
theorem ql_RX0_38 : Cond.fieldLinkNest RX0 38 "Barnacle$Grove" "count" "I" "Barnacle" ∈ fwT := fw_mem (i := 287) (by decide +kernel) (by decide +kernel)
theorem ql_RX2_36 : Cond.fieldLink RX2 36 "Barnacle$Grove" "count" "I" ∈ fwT := fw_mem (i := 288) (by decide +kernel) (by decide +kernel)
theorem ql_RX9_99 : Cond.fieldLinkNest RX9 99 "Barnacle$Grove" "count" "I" "Barnacle" ∈ fwT := fw_mem (i := 289) (by decide +kernel) (by decide +kernel)
theorem ql_RX2_55 : Cond.fieldLink RX2 55 "Barnacle$Grove" "generations" "I" ∈ fwT := fw_mem (i := 290) (by decide +kernel) (by decide +kernel)
theorem ql_RX9_280 : Cond.fieldLinkNest RX9 280 "Barnacle$Grove" "generations" "I" "Barnacle" ∈ fwT := fw_mem (i := 291) (by decide +kernel) (by decide +kernel)
theorem ql_RX0_118 : Cond.fieldLinkNest RX0 118 "Barnacle$Grove" "misses" "I" "Barnacle" ∈ fwT := fw_mem (i := 292) (by decide +kernel) (by decide +kernel)
theorem ql_RX2_61 : Cond.fieldLink RX2 61 "Barnacle$Grove" "misses" "I" ∈ fwT := fw_mem (i := 293) (by decide +kernel) (by decide +kernel)
theorem ql_RX9_283 : Cond.fieldLinkNest RX9 283 "Barnacle$Grove" "misses" "I" "Barnacle" ∈ fwT := fw_mem (i := 294) (by decide +kernel) (by decide +kernel)
theorem ql_RX9_61 : Cond.classLink RX9 61 RX8 ∈ fwT := fw_mem (i := 310) (by decide +kernel) (by decide +kernel)
theorem ql_RX9_63 : Cond.methodLinkNest RX9 63 yX8_init "Barnacle" ∈ fwT := fw_mem (i := 311) (by decide +kernel) (by decide +kernel)
theorem ql_RX9_10 : Cond.fieldLink RX9 10 "Barnacle" "sketch" "LBarnacle$Sketch;" ∈ fwT := fw_mem (i := 312) (by decide +kernel) (by decide +kernel)
theorem ql_RX9_19 : Cond.fieldLink RX9 19 "Barnacle" "judge" "LBarnacle$Judge;" ∈ fwT := fw_mem (i := 313) (by decide +kernel) (by decide +kernel)
theorem ql_RX9_26 : Cond.fieldLink RX9 26 "Barnacle" "ranking" "LBarnacle$Ranking;" ∈ fwT := fw_mem (i := 314) (by decide +kernel) (by decide +kernel)
theorem ql_RX9_33 : Cond.fieldLink RX9 33 "Barnacle" "breeder" "LBarnacle$Breeder;" ∈ fwT := fw_mem (i := 315) (by decide +kernel) (by decide +kernel)
theorem ql_RX9_40 : Cond.fieldLink RX9 40 "Barnacle" "simplifier" "LBarnacle$Simplifier;" ∈ fwT := fw_mem (i := 316) (by decide +kernel) (by decide +kernel)
theorem ql_RX9_47 : Cond.fieldLink RX9 47 "Barnacle" "reckoner" "LBarnacle$Reckoner;" ∈ fwT := fw_mem (i := 317) (by decide +kernel) (by decide +kernel)
theorem ql_RX9_54 : Cond.fieldLink RX9 54 "Barnacle" "grove" "LBarnacle$Grove;" ∈ fwT := fw_mem (i := 318) (by decide +kernel) (by decide +kernel)
theorem ql_RX9_58 : Cond.fieldLink RX9 58 "Barnacle" "trialGrove" "LBarnacle$Grove;" ∈ fwT := fw_mem (i := 319) (by decide +kernel) (by decide +kernel)
theorem ql_RX9_64 : Cond.fieldLink RX9 64 "Barnacle" "trialTree" "LBarnacle$Tree;" ∈ fwT := fw_mem (i := 320) (by decide +kernel) (by decide +kernel)
theorem ql_RL_123 : Cond.methodLink RL 123 yX9_erase ∈ fwT := fw_mem (i := 340) (by decide +kernel) (by decide +kernel)
theorem qi_yX9_erase : Cond.instanceMethod yX9_erase ∈ fwT := fw_mem (i := 341) (by decide +kernel) (by decide +kernel)
theorem qv_yX9_erase : Cond.selects RX9 yX9_erase yX9_erase ∈ fwT := fw_mem (i := 342) (by decide +kernel) (by decide +kernel)
theorem qc_yX9_erase : Cond.code yX9_erase cX9_erase 2 (Option.some Jvm.ClassFile.FieldType.int) ∈ fwT := fw_mem (i := 343) (by decide +kernel) (by decide +kernel)
theorem ql_RX9_96 : Cond.methodLink RX9 96 yX7_clear ∈ fwT := fw_mem (i := 344) (by decide +kernel) (by decide +kernel)
theorem ql_RL_173 : Cond.methodLink RL 173 yX9_sketched ∈ fwT := fw_mem (i := 345) (by decide +kernel) (by decide +kernel)
theorem qi_yX9_sketched : Cond.instanceMethod yX9_sketched ∈ fwT := fw_mem (i := 346) (by decide +kernel) (by decide +kernel)
theorem qv_yX9_sketched : Cond.selects RX9 yX9_sketched yX9_sketched ∈ fwT := fw_mem (i := 347) (by decide +kernel) (by decide +kernel)
theorem qc_yX9_sketched : Cond.code yX9_sketched cX9_sketched 1 (Option.some Jvm.ClassFile.FieldType.int) ∈ fwT := fw_mem (i := 348) (by decide +kernel) (by decide +kernel)
theorem ql_RL_177 : Cond.methodLink RL 177 yX9_trees ∈ fwT := fw_mem (i := 349) (by decide +kernel) (by decide +kernel)
theorem qi_yX9_trees : Cond.instanceMethod yX9_trees ∈ fwT := fw_mem (i := 350) (by decide +kernel) (by decide +kernel)
theorem qv_yX9_trees : Cond.selects RX9 yX9_trees yX9_trees ∈ fwT := fw_mem (i := 351) (by decide +kernel) (by decide +kernel)
theorem qc_yX9_trees : Cond.code yX9_trees cX9_trees 1 (Option.some Jvm.ClassFile.FieldType.int) ∈ fwT := fw_mem (i := 352) (by decide +kernel) (by decide +kernel)
theorem ql_RL_181 : Cond.methodLink RL 181 yX9_cases ∈ fwT := fw_mem (i := 353) (by decide +kernel) (by decide +kernel)
theorem qi_yX9_cases : Cond.instanceMethod yX9_cases ∈ fwT := fw_mem (i := 354) (by decide +kernel) (by decide +kernel)
theorem qv_yX9_cases : Cond.selects RX9 yX9_cases yX9_cases ∈ fwT := fw_mem (i := 355) (by decide +kernel) (by decide +kernel)
theorem qc_yX9_cases : Cond.code yX9_cases cX9_cases 1 (Option.some Jvm.ClassFile.FieldType.int) ∈ fwT := fw_mem (i := 356) (by decide +kernel) (by decide +kernel)
theorem ql_RL_218 : Cond.methodLink RL 218 yX9_different ∈ fwT := fw_mem (i := 357) (by decide +kernel) (by decide +kernel)
theorem qi_yX9_different : Cond.instanceMethod yX9_different ∈ fwT := fw_mem (i := 358) (by decide +kernel) (by decide +kernel)
theorem qv_yX9_different : Cond.selects RX9 yX9_different yX9_different ∈ fwT := fw_mem (i := 359) (by decide +kernel) (by decide +kernel)
theorem qc_yX9_different : Cond.code yX9_different cX9_different 3 (Option.some Jvm.ClassFile.FieldType.int) ∈ fwT := fw_mem (i := 360) (by decide +kernel) (by decide +kernel)
theorem ql_RX9_271 : Cond.methodLink RX9 271 yX2_hasEarlierTwin ∈ fwT := fw_mem (i := 361) (by decide +kernel) (by decide +kernel)
theorem qi_yX2_hasEarlierTwin : Cond.instanceMethod yX2_hasEarlierTwin ∈ fwT := fw_mem (i := 362) (by decide +kernel) (by decide +kernel)
theorem qv_yX2_hasEarlierTwin : Cond.selects RX2 yX2_hasEarlierTwin yX2_hasEarlierTwin ∈ fwT := fw_mem (i := 363) (by decide +kernel) (by decide +kernel)
theorem qc_yX2_hasEarlierTwin : Cond.code yX2_hasEarlierTwin cX2_hasEarlierTwin 5 (Option.some Jvm.ClassFile.FieldType.boolean) ∈ fwT := fw_mem (i := 364) (by decide +kernel) (by decide +kernel)
theorem ql_RX2_40 : Cond.methodLink RX2 40 yX2_tree ∈ fwT := fw_mem (i := 365) (by decide +kernel) (by decide +kernel)
theorem qi_yX2_tree : Cond.instanceMethod yX2_tree ∈ fwT := fw_mem (i := 366) (by decide +kernel) (by decide +kernel)
theorem qv_yX2_tree : Cond.selects RX2 yX2_tree yX2_tree ∈ fwT := fw_mem (i := 367) (by decide +kernel) (by decide +kernel)
theorem qc_yX2_tree : Cond.code yX2_tree cX2_tree 2 (Option.some (Jvm.ClassFile.FieldType.object "Barnacle$Tree")) ∈ fwT := fw_mem (i := 368) (by decide +kernel) (by decide +kernel)
theorem ql_RX2_32 : Cond.methodLink RX2 32 yX2_treeOf ∈ fwT := fw_mem (i := 369) (by decide +kernel) (by decide +kernel)
theorem qi_yX2_treeOf : Cond.instanceMethod yX2_treeOf ∈ fwT := fw_mem (i := 371) (by decide +kernel) (by decide +kernel)
theorem qc_yX2_treeOf : Cond.code yX2_treeOf cX2_treeOf 4 (Option.some (Jvm.ClassFile.FieldType.object "Barnacle$Tree")) ∈ fwT := fw_mem (i := 372) (by decide +kernel) (by decide +kernel)
theorem ql_RX2_51 : Cond.methodLink RX2 51 yX8_sameNodes ∈ fwT := fw_mem (i := 373) (by decide +kernel) (by decide +kernel)
theorem qi_yX8_sameNodes : Cond.instanceMethod yX8_sameNodes ∈ fwT := fw_mem (i := 374) (by decide +kernel) (by decide +kernel)
theorem qv_yX8_sameNodes : Cond.selects RX8 yX8_sameNodes yX8_sameNodes ∈ fwT := fw_mem (i := 375) (by decide +kernel) (by decide +kernel)
theorem qc_yX8_sameNodes : Cond.code yX8_sameNodes cX8_sameNodes 4 (Option.some Jvm.ClassFile.FieldType.int) ∈ fwT := fw_mem (i := 376) (by decide +kernel) (by decide +kernel)
theorem ql_RX8_45 : Cond.methodLink RX8 45 Lib.Math.min.name ∈ fwT := fw_mem (i := 377) (by decide +kernel) (by decide +kernel)
theorem qs_J9_min : Cond.static Lib.Math.min.name ∈ fwT := fw_mem (i := 378) (by decide +kernel) (by decide +kernel)
theorem qc_J9_min : Cond.code Lib.Math.min.name Lib.Math.min.code 2 (some .int) ∈ fwT := fw_mem (i := 379) (by decide +kernel) (by decide +kernel)
theorem ql_RX8_28 : Cond.methodLink RX8 28 yX8_code ∈ fwT := fw_mem (i := 380) (by decide +kernel) (by decide +kernel)
theorem qi_yX8_code : Cond.instanceMethod yX8_code ∈ fwT := fw_mem (i := 381) (by decide +kernel) (by decide +kernel)
theorem qv_yX8_code : Cond.selects RX8 yX8_code yX8_code ∈ fwT := fw_mem (i := 382) (by decide +kernel) (by decide +kernel)
theorem qc_yX8_code : Cond.code yX8_code cX8_code 2 (Option.some Jvm.ClassFile.FieldType.int) ∈ fwT := fw_mem (i := 383) (by decide +kernel) (by decide +kernel)
theorem ql_RX8_24 : Cond.methodLinkNest RX8 24 yX9_at "Barnacle" ∈ fwT := fw_mem (i := 384) (by decide +kernel) (by decide +kernel)
theorem qs_yX9_at : Cond.static yX9_at ∈ fwT := fw_mem (i := 385) (by decide +kernel) (by decide +kernel)
theorem qc_yX9_at : Cond.code yX9_at cX9_at 2 (Option.some Jvm.ClassFile.FieldType.int) ∈ fwT := fw_mem (i := 386) (by decide +kernel) (by decide +kernel)
theorem ql_RX8_32 : Cond.methodLink RX8 32 yX8_value ∈ fwT := fw_mem (i := 387) (by decide +kernel) (by decide +kernel)
theorem qi_yX8_value : Cond.instanceMethod yX8_value ∈ fwT := fw_mem (i := 388) (by decide +kernel) (by decide +kernel)
theorem qv_yX8_value : Cond.selects RX8 yX8_value yX8_value ∈ fwT := fw_mem (i := 389) (by decide +kernel) (by decide +kernel)
theorem qc_yX8_value : Cond.code yX8_value cX8_value 2 (Option.some Jvm.ClassFile.FieldType.int) ∈ fwT := fw_mem (i := 390) (by decide +kernel) (by decide +kernel)
theorem ql_RL_225 : Cond.methodLink RL 225 yX9_meanSize ∈ fwT := fw_mem (i := 391) (by decide +kernel) (by decide +kernel)
theorem qi_yX9_meanSize : Cond.instanceMethod yX9_meanSize ∈ fwT := fw_mem (i := 392) (by decide +kernel) (by decide +kernel)
theorem qv_yX9_meanSize : Cond.selects RX9 yX9_meanSize yX9_meanSize ∈ fwT := fw_mem (i := 393) (by decide +kernel) (by decide +kernel)
theorem qc_yX9_meanSize : Cond.code yX9_meanSize cX9_meanSize 3 (Option.some Jvm.ClassFile.FieldType.double) ∈ fwT := fw_mem (i := 394) (by decide +kernel) (by decide +kernel)
theorem ql_RX9_277 : Cond.methodLink RX9 277 yX2_tree ∈ fwT := fw_mem (i := 395) (by decide +kernel) (by decide +kernel)
theorem ql_RL_230 : Cond.methodLink RL 230 yX9_generations ∈ fwT := fw_mem (i := 396) (by decide +kernel) (by decide +kernel)
theorem qi_yX9_generations : Cond.instanceMethod yX9_generations ∈ fwT := fw_mem (i := 397) (by decide +kernel) (by decide +kernel)
theorem qv_yX9_generations : Cond.selects RX9 yX9_generations yX9_generations ∈ fwT := fw_mem (i := 398) (by decide +kernel) (by decide +kernel)
theorem qc_yX9_generations : Cond.code yX9_generations cX9_generations 1 (Option.some Jvm.ClassFile.FieldType.int) ∈ fwT := fw_mem (i := 399) (by decide +kernel) (by decide +kernel)
theorem ql_RL_234 : Cond.methodLink RL 234 yX9_misses ∈ fwT := fw_mem (i := 400) (by decide +kernel) (by decide +kernel)
theorem qi_yX9_misses : Cond.instanceMethod yX9_misses ∈ fwT := fw_mem (i := 401) (by decide +kernel) (by decide +kernel)
theorem qv_yX9_misses : Cond.selects RX9 yX9_misses yX9_misses ∈ fwT := fw_mem (i := 402) (by decide +kernel) (by decide +kernel)
theorem qc_yX9_misses : Cond.code yX9_misses cX9_misses 1 (Option.some Jvm.ClassFile.FieldType.int) ∈ fwT := fw_mem (i := 403) (by decide +kernel) (by decide +kernel)
theorem ql_RL_238 : Cond.methodLink RL 238 yX9_luck ∈ fwT := fw_mem (i := 404) (by decide +kernel) (by decide +kernel)
theorem qi_yX9_luck : Cond.instanceMethod yX9_luck ∈ fwT := fw_mem (i := 405) (by decide +kernel) (by decide +kernel)
theorem qv_yX9_luck : Cond.selects RX9 yX9_luck yX9_luck ∈ fwT := fw_mem (i := 406) (by decide +kernel) (by decide +kernel)
theorem qc_yX9_luck : Cond.code yX9_luck cX9_luck 1 (Option.some Jvm.ClassFile.FieldType.int) ∈ fwT := fw_mem (i := 407) (by decide +kernel) (by decide +kernel)
theorem ql_RL_242 : Cond.methodLink RL 242 yX9_waiting ∈ fwT := fw_mem (i := 408) (by decide +kernel) (by decide +kernel)
theorem qi_yX9_waiting : Cond.instanceMethod yX9_waiting ∈ fwT := fw_mem (i := 409) (by decide +kernel) (by decide +kernel)
theorem qv_yX9_waiting : Cond.selects RX9 yX9_waiting yX9_waiting ∈ fwT := fw_mem (i := 410) (by decide +kernel) (by decide +kernel)
theorem qc_yX9_waiting : Cond.code yX9_waiting cX9_waiting 1 (Option.some Jvm.ClassFile.FieldType.int) ∈ fwT := fw_mem (i := 411) (by decide +kernel) (by decide +kernel)
theorem ql_RL_255 : Cond.methodLink RL 255 yX9_digest ∈ fwT := fw_mem (i := 412) (by decide +kernel) (by decide +kernel)
theorem qi_yX9_digest : Cond.instanceMethod yX9_digest ∈ fwT := fw_mem (i := 413) (by decide +kernel) (by decide +kernel)
theorem qv_yX9_digest : Cond.selects RX9 yX9_digest yX9_digest ∈ fwT := fw_mem (i := 414) (by decide +kernel) (by decide +kernel)
theorem qc_yX9_digest : Cond.code yX9_digest cX9_digest 4 (Option.some Jvm.ClassFile.FieldType.long) ∈ fwT := fw_mem (i := 415) (by decide +kernel) (by decide +kernel)
theorem ql_RX9_289 : Cond.constantLong RX9 289 (58042) ∈ fwT := fw_mem (i := 416) (by decide +kernel) (by decide +kernel)
theorem ql_RX9_291 : Cond.constantLong RX9 291 (31) ∈ fwT := fw_mem (i := 417) (by decide +kernel) (by decide +kernel)
theorem ql_RX9_293 : Cond.methodLink RX9 293 yX9_different ∈ fwT := fw_mem (i := 418) (by decide +kernel) (by decide +kernel)
theorem ql_RX9_297 : Cond.methodLink RX9 297 yX9_digestWith ∈ fwT := fw_mem (i := 419) (by decide +kernel) (by decide +kernel)
theorem qi_yX9_digestWith : Cond.instanceMethod yX9_digestWith ∈ fwT := fw_mem (i := 421) (by decide +kernel) (by decide +kernel)
theorem qc_yX9_digestWith : Cond.code yX9_digestWith cX9_digestWith 7 (Option.some Jvm.ClassFile.FieldType.long) ∈ fwT := fw_mem (i := 422) (by decide +kernel) (by decide +kernel)
theorem ql_RX9_249 : Cond.methodLink RX9 249 yX3_errorOf ∈ fwT := fw_mem (i := 423) (by decide +kernel) (by decide +kernel)
theorem qi_yX3_errorOf : Cond.instanceMethod yX3_errorOf ∈ fwT := fw_mem (i := 424) (by decide +kernel) (by decide +kernel)
theorem qv_yX3_errorOf : Cond.selects RX3 yX3_errorOf yX3_errorOf ∈ fwT := fw_mem (i := 425) (by decide +kernel) (by decide +kernel)
theorem qc_yX3_errorOf : Cond.code yX3_errorOf cX3_errorOf 6 (Option.some Jvm.ClassFile.FieldType.int) ∈ fwT := fw_mem (i := 426) (by decide +kernel) (by decide +kernel)
theorem ql_RX3_42 : Cond.methodLinkNest RX3 42 yX9_at "Barnacle" ∈ fwT := fw_mem (i := 427) (by decide +kernel) (by decide +kernel)
theorem ql_RX3_46 : Cond.methodLink RX3 46 yX5_setInputs ∈ fwT := fw_mem (i := 428) (by decide +kernel) (by decide +kernel)
theorem qi_yX5_setInputs : Cond.instanceMethod yX5_setInputs ∈ fwT := fw_mem (i := 429) (by decide +kernel) (by decide +kernel)
theorem qv_yX5_setInputs : Cond.selects RX5 yX5_setInputs yX5_setInputs ∈ fwT := fw_mem (i := 430) (by decide +kernel) (by decide +kernel)
theorem qc_yX5_setInputs : Cond.code yX5_setInputs cX5_setInputs 4 (Option.none : Option Jvm.ClassFile.FieldType) ∈ fwT := fw_mem (i := 431) (by decide +kernel) (by decide +kernel)
theorem ql_RX5_18 : Cond.methodLinkNest RX5 18 yX9_put "Barnacle" ∈ fwT := fw_mem (i := 432) (by decide +kernel) (by decide +kernel)
theorem ql_RX3_50 : Cond.methodLink RX3 50 yX5_resultOf ∈ fwT := fw_mem (i := 433) (by decide +kernel) (by decide +kernel)
theorem qi_yX5_resultOf : Cond.instanceMethod yX5_resultOf ∈ fwT := fw_mem (i := 434) (by decide +kernel) (by decide +kernel)
theorem qv_yX5_resultOf : Cond.selects RX5 yX5_resultOf yX5_resultOf ∈ fwT := fw_mem (i := 435) (by decide +kernel) (by decide +kernel)
theorem qc_yX5_resultOf : Cond.code yX5_resultOf cX5_resultOf 10 (Option.some Jvm.ClassFile.FieldType.int) ∈ fwT := fw_mem (i := 436) (by decide +kernel) (by decide +kernel)
theorem ql_RX5_27 : Cond.methodLinkNest RX5 27 yX9_at "Barnacle" ∈ fwT := fw_mem (i := 437) (by decide +kernel) (by decide +kernel)
theorem ql_RX5_37 : Cond.methodLink RX5 37 yX5_pairResult ∈ fwT := fw_mem (i := 438) (by decide +kernel) (by decide +kernel)
theorem qs_yX5_pairResult : Cond.static yX5_pairResult ∈ fwT := fw_mem (i := 439) (by decide +kernel) (by decide +kernel)
theorem qc_yX5_pairResult : Cond.code yX5_pairResult cX5_pairResult 3 (Option.some Jvm.ClassFile.FieldType.int) ∈ fwT := fw_mem (i := 440) (by decide +kernel) (by decide +kernel)
theorem ql_RX5_41 : Cond.methodLink RX5 41 yX5_limited ∈ fwT := fw_mem (i := 441) (by decide +kernel) (by decide +kernel)
theorem qs_yX5_limited : Cond.static yX5_limited ∈ fwT := fw_mem (i := 442) (by decide +kernel) (by decide +kernel)
theorem qc_yX5_limited : Cond.code yX5_limited cX5_limited 1 (Option.some Jvm.ClassFile.FieldType.int) ∈ fwT := fw_mem (i := 443) (by decide +kernel) (by decide +kernel)
theorem ql_RX9_252 : Cond.methodLink RX9 252 yX3_meritOf ∈ fwT := fw_mem (i := 444) (by decide +kernel) (by decide +kernel)
theorem qi_yX3_meritOf : Cond.instanceMethod yX3_meritOf ∈ fwT := fw_mem (i := 445) (by decide +kernel) (by decide +kernel)
theorem qv_yX3_meritOf : Cond.selects RX3 yX3_meritOf yX3_meritOf ∈ fwT := fw_mem (i := 446) (by decide +kernel) (by decide +kernel)
theorem qc_yX3_meritOf : Cond.code yX3_meritOf cX3_meritOf 3 (Option.some Jvm.ClassFile.FieldType.int) ∈ fwT := fw_mem (i := 447) (by decide +kernel) (by decide +kernel)
theorem ql_RX3_54 : Cond.methodLink RX3 54 yX3_errorOf ∈ fwT := fw_mem (i := 448) (by decide +kernel) (by decide +kernel)
theorem ql_RX9_256 : Cond.methodLink RX9 256 yX3_hitsOf ∈ fwT := fw_mem (i := 449) (by decide +kernel) (by decide +kernel)
theorem qi_yX3_hitsOf : Cond.instanceMethod yX3_hitsOf ∈ fwT := fw_mem (i := 450) (by decide +kernel) (by decide +kernel)
theorem qv_yX3_hitsOf : Cond.selects RX3 yX3_hitsOf yX3_hitsOf ∈ fwT := fw_mem (i := 451) (by decide +kernel) (by decide +kernel)
theorem qc_yX3_hitsOf : Cond.code yX3_hitsOf cX3_hitsOf 4 (Option.some Jvm.ClassFile.FieldType.int) ∈ fwT := fw_mem (i := 452) (by decide +kernel) (by decide +kernel)
theorem ql_RX9_158 : Cond.methodLink RX9 158 yX8_code ∈ fwT := fw_mem (i := 453) (by decide +kernel) (by decide +kernel)
theorem ql_RX9_233 : Cond.methodLink RX9 233 yX8_value ∈ fwT := fw_mem (i := 454) (by decide +kernel) (by decide +kernel)
theorem ql_RX9_264 : Cond.methodLink RX9 264 yX4_rank ∈ fwT := fw_mem (i := 455) (by decide +kernel) (by decide +kernel)
theorem qi_yX4_rank : Cond.instanceMethod yX4_rank ∈ fwT := fw_mem (i := 456) (by decide +kernel) (by decide +kernel)
theorem qv_yX4_rank : Cond.selects RX4 yX4_rank yX4_rank ∈ fwT := fw_mem (i := 457) (by decide +kernel) (by decide +kernel)
theorem qc_yX4_rank : Cond.code yX4_rank cX4_rank 5 (Option.none : Option Jvm.ClassFile.FieldType) ∈ fwT := fw_mem (i := 458) (by decide +kernel) (by decide +kernel)
theorem ql_RX4_27 : Cond.methodLink RX4 27 yX2_tree ∈ fwT := fw_mem (i := 459) (by decide +kernel) (by decide +kernel)
theorem ql_RX4_31 : Cond.methodLink RX4 31 yX3_meritOf ∈ fwT := fw_mem (i := 460) (by decide +kernel) (by decide +kernel)
theorem ql_RX4_37 : Cond.methodLinkNest RX4 37 yX9_put "Barnacle" ∈ fwT := fw_mem (i := 461) (by decide +kernel) (by decide +kernel)
theorem ql_RX4_49 : Cond.methodLink RX4 49 yX4_insert ∈ fwT := fw_mem (i := 462) (by decide +kernel) (by decide +kernel)
theorem qi_yX4_insert : Cond.instanceMethod yX4_insert ∈ fwT := fw_mem (i := 464) (by decide +kernel) (by decide +kernel)
theorem qc_yX4_insert : Cond.code yX4_insert cX4_insert 3 (Option.none : Option Jvm.ClassFile.FieldType) ∈ fwT := fw_mem (i := 465) (by decide +kernel) (by decide +kernel)
theorem ql_RX4_53 : Cond.methodLinkNest RX4 53 yX9_at "Barnacle" ∈ fwT := fw_mem (i := 466) (by decide +kernel) (by decide +kernel)
theorem ql_RX4_57 : Cond.methodLink RX4 57 yX4_isBetter ∈ fwT := fw_mem (i := 467) (by decide +kernel) (by decide +kernel)
theorem qi_yX4_isBetter : Cond.instanceMethod yX4_isBetter ∈ fwT := fw_mem (i := 468) (by decide +kernel) (by decide +kernel)
theorem qv_yX4_isBetter : Cond.selects RX4 yX4_isBetter yX4_isBetter ∈ fwT := fw_mem (i := 469) (by decide +kernel) (by decide +kernel)
theorem qc_yX4_isBetter : Cond.code yX4_isBetter cX4_isBetter 3 (Option.some Jvm.ClassFile.FieldType.boolean) ∈ fwT := fw_mem (i := 470) (by decide +kernel) (by decide +kernel)
theorem ql_RX9_268 : Cond.methodLink RX9 268 yX4_withRank ∈ fwT := fw_mem (i := 471) (by decide +kernel) (by decide +kernel)
theorem qi_yX4_withRank : Cond.instanceMethod yX4_withRank ∈ fwT := fw_mem (i := 472) (by decide +kernel) (by decide +kernel)
theorem qv_yX4_withRank : Cond.selects RX4 yX4_withRank yX4_withRank ∈ fwT := fw_mem (i := 473) (by decide +kernel) (by decide +kernel)
theorem qc_yX4_withRank : Cond.code yX4_withRank cX4_withRank 2 (Option.some Jvm.ClassFile.FieldType.int) ∈ fwT := fw_mem (i := 474) (by decide +kernel) (by decide +kernel)
theorem ql_RL_114 : Cond.methodLink RL 114 yL_sketch ∈ fwT := fw_mem (i := 475) (by decide +kernel) (by decide +kernel)
theorem qs_yL_sketch : Cond.static yL_sketch ∈ fwT := fw_mem (i := 476) (by decide +kernel) (by decide +kernel)
theorem qw_yL_sketch : Cond.codeWith yL_sketch cL_sketch 5 (some .int) [(0, 10, 13, 13), (0, 10, 17, 15)] ∈ fwT := fw_mem (i := 477) (by decide +kernel) (by decide +kernel)
theorem ql_RL_13 : Cond.classLink RL 13 "java/lang/IllegalArgumentException" ∈ fwT := fw_mem (i := 478) (by decide +kernel) (by decide +kernel)
theorem ql_RL_15 : Cond.classLink RL 15 "java/lang/IllegalStateException" ∈ fwT := fw_mem (i := 479) (by decide +kernel) (by decide +kernel)
theorem ql_RL_7 : Cond.methodLink RL 7 yX9_sketch ∈ fwT := fw_mem (i := 480) (by decide +kernel) (by decide +kernel)
theorem qi_yX9_sketch : Cond.instanceMethod yX9_sketch ∈ fwT := fw_mem (i := 481) (by decide +kernel) (by decide +kernel)
theorem qv_yX9_sketch : Cond.selects RX9 yX9_sketch yX9_sketch ∈ fwT := fw_mem (i := 482) (by decide +kernel) (by decide +kernel)
theorem qc_yX9_sketch : Cond.code yX9_sketch cX9_sketch 3 (Option.some Jvm.ClassFile.FieldType.int) ∈ fwT := fw_mem (i := 483) (by decide +kernel) (by decide +kernel)
theorem ql_RX9_68 : Cond.methodLink RX9 68 yX9_requireNode ∈ fwT := fw_mem (i := 484) (by decide +kernel) (by decide +kernel)
theorem qs_yX9_requireNode : Cond.static yX9_requireNode ∈ fwT := fw_mem (i := 485) (by decide +kernel) (by decide +kernel)
theorem qc_yX9_requireNode : Cond.code yX9_requireNode cX9_requireNode 2 (Option.none : Option Jvm.ClassFile.FieldType) ∈ fwT := fw_mem (i := 486) (by decide +kernel) (by decide +kernel)
theorem ql_RX9_120 : Cond.classLink RX9 120 "java/lang/IllegalArgumentException" ∈ fwT := fw_mem (i := 487) (by decide +kernel) (by decide +kernel)
theorem qk_IAE_IAE : Cond.castable "java/lang/IllegalArgumentException" "java/lang/IllegalArgumentException" ∈ fwT := fw_mem (i := 489) (by decide +kernel) (by decide +kernel)
theorem qa_byte : Cond.arrayClass Jvm.ClassFile.FieldType.byte ∈ fwT := fw_mem (i := 554) (by decide +kernel) (by decide +kernel)
theorem ql_RX9_72 : Cond.methodLink RX9 72 yX7_accepts ∈ fwT := fw_mem (i := 557) (by decide +kernel) (by decide +kernel)
theorem qi_yX7_accepts : Cond.instanceMethod yX7_accepts ∈ fwT := fw_mem (i := 558) (by decide +kernel) (by decide +kernel)
theorem qv_yX7_accepts : Cond.selects RX7 yX7_accepts yX7_accepts ∈ fwT := fw_mem (i := 559) (by decide +kernel) (by decide +kernel)
theorem qc_yX7_accepts : Cond.code yX7_accepts cX7_accepts 7 (Option.some Jvm.ClassFile.FieldType.boolean) ∈ fwT := fw_mem (i := 560) (by decide +kernel) (by decide +kernel)
theorem ql_RX7_42 : Cond.methodLinkNest RX7 42 yX9_at "Barnacle" ∈ fwT := fw_mem (i := 561) (by decide +kernel) (by decide +kernel)
theorem ql_RX7_50 : Cond.fieldLinkNest RX7 50 "Barnacle" "PARTS" "[I" "Barnacle" ∈ fwT := fw_mem (i := 562) (by decide +kernel) (by decide +kernel)
theorem ql_RX7_53 : Cond.methodLinkNest RX7 53 yX9_isNumberPart "Barnacle" ∈ fwT := fw_mem (i := 564) (by decide +kernel) (by decide +kernel)
theorem qs_yX9_isNumberPart : Cond.static yX9_isNumberPart ∈ fwT := fw_mem (i := 565) (by decide +kernel) (by decide +kernel)
theorem qc_yX9_isNumberPart : Cond.code yX9_isNumberPart cX9_isNumberPart 2 (Option.some Jvm.ClassFile.FieldType.boolean) ∈ fwT := fw_mem (i := 566) (by decide +kernel) (by decide +kernel)
theorem ql_RX9_76 : Cond.classLink RX9 76 "java/lang/IllegalStateException" ∈ fwT := fw_mem (i := 567) (by decide +kernel) (by decide +kernel)
theorem qk_ISE_ISE : Cond.castable "java/lang/IllegalStateException" "java/lang/IllegalStateException" ∈ fwT := fw_mem (i := 569) (by decide +kernel) (by decide +kernel)
theorem ql_RX9_83 : Cond.methodLink RX9 83 yX7_take ∈ fwT := fw_mem (i := 583) (by decide +kernel) (by decide +kernel)
theorem qi_yX7_take : Cond.instanceMethod yX7_take ∈ fwT := fw_mem (i := 584) (by decide +kernel) (by decide +kernel)
theorem qv_yX7_take : Cond.selects RX7 yX7_take yX7_take ∈ fwT := fw_mem (i := 585) (by decide +kernel) (by decide +kernel)
theorem qc_yX7_take : Cond.code yX7_take cX7_take 5 (Option.none : Option Jvm.ClassFile.FieldType) ∈ fwT := fw_mem (i := 586) (by decide +kernel) (by decide +kernel)
theorem ql_RX7_57 : Cond.methodLink RX7 57 yX8_append ∈ fwT := fw_mem (i := 587) (by decide +kernel) (by decide +kernel)
theorem qi_yX8_append : Cond.instanceMethod yX8_append ∈ fwT := fw_mem (i := 588) (by decide +kernel) (by decide +kernel)
theorem qv_yX8_append : Cond.selects RX8 yX8_append yX8_append ∈ fwT := fw_mem (i := 589) (by decide +kernel) (by decide +kernel)
theorem qc_yX8_append : Cond.code yX8_append cX8_append 3 (Option.none : Option Jvm.ClassFile.FieldType) ∈ fwT := fw_mem (i := 590) (by decide +kernel) (by decide +kernel)
theorem ql_RX8_59 : Cond.methodLink RX8 59 yX8_write ∈ fwT := fw_mem (i := 591) (by decide +kernel) (by decide +kernel)
theorem qi_yX8_write : Cond.instanceMethod yX8_write ∈ fwT := fw_mem (i := 592) (by decide +kernel) (by decide +kernel)
theorem qv_yX8_write : Cond.selects RX8 yX8_write yX8_write ∈ fwT := fw_mem (i := 593) (by decide +kernel) (by decide +kernel)
theorem qc_yX8_write : Cond.code yX8_write cX8_write 4 (Option.none : Option Jvm.ClassFile.FieldType) ∈ fwT := fw_mem (i := 594) (by decide +kernel) (by decide +kernel)
theorem ql_RX8_55 : Cond.methodLinkNest RX8 55 yX9_put "Barnacle" ∈ fwT := fw_mem (i := 595) (by decide +kernel) (by decide +kernel)
theorem ql_RL_127 : Cond.methodLink RL 127 yL_plant ∈ fwT := fw_mem (i := 596) (by decide +kernel) (by decide +kernel)
theorem qs_yL_plant : Cond.static yL_plant ∈ fwT := fw_mem (i := 597) (by decide +kernel) (by decide +kernel)
theorem qw_yL_plant : Cond.codeWith yL_plant cL_plant 3 (some .int) [(0, 8, 11, 15)] ∈ fwT := fw_mem (i := 598) (by decide +kernel) (by decide +kernel)
theorem ql_RL_17 : Cond.methodLink RL 17 yX9_plant ∈ fwT := fw_mem (i := 599) (by decide +kernel) (by decide +kernel)
theorem qi_yX9_plant : Cond.instanceMethod yX9_plant ∈ fwT := fw_mem (i := 600) (by decide +kernel) (by decide +kernel)
theorem qv_yX9_plant : Cond.selects RX9 yX9_plant yX9_plant ∈ fwT := fw_mem (i := 601) (by decide +kernel) (by decide +kernel)
theorem qc_yX9_plant : Cond.code yX9_plant cX9_plant 2 (Option.some Jvm.ClassFile.FieldType.int) ∈ fwT := fw_mem (i := 602) (by decide +kernel) (by decide +kernel)
theorem ql_RX9_104 : Cond.methodLink RX9 104 yX2_add ∈ fwT := fw_mem (i := 604) (by decide +kernel) (by decide +kernel)
theorem qi_yX2_add : Cond.instanceMethod yX2_add ∈ fwT := fw_mem (i := 605) (by decide +kernel) (by decide +kernel)
theorem qv_yX2_add : Cond.selects RX2 yX2_add yX2_add ∈ fwT := fw_mem (i := 606) (by decide +kernel) (by decide +kernel)
theorem qc_yX2_add : Cond.code yX2_add cX2_add 2 (Option.none : Option Jvm.ClassFile.FieldType) ∈ fwT := fw_mem (i := 607) (by decide +kernel) (by decide +kernel)
theorem ql_RX2_44 : Cond.methodLink RX2 44 yX8_copyFrom ∈ fwT := fw_mem (i := 608) (by decide +kernel) (by decide +kernel)
theorem qi_yX8_copyFrom : Cond.instanceMethod yX8_copyFrom ∈ fwT := fw_mem (i := 609) (by decide +kernel) (by decide +kernel)
theorem qv_yX8_copyFrom : Cond.selects RX8 yX8_copyFrom yX8_copyFrom ∈ fwT := fw_mem (i := 610) (by decide +kernel) (by decide +kernel)
theorem qc_yX8_copyFrom : Cond.code yX8_copyFrom cX8_copyFrom 2 (Option.none : Option Jvm.ClassFile.FieldType) ∈ fwT := fw_mem (i := 611) (by decide +kernel) (by decide +kernel)
theorem ql_RX8_63 : Cond.methodLink RX8 63 yX8_appendFrom ∈ fwT := fw_mem (i := 612) (by decide +kernel) (by decide +kernel)
theorem qi_yX8_appendFrom : Cond.instanceMethod yX8_appendFrom ∈ fwT := fw_mem (i := 614) (by decide +kernel) (by decide +kernel)
theorem qc_yX8_appendFrom : Cond.code yX8_appendFrom cX8_appendFrom 5 (Option.none : Option Jvm.ClassFile.FieldType) ∈ fwT := fw_mem (i := 615) (by decide +kernel) (by decide +kernel)
theorem ql_RX8_67 : Cond.methodLink RX8 67 yX8_measure ∈ fwT := fw_mem (i := 616) (by decide +kernel) (by decide +kernel)
theorem qi_yX8_measure : Cond.instanceMethod yX8_measure ∈ fwT := fw_mem (i := 618) (by decide +kernel) (by decide +kernel)
theorem qc_yX8_measure : Cond.code yX8_measure cX8_measure 6 (Option.none : Option Jvm.ClassFile.FieldType) ∈ fwT := fw_mem (i := 619) (by decide +kernel) (by decide +kernel)
theorem ql_RX8_77 : Cond.fieldLinkNest RX8 77 "Barnacle" "PARTS" "[I" "Barnacle" ∈ fwT := fw_mem (i := 620) (by decide +kernel) (by decide +kernel)
theorem ql_RX8_80 : Cond.methodLink RX8 80 Lib.Math.max.name ∈ fwT := fw_mem (i := 621) (by decide +kernel) (by decide +kernel)
theorem qs_J9_max : Cond.static Lib.Math.max.name ∈ fwT := fw_mem (i := 622) (by decide +kernel) (by decide +kernel)
theorem qc_J9_max : Cond.code Lib.Math.max.name Lib.Math.max.code 2 (some .int) ∈ fwT := fw_mem (i := 623) (by decide +kernel) (by decide +kernel)
theorem ql_RL_131 : Cond.methodLink RL 131 yL_fell ∈ fwT := fw_mem (i := 624) (by decide +kernel) (by decide +kernel)
theorem qs_yL_fell : Cond.static yL_fell ∈ fwT := fw_mem (i := 625) (by decide +kernel) (by decide +kernel)
theorem qw_yL_fell : Cond.codeWith yL_fell cL_fell 4 (some .int) [(0, 9, 12, 25)] ∈ fwT := fw_mem (i := 626) (by decide +kernel) (by decide +kernel)
theorem ql_RL_25 : Cond.classLink RL 25 "java/lang/IndexOutOfBoundsException" ∈ fwT := fw_mem (i := 627) (by decide +kernel) (by decide +kernel)
theorem ql_RL_21 : Cond.methodLink RL 21 yX9_fell ∈ fwT := fw_mem (i := 628) (by decide +kernel) (by decide +kernel)
theorem qi_yX9_fell : Cond.instanceMethod yX9_fell ∈ fwT := fw_mem (i := 629) (by decide +kernel) (by decide +kernel)
theorem qv_yX9_fell : Cond.selects RX9 yX9_fell yX9_fell ∈ fwT := fw_mem (i := 630) (by decide +kernel) (by decide +kernel)
theorem qc_yX9_fell : Cond.code yX9_fell cX9_fell 3 (Option.some Jvm.ClassFile.FieldType.int) ∈ fwT := fw_mem (i := 631) (by decide +kernel) (by decide +kernel)
theorem ql_RX9_108 : Cond.methodLink RX9 108 yX9_requireTree ∈ fwT := fw_mem (i := 632) (by decide +kernel) (by decide +kernel)
theorem qi_yX9_requireTree : Cond.instanceMethod yX9_requireTree ∈ fwT := fw_mem (i := 634) (by decide +kernel) (by decide +kernel)
theorem qc_yX9_requireTree : Cond.code yX9_requireTree cX9_requireTree 2 (Option.some (Jvm.ClassFile.FieldType.object "Barnacle$Tree")) ∈ fwT := fw_mem (i := 635) (by decide +kernel) (by decide +kernel)
theorem ql_RX9_259 : Cond.classLink RX9 259 "java/lang/IndexOutOfBoundsException" ∈ fwT := fw_mem (i := 636) (by decide +kernel) (by decide +kernel)
theorem qk_IOB_IOB : Cond.castable "java/lang/IndexOutOfBoundsException" "java/lang/IndexOutOfBoundsException" ∈ fwT := fw_mem (i := 638) (by decide +kernel) (by decide +kernel)
theorem ql_RX9_112 : Cond.methodLink RX9 112 yX2_remove ∈ fwT := fw_mem (i := 652) (by decide +kernel) (by decide +kernel)
theorem qi_yX2_remove : Cond.instanceMethod yX2_remove ∈ fwT := fw_mem (i := 653) (by decide +kernel) (by decide +kernel)
theorem qv_yX2_remove : Cond.selects RX2 yX2_remove yX2_remove ∈ fwT := fw_mem (i := 654) (by decide +kernel) (by decide +kernel)
theorem qc_yX2_remove : Cond.code yX2_remove cX2_remove 3 (Option.none : Option Jvm.ClassFile.FieldType) ∈ fwT := fw_mem (i := 655) (by decide +kernel) (by decide +kernel)
theorem ql_RL_135 : Cond.methodLink RL 135 yL_addCase ∈ fwT := fw_mem (i := 656) (by decide +kernel) (by decide +kernel)
theorem qs_yL_addCase : Cond.static yL_addCase ∈ fwT := fw_mem (i := 657) (by decide +kernel) (by decide +kernel)
theorem qw_yL_addCase : Cond.codeWith yL_addCase cL_addCase 7 (some .int) [(0, 14, 17, 13), (0, 14, 21, 15)] ∈ fwT := fw_mem (i := 658) (by decide +kernel) (by decide +kernel)
theorem ql_RL_27 : Cond.methodLink RL 27 yX9_addCase ∈ fwT := fw_mem (i := 659) (by decide +kernel) (by decide +kernel)
theorem qi_yX9_addCase : Cond.instanceMethod yX9_addCase ∈ fwT := fw_mem (i := 660) (by decide +kernel) (by decide +kernel)
theorem qv_yX9_addCase : Cond.selects RX9 yX9_addCase yX9_addCase ∈ fwT := fw_mem (i := 661) (by decide +kernel) (by decide +kernel)
theorem qc_yX9_addCase : Cond.code yX9_addCase cX9_addCase 6 (Option.some Jvm.ClassFile.FieldType.int) ∈ fwT := fw_mem (i := 662) (by decide +kernel) (by decide +kernel)
theorem ql_RX9_116 : Cond.methodLink RX9 116 yX9_requireInputs ∈ fwT := fw_mem (i := 663) (by decide +kernel) (by decide +kernel)
theorem qs_yX9_requireInputs : Cond.static yX9_requireInputs ∈ fwT := fw_mem (i := 664) (by decide +kernel) (by decide +kernel)
theorem qc_yX9_requireInputs : Cond.code yX9_requireInputs cX9_requireInputs 3 (Option.none : Option Jvm.ClassFile.FieldType) ∈ fwT := fw_mem (i := 665) (by decide +kernel) (by decide +kernel)
theorem ql_RX9_315 : Cond.methodLink RX9 315 yX9_isInput ∈ fwT := fw_mem (i := 666) (by decide +kernel) (by decide +kernel)
theorem qs_yX9_isInput : Cond.static yX9_isInput ∈ fwT := fw_mem (i := 667) (by decide +kernel) (by decide +kernel)
theorem qc_yX9_isInput : Cond.code yX9_isInput cX9_isInput 1 (Option.some Jvm.ClassFile.FieldType.boolean) ∈ fwT := fw_mem (i := 668) (by decide +kernel) (by decide +kernel)
theorem ql_RX9_130 : Cond.methodLink RX9 130 yX3_add ∈ fwT := fw_mem (i := 672) (by decide +kernel) (by decide +kernel)
theorem qi_yX3_add : Cond.instanceMethod yX3_add ∈ fwT := fw_mem (i := 673) (by decide +kernel) (by decide +kernel)
theorem qv_yX3_add : Cond.selects RX3 yX3_add yX3_add ∈ fwT := fw_mem (i := 674) (by decide +kernel) (by decide +kernel)
theorem qc_yX3_add : Cond.code yX3_add cX3_add 5 (Option.none : Option Jvm.ClassFile.FieldType) ∈ fwT := fw_mem (i := 675) (by decide +kernel) (by decide +kernel)
theorem ql_RX3_38 : Cond.methodLinkNest RX3 38 yX9_put "Barnacle" ∈ fwT := fw_mem (i := 676) (by decide +kernel) (by decide +kernel)
theorem ql_RL_139 : Cond.methodLink RL 139 yL_setWay ∈ fwT := fw_mem (i := 677) (by decide +kernel) (by decide +kernel)
theorem qs_yL_setWay : Cond.static yL_setWay ∈ fwT := fw_mem (i := 678) (by decide +kernel) (by decide +kernel)
theorem qw_yL_setWay : Cond.codeWith yL_setWay cL_setWay 5 (some .int) [(0, 10, 13, 13)] ∈ fwT := fw_mem (i := 679) (by decide +kernel) (by decide +kernel)
theorem ql_RL_31 : Cond.methodLink RL 31 yX9_setWay ∈ fwT := fw_mem (i := 680) (by decide +kernel) (by decide +kernel)
theorem qi_yX9_setWay : Cond.instanceMethod yX9_setWay ∈ fwT := fw_mem (i := 681) (by decide +kernel) (by decide +kernel)
theorem qv_yX9_setWay : Cond.selects RX9 yX9_setWay yX9_setWay ∈ fwT := fw_mem (i := 682) (by decide +kernel) (by decide +kernel)
theorem qc_yX9_setWay : Cond.code yX9_setWay cX9_setWay 4 (Option.some Jvm.ClassFile.FieldType.int) ∈ fwT := fw_mem (i := 683) (by decide +kernel) (by decide +kernel)
theorem ql_RL_142 : Cond.methodLink RL 142 yL_cross ∈ fwT := fw_mem (i := 685) (by decide +kernel) (by decide +kernel)
theorem qs_yL_cross : Cond.static yL_cross ∈ fwT := fw_mem (i := 686) (by decide +kernel) (by decide +kernel)
theorem qw_yL_cross : Cond.codeWith yL_cross cL_cross 7 (some .int) [(0, 14, 17, 25)] ∈ fwT := fw_mem (i := 687) (by decide +kernel) (by decide +kernel)
theorem ql_RL_34 : Cond.methodLink RL 34 yX9_cross ∈ fwT := fw_mem (i := 688) (by decide +kernel) (by decide +kernel)
theorem qi_yX9_cross : Cond.instanceMethod yX9_cross ∈ fwT := fw_mem (i := 689) (by decide +kernel) (by decide +kernel)
theorem qv_yX9_cross : Cond.selects RX9 yX9_cross yX9_cross ∈ fwT := fw_mem (i := 690) (by decide +kernel) (by decide +kernel)
theorem qc_yX9_cross : Cond.code yX9_cross cX9_cross 7 (Option.some Jvm.ClassFile.FieldType.int) ∈ fwT := fw_mem (i := 691) (by decide +kernel) (by decide +kernel)
theorem ql_RX9_141 : Cond.methodLink RX9 141 yX9_requirePlace ∈ fwT := fw_mem (i := 692) (by decide +kernel) (by decide +kernel)
theorem qi_yX9_requirePlace : Cond.instanceMethod yX9_requirePlace ∈ fwT := fw_mem (i := 694) (by decide +kernel) (by decide +kernel)
theorem qc_yX9_requirePlace : Cond.code yX9_requirePlace cX9_requirePlace 4 (Option.some (Jvm.ClassFile.FieldType.object "Barnacle$Tree")) ∈ fwT := fw_mem (i := 695) (by decide +kernel) (by decide +kernel)
theorem ql_RX9_145 : Cond.methodLink RX9 145 yX8_becomeCrossed ∈ fwT := fw_mem (i := 697) (by decide +kernel) (by decide +kernel)
theorem qi_yX8_becomeCrossed : Cond.instanceMethod yX8_becomeCrossed ∈ fwT := fw_mem (i := 698) (by decide +kernel) (by decide +kernel)
theorem qv_yX8_becomeCrossed : Cond.selects RX8 yX8_becomeCrossed yX8_becomeCrossed ∈ fwT := fw_mem (i := 699) (by decide +kernel) (by decide +kernel)
theorem qc_yX8_becomeCrossed : Cond.code yX8_becomeCrossed cX8_becomeCrossed 6 (Option.some Jvm.ClassFile.FieldType.boolean) ∈ fwT := fw_mem (i := 700) (by decide +kernel) (by decide +kernel)
theorem ql_RX8_38 : Cond.methodLink RX8 38 yX8_span ∈ fwT := fw_mem (i := 701) (by decide +kernel) (by decide +kernel)
theorem qi_yX8_span : Cond.instanceMethod yX8_span ∈ fwT := fw_mem (i := 702) (by decide +kernel) (by decide +kernel)
theorem qv_yX8_span : Cond.selects RX8 yX8_span yX8_span ∈ fwT := fw_mem (i := 703) (by decide +kernel) (by decide +kernel)
theorem qc_yX8_span : Cond.code yX8_span cX8_span 2 (Option.some Jvm.ClassFile.FieldType.int) ∈ fwT := fw_mem (i := 704) (by decide +kernel) (by decide +kernel)
theorem ql_RX8_51 : Cond.methodLink RX8 51 yX8_isNumber ∈ fwT := fw_mem (i := 705) (by decide +kernel) (by decide +kernel)
theorem qi_yX8_isNumber : Cond.instanceMethod yX8_isNumber ∈ fwT := fw_mem (i := 706) (by decide +kernel) (by decide +kernel)
theorem qv_yX8_isNumber : Cond.selects RX8 yX8_isNumber yX8_isNumber ∈ fwT := fw_mem (i := 707) (by decide +kernel) (by decide +kernel)
theorem qc_yX8_isNumber : Cond.code yX8_isNumber cX8_isNumber 2 (Option.some Jvm.ClassFile.FieldType.boolean) ∈ fwT := fw_mem (i := 708) (by decide +kernel) (by decide +kernel)
theorem ql_RX8_35 : Cond.methodLink RX8 35 yX8_behind ∈ fwT := fw_mem (i := 709) (by decide +kernel) (by decide +kernel)
theorem qi_yX8_behind : Cond.instanceMethod yX8_behind ∈ fwT := fw_mem (i := 710) (by decide +kernel) (by decide +kernel)
theorem qv_yX8_behind : Cond.selects RX8 yX8_behind yX8_behind ∈ fwT := fw_mem (i := 711) (by decide +kernel) (by decide +kernel)
theorem qc_yX8_behind : Cond.code yX8_behind cX8_behind 2 (Option.some Jvm.ClassFile.FieldType.int) ∈ fwT := fw_mem (i := 712) (by decide +kernel) (by decide +kernel)
theorem ql_RX9_149 : Cond.methodLink RX9 149 yX8_copyFrom ∈ fwT := fw_mem (i := 713) (by decide +kernel) (by decide +kernel)
theorem ql_RL_145 : Cond.methodLink RL 145 yL_hoist ∈ fwT := fw_mem (i := 714) (by decide +kernel) (by decide +kernel)
theorem qs_yL_hoist : Cond.static yL_hoist ∈ fwT := fw_mem (i := 715) (by decide +kernel) (by decide +kernel)
theorem qw_yL_hoist : Cond.codeWith yL_hoist cL_hoist 5 (some .int) [(0, 10, 13, 25)] ∈ fwT := fw_mem (i := 716) (by decide +kernel) (by decide +kernel)
theorem ql_RL_37 : Cond.methodLink RL 37 yX9_hoist ∈ fwT := fw_mem (i := 717) (by decide +kernel) (by decide +kernel)
theorem qi_yX9_hoist : Cond.instanceMethod yX9_hoist ∈ fwT := fw_mem (i := 718) (by decide +kernel) (by decide +kernel)
theorem qv_yX9_hoist : Cond.selects RX9 yX9_hoist yX9_hoist ∈ fwT := fw_mem (i := 719) (by decide +kernel) (by decide +kernel)
theorem qc_yX9_hoist : Cond.code yX9_hoist cX9_hoist 4 (Option.some Jvm.ClassFile.FieldType.int) ∈ fwT := fw_mem (i := 720) (by decide +kernel) (by decide +kernel)
theorem ql_RX9_152 : Cond.methodLink RX9 152 yX8_isNumber ∈ fwT := fw_mem (i := 721) (by decide +kernel) (by decide +kernel)
theorem ql_RX9_155 : Cond.methodLink RX9 155 yX8_keepPart ∈ fwT := fw_mem (i := 722) (by decide +kernel) (by decide +kernel)
theorem qi_yX8_keepPart : Cond.instanceMethod yX8_keepPart ∈ fwT := fw_mem (i := 723) (by decide +kernel) (by decide +kernel)
theorem qv_yX8_keepPart : Cond.selects RX8 yX8_keepPart yX8_keepPart ∈ fwT := fw_mem (i := 724) (by decide +kernel) (by decide +kernel)
theorem qc_yX8_keepPart : Cond.code yX8_keepPart cX8_keepPart 6 (Option.none : Option Jvm.ClassFile.FieldType) ∈ fwT := fw_mem (i := 725) (by decide +kernel) (by decide +kernel)
theorem ql_RX8_70 : Cond.methodLink RX8 70 yX8_closeGap ∈ fwT := fw_mem (i := 726) (by decide +kernel) (by decide +kernel)
theorem qi_yX8_closeGap : Cond.instanceMethod yX8_closeGap ∈ fwT := fw_mem (i := 728) (by decide +kernel) (by decide +kernel)
theorem qc_yX8_closeGap : Cond.code yX8_closeGap cX8_closeGap 5 (Option.none : Option Jvm.ClassFile.FieldType) ∈ fwT := fw_mem (i := 729) (by decide +kernel) (by decide +kernel)
theorem ql_RL_148 : Cond.methodLink RL 148 yL_recode ∈ fwT := fw_mem (i := 730) (by decide +kernel) (by decide +kernel)
theorem qs_yL_recode : Cond.static yL_recode ∈ fwT := fw_mem (i := 731) (by decide +kernel) (by decide +kernel)
theorem qw_yL_recode : Cond.codeWith yL_recode cL_recode 7 (some .int) [(0, 14, 17, 25), (0, 14, 21, 13)] ∈ fwT := fw_mem (i := 732) (by decide +kernel) (by decide +kernel)
theorem ql_RL_40 : Cond.methodLink RL 40 yX9_recode ∈ fwT := fw_mem (i := 733) (by decide +kernel) (by decide +kernel)
theorem qi_yX9_recode : Cond.instanceMethod yX9_recode ∈ fwT := fw_mem (i := 734) (by decide +kernel) (by decide +kernel)
theorem qv_yX9_recode : Cond.selects RX9 yX9_recode yX9_recode ∈ fwT := fw_mem (i := 735) (by decide +kernel) (by decide +kernel)
theorem qc_yX9_recode : Cond.code yX9_recode cX9_recode 7 (Option.some Jvm.ClassFile.FieldType.int) ∈ fwT := fw_mem (i := 736) (by decide +kernel) (by decide +kernel)
theorem ql_RX9_162 : Cond.fieldLink RX9 162 "Barnacle" "KIN_STARTS" "[I" ∈ fwT := fw_mem (i := 737) (by decide +kernel) (by decide +kernel)
theorem ql_RX9_166 : Cond.methodLink RX9 166 yX9_at ∈ fwT := fw_mem (i := 739) (by decide +kernel) (by decide +kernel)
theorem ql_RX9_170 : Cond.methodLink RX9 170 yX8_write ∈ fwT := fw_mem (i := 740) (by decide +kernel) (by decide +kernel)
theorem ql_RL_151 : Cond.methodLink RL 151 yL_wither ∈ fwT := fw_mem (i := 741) (by decide +kernel) (by decide +kernel)
theorem qs_yL_wither : Cond.static yL_wither ∈ fwT := fw_mem (i := 742) (by decide +kernel) (by decide +kernel)
theorem qw_yL_wither : Cond.codeWith yL_wither cL_wither 6 (some .int) [(0, 12, 15, 25), (0, 12, 19, 13)] ∈ fwT := fw_mem (i := 743) (by decide +kernel) (by decide +kernel)
theorem ql_RL_43 : Cond.methodLink RL 43 yX9_wither ∈ fwT := fw_mem (i := 744) (by decide +kernel) (by decide +kernel)
theorem qi_yX9_wither : Cond.instanceMethod yX9_wither ∈ fwT := fw_mem (i := 745) (by decide +kernel) (by decide +kernel)
theorem qv_yX9_wither : Cond.selects RX9 yX9_wither yX9_wither ∈ fwT := fw_mem (i := 746) (by decide +kernel) (by decide +kernel)
theorem qc_yX9_wither : Cond.code yX9_wither cX9_wither 5 (Option.some Jvm.ClassFile.FieldType.int) ∈ fwT := fw_mem (i := 747) (by decide +kernel) (by decide +kernel)
theorem ql_RX9_175 : Cond.methodLink RX9 175 yX8_makeConstant ∈ fwT := fw_mem (i := 749) (by decide +kernel) (by decide +kernel)
theorem qi_yX8_makeConstant : Cond.instanceMethod yX8_makeConstant ∈ fwT := fw_mem (i := 750) (by decide +kernel) (by decide +kernel)
theorem qv_yX8_makeConstant : Cond.selects RX8 yX8_makeConstant yX8_makeConstant ∈ fwT := fw_mem (i := 751) (by decide +kernel) (by decide +kernel)
theorem qc_yX8_makeConstant : Cond.code yX8_makeConstant cX8_makeConstant 4 (Option.none : Option Jvm.ClassFile.FieldType) ∈ fwT := fw_mem (i := 752) (by decide +kernel) (by decide +kernel)
theorem ql_RL_155 : Cond.methodLink RL 155 yL_simplify ∈ fwT := fw_mem (i := 753) (by decide +kernel) (by decide +kernel)
theorem qs_yL_simplify : Cond.static yL_simplify ∈ fwT := fw_mem (i := 754) (by decide +kernel) (by decide +kernel)
theorem qw_yL_simplify : Cond.codeWith yL_simplify cL_simplify 4 (some .int) [(0, 9, 12, 25)] ∈ fwT := fw_mem (i := 755) (by decide +kernel) (by decide +kernel)
theorem ql_RL_47 : Cond.methodLink RL 47 yX9_simplify ∈ fwT := fw_mem (i := 756) (by decide +kernel) (by decide +kernel)
theorem qi_yX9_simplify : Cond.instanceMethod yX9_simplify ∈ fwT := fw_mem (i := 757) (by decide +kernel) (by decide +kernel)
theorem qv_yX9_simplify : Cond.selects RX9 yX9_simplify yX9_simplify ∈ fwT := fw_mem (i := 758) (by decide +kernel) (by decide +kernel)
theorem qc_yX9_simplify : Cond.code yX9_simplify cX9_simplify 4 (Option.some Jvm.ClassFile.FieldType.int) ∈ fwT := fw_mem (i := 759) (by decide +kernel) (by decide +kernel)
theorem ql_RX9_178 : Cond.methodLink RX9 178 yX6_finish ∈ fwT := fw_mem (i := 760) (by decide +kernel) (by decide +kernel)
theorem qi_yX6_finish : Cond.instanceMethod yX6_finish ∈ fwT := fw_mem (i := 761) (by decide +kernel) (by decide +kernel)
theorem qv_yX6_finish : Cond.selects RX6 yX6_finish yX6_finish ∈ fwT := fw_mem (i := 762) (by decide +kernel) (by decide +kernel)
theorem qc_yX6_finish : Cond.code yX6_finish cX6_finish 4 (Option.none : Option Jvm.ClassFile.FieldType) ∈ fwT := fw_mem (i := 763) (by decide +kernel) (by decide +kernel)
theorem ql_RX6_24 : Cond.methodLink RX6 24 yX6_changeAt ∈ fwT := fw_mem (i := 764) (by decide +kernel) (by decide +kernel)
theorem qi_yX6_changeAt : Cond.instanceMethod yX6_changeAt ∈ fwT := fw_mem (i := 766) (by decide +kernel) (by decide +kernel)
theorem qc_yX6_changeAt : Cond.code yX6_changeAt cX6_changeAt 4 (Option.some Jvm.ClassFile.FieldType.boolean) ∈ fwT := fw_mem (i := 767) (by decide +kernel) (by decide +kernel)
theorem ql_RX6_28 : Cond.methodLink RX6 28 yX6_isFoldable ∈ fwT := fw_mem (i := 768) (by decide +kernel) (by decide +kernel)
theorem qs_yX6_isFoldable : Cond.static yX6_isFoldable ∈ fwT := fw_mem (i := 769) (by decide +kernel) (by decide +kernel)
theorem qc_yX6_isFoldable : Cond.code yX6_isFoldable cX6_isFoldable 2 (Option.some Jvm.ClassFile.FieldType.boolean) ∈ fwT := fw_mem (i := 770) (by decide +kernel) (by decide +kernel)
theorem ql_RX6_48 : Cond.methodLink RX6 48 yX8_isNumber ∈ fwT := fw_mem (i := 771) (by decide +kernel) (by decide +kernel)
theorem ql_RX6_52 : Cond.methodLink RX6 52 yX8_span ∈ fwT := fw_mem (i := 772) (by decide +kernel) (by decide +kernel)
theorem ql_RX6_56 : Cond.methodLink RX6 56 yX8_hasInput ∈ fwT := fw_mem (i := 773) (by decide +kernel) (by decide +kernel)
theorem qi_yX8_hasInput : Cond.instanceMethod yX8_hasInput ∈ fwT := fw_mem (i := 774) (by decide +kernel) (by decide +kernel)
theorem qv_yX8_hasInput : Cond.selects RX8 yX8_hasInput yX8_hasInput ∈ fwT := fw_mem (i := 775) (by decide +kernel) (by decide +kernel)
theorem qc_yX8_hasInput : Cond.code yX8_hasInput cX8_hasInput 4 (Option.some Jvm.ClassFile.FieldType.boolean) ∈ fwT := fw_mem (i := 776) (by decide +kernel) (by decide +kernel)
theorem ql_RX6_31 : Cond.methodLink RX6 31 yX5_resultOf ∈ fwT := fw_mem (i := 777) (by decide +kernel) (by decide +kernel)
theorem ql_RX6_35 : Cond.methodLink RX6 35 yX8_makeConstant ∈ fwT := fw_mem (i := 778) (by decide +kernel) (by decide +kernel)
theorem ql_RX6_39 : Cond.methodLink RX6 39 yX6_partThatStays ∈ fwT := fw_mem (i := 779) (by decide +kernel) (by decide +kernel)
theorem qs_yX6_partThatStays : Cond.static yX6_partThatStays ∈ fwT := fw_mem (i := 780) (by decide +kernel) (by decide +kernel)
theorem qc_yX6_partThatStays : Cond.code yX6_partThatStays cX6_partThatStays 4 (Option.some Jvm.ClassFile.FieldType.int) ∈ fwT := fw_mem (i := 781) (by decide +kernel) (by decide +kernel)
theorem ql_RX6_59 : Cond.methodLink RX6 59 yX8_behind ∈ fwT := fw_mem (i := 782) (by decide +kernel) (by decide +kernel)
theorem ql_RX6_62 : Cond.methodLink RX6 62 yX8_code ∈ fwT := fw_mem (i := 783) (by decide +kernel) (by decide +kernel)
theorem ql_RX6_65 : Cond.methodLink RX6 65 yX8_isConstant ∈ fwT := fw_mem (i := 784) (by decide +kernel) (by decide +kernel)
theorem qi_yX8_isConstant : Cond.instanceMethod yX8_isConstant ∈ fwT := fw_mem (i := 785) (by decide +kernel) (by decide +kernel)
theorem qv_yX8_isConstant : Cond.selects RX8 yX8_isConstant yX8_isConstant ∈ fwT := fw_mem (i := 786) (by decide +kernel) (by decide +kernel)
theorem qc_yX8_isConstant : Cond.code yX8_isConstant cX8_isConstant 3 (Option.some Jvm.ClassFile.FieldType.boolean) ∈ fwT := fw_mem (i := 787) (by decide +kernel) (by decide +kernel)
theorem ql_RX6_69 : Cond.methodLink RX6 69 yX8_sameParts ∈ fwT := fw_mem (i := 788) (by decide +kernel) (by decide +kernel)
theorem qi_yX8_sameParts : Cond.instanceMethod yX8_sameParts ∈ fwT := fw_mem (i := 789) (by decide +kernel) (by decide +kernel)
theorem qv_yX8_sameParts : Cond.selects RX8 yX8_sameParts yX8_sameParts ∈ fwT := fw_mem (i := 790) (by decide +kernel) (by decide +kernel)
theorem qc_yX8_sameParts : Cond.code yX8_sameParts cX8_sameParts 5 (Option.some Jvm.ClassFile.FieldType.boolean) ∈ fwT := fw_mem (i := 791) (by decide +kernel) (by decide +kernel)
theorem ql_RX6_42 : Cond.methodLink RX6 42 yX8_keepPart ∈ fwT := fw_mem (i := 792) (by decide +kernel) (by decide +kernel)
theorem ql_RX6_45 : Cond.methodLink RX6 45 yX6_isNothing ∈ fwT := fw_mem (i := 793) (by decide +kernel) (by decide +kernel)
theorem qs_yX6_isNothing : Cond.static yX6_isNothing ∈ fwT := fw_mem (i := 794) (by decide +kernel) (by decide +kernel)
theorem qc_yX6_isNothing : Cond.code yX6_isNothing cX6_isNothing 5 (Option.some Jvm.ClassFile.FieldType.boolean) ∈ fwT := fw_mem (i := 795) (by decide +kernel) (by decide +kernel)
theorem ql_RL_158 : Cond.methodLink RL 158 yL_setRates ∈ fwT := fw_mem (i := 796) (by decide +kernel) (by decide +kernel)
theorem qs_yL_setRates : Cond.static yL_setRates ∈ fwT := fw_mem (i := 797) (by decide +kernel) (by decide +kernel)
theorem qw_yL_setRates : Cond.codeWith yL_setRates cL_setRates 6 (some .int) [(0, 12, 15, 13)] ∈ fwT := fw_mem (i := 798) (by decide +kernel) (by decide +kernel)
theorem ql_RL_50 : Cond.methodLink RL 50 yX9_setRates ∈ fwT := fw_mem (i := 799) (by decide +kernel) (by decide +kernel)
theorem qi_yX9_setRates : Cond.instanceMethod yX9_setRates ∈ fwT := fw_mem (i := 800) (by decide +kernel) (by decide +kernel)
theorem qv_yX9_setRates : Cond.selects RX9 yX9_setRates yX9_setRates ∈ fwT := fw_mem (i := 801) (by decide +kernel) (by decide +kernel)
theorem qc_yX9_setRates : Cond.code yX9_setRates cX9_setRates 5 (Option.some Jvm.ClassFile.FieldType.int) ∈ fwT := fw_mem (i := 802) (by decide +kernel) (by decide +kernel)
theorem ql_RX9_181 : Cond.methodLink RX9 181 yX9_isRate ∈ fwT := fw_mem (i := 803) (by decide +kernel) (by decide +kernel)
theorem qs_yX9_isRate : Cond.static yX9_isRate ∈ fwT := fw_mem (i := 804) (by decide +kernel) (by decide +kernel)
theorem qc_yX9_isRate : Cond.code yX9_isRate cX9_isRate 1 (Option.some Jvm.ClassFile.FieldType.boolean) ∈ fwT := fw_mem (i := 805) (by decide +kernel) (by decide +kernel)
theorem ql_RL_161 : Cond.methodLink RL 161 yL_setChoosing ∈ fwT := fw_mem (i := 807) (by decide +kernel) (by decide +kernel)
theorem qs_yL_setChoosing : Cond.static yL_setChoosing ∈ fwT := fw_mem (i := 808) (by decide +kernel) (by decide +kernel)
theorem qw_yL_setChoosing : Cond.codeWith yL_setChoosing cL_setChoosing 5 (some .int) [(0, 10, 13, 13)] ∈ fwT := fw_mem (i := 809) (by decide +kernel) (by decide +kernel)
theorem ql_RL_53 : Cond.methodLink RL 53 yX9_setChoosing ∈ fwT := fw_mem (i := 810) (by decide +kernel) (by decide +kernel)
theorem qi_yX9_setChoosing : Cond.instanceMethod yX9_setChoosing ∈ fwT := fw_mem (i := 811) (by decide +kernel) (by decide +kernel)
theorem qv_yX9_setChoosing : Cond.selects RX9 yX9_setChoosing yX9_setChoosing ∈ fwT := fw_mem (i := 812) (by decide +kernel) (by decide +kernel)
theorem qc_yX9_setChoosing : Cond.code yX9_setChoosing cX9_setChoosing 4 (Option.some Jvm.ClassFile.FieldType.int) ∈ fwT := fw_mem (i := 813) (by decide +kernel) (by decide +kernel)
theorem ql_RL_164 : Cond.methodLink RL 164 yL_setLuck ∈ fwT := fw_mem (i := 815) (by decide +kernel) (by decide +kernel)
theorem qs_yL_setLuck : Cond.static yL_setLuck ∈ fwT := fw_mem (i := 816) (by decide +kernel) (by decide +kernel)
theorem qw_yL_setLuck : Cond.codeWith yL_setLuck cL_setLuck 4 (some .int) [(0, 9, 12, 13)] ∈ fwT := fw_mem (i := 817) (by decide +kernel) (by decide +kernel)
theorem ql_RL_56 : Cond.methodLink RL 56 yX9_setLuck ∈ fwT := fw_mem (i := 818) (by decide +kernel) (by decide +kernel)
theorem qi_yX9_setLuck : Cond.instanceMethod yX9_setLuck ∈ fwT := fw_mem (i := 819) (by decide +kernel) (by decide +kernel)
theorem qv_yX9_setLuck : Cond.selects RX9 yX9_setLuck yX9_setLuck ∈ fwT := fw_mem (i := 820) (by decide +kernel) (by decide +kernel)
theorem qc_yX9_setLuck : Cond.code yX9_setLuck cX9_setLuck 3 (Option.some Jvm.ClassFile.FieldType.int) ∈ fwT := fw_mem (i := 821) (by decide +kernel) (by decide +kernel)
theorem ql_RL_167 : Cond.methodLink RL 167 yL_tell ∈ fwT := fw_mem (i := 823) (by decide +kernel) (by decide +kernel)
theorem qs_yL_tell : Cond.static yL_tell ∈ fwT := fw_mem (i := 824) (by decide +kernel) (by decide +kernel)
theorem qw_yL_tell : Cond.codeWith yL_tell cL_tell 4 (some .int) [(0, 9, 12, 13), (0, 9, 15, 15)] ∈ fwT := fw_mem (i := 825) (by decide +kernel) (by decide +kernel)
theorem ql_RL_59 : Cond.methodLink RL 59 yX9_tell ∈ fwT := fw_mem (i := 826) (by decide +kernel) (by decide +kernel)
theorem qi_yX9_tell : Cond.instanceMethod yX9_tell ∈ fwT := fw_mem (i := 827) (by decide +kernel) (by decide +kernel)
theorem qv_yX9_tell : Cond.selects RX9 yX9_tell yX9_tell ∈ fwT := fw_mem (i := 828) (by decide +kernel) (by decide +kernel)
theorem qc_yX9_tell : Cond.code yX9_tell cX9_tell 2 (Option.some Jvm.ClassFile.FieldType.int) ∈ fwT := fw_mem (i := 829) (by decide +kernel) (by decide +kernel)
theorem ql_RX9_221 : Cond.methodLink RX9 221 yX1_add ∈ fwT := fw_mem (i := 832) (by decide +kernel) (by decide +kernel)
theorem qi_yX1_add : Cond.instanceMethod yX1_add ∈ fwT := fw_mem (i := 833) (by decide +kernel) (by decide +kernel)
theorem qv_yX1_add : Cond.selects RX1 yX1_add yX1_add ∈ fwT := fw_mem (i := 834) (by decide +kernel) (by decide +kernel)
theorem qc_yX1_add : Cond.code yX1_add cX1_add 2 (Option.none : Option Jvm.ClassFile.FieldType) ∈ fwT := fw_mem (i := 835) (by decide +kernel) (by decide +kernel)
theorem ql_RX1_19 : Cond.methodLinkNest RX1 19 yX9_put "Barnacle" ∈ fwT := fw_mem (i := 836) (by decide +kernel) (by decide +kernel)
theorem ql_RL_170 : Cond.methodLink RL 170 yL_breed ∈ fwT := fw_mem (i := 837) (by decide +kernel) (by decide +kernel)
theorem qs_yL_breed : Cond.static yL_breed ∈ fwT := fw_mem (i := 838) (by decide +kernel) (by decide +kernel)
theorem qw_yL_breed : Cond.codeWith yL_breed cL_breed 4 (some .int) [(0, 9, 12, 13), (0, 9, 15, 15)] ∈ fwT := fw_mem (i := 839) (by decide +kernel) (by decide +kernel)
theorem ql_RL_62 : Cond.methodLink RL 62 yX9_breed ∈ fwT := fw_mem (i := 840) (by decide +kernel) (by decide +kernel)
theorem qi_yX9_breed : Cond.instanceMethod yX9_breed ∈ fwT := fw_mem (i := 841) (by decide +kernel) (by decide +kernel)
theorem qv_yX9_breed : Cond.selects RX9 yX9_breed yX9_breed ∈ fwT := fw_mem (i := 842) (by decide +kernel) (by decide +kernel)
theorem qc_yX9_breed : Cond.code yX9_breed cX9_breed 2 (Option.some Jvm.ClassFile.FieldType.int) ∈ fwT := fw_mem (i := 843) (by decide +kernel) (by decide +kernel)
theorem ql_RX9_223 : Cond.methodLink RX9 223 yX9_requireBreeding ∈ fwT := fw_mem (i := 844) (by decide +kernel) (by decide +kernel)
theorem qi_yX9_requireBreeding : Cond.instanceMethod yX9_requireBreeding ∈ fwT := fw_mem (i := 846) (by decide +kernel) (by decide +kernel)
theorem qc_yX9_requireBreeding : Cond.code yX9_requireBreeding cX9_requireBreeding 2 (Option.none : Option Jvm.ClassFile.FieldType) ∈ fwT := fw_mem (i := 847) (by decide +kernel) (by decide +kernel)
theorem ql_RX9_226 : Cond.methodLink RX9 226 yX0_errorAfter ∈ fwT := fw_mem (i := 850) (by decide +kernel) (by decide +kernel)
theorem qi_yX0_errorAfter : Cond.instanceMethod yX0_errorAfter ∈ fwT := fw_mem (i := 851) (by decide +kernel) (by decide +kernel)
theorem qv_yX0_errorAfter : Cond.selects RX0 yX0_errorAfter yX0_errorAfter ∈ fwT := fw_mem (i := 852) (by decide +kernel) (by decide +kernel)
theorem qc_yX0_errorAfter : Cond.code yX0_errorAfter cX0_errorAfter 7 (Option.some Jvm.ClassFile.FieldType.int) ∈ fwT := fw_mem (i := 853) (by decide +kernel) (by decide +kernel)
theorem ql_RX0_34 : Cond.methodLink RX0 34 yX4_rank ∈ fwT := fw_mem (i := 854) (by decide +kernel) (by decide +kernel)
theorem ql_RX0_43 : Cond.methodLink RX0 43 Lib.Math.min.name ∈ fwT := fw_mem (i := 855) (by decide +kernel) (by decide +kernel)
theorem ql_RX0_49 : Cond.methodLink RX0 49 yX2_youngTree ∈ fwT := fw_mem (i := 856) (by decide +kernel) (by decide +kernel)
theorem qi_yX2_youngTree : Cond.instanceMethod yX2_youngTree ∈ fwT := fw_mem (i := 857) (by decide +kernel) (by decide +kernel)
theorem qv_yX2_youngTree : Cond.selects RX2 yX2_youngTree yX2_youngTree ∈ fwT := fw_mem (i := 858) (by decide +kernel) (by decide +kernel)
theorem qc_yX2_youngTree : Cond.code yX2_youngTree cX2_youngTree 2 (Option.some (Jvm.ClassFile.FieldType.object "Barnacle$Tree")) ∈ fwT := fw_mem (i := 859) (by decide +kernel) (by decide +kernel)
theorem ql_RX0_53 : Cond.methodLink RX0 53 yX4_withRank ∈ fwT := fw_mem (i := 860) (by decide +kernel) (by decide +kernel)
theorem ql_RX0_57 : Cond.methodLink RX0 57 yX2_tree ∈ fwT := fw_mem (i := 861) (by decide +kernel) (by decide +kernel)
theorem ql_RX0_60 : Cond.methodLink RX0 60 yX8_copyFrom ∈ fwT := fw_mem (i := 862) (by decide +kernel) (by decide +kernel)
theorem ql_RX0_66 : Cond.methodLink RX0 66 yX0_makeYoung ∈ fwT := fw_mem (i := 863) (by decide +kernel) (by decide +kernel)
theorem qi_yX0_makeYoung : Cond.instanceMethod yX0_makeYoung ∈ fwT := fw_mem (i := 865) (by decide +kernel) (by decide +kernel)
theorem qc_yX0_makeYoung : Cond.code yX0_makeYoung cX0_makeYoung 5 (Option.none : Option Jvm.ClassFile.FieldType) ∈ fwT := fw_mem (i := 866) (by decide +kernel) (by decide +kernel)
theorem ql_RX0_83 : Cond.methodLink RX0 83 yX1_below ∈ fwT := fw_mem (i := 867) (by decide +kernel) (by decide +kernel)
theorem qi_yX1_below : Cond.instanceMethod yX1_below ∈ fwT := fw_mem (i := 868) (by decide +kernel) (by decide +kernel)
theorem qv_yX1_below : Cond.selects RX1 yX1_below yX1_below ∈ fwT := fw_mem (i := 869) (by decide +kernel) (by decide +kernel)
theorem qc_yX1_below : Cond.code yX1_below cX1_below 2 (Option.some Jvm.ClassFile.FieldType.int) ∈ fwT := fw_mem (i := 870) (by decide +kernel) (by decide +kernel)
theorem ql_RX1_23 : Cond.methodLink RX1 23 yX1_takeFirst ∈ fwT := fw_mem (i := 871) (by decide +kernel) (by decide +kernel)
theorem qi_yX1_takeFirst : Cond.instanceMethod yX1_takeFirst ∈ fwT := fw_mem (i := 873) (by decide +kernel) (by decide +kernel)
theorem qc_yX1_takeFirst : Cond.code yX1_takeFirst cX1_takeFirst 3 (Option.some Jvm.ClassFile.FieldType.int) ∈ fwT := fw_mem (i := 874) (by decide +kernel) (by decide +kernel)
theorem ql_RX1_30 : Cond.methodLinkNest RX1 30 yX9_at "Barnacle" ∈ fwT := fw_mem (i := 875) (by decide +kernel) (by decide +kernel)
theorem ql_RX0_88 : Cond.methodLink RX0 88 yX0_choose ∈ fwT := fw_mem (i := 876) (by decide +kernel) (by decide +kernel)
theorem qi_yX0_choose : Cond.instanceMethod yX0_choose ∈ fwT := fw_mem (i := 878) (by decide +kernel) (by decide +kernel)
theorem qc_yX0_choose : Cond.code yX0_choose cX0_choose 5 (Option.some (Jvm.ClassFile.FieldType.object "Barnacle$Tree")) ∈ fwT := fw_mem (i := 879) (by decide +kernel) (by decide +kernel)
theorem ql_RX0_103 : Cond.methodLink RX0 103 yX4_isBetter ∈ fwT := fw_mem (i := 880) (by decide +kernel) (by decide +kernel)
theorem ql_RX0_92 : Cond.methodLink RX0 92 yX0_crossYoung ∈ fwT := fw_mem (i := 881) (by decide +kernel) (by decide +kernel)
theorem qs_yX0_crossYoung : Cond.static yX0_crossYoung ∈ fwT := fw_mem (i := 882) (by decide +kernel) (by decide +kernel)
theorem qc_yX0_crossYoung : Cond.code yX0_crossYoung cX0_crossYoung 8 (Option.none : Option Jvm.ClassFile.FieldType) ∈ fwT := fw_mem (i := 883) (by decide +kernel) (by decide +kernel)
theorem ql_RX0_110 : Cond.methodLink RX0 110 yX8_isNumber ∈ fwT := fw_mem (i := 884) (by decide +kernel) (by decide +kernel)
theorem ql_RX0_114 : Cond.methodLink RX0 114 yX8_countOfType ∈ fwT := fw_mem (i := 885) (by decide +kernel) (by decide +kernel)
theorem qi_yX8_countOfType : Cond.instanceMethod yX8_countOfType ∈ fwT := fw_mem (i := 886) (by decide +kernel) (by decide +kernel)
theorem qv_yX8_countOfType : Cond.selects RX8 yX8_countOfType yX8_countOfType ∈ fwT := fw_mem (i := 887) (by decide +kernel) (by decide +kernel)
theorem qc_yX8_countOfType : Cond.code yX8_countOfType cX8_countOfType 4 (Option.some Jvm.ClassFile.FieldType.int) ∈ fwT := fw_mem (i := 888) (by decide +kernel) (by decide +kernel)
theorem ql_RX0_121 : Cond.methodLink RX0 121 yX8_placeOfType ∈ fwT := fw_mem (i := 889) (by decide +kernel) (by decide +kernel)
theorem qi_yX8_placeOfType : Cond.instanceMethod yX8_placeOfType ∈ fwT := fw_mem (i := 890) (by decide +kernel) (by decide +kernel)
theorem qv_yX8_placeOfType : Cond.selects RX8 yX8_placeOfType yX8_placeOfType ∈ fwT := fw_mem (i := 891) (by decide +kernel) (by decide +kernel)
theorem qc_yX8_placeOfType : Cond.code yX8_placeOfType cX8_placeOfType 5 (Option.some Jvm.ClassFile.FieldType.int) ∈ fwT := fw_mem (i := 892) (by decide +kernel) (by decide +kernel)
theorem ql_RX0_125 : Cond.methodLink RX0 125 yX8_becomeCrossed ∈ fwT := fw_mem (i := 893) (by decide +kernel) (by decide +kernel)
theorem ql_RX0_96 : Cond.methodLink RX0 96 yX0_changeYoung ∈ fwT := fw_mem (i := 894) (by decide +kernel) (by decide +kernel)
theorem qs_yX0_changeYoung : Cond.static yX0_changeYoung ∈ fwT := fw_mem (i := 895) (by decide +kernel) (by decide +kernel)
theorem qc_yX0_changeYoung : Cond.code yX0_changeYoung cX0_changeYoung 4 (Option.none : Option Jvm.ClassFile.FieldType) ∈ fwT := fw_mem (i := 896) (by decide +kernel) (by decide +kernel)
theorem ql_RX0_129 : Cond.methodLink RX0 129 yX8_code ∈ fwT := fw_mem (i := 897) (by decide +kernel) (by decide +kernel)
theorem ql_RX0_132 : Cond.methodLink RX0 132 yX8_write ∈ fwT := fw_mem (i := 898) (by decide +kernel) (by decide +kernel)
theorem ql_RX0_136 : Cond.fieldLinkNest RX0 136 "Barnacle" "KIN_STARTS" "[I" "Barnacle" ∈ fwT := fw_mem (i := 899) (by decide +kernel) (by decide +kernel)
theorem ql_RX0_140 : Cond.methodLinkNest RX0 140 yX9_at "Barnacle" ∈ fwT := fw_mem (i := 900) (by decide +kernel) (by decide +kernel)
theorem ql_RX0_144 : Cond.fieldLinkNest RX0 144 "Barnacle" "KIN_COUNTS" "[I" "Barnacle" ∈ fwT := fw_mem (i := 901) (by decide +kernel) (by decide +kernel)
theorem ql_RX0_100 : Cond.methodLink RX0 100 yX0_hoistYoung ∈ fwT := fw_mem (i := 903) (by decide +kernel) (by decide +kernel)
theorem qs_yX0_hoistYoung : Cond.static yX0_hoistYoung ∈ fwT := fw_mem (i := 904) (by decide +kernel) (by decide +kernel)
theorem qc_yX0_hoistYoung : Cond.code yX0_hoistYoung cX0_hoistYoung 3 (Option.none : Option Jvm.ClassFile.FieldType) ∈ fwT := fw_mem (i := 905) (by decide +kernel) (by decide +kernel)
theorem ql_RX0_147 : Cond.methodLink RX0 147 yX8_keepPart ∈ fwT := fw_mem (i := 906) (by decide +kernel) (by decide +kernel)
theorem ql_RX0_70 : Cond.methodLink RX0 70 yX2_replaceByYoung ∈ fwT := fw_mem (i := 907) (by decide +kernel) (by decide +kernel)
theorem qi_yX2_replaceByYoung : Cond.instanceMethod yX2_replaceByYoung ∈ fwT := fw_mem (i := 908) (by decide +kernel) (by decide +kernel)
theorem qv_yX2_replaceByYoung : Cond.selects RX2 yX2_replaceByYoung yX2_replaceByYoung ∈ fwT := fw_mem (i := 909) (by decide +kernel) (by decide +kernel)
theorem qc_yX2_replaceByYoung : Cond.code yX2_replaceByYoung cX2_replaceByYoung 2 (Option.none : Option Jvm.ClassFile.FieldType) ∈ fwT := fw_mem (i := 910) (by decide +kernel) (by decide +kernel)
theorem ql_RX0_73 : Cond.methodLink RX0 73 yX3_errorOf ∈ fwT := fw_mem (i := 911) (by decide +kernel) (by decide +kernel)
theorem ql_RL_185 : Cond.methodLink RL 185 yL_size ∈ fwT := fw_mem (i := 912) (by decide +kernel) (by decide +kernel)
theorem qs_yL_size : Cond.static yL_size ∈ fwT := fw_mem (i := 913) (by decide +kernel) (by decide +kernel)
theorem qw_yL_size : Cond.codeWith yL_size cL_size 4 (some .int) [(0, 9, 12, 25)] ∈ fwT := fw_mem (i := 914) (by decide +kernel) (by decide +kernel)
theorem ql_RL_65 : Cond.methodLink RL 65 yX9_size ∈ fwT := fw_mem (i := 915) (by decide +kernel) (by decide +kernel)
theorem qi_yX9_size : Cond.instanceMethod yX9_size ∈ fwT := fw_mem (i := 916) (by decide +kernel) (by decide +kernel)
theorem qv_yX9_size : Cond.selects RX9 yX9_size yX9_size ∈ fwT := fw_mem (i := 917) (by decide +kernel) (by decide +kernel)
theorem qc_yX9_size : Cond.code yX9_size cX9_size 2 (Option.some Jvm.ClassFile.FieldType.int) ∈ fwT := fw_mem (i := 918) (by decide +kernel) (by decide +kernel)
theorem ql_RL_188 : Cond.methodLink RL 188 yL_depth ∈ fwT := fw_mem (i := 919) (by decide +kernel) (by decide +kernel)
theorem qs_yL_depth : Cond.static yL_depth ∈ fwT := fw_mem (i := 920) (by decide +kernel) (by decide +kernel)
theorem qw_yL_depth : Cond.codeWith yL_depth cL_depth 4 (some .int) [(0, 9, 12, 25)] ∈ fwT := fw_mem (i := 921) (by decide +kernel) (by decide +kernel)
theorem ql_RL_68 : Cond.methodLink RL 68 yX9_depth ∈ fwT := fw_mem (i := 922) (by decide +kernel) (by decide +kernel)
theorem qi_yX9_depth : Cond.instanceMethod yX9_depth ∈ fwT := fw_mem (i := 923) (by decide +kernel) (by decide +kernel)
theorem qv_yX9_depth : Cond.selects RX9 yX9_depth yX9_depth ∈ fwT := fw_mem (i := 924) (by decide +kernel) (by decide +kernel)
theorem qc_yX9_depth : Cond.code yX9_depth cX9_depth 2 (Option.some Jvm.ClassFile.FieldType.int) ∈ fwT := fw_mem (i := 925) (by decide +kernel) (by decide +kernel)
theorem ql_RL_191 : Cond.methodLink RL 191 yL_codeAt ∈ fwT := fw_mem (i := 926) (by decide +kernel) (by decide +kernel)
theorem qs_yL_codeAt : Cond.static yL_codeAt ∈ fwT := fw_mem (i := 927) (by decide +kernel) (by decide +kernel)
theorem qw_yL_codeAt : Cond.codeWith yL_codeAt cL_codeAt 5 (some .int) [(0, 10, 13, 25)] ∈ fwT := fw_mem (i := 928) (by decide +kernel) (by decide +kernel)
theorem ql_RL_71 : Cond.methodLink RL 71 yX9_codeAt ∈ fwT := fw_mem (i := 929) (by decide +kernel) (by decide +kernel)
theorem qi_yX9_codeAt : Cond.instanceMethod yX9_codeAt ∈ fwT := fw_mem (i := 930) (by decide +kernel) (by decide +kernel)
theorem qv_yX9_codeAt : Cond.selects RX9 yX9_codeAt yX9_codeAt ∈ fwT := fw_mem (i := 931) (by decide +kernel) (by decide +kernel)
theorem qc_yX9_codeAt : Cond.code yX9_codeAt cX9_codeAt 3 (Option.some Jvm.ClassFile.FieldType.int) ∈ fwT := fw_mem (i := 932) (by decide +kernel) (by decide +kernel)
theorem ql_RL_194 : Cond.methodLink RL 194 yL_valueAt ∈ fwT := fw_mem (i := 933) (by decide +kernel) (by decide +kernel)
theorem qs_yL_valueAt : Cond.static yL_valueAt ∈ fwT := fw_mem (i := 934) (by decide +kernel) (by decide +kernel)
theorem qw_yL_valueAt : Cond.codeWith yL_valueAt cL_valueAt 5 (some .int) [(0, 10, 13, 25)] ∈ fwT := fw_mem (i := 935) (by decide +kernel) (by decide +kernel)
theorem ql_RL_74 : Cond.methodLink RL 74 yX9_valueAt ∈ fwT := fw_mem (i := 936) (by decide +kernel) (by decide +kernel)
theorem qi_yX9_valueAt : Cond.instanceMethod yX9_valueAt ∈ fwT := fw_mem (i := 937) (by decide +kernel) (by decide +kernel)
theorem qv_yX9_valueAt : Cond.selects RX9 yX9_valueAt yX9_valueAt ∈ fwT := fw_mem (i := 938) (by decide +kernel) (by decide +kernel)
theorem qc_yX9_valueAt : Cond.code yX9_valueAt cX9_valueAt 3 (Option.some Jvm.ClassFile.FieldType.int) ∈ fwT := fw_mem (i := 939) (by decide +kernel) (by decide +kernel)
theorem ql_RL_197 : Cond.methodLink RL 197 yL_sizeAt ∈ fwT := fw_mem (i := 940) (by decide +kernel) (by decide +kernel)
theorem qs_yL_sizeAt : Cond.static yL_sizeAt ∈ fwT := fw_mem (i := 941) (by decide +kernel) (by decide +kernel)
theorem qw_yL_sizeAt : Cond.codeWith yL_sizeAt cL_sizeAt 5 (some .int) [(0, 10, 13, 25)] ∈ fwT := fw_mem (i := 942) (by decide +kernel) (by decide +kernel)
theorem ql_RL_77 : Cond.methodLink RL 77 yX9_sizeAt ∈ fwT := fw_mem (i := 943) (by decide +kernel) (by decide +kernel)
theorem qi_yX9_sizeAt : Cond.instanceMethod yX9_sizeAt ∈ fwT := fw_mem (i := 944) (by decide +kernel) (by decide +kernel)
theorem qv_yX9_sizeAt : Cond.selects RX9 yX9_sizeAt yX9_sizeAt ∈ fwT := fw_mem (i := 945) (by decide +kernel) (by decide +kernel)
theorem qc_yX9_sizeAt : Cond.code yX9_sizeAt cX9_sizeAt 3 (Option.some Jvm.ClassFile.FieldType.int) ∈ fwT := fw_mem (i := 946) (by decide +kernel) (by decide +kernel)
theorem ql_RX9_236 : Cond.methodLink RX9 236 yX8_span ∈ fwT := fw_mem (i := 947) (by decide +kernel) (by decide +kernel)
theorem ql_RL_200 : Cond.methodLink RL 200 yL_above ∈ fwT := fw_mem (i := 948) (by decide +kernel) (by decide +kernel)
theorem qs_yL_above : Cond.static yL_above ∈ fwT := fw_mem (i := 949) (by decide +kernel) (by decide +kernel)
theorem qw_yL_above : Cond.codeWith yL_above cL_above 5 (some .int) [(0, 10, 13, 25)] ∈ fwT := fw_mem (i := 950) (by decide +kernel) (by decide +kernel)
theorem ql_RL_80 : Cond.methodLink RL 80 yX9_above ∈ fwT := fw_mem (i := 951) (by decide +kernel) (by decide +kernel)
theorem qi_yX9_above : Cond.instanceMethod yX9_above ∈ fwT := fw_mem (i := 952) (by decide +kernel) (by decide +kernel)
theorem qv_yX9_above : Cond.selects RX9 yX9_above yX9_above ∈ fwT := fw_mem (i := 953) (by decide +kernel) (by decide +kernel)
theorem qc_yX9_above : Cond.code yX9_above cX9_above 3 (Option.some Jvm.ClassFile.FieldType.int) ∈ fwT := fw_mem (i := 954) (by decide +kernel) (by decide +kernel)
theorem ql_RX9_239 : Cond.methodLink RX9 239 yX8_placeAbove ∈ fwT := fw_mem (i := 955) (by decide +kernel) (by decide +kernel)
theorem qi_yX8_placeAbove : Cond.instanceMethod yX8_placeAbove ∈ fwT := fw_mem (i := 956) (by decide +kernel) (by decide +kernel)
theorem qv_yX8_placeAbove : Cond.selects RX8 yX8_placeAbove yX8_placeAbove ∈ fwT := fw_mem (i := 957) (by decide +kernel) (by decide +kernel)
theorem qc_yX8_placeAbove : Cond.code yX8_placeAbove cX8_placeAbove 3 (Option.some Jvm.ClassFile.FieldType.int) ∈ fwT := fw_mem (i := 958) (by decide +kernel) (by decide +kernel)
theorem ql_RL_203 : Cond.methodLink RL 203 yL_gives ∈ fwT := fw_mem (i := 959) (by decide +kernel) (by decide +kernel)
theorem qs_yL_gives : Cond.static yL_gives ∈ fwT := fw_mem (i := 960) (by decide +kernel) (by decide +kernel)
theorem qw_yL_gives : Cond.codeWith yL_gives cL_gives 7 (some .int) [(0, 14, 17, 25), (0, 14, 21, 13)] ∈ fwT := fw_mem (i := 961) (by decide +kernel) (by decide +kernel)
theorem ql_RL_83 : Cond.methodLink RL 83 yX9_gives ∈ fwT := fw_mem (i := 962) (by decide +kernel) (by decide +kernel)
theorem qi_yX9_gives : Cond.instanceMethod yX9_gives ∈ fwT := fw_mem (i := 963) (by decide +kernel) (by decide +kernel)
theorem qv_yX9_gives : Cond.selects RX9 yX9_gives yX9_gives ∈ fwT := fw_mem (i := 964) (by decide +kernel) (by decide +kernel)
theorem qc_yX9_gives : Cond.code yX9_gives cX9_gives 6 (Option.some Jvm.ClassFile.FieldType.int) ∈ fwT := fw_mem (i := 965) (by decide +kernel) (by decide +kernel)
theorem ql_RX9_242 : Cond.methodLink RX9 242 yX5_setInputs ∈ fwT := fw_mem (i := 966) (by decide +kernel) (by decide +kernel)
theorem ql_RX9_245 : Cond.methodLink RX9 245 yX5_resultOf ∈ fwT := fw_mem (i := 967) (by decide +kernel) (by decide +kernel)
theorem ql_RL_206 : Cond.methodLink RL 206 yL_error ∈ fwT := fw_mem (i := 968) (by decide +kernel) (by decide +kernel)
theorem qs_yL_error : Cond.static yL_error ∈ fwT := fw_mem (i := 969) (by decide +kernel) (by decide +kernel)
theorem qw_yL_error : Cond.codeWith yL_error cL_error 4 (some .int) [(0, 9, 12, 25)] ∈ fwT := fw_mem (i := 970) (by decide +kernel) (by decide +kernel)
theorem ql_RL_86 : Cond.methodLink RL 86 yX9_error ∈ fwT := fw_mem (i := 971) (by decide +kernel) (by decide +kernel)
theorem qi_yX9_error : Cond.instanceMethod yX9_error ∈ fwT := fw_mem (i := 972) (by decide +kernel) (by decide +kernel)
theorem qv_yX9_error : Cond.selects RX9 yX9_error yX9_error ∈ fwT := fw_mem (i := 973) (by decide +kernel) (by decide +kernel)
theorem qc_yX9_error : Cond.code yX9_error cX9_error 2 (Option.some Jvm.ClassFile.FieldType.int) ∈ fwT := fw_mem (i := 974) (by decide +kernel) (by decide +kernel)
theorem ql_RL_209 : Cond.methodLink RL 209 yL_merit ∈ fwT := fw_mem (i := 975) (by decide +kernel) (by decide +kernel)
theorem qs_yL_merit : Cond.static yL_merit ∈ fwT := fw_mem (i := 976) (by decide +kernel) (by decide +kernel)
theorem qw_yL_merit : Cond.codeWith yL_merit cL_merit 4 (some .int) [(0, 9, 12, 25)] ∈ fwT := fw_mem (i := 977) (by decide +kernel) (by decide +kernel)
theorem ql_RL_89 : Cond.methodLink RL 89 yX9_merit ∈ fwT := fw_mem (i := 978) (by decide +kernel) (by decide +kernel)
theorem qi_yX9_merit : Cond.instanceMethod yX9_merit ∈ fwT := fw_mem (i := 979) (by decide +kernel) (by decide +kernel)
theorem qv_yX9_merit : Cond.selects RX9 yX9_merit yX9_merit ∈ fwT := fw_mem (i := 980) (by decide +kernel) (by decide +kernel)
theorem qc_yX9_merit : Cond.code yX9_merit cX9_merit 2 (Option.some Jvm.ClassFile.FieldType.int) ∈ fwT := fw_mem (i := 981) (by decide +kernel) (by decide +kernel)
theorem ql_RL_212 : Cond.methodLink RL 212 yL_hits ∈ fwT := fw_mem (i := 982) (by decide +kernel) (by decide +kernel)
theorem qs_yL_hits : Cond.static yL_hits ∈ fwT := fw_mem (i := 983) (by decide +kernel) (by decide +kernel)
theorem qw_yL_hits : Cond.codeWith yL_hits cL_hits 4 (some .int) [(0, 9, 12, 25)] ∈ fwT := fw_mem (i := 984) (by decide +kernel) (by decide +kernel)
theorem ql_RL_92 : Cond.methodLink RL 92 yX9_hits ∈ fwT := fw_mem (i := 985) (by decide +kernel) (by decide +kernel)
theorem qi_yX9_hits : Cond.instanceMethod yX9_hits ∈ fwT := fw_mem (i := 986) (by decide +kernel) (by decide +kernel)
theorem qv_yX9_hits : Cond.selects RX9 yX9_hits yX9_hits ∈ fwT := fw_mem (i := 987) (by decide +kernel) (by decide +kernel)
theorem qc_yX9_hits : Cond.code yX9_hits cX9_hits 2 (Option.some Jvm.ClassFile.FieldType.int) ∈ fwT := fw_mem (i := 988) (by decide +kernel) (by decide +kernel)
theorem ql_RL_215 : Cond.methodLink RL 215 yL_ranked ∈ fwT := fw_mem (i := 989) (by decide +kernel) (by decide +kernel)
theorem qs_yL_ranked : Cond.static yL_ranked ∈ fwT := fw_mem (i := 990) (by decide +kernel) (by decide +kernel)
theorem qw_yL_ranked : Cond.codeWith yL_ranked cL_ranked 4 (some .int) [(0, 9, 12, 25)] ∈ fwT := fw_mem (i := 991) (by decide +kernel) (by decide +kernel)
theorem ql_RL_95 : Cond.methodLink RL 95 yX9_ranked ∈ fwT := fw_mem (i := 992) (by decide +kernel) (by decide +kernel)
theorem qi_yX9_ranked : Cond.instanceMethod yX9_ranked ∈ fwT := fw_mem (i := 993) (by decide +kernel) (by decide +kernel)
theorem qv_yX9_ranked : Cond.selects RX9 yX9_ranked yX9_ranked ∈ fwT := fw_mem (i := 994) (by decide +kernel) (by decide +kernel)
theorem qc_yX9_ranked : Cond.code yX9_ranked cX9_ranked 2 (Option.some Jvm.ClassFile.FieldType.int) ∈ fwT := fw_mem (i := 995) (by decide +kernel) (by decide +kernel)
theorem ql_RL_222 : Cond.methodLink RL 222 yL_alike ∈ fwT := fw_mem (i := 997) (by decide +kernel) (by decide +kernel)
theorem qs_yL_alike : Cond.static yL_alike ∈ fwT := fw_mem (i := 998) (by decide +kernel) (by decide +kernel)
theorem qw_yL_alike : Cond.codeWith yL_alike cL_alike 5 (some .int) [(0, 10, 13, 25)] ∈ fwT := fw_mem (i := 999) (by decide +kernel) (by decide +kernel)
theorem ql_RL_98 : Cond.methodLink RL 98 yX9_alike ∈ fwT := fw_mem (i := 1000) (by decide +kernel) (by decide +kernel)
theorem qi_yX9_alike : Cond.instanceMethod yX9_alike ∈ fwT := fw_mem (i := 1001) (by decide +kernel) (by decide +kernel)
theorem qv_yX9_alike : Cond.selects RX9 yX9_alike yX9_alike ∈ fwT := fw_mem (i := 1002) (by decide +kernel) (by decide +kernel)
theorem qc_yX9_alike : Cond.code yX9_alike cX9_alike 3 (Option.some Jvm.ClassFile.FieldType.int) ∈ fwT := fw_mem (i := 1003) (by decide +kernel) (by decide +kernel)
theorem ql_RX9_274 : Cond.methodLink RX9 274 yX8_sameNodes ∈ fwT := fw_mem (i := 1004) (by decide +kernel) (by decide +kernel)
theorem ql_RL_246 : Cond.methodLink RL 246 yL_errorCrossed ∈ fwT := fw_mem (i := 1005) (by decide +kernel) (by decide +kernel)
theorem qs_yL_errorCrossed : Cond.static yL_errorCrossed ∈ fwT := fw_mem (i := 1006) (by decide +kernel) (by decide +kernel)
theorem qw_yL_errorCrossed : Cond.codeWith yL_errorCrossed cL_errorCrossed 7 (some .int) [(0, 14, 17, 25)] ∈ fwT := fw_mem (i := 1007) (by decide +kernel) (by decide +kernel)
theorem ql_RL_101 : Cond.methodLink RL 101 yX9_errorCrossed ∈ fwT := fw_mem (i := 1008) (by decide +kernel) (by decide +kernel)
theorem qi_yX9_errorCrossed : Cond.instanceMethod yX9_errorCrossed ∈ fwT := fw_mem (i := 1009) (by decide +kernel) (by decide +kernel)
theorem qv_yX9_errorCrossed : Cond.selects RX9 yX9_errorCrossed yX9_errorCrossed ∈ fwT := fw_mem (i := 1010) (by decide +kernel) (by decide +kernel)
theorem qc_yX9_errorCrossed : Cond.code yX9_errorCrossed cX9_errorCrossed 7 (Option.some Jvm.ClassFile.FieldType.int) ∈ fwT := fw_mem (i := 1011) (by decide +kernel) (by decide +kernel)
theorem ql_RL_249 : Cond.methodLink RL 249 yL_bestHoist ∈ fwT := fw_mem (i := 1012) (by decide +kernel) (by decide +kernel)
theorem qs_yL_bestHoist : Cond.static yL_bestHoist ∈ fwT := fw_mem (i := 1013) (by decide +kernel) (by decide +kernel)
theorem qw_yL_bestHoist : Cond.codeWith yL_bestHoist cL_bestHoist 4 (some .int) [(0, 9, 12, 25)] ∈ fwT := fw_mem (i := 1014) (by decide +kernel) (by decide +kernel)
theorem ql_RL_104 : Cond.methodLink RL 104 yX9_bestHoist ∈ fwT := fw_mem (i := 1015) (by decide +kernel) (by decide +kernel)
theorem qi_yX9_bestHoist : Cond.instanceMethod yX9_bestHoist ∈ fwT := fw_mem (i := 1016) (by decide +kernel) (by decide +kernel)
theorem qv_yX9_bestHoist : Cond.selects RX9 yX9_bestHoist yX9_bestHoist ∈ fwT := fw_mem (i := 1017) (by decide +kernel) (by decide +kernel)
theorem qc_yX9_bestHoist : Cond.code yX9_bestHoist cX9_bestHoist 7 (Option.some Jvm.ClassFile.FieldType.int) ∈ fwT := fw_mem (i := 1018) (by decide +kernel) (by decide +kernel)
theorem ql_RL_252 : Cond.methodLink RL 252 yL_errorBred ∈ fwT := fw_mem (i := 1019) (by decide +kernel) (by decide +kernel)
theorem qs_yL_errorBred : Cond.static yL_errorBred ∈ fwT := fw_mem (i := 1020) (by decide +kernel) (by decide +kernel)
theorem qw_yL_errorBred : Cond.codeWith yL_errorBred cL_errorBred 4 (some .int) [(0, 9, 12, 13), (0, 9, 15, 15)] ∈ fwT := fw_mem (i := 1021) (by decide +kernel) (by decide +kernel)
theorem ql_RL_107 : Cond.methodLink RL 107 yX9_errorBred ∈ fwT := fw_mem (i := 1022) (by decide +kernel) (by decide +kernel)
theorem qi_yX9_errorBred : Cond.instanceMethod yX9_errorBred ∈ fwT := fw_mem (i := 1023) (by decide +kernel) (by decide +kernel)
theorem qv_yX9_errorBred : Cond.selects RX9 yX9_errorBred yX9_errorBred ∈ fwT := fw_mem (i := 1024) (by decide +kernel) (by decide +kernel)
theorem qc_yX9_errorBred : Cond.code yX9_errorBred cX9_errorBred 2 (Option.some Jvm.ClassFile.FieldType.int) ∈ fwT := fw_mem (i := 1025) (by decide +kernel) (by decide +kernel)
theorem ql_RX9_286 : Cond.methodLink RX9 286 yX2_copyFrom ∈ fwT := fw_mem (i := 1026) (by decide +kernel) (by decide +kernel)
theorem qi_yX2_copyFrom : Cond.instanceMethod yX2_copyFrom ∈ fwT := fw_mem (i := 1027) (by decide +kernel) (by decide +kernel)
theorem qv_yX2_copyFrom : Cond.selects RX2 yX2_copyFrom yX2_copyFrom ∈ fwT := fw_mem (i := 1028) (by decide +kernel) (by decide +kernel)
theorem qc_yX2_copyFrom : Cond.code yX2_copyFrom cX2_copyFrom 3 (Option.none : Option Jvm.ClassFile.FieldType) ∈ fwT := fw_mem (i := 1029) (by decide +kernel) (by decide +kernel)
theorem ql_RX2_58 : Cond.methodLink RX2 58 yX1_copyFrom ∈ fwT := fw_mem (i := 1030) (by decide +kernel) (by decide +kernel)
theorem qi_yX1_copyFrom : Cond.instanceMethod yX1_copyFrom ∈ fwT := fw_mem (i := 1031) (by decide +kernel) (by decide +kernel)
theorem qv_yX1_copyFrom : Cond.selects RX1 yX1_copyFrom yX1_copyFrom ∈ fwT := fw_mem (i := 1032) (by decide +kernel) (by decide +kernel)
theorem qc_yX1_copyFrom : Cond.code yX1_copyFrom cX1_copyFrom 3 (Option.none : Option Jvm.ClassFile.FieldType) ∈ fwT := fw_mem (i := 1033) (by decide +kernel) (by decide +kernel)
theorem ql_RL_111 : Cond.classLink RL 111 RX10 ∈ fwT := fw_mem (i := 1034) (by decide +kernel) (by decide +kernel)
theorem qt_RX10 : Cond.instantiable RX10 21 ∈ fwT := fw_mem (i := 1035) (by decide +kernel) (by decide +kernel)
theorem ql_RL_113 : Cond.methodLink RL 113 yX10_init ∈ fwT := fw_mem (i := 1036) (by decide +kernel) (by decide +kernel)
theorem qi_yX10_init : Cond.instanceMethod yX10_init ∈ fwT := fw_mem (i := 1037) (by decide +kernel) (by decide +kernel)
theorem qc_yX10_init : Cond.code yX10_init cX10_init 1 (Option.none : Option Jvm.ClassFile.FieldType) ∈ fwT := fw_mem (i := 1038) (by decide +kernel) (by decide +kernel)
theorem ql_RX10_121 : Cond.methodLink RX10 121 objectInit ∈ fwT := fw_mem (i := 1039) (by decide +kernel) (by decide +kernel)
theorem ql_RX10_130 : Cond.classLink RX10 130 "[I" ∈ fwT := fw_mem (i := 1040) (by decide +kernel) (by decide +kernel)
theorem qo_arr : Cond.arrayOver (.array .int) ∈ fwT := fw_mem (i := 1041) (by decide +kernel) (by decide +kernel)
theorem ql_RX10_72 : Cond.fieldLink RX10 72 "BarnacleModel" "row" "[I" ∈ fwT := fw_mem (i := 1042) (by decide +kernel) (by decide +kernel)
theorem ql_RX10_163 : Cond.fieldLink RX10 163 "BarnacleModel" "thrown" "I" ∈ fwT := fw_mem (i := 1043) (by decide +kernel) (by decide +kernel)
theorem ql_RX10_127 : Cond.fieldLink RX10 127 "BarnacleModel" "sketch" "[I" ∈ fwT := fw_mem (i := 1044) (by decide +kernel) (by decide +kernel)
theorem ql_RX10_179 : Cond.fieldLink RX10 179 "BarnacleModel" "sketched" "I" ∈ fwT := fw_mem (i := 1045) (by decide +kernel) (by decide +kernel)
theorem ql_RX10_166 : Cond.fieldLink RX10 166 "BarnacleModel" "trees" "I" ∈ fwT := fw_mem (i := 1046) (by decide +kernel) (by decide +kernel)
theorem ql_RX10_131 : Cond.fieldLink RX10 131 "BarnacleModel" "grove" "[[I" ∈ fwT := fw_mem (i := 1047) (by decide +kernel) (by decide +kernel)
theorem ql_RX10_189 : Cond.fieldLink RX10 189 "BarnacleModel" "cases" "I" ∈ fwT := fw_mem (i := 1048) (by decide +kernel) (by decide +kernel)
theorem ql_RX10_135 : Cond.fieldLink RX10 135 "BarnacleModel" "inputs" "[I" ∈ fwT := fw_mem (i := 1049) (by decide +kernel) (by decide +kernel)
theorem ql_RX10_138 : Cond.fieldLink RX10 138 "BarnacleModel" "due" "[I" ∈ fwT := fw_mem (i := 1050) (by decide +kernel) (by decide +kernel)
theorem ql_RX10_192 : Cond.fieldLink RX10 192 "BarnacleModel" "way" "I" ∈ fwT := fw_mem (i := 1051) (by decide +kernel) (by decide +kernel)
theorem ql_RX10_141 : Cond.fieldLink RX10 141 "BarnacleModel" "weight" "I" ∈ fwT := fw_mem (i := 1052) (by decide +kernel) (by decide +kernel)
theorem ql_RX10_223 : Cond.fieldLink RX10 223 "BarnacleModel" "waiting" "I" ∈ fwT := fw_mem (i := 1053) (by decide +kernel) (by decide +kernel)
theorem ql_RX10_145 : Cond.fieldLink RX10 145 "BarnacleModel" "told" "[I" ∈ fwT := fw_mem (i := 1054) (by decide +kernel) (by decide +kernel)
theorem ql_RX10_220 : Cond.fieldLink RX10 220 "BarnacleModel" "luck" "I" ∈ fwT := fw_mem (i := 1055) (by decide +kernel) (by decide +kernel)
theorem ql_RX10_148 : Cond.fieldLink RX10 148 "BarnacleModel" "crossing" "I" ∈ fwT := fw_mem (i := 1056) (by decide +kernel) (by decide +kernel)
theorem ql_RX10_151 : Cond.fieldLink RX10 151 "BarnacleModel" "changing" "I" ∈ fwT := fw_mem (i := 1057) (by decide +kernel) (by decide +kernel)
theorem ql_RX10_154 : Cond.fieldLink RX10 154 "BarnacleModel" "hoisting" "I" ∈ fwT := fw_mem (i := 1058) (by decide +kernel) (by decide +kernel)
theorem ql_RX10_157 : Cond.fieldLink RX10 157 "BarnacleModel" "tournament" "I" ∈ fwT := fw_mem (i := 1059) (by decide +kernel) (by decide +kernel)
theorem ql_RX10_160 : Cond.fieldLink RX10 160 "BarnacleModel" "elite" "I" ∈ fwT := fw_mem (i := 1060) (by decide +kernel) (by decide +kernel)
theorem ql_RX10_263 : Cond.fieldLink RX10 263 "BarnacleModel" "generations" "I" ∈ fwT := fw_mem (i := 1061) (by decide +kernel) (by decide +kernel)
theorem ql_RX10_260 : Cond.fieldLink RX10 260 "BarnacleModel" "misses" "I" ∈ fwT := fw_mem (i := 1062) (by decide +kernel) (by decide +kernel)
theorem ql_RL_120 : Cond.methodLink RL 120 yX10_thrown ∈ fwT := fw_mem (i := 1106) (by decide +kernel) (by decide +kernel)
theorem qi_yX10_thrown : Cond.instanceMethod yX10_thrown ∈ fwT := fw_mem (i := 1107) (by decide +kernel) (by decide +kernel)
theorem qv_yX10_thrown : Cond.selects RX10 yX10_thrown yX10_thrown ∈ fwT := fw_mem (i := 1108) (by decide +kernel) (by decide +kernel)
theorem qc_yX10_thrown : Cond.code yX10_thrown cX10_thrown 1 (Option.some Jvm.ClassFile.FieldType.int) ∈ fwT := fw_mem (i := 1109) (by decide +kernel) (by decide +kernel)
theorem ql_RL_119 : Cond.methodLink RL 119 yX10_sketch ∈ fwT := fw_mem (i := 1110) (by decide +kernel) (by decide +kernel)
theorem qi_yX10_sketch : Cond.instanceMethod yX10_sketch ∈ fwT := fw_mem (i := 1111) (by decide +kernel) (by decide +kernel)
theorem qv_yX10_sketch : Cond.selects RX10 yX10_sketch yX10_sketch ∈ fwT := fw_mem (i := 1112) (by decide +kernel) (by decide +kernel)
theorem qc_yX10_sketch : Cond.code yX10_sketch cX10_sketch 9 (Option.some Jvm.ClassFile.FieldType.int) ∈ fwT := fw_mem (i := 1113) (by decide +kernel) (by decide +kernel)
theorem ql_RX10_172 : Cond.methodLink RX10 172 yX10_isCode ∈ fwT := fw_mem (i := 1114) (by decide +kernel) (by decide +kernel)
theorem qs_yX10_isCode : Cond.static yX10_isCode ∈ fwT := fw_mem (i := 1115) (by decide +kernel) (by decide +kernel)
theorem qc_yX10_isCode : Cond.code yX10_isCode cX10_isCode 2 (Option.some Jvm.ClassFile.FieldType.boolean) ∈ fwT := fw_mem (i := 1116) (by decide +kernel) (by decide +kernel)
theorem ql_RX10_94 : Cond.methodLink RX10 94 yX10_isIn ∈ fwT := fw_mem (i := 1117) (by decide +kernel) (by decide +kernel)
theorem qs_yX10_isIn : Cond.static yX10_isIn ∈ fwT := fw_mem (i := 1118) (by decide +kernel) (by decide +kernel)
theorem qc_yX10_isIn : Cond.code yX10_isIn cX10_isIn 3 (Option.some Jvm.ClassFile.FieldType.boolean) ∈ fwT := fw_mem (i := 1119) (by decide +kernel) (by decide +kernel)
theorem ql_RX10_176 : Cond.methodLink RX10 176 yX10_no ∈ fwT := fw_mem (i := 1120) (by decide +kernel) (by decide +kernel)
theorem qi_yX10_no : Cond.instanceMethod yX10_no ∈ fwT := fw_mem (i := 1122) (by decide +kernel) (by decide +kernel)
theorem qc_yX10_no : Cond.code yX10_no cX10_no 2 (Option.some Jvm.ClassFile.FieldType.int) ∈ fwT := fw_mem (i := 1123) (by decide +kernel) (by decide +kernel)
theorem ql_RX10_182 : Cond.methodLink RX10 182 yX10_missing ∈ fwT := fw_mem (i := 1124) (by decide +kernel) (by decide +kernel)
theorem qs_yX10_missing : Cond.static yX10_missing ∈ fwT := fw_mem (i := 1125) (by decide +kernel) (by decide +kernel)
theorem qc_yX10_missing : Cond.code yX10_missing cX10_missing 9 (Option.some Jvm.ClassFile.FieldType.int) ∈ fwT := fw_mem (i := 1126) (by decide +kernel) (by decide +kernel)
theorem ql_RX10_35 : Cond.methodLink RX10 35 yX10_codeOf ∈ fwT := fw_mem (i := 1127) (by decide +kernel) (by decide +kernel)
theorem qs_yX10_codeOf : Cond.static yX10_codeOf ∈ fwT := fw_mem (i := 1128) (by decide +kernel) (by decide +kernel)
theorem qc_yX10_codeOf : Cond.code yX10_codeOf cX10_codeOf 1 (Option.some Jvm.ClassFile.FieldType.int) ∈ fwT := fw_mem (i := 1129) (by decide +kernel) (by decide +kernel)
theorem ql_RX10_27 : Cond.methodLink RX10 27 yX10_beneath ∈ fwT := fw_mem (i := 1130) (by decide +kernel) (by decide +kernel)
theorem qs_yX10_beneath : Cond.static yX10_beneath ∈ fwT := fw_mem (i := 1131) (by decide +kernel) (by decide +kernel)
theorem qc_yX10_beneath : Cond.code yX10_beneath cX10_beneath 1 (Option.some (Jvm.ClassFile.FieldType.object "java/lang/String")) ∈ fwT := fw_mem (i := 1132) (by decide +kernel) (by decide +kernel)
theorem ql_RX10_13 : Cond.methodLink RX10 13 yJ0_length_8abf5 ∈ fwT := fw_mem (i := 1138) (by decide +kernel) (by decide +kernel)
theorem qi_yJ0_length_8abf5 : Cond.instanceMethod yJ0_length_8abf5 ∈ fwT := fw_mem (i := 1139) (by decide +kernel) (by decide +kernel)
theorem qv_yJ0_length_8abf5 : Cond.selects RJ0 yJ0_length_8abf5 yJ0_length_8abf5 ∈ fwT := fw_mem (i := 1140) (by decide +kernel) (by decide +kernel)
theorem qc_yJ0_length_8abf5 : Cond.code yJ0_length_8abf5 cJ0_length_8abf5 1 (Option.some Jvm.ClassFile.FieldType.int) ∈ fwT := fw_mem (i := 1141) (by decide +kernel) (by decide +kernel)
theorem ql_RJ0_335 : Cond.methodLink RJ0 335 yJ0_coder_7d493 ∈ fwT := fw_mem (i := 1142) (by decide +kernel) (by decide +kernel)
theorem qi_yJ0_coder_7d493 : Cond.instanceMethod yJ0_coder_7d493 ∈ fwT := fw_mem (i := 1143) (by decide +kernel) (by decide +kernel)
theorem qv_yJ0_coder_7d493 : Cond.selects RJ0 yJ0_coder_7d493 yJ0_coder_7d493 ∈ fwT := fw_mem (i := 1144) (by decide +kernel) (by decide +kernel)
theorem qc_yJ0_coder_7d493 : Cond.code yJ0_coder_7d493 cJ0_coder_7d493 1 (Option.some Jvm.ClassFile.FieldType.byte) ∈ fwT := fw_mem (i := 1145) (by decide +kernel) (by decide +kernel)
theorem ql_RJ0_38 : Cond.fieldLink RJ0 38 "java/lang/String" "COMPACT_STRINGS" "Z" ∈ fwT := fw_mem (i := 1146) (by decide +kernel) (by decide +kernel)
theorem ql_RX10_19 : Cond.methodLink RX10 19 yJ0_charAt_5068e ∈ fwT := fw_mem (i := 1148) (by decide +kernel) (by decide +kernel)
theorem qi_yJ0_charAt_5068e : Cond.instanceMethod yJ0_charAt_5068e ∈ fwT := fw_mem (i := 1149) (by decide +kernel) (by decide +kernel)
theorem qv_yJ0_charAt_5068e : Cond.selects RJ0 yJ0_charAt_5068e yJ0_charAt_5068e ∈ fwT := fw_mem (i := 1150) (by decide +kernel) (by decide +kernel)
theorem qc_yJ0_charAt_5068e : Cond.code yJ0_charAt_5068e cJ0_charAt_5068e 2 (Option.some Jvm.ClassFile.FieldType.char) ∈ fwT := fw_mem (i := 1151) (by decide +kernel) (by decide +kernel)
theorem ql_RJ0_492 : Cond.methodLink RJ0 492 yJ0_isLatin1_aae02 ∈ fwT := fw_mem (i := 1152) (by decide +kernel) (by decide +kernel)
theorem qi_yJ0_isLatin1_aae02 : Cond.instanceMethod yJ0_isLatin1_aae02 ∈ fwT := fw_mem (i := 1153) (by decide +kernel) (by decide +kernel)
theorem qv_yJ0_isLatin1_aae02 : Cond.selects RJ0 yJ0_isLatin1_aae02 yJ0_isLatin1_aae02 ∈ fwT := fw_mem (i := 1154) (by decide +kernel) (by decide +kernel)
theorem qc_yJ0_isLatin1_aae02 : Cond.code yJ0_isLatin1_aae02 cJ0_isLatin1_aae02 1 (Option.some Jvm.ClassFile.FieldType.boolean) ∈ fwT := fw_mem (i := 1155) (by decide +kernel) (by decide +kernel)
theorem ql_RJ0_495 : Cond.methodLink RJ0 495 yJ1_charAt_3b067 ∈ fwT := fw_mem (i := 1156) (by decide +kernel) (by decide +kernel)
theorem qs_yJ1_charAt_3b067 : Cond.static yJ1_charAt_3b067 ∈ fwT := fw_mem (i := 1157) (by decide +kernel) (by decide +kernel)
theorem qc_yJ1_charAt_3b067 : Cond.code yJ1_charAt_3b067 cJ1_charAt_3b067 2 (Option.some Jvm.ClassFile.FieldType.char) ∈ fwT := fw_mem (i := 1158) (by decide +kernel) (by decide +kernel)
theorem ql_RJ1_9 : Cond.methodLink RJ1 9 yJ0_checkIndex_df160 ∈ fwT := fw_mem (i := 1159) (by decide +kernel) (by decide +kernel)
theorem qs_yJ0_checkIndex_df160 : Cond.static yJ0_checkIndex_df160 ∈ fwT := fw_mem (i := 1160) (by decide +kernel) (by decide +kernel)
theorem qc_yJ0_checkIndex_df160 : Cond.code yJ0_checkIndex_df160 cJ0_checkIndex_df160 2 (Option.none : Option Jvm.ClassFile.FieldType) ∈ fwT := fw_mem (i := 1161) (by decide +kernel) (by decide +kernel)
theorem ql_RJ0_1053 : Cond.fieldLink RJ0 1053 "jdk/internal/util/Preconditions" "SIOOBE_FORMATTER" "Ljava/util/function/BiFunction;" ∈ fwT := fw_mem (i := 1162) (by decide +kernel) (by decide +kernel)
theorem ql_RJ0_1059 : Cond.methodLink RJ0 1059 yJ3_checkIndex_8e157 ∈ fwT := fw_mem (i := 1164) (by decide +kernel) (by decide +kernel)
theorem qs_yJ3_checkIndex_8e157 : Cond.static yJ3_checkIndex_8e157 ∈ fwT := fw_mem (i := 1165) (by decide +kernel) (by decide +kernel)
theorem qc_yJ3_checkIndex_8e157 : Cond.code yJ3_checkIndex_8e157 cJ3_checkIndex_8e157 3 (Option.some Jvm.ClassFile.FieldType.int) ∈ fwT := fw_mem (i := 1166) (by decide +kernel) (by decide +kernel)
theorem ql_RJ0_498 : Cond.methodLink RJ0 498 yJ2_charAt_3b067 ∈ fwT := fw_mem (i := 1167) (by decide +kernel) (by decide +kernel)
theorem qs_yJ2_charAt_3b067 : Cond.static yJ2_charAt_3b067 ∈ fwT := fw_mem (i := 1168) (by decide +kernel) (by decide +kernel)
theorem qc_yJ2_charAt_3b067 : Cond.code yJ2_charAt_3b067 cJ2_charAt_3b067 2 (Option.some Jvm.ClassFile.FieldType.char) ∈ fwT := fw_mem (i := 1169) (by decide +kernel) (by decide +kernel)
theorem ql_RJ2_67 : Cond.methodLink RJ2 67 yJ2_checkIndex_2214a ∈ fwT := fw_mem (i := 1170) (by decide +kernel) (by decide +kernel)
theorem qs_yJ2_checkIndex_2214a : Cond.static yJ2_checkIndex_2214a ∈ fwT := fw_mem (i := 1171) (by decide +kernel) (by decide +kernel)
theorem qc_yJ2_checkIndex_2214a : Cond.code yJ2_checkIndex_2214a cJ2_checkIndex_2214a 2 (Option.none : Option Jvm.ClassFile.FieldType) ∈ fwT := fw_mem (i := 1172) (by decide +kernel) (by decide +kernel)
theorem ql_RJ2_48 : Cond.methodLink RJ2 48 yJ2_length_9d52b ∈ fwT := fw_mem (i := 1173) (by decide +kernel) (by decide +kernel)
theorem qs_yJ2_length_9d52b : Cond.static yJ2_length_9d52b ∈ fwT := fw_mem (i := 1174) (by decide +kernel) (by decide +kernel)
theorem qc_yJ2_length_9d52b : Cond.code yJ2_length_9d52b cJ2_length_9d52b 1 (Option.some Jvm.ClassFile.FieldType.int) ∈ fwT := fw_mem (i := 1175) (by decide +kernel) (by decide +kernel)
theorem ql_RJ2_414 : Cond.methodLink RJ2 414 yJ0_checkIndex_df160 ∈ fwT := fw_mem (i := 1176) (by decide +kernel) (by decide +kernel)
theorem ql_RJ2_71 : Cond.methodLink RJ2 71 yJ2_getChar_3b067 ∈ fwT := fw_mem (i := 1177) (by decide +kernel) (by decide +kernel)
theorem qs_yJ2_getChar_3b067 : Cond.static yJ2_getChar_3b067 ∈ fwT := fw_mem (i := 1178) (by decide +kernel) (by decide +kernel)
theorem qc_yJ2_getChar_3b067 : Cond.code yJ2_getChar_3b067 cJ2_getChar_3b067 2 (Option.some Jvm.ClassFile.FieldType.char) ∈ fwT := fw_mem (i := 1179) (by decide +kernel) (by decide +kernel)
theorem ql_RJ2_44 : Cond.fieldLink RJ2 44 "java/lang/StringUTF16" "$assertionsDisabled" "Z" ∈ fwT := fw_mem (i := 1180) (by decide +kernel) (by decide +kernel)
theorem ql_RJ2_59 : Cond.fieldLink RJ2 59 "java/lang/StringUTF16" "HI_BYTE_SHIFT" "I" ∈ fwT := fw_mem (i := 1182) (by decide +kernel) (by decide +kernel)
theorem ql_RJ2_63 : Cond.fieldLink RJ2 63 "java/lang/StringUTF16" "LO_BYTE_SHIFT" "I" ∈ fwT := fw_mem (i := 1184) (by decide +kernel) (by decide +kernel)
theorem ql_RX10_23 : Cond.methodLink RX10 23 yX10_isNumber ∈ fwT := fw_mem (i := 1186) (by decide +kernel) (by decide +kernel)
theorem qs_yX10_isNumber : Cond.static yX10_isNumber ∈ fwT := fw_mem (i := 1187) (by decide +kernel) (by decide +kernel)
theorem qc_yX10_isNumber : Cond.code yX10_isNumber cX10_isNumber 1 (Option.some Jvm.ClassFile.FieldType.boolean) ∈ fwT := fw_mem (i := 1188) (by decide +kernel) (by decide +kernel)
theorem ql_RX10_186 : Cond.methodLink RX10 186 yX10_nodeOf ∈ fwT := fw_mem (i := 1189) (by decide +kernel) (by decide +kernel)
theorem qs_yX10_nodeOf : Cond.static yX10_nodeOf ∈ fwT := fw_mem (i := 1190) (by decide +kernel) (by decide +kernel)
theorem qc_yX10_nodeOf : Cond.code yX10_nodeOf cX10_nodeOf 2 (Option.some Jvm.ClassFile.FieldType.int) ∈ fwT := fw_mem (i := 1191) (by decide +kernel) (by decide +kernel)
theorem ql_RX10_62 : Cond.methodLink RX10 62 yX10_node ∈ fwT := fw_mem (i := 1192) (by decide +kernel) (by decide +kernel)
theorem qs_yX10_node : Cond.static yX10_node ∈ fwT := fw_mem (i := 1193) (by decide +kernel) (by decide +kernel)
theorem qc_yX10_node : Cond.code yX10_node cX10_node 2 (Option.some Jvm.ClassFile.FieldType.int) ∈ fwT := fw_mem (i := 1194) (by decide +kernel) (by decide +kernel)
theorem qa_boolean : Cond.arrayClass Jvm.ClassFile.FieldType.boolean ∈ fwT := fw_mem (i := 1195) (by decide +kernel) (by decide +kernel)
theorem ql_RL_126 : Cond.methodLink RL 126 yX10_erase ∈ fwT := fw_mem (i := 1196) (by decide +kernel) (by decide +kernel)
theorem qi_yX10_erase : Cond.instanceMethod yX10_erase ∈ fwT := fw_mem (i := 1197) (by decide +kernel) (by decide +kernel)
theorem qv_yX10_erase : Cond.selects RX10 yX10_erase yX10_erase ∈ fwT := fw_mem (i := 1198) (by decide +kernel) (by decide +kernel)
theorem qc_yX10_erase : Cond.code yX10_erase cX10_erase 2 (Option.some Jvm.ClassFile.FieldType.int) ∈ fwT := fw_mem (i := 1199) (by decide +kernel) (by decide +kernel)
theorem ql_RL_130 : Cond.methodLink RL 130 yX10_plant ∈ fwT := fw_mem (i := 1200) (by decide +kernel) (by decide +kernel)
theorem qi_yX10_plant : Cond.instanceMethod yX10_plant ∈ fwT := fw_mem (i := 1201) (by decide +kernel) (by decide +kernel)
theorem qv_yX10_plant : Cond.selects RX10 yX10_plant yX10_plant ∈ fwT := fw_mem (i := 1202) (by decide +kernel) (by decide +kernel)
theorem qc_yX10_plant : Cond.code yX10_plant cX10_plant 1 (Option.some Jvm.ClassFile.FieldType.int) ∈ fwT := fw_mem (i := 1203) (by decide +kernel) (by decide +kernel)
theorem ql_RX10_65 : Cond.methodLink RX10 65 yX10_part ∈ fwT := fw_mem (i := 1204) (by decide +kernel) (by decide +kernel)
theorem qs_yX10_part : Cond.static yX10_part ∈ fwT := fw_mem (i := 1205) (by decide +kernel) (by decide +kernel)
theorem qc_yX10_part : Cond.code yX10_part cX10_part 4 (Option.some (Jvm.ClassFile.FieldType.array Jvm.ClassFile.FieldType.int)) ∈ fwT := fw_mem (i := 1206) (by decide +kernel) (by decide +kernel)
theorem ql_RL_134 : Cond.methodLink RL 134 yX10_fell ∈ fwT := fw_mem (i := 1210) (by decide +kernel) (by decide +kernel)
theorem qi_yX10_fell : Cond.instanceMethod yX10_fell ∈ fwT := fw_mem (i := 1211) (by decide +kernel) (by decide +kernel)
theorem qv_yX10_fell : Cond.selects RX10 yX10_fell yX10_fell ∈ fwT := fw_mem (i := 1212) (by decide +kernel) (by decide +kernel)
theorem qc_yX10_fell : Cond.code yX10_fell cX10_fell 4 (Option.some Jvm.ClassFile.FieldType.int) ∈ fwT := fw_mem (i := 1213) (by decide +kernel) (by decide +kernel)
theorem ql_RX10_169 : Cond.methodLink RX10 169 yX10_isTree ∈ fwT := fw_mem (i := 1214) (by decide +kernel) (by decide +kernel)
theorem qi_yX10_isTree : Cond.instanceMethod yX10_isTree ∈ fwT := fw_mem (i := 1216) (by decide +kernel) (by decide +kernel)
theorem qc_yX10_isTree : Cond.code yX10_isTree cX10_isTree 2 (Option.some Jvm.ClassFile.FieldType.boolean) ∈ fwT := fw_mem (i := 1217) (by decide +kernel) (by decide +kernel)
theorem ql_RL_138 : Cond.methodLink RL 138 yX10_addCase ∈ fwT := fw_mem (i := 1218) (by decide +kernel) (by decide +kernel)
theorem qi_yX10_addCase : Cond.instanceMethod yX10_addCase ∈ fwT := fw_mem (i := 1219) (by decide +kernel) (by decide +kernel)
theorem qv_yX10_addCase : Cond.selects RX10 yX10_addCase yX10_addCase ∈ fwT := fw_mem (i := 1220) (by decide +kernel) (by decide +kernel)
theorem qc_yX10_addCase : Cond.code yX10_addCase cX10_addCase 5 (Option.some Jvm.ClassFile.FieldType.int) ∈ fwT := fw_mem (i := 1221) (by decide +kernel) (by decide +kernel)
theorem ql_RL_141 : Cond.methodLink RL 141 yX10_setWay ∈ fwT := fw_mem (i := 1222) (by decide +kernel) (by decide +kernel)
theorem qi_yX10_setWay : Cond.instanceMethod yX10_setWay ∈ fwT := fw_mem (i := 1223) (by decide +kernel) (by decide +kernel)
theorem qv_yX10_setWay : Cond.selects RX10 yX10_setWay yX10_setWay ∈ fwT := fw_mem (i := 1224) (by decide +kernel) (by decide +kernel)
theorem qc_yX10_setWay : Cond.code yX10_setWay cX10_setWay 4 (Option.some Jvm.ClassFile.FieldType.int) ∈ fwT := fw_mem (i := 1225) (by decide +kernel) (by decide +kernel)
theorem ql_RL_144 : Cond.methodLink RL 144 yX10_cross ∈ fwT := fw_mem (i := 1226) (by decide +kernel) (by decide +kernel)
theorem qi_yX10_cross : Cond.instanceMethod yX10_cross ∈ fwT := fw_mem (i := 1227) (by decide +kernel) (by decide +kernel)
theorem qv_yX10_cross : Cond.selects RX10 yX10_cross yX10_cross ∈ fwT := fw_mem (i := 1228) (by decide +kernel) (by decide +kernel)
theorem qc_yX10_cross : Cond.code yX10_cross cX10_cross 5 (Option.some Jvm.ClassFile.FieldType.int) ∈ fwT := fw_mem (i := 1229) (by decide +kernel) (by decide +kernel)
theorem ql_RX10_199 : Cond.methodLink RX10 199 yX10_isPlace ∈ fwT := fw_mem (i := 1230) (by decide +kernel) (by decide +kernel)
theorem qi_yX10_isPlace : Cond.instanceMethod yX10_isPlace ∈ fwT := fw_mem (i := 1232) (by decide +kernel) (by decide +kernel)
theorem qc_yX10_isPlace : Cond.code yX10_isPlace cX10_isPlace 3 (Option.some Jvm.ClassFile.FieldType.boolean) ∈ fwT := fw_mem (i := 1233) (by decide +kernel) (by decide +kernel)
theorem ql_RX10_202 : Cond.methodLink RX10 202 yX10_crossed ∈ fwT := fw_mem (i := 1234) (by decide +kernel) (by decide +kernel)
theorem qs_yX10_crossed : Cond.static yX10_crossed ∈ fwT := fw_mem (i := 1235) (by decide +kernel) (by decide +kernel)
theorem qc_yX10_crossed : Cond.code yX10_crossed cX10_crossed 5 (Option.some (Jvm.ClassFile.FieldType.array Jvm.ClassFile.FieldType.int)) ∈ fwT := fw_mem (i := 1236) (by decide +kernel) (by decide +kernel)
theorem ql_RX10_86 : Cond.methodLink RX10 86 yX10_at ∈ fwT := fw_mem (i := 1237) (by decide +kernel) (by decide +kernel)
theorem qs_yX10_at : Cond.static yX10_at ∈ fwT := fw_mem (i := 1238) (by decide +kernel) (by decide +kernel)
theorem qc_yX10_at : Cond.code yX10_at cX10_at 2 (Option.some (Jvm.ClassFile.FieldType.array Jvm.ClassFile.FieldType.int)) ∈ fwT := fw_mem (i := 1239) (by decide +kernel) (by decide +kernel)
theorem ql_RX10_39 : Cond.methodLink RX10 39 yX10_endOf ∈ fwT := fw_mem (i := 1240) (by decide +kernel) (by decide +kernel)
theorem qs_yX10_endOf : Cond.static yX10_endOf ∈ fwT := fw_mem (i := 1241) (by decide +kernel) (by decide +kernel)
theorem qc_yX10_endOf : Cond.code yX10_endOf cX10_endOf 4 (Option.some Jvm.ClassFile.FieldType.int) ∈ fwT := fw_mem (i := 1242) (by decide +kernel) (by decide +kernel)
theorem ql_RX10_117 : Cond.methodLink RX10 117 yX10_with ∈ fwT := fw_mem (i := 1243) (by decide +kernel) (by decide +kernel)
theorem qs_yX10_with : Cond.static yX10_with ∈ fwT := fw_mem (i := 1244) (by decide +kernel) (by decide +kernel)
theorem qc_yX10_with : Cond.code yX10_with cX10_with 5 (Option.some (Jvm.ClassFile.FieldType.array Jvm.ClassFile.FieldType.int)) ∈ fwT := fw_mem (i := 1245) (by decide +kernel) (by decide +kernel)
theorem ql_RX10_195 : Cond.methodLink RX10 195 yX10_isAllowed ∈ fwT := fw_mem (i := 1246) (by decide +kernel) (by decide +kernel)
theorem qs_yX10_isAllowed : Cond.static yX10_isAllowed ∈ fwT := fw_mem (i := 1247) (by decide +kernel) (by decide +kernel)
theorem qc_yX10_isAllowed : Cond.code yX10_isAllowed cX10_isAllowed 1 (Option.some Jvm.ClassFile.FieldType.boolean) ∈ fwT := fw_mem (i := 1248) (by decide +kernel) (by decide +kernel)
theorem ql_RX10_52 : Cond.methodLink RX10 52 yX10_depthOf ∈ fwT := fw_mem (i := 1249) (by decide +kernel) (by decide +kernel)
theorem qs_yX10_depthOf : Cond.static yX10_depthOf ∈ fwT := fw_mem (i := 1250) (by decide +kernel) (by decide +kernel)
theorem qc_yX10_depthOf : Cond.code yX10_depthOf cX10_depthOf 5 (Option.some Jvm.ClassFile.FieldType.int) ∈ fwT := fw_mem (i := 1251) (by decide +kernel) (by decide +kernel)
theorem ql_RX10_43 : Cond.methodLink RX10 43 yX10_aboveOf ∈ fwT := fw_mem (i := 1252) (by decide +kernel) (by decide +kernel)
theorem qs_yX10_aboveOf : Cond.static yX10_aboveOf ∈ fwT := fw_mem (i := 1253) (by decide +kernel) (by decide +kernel)
theorem qc_yX10_aboveOf : Cond.code yX10_aboveOf cX10_aboveOf 3 (Option.some Jvm.ClassFile.FieldType.int) ∈ fwT := fw_mem (i := 1254) (by decide +kernel) (by decide +kernel)
theorem ql_RX10_46 : Cond.methodLink RX10 46 Lib.Math.max.name ∈ fwT := fw_mem (i := 1255) (by decide +kernel) (by decide +kernel)
theorem ql_RX10_206 : Cond.methodLink RX10 206 yX10_become ∈ fwT := fw_mem (i := 1256) (by decide +kernel) (by decide +kernel)
theorem qi_yX10_become : Cond.instanceMethod yX10_become ∈ fwT := fw_mem (i := 1258) (by decide +kernel) (by decide +kernel)
theorem qc_yX10_become : Cond.code yX10_become cX10_become 3 (Option.some Jvm.ClassFile.FieldType.int) ∈ fwT := fw_mem (i := 1259) (by decide +kernel) (by decide +kernel)
theorem ql_RL_147 : Cond.methodLink RL 147 yX10_hoist ∈ fwT := fw_mem (i := 1260) (by decide +kernel) (by decide +kernel)
theorem qi_yX10_hoist : Cond.instanceMethod yX10_hoist ∈ fwT := fw_mem (i := 1261) (by decide +kernel) (by decide +kernel)
theorem qv_yX10_hoist : Cond.selects RX10 yX10_hoist yX10_hoist ∈ fwT := fw_mem (i := 1262) (by decide +kernel) (by decide +kernel)
theorem qc_yX10_hoist : Cond.code yX10_hoist cX10_hoist 3 (Option.some Jvm.ClassFile.FieldType.int) ∈ fwT := fw_mem (i := 1263) (by decide +kernel) (by decide +kernel)
theorem ql_RX10_210 : Cond.methodLink RX10 210 yX10_hoisted ∈ fwT := fw_mem (i := 1264) (by decide +kernel) (by decide +kernel)
theorem qs_yX10_hoisted : Cond.static yX10_hoisted ∈ fwT := fw_mem (i := 1265) (by decide +kernel) (by decide +kernel)
theorem qc_yX10_hoisted : Cond.code yX10_hoisted cX10_hoisted 2 (Option.some (Jvm.ClassFile.FieldType.array Jvm.ClassFile.FieldType.int)) ∈ fwT := fw_mem (i := 1266) (by decide +kernel) (by decide +kernel)
theorem ql_RL_150 : Cond.methodLink RL 150 yX10_recode ∈ fwT := fw_mem (i := 1267) (by decide +kernel) (by decide +kernel)
theorem qi_yX10_recode : Cond.instanceMethod yX10_recode ∈ fwT := fw_mem (i := 1268) (by decide +kernel) (by decide +kernel)
theorem qv_yX10_recode : Cond.selects RX10 yX10_recode yX10_recode ∈ fwT := fw_mem (i := 1269) (by decide +kernel) (by decide +kernel)
theorem qc_yX10_recode : Cond.code yX10_recode cX10_recode 6 (Option.some Jvm.ClassFile.FieldType.int) ∈ fwT := fw_mem (i := 1270) (by decide +kernel) (by decide +kernel)
theorem ql_RX10_213 : Cond.methodLink RX10 213 yX10_isFor ∈ fwT := fw_mem (i := 1271) (by decide +kernel) (by decide +kernel)
theorem qs_yX10_isFor : Cond.static yX10_isFor ∈ fwT := fw_mem (i := 1272) (by decide +kernel) (by decide +kernel)
theorem qc_yX10_isFor : Cond.code yX10_isFor cX10_isFor 2 (Option.some Jvm.ClassFile.FieldType.boolean) ∈ fwT := fw_mem (i := 1273) (by decide +kernel) (by decide +kernel)
theorem ql_RX10_31 : Cond.methodLink RX10 31 yX10_isSameText ∈ fwT := fw_mem (i := 1274) (by decide +kernel) (by decide +kernel)
theorem qs_yX10_isSameText : Cond.static yX10_isSameText ∈ fwT := fw_mem (i := 1275) (by decide +kernel) (by decide +kernel)
theorem qc_yX10_isSameText : Cond.code yX10_isSameText cX10_isSameText 3 (Option.some Jvm.ClassFile.FieldType.boolean) ∈ fwT := fw_mem (i := 1276) (by decide +kernel) (by decide +kernel)
theorem ql_RL_154 : Cond.methodLink RL 154 yX10_wither ∈ fwT := fw_mem (i := 1277) (by decide +kernel) (by decide +kernel)
theorem qi_yX10_wither : Cond.instanceMethod yX10_wither ∈ fwT := fw_mem (i := 1278) (by decide +kernel) (by decide +kernel)
theorem qv_yX10_wither : Cond.selects RX10 yX10_wither yX10_wither ∈ fwT := fw_mem (i := 1279) (by decide +kernel) (by decide +kernel)
theorem qc_yX10_wither : Cond.code yX10_wither cX10_wither 4 (Option.some Jvm.ClassFile.FieldType.int) ∈ fwT := fw_mem (i := 1280) (by decide +kernel) (by decide +kernel)
theorem ql_RX10_98 : Cond.methodLink RX10 98 yX10_constant ∈ fwT := fw_mem (i := 1281) (by decide +kernel) (by decide +kernel)
theorem qs_yX10_constant : Cond.static yX10_constant ∈ fwT := fw_mem (i := 1282) (by decide +kernel) (by decide +kernel)
theorem qc_yX10_constant : Cond.code yX10_constant cX10_constant 2 (Option.some (Jvm.ClassFile.FieldType.array Jvm.ClassFile.FieldType.int)) ∈ fwT := fw_mem (i := 1283) (by decide +kernel) (by decide +kernel)
theorem ql_RL_157 : Cond.methodLink RL 157 yX10_simplify ∈ fwT := fw_mem (i := 1284) (by decide +kernel) (by decide +kernel)
theorem qi_yX10_simplify : Cond.instanceMethod yX10_simplify ∈ fwT := fw_mem (i := 1285) (by decide +kernel) (by decide +kernel)
theorem qv_yX10_simplify : Cond.selects RX10 yX10_simplify yX10_simplify ∈ fwT := fw_mem (i := 1286) (by decide +kernel) (by decide +kernel)
theorem qc_yX10_simplify : Cond.code yX10_simplify cX10_simplify 3 (Option.some Jvm.ClassFile.FieldType.int) ∈ fwT := fw_mem (i := 1287) (by decide +kernel) (by decide +kernel)
theorem ql_RX10_216 : Cond.methodLink RX10 216 yX10_simplified ∈ fwT := fw_mem (i := 1288) (by decide +kernel) (by decide +kernel)
theorem qi_yX10_simplified : Cond.instanceMethod yX10_simplified ∈ fwT := fw_mem (i := 1290) (by decide +kernel) (by decide +kernel)
theorem qc_yX10_simplified : Cond.code yX10_simplified cX10_simplified 5 (Option.some (Jvm.ClassFile.FieldType.array Jvm.ClassFile.FieldType.int)) ∈ fwT := fw_mem (i := 1291) (by decide +kernel) (by decide +kernel)
theorem ql_RX10_114 : Cond.methodLink RX10 114 yX10_simpler ∈ fwT := fw_mem (i := 1292) (by decide +kernel) (by decide +kernel)
theorem qi_yX10_simpler : Cond.instanceMethod yX10_simpler ∈ fwT := fw_mem (i := 1294) (by decide +kernel) (by decide +kernel)
theorem qc_yX10_simpler : Cond.code yX10_simpler cX10_simpler 11 (Option.some (Jvm.ClassFile.FieldType.array Jvm.ClassFile.FieldType.int)) ∈ fwT := fw_mem (i := 1295) (by decide +kernel) (by decide +kernel)
theorem ql_RX10_90 : Cond.methodLink RX10 90 yX10_gives ∈ fwT := fw_mem (i := 1296) (by decide +kernel) (by decide +kernel)
theorem qi_yX10_gives : Cond.instanceMethod yX10_gives ∈ fwT := fw_mem (i := 1298) (by decide +kernel) (by decide +kernel)
theorem qc_yX10_gives : Cond.code yX10_gives cX10_gives 14 (Option.some Jvm.ClassFile.FieldType.int) ∈ fwT := fw_mem (i := 1299) (by decide +kernel) (by decide +kernel)
theorem ql_RX10_76 : Cond.methodLink RX10 76 yX10_valueOf ∈ fwT := fw_mem (i := 1300) (by decide +kernel) (by decide +kernel)
theorem qs_yX10_valueOf : Cond.static yX10_valueOf ∈ fwT := fw_mem (i := 1301) (by decide +kernel) (by decide +kernel)
theorem qc_yX10_valueOf : Cond.code yX10_valueOf cX10_valueOf 1 (Option.some Jvm.ClassFile.FieldType.int) ∈ fwT := fw_mem (i := 1302) (by decide +kernel) (by decide +kernel)
theorem ql_RX10_79 : Cond.methodLink RX10 79 yX10_result ∈ fwT := fw_mem (i := 1303) (by decide +kernel) (by decide +kernel)
theorem qs_yX10_result : Cond.static yX10_result ∈ fwT := fw_mem (i := 1304) (by decide +kernel) (by decide +kernel)
theorem qc_yX10_result : Cond.code yX10_result cX10_result 8 (Option.some Jvm.ClassFile.FieldType.int) ∈ fwT := fw_mem (i := 1305) (by decide +kernel) (by decide +kernel)
theorem ql_RX10_83 : Cond.methodLink RX10 83 yX10_cut ∈ fwT := fw_mem (i := 1306) (by decide +kernel) (by decide +kernel)
theorem qs_yX10_cut : Cond.static yX10_cut ∈ fwT := fw_mem (i := 1307) (by decide +kernel) (by decide +kernel)
theorem qc_yX10_cut : Cond.code yX10_cut cX10_cut 1 (Option.some Jvm.ClassFile.FieldType.int) ∈ fwT := fw_mem (i := 1308) (by decide +kernel) (by decide +kernel)
theorem ql_RX10_69 : Cond.methodLink RX10 69 Lib.Math.min.name ∈ fwT := fw_mem (i := 1309) (by decide +kernel) (by decide +kernel)
theorem ql_RX10_102 : Cond.methodLink RX10 102 yX10_childOf ∈ fwT := fw_mem (i := 1310) (by decide +kernel) (by decide +kernel)
theorem qs_yX10_childOf : Cond.static yX10_childOf ∈ fwT := fw_mem (i := 1311) (by decide +kernel) (by decide +kernel)
theorem qc_yX10_childOf : Cond.code yX10_childOf cX10_childOf 5 (Option.some Jvm.ClassFile.FieldType.int) ∈ fwT := fw_mem (i := 1312) (by decide +kernel) (by decide +kernel)
theorem ql_RX10_106 : Cond.methodLink RX10 106 yX10_isSame ∈ fwT := fw_mem (i := 1313) (by decide +kernel) (by decide +kernel)
theorem qs_yX10_isSame : Cond.static yX10_isSame ∈ fwT := fw_mem (i := 1314) (by decide +kernel) (by decide +kernel)
theorem qc_yX10_isSame : Cond.code yX10_isSame cX10_isSame 3 (Option.some Jvm.ClassFile.FieldType.boolean) ∈ fwT := fw_mem (i := 1315) (by decide +kernel) (by decide +kernel)
theorem ql_RX10_110 : Cond.methodLink RX10 110 yX10_isConstant ∈ fwT := fw_mem (i := 1316) (by decide +kernel) (by decide +kernel)
theorem qs_yX10_isConstant : Cond.static yX10_isConstant ∈ fwT := fw_mem (i := 1317) (by decide +kernel) (by decide +kernel)
theorem qc_yX10_isConstant : Cond.code yX10_isConstant cX10_isConstant 2 (Option.some Jvm.ClassFile.FieldType.boolean) ∈ fwT := fw_mem (i := 1318) (by decide +kernel) (by decide +kernel)
theorem ql_RL_160 : Cond.methodLink RL 160 yX10_setRates ∈ fwT := fw_mem (i := 1319) (by decide +kernel) (by decide +kernel)
theorem qi_yX10_setRates : Cond.instanceMethod yX10_setRates ∈ fwT := fw_mem (i := 1320) (by decide +kernel) (by decide +kernel)
theorem qv_yX10_setRates : Cond.selects RX10 yX10_setRates yX10_setRates ∈ fwT := fw_mem (i := 1321) (by decide +kernel) (by decide +kernel)
theorem qc_yX10_setRates : Cond.code yX10_setRates cX10_setRates 5 (Option.some Jvm.ClassFile.FieldType.int) ∈ fwT := fw_mem (i := 1322) (by decide +kernel) (by decide +kernel)
theorem ql_RL_163 : Cond.methodLink RL 163 yX10_setChoosing ∈ fwT := fw_mem (i := 1323) (by decide +kernel) (by decide +kernel)
theorem qi_yX10_setChoosing : Cond.instanceMethod yX10_setChoosing ∈ fwT := fw_mem (i := 1324) (by decide +kernel) (by decide +kernel)
theorem qv_yX10_setChoosing : Cond.selects RX10 yX10_setChoosing yX10_setChoosing ∈ fwT := fw_mem (i := 1325) (by decide +kernel) (by decide +kernel)
theorem qc_yX10_setChoosing : Cond.code yX10_setChoosing cX10_setChoosing 4 (Option.some Jvm.ClassFile.FieldType.int) ∈ fwT := fw_mem (i := 1326) (by decide +kernel) (by decide +kernel)
theorem ql_RL_166 : Cond.methodLink RL 166 yX10_setLuck ∈ fwT := fw_mem (i := 1327) (by decide +kernel) (by decide +kernel)
theorem qi_yX10_setLuck : Cond.instanceMethod yX10_setLuck ∈ fwT := fw_mem (i := 1328) (by decide +kernel) (by decide +kernel)
theorem qv_yX10_setLuck : Cond.selects RX10 yX10_setLuck yX10_setLuck ∈ fwT := fw_mem (i := 1329) (by decide +kernel) (by decide +kernel)
theorem qc_yX10_setLuck : Cond.code yX10_setLuck cX10_setLuck 3 (Option.some Jvm.ClassFile.FieldType.int) ∈ fwT := fw_mem (i := 1330) (by decide +kernel) (by decide +kernel)
theorem ql_RL_169 : Cond.methodLink RL 169 yX10_tell ∈ fwT := fw_mem (i := 1331) (by decide +kernel) (by decide +kernel)
theorem qi_yX10_tell : Cond.instanceMethod yX10_tell ∈ fwT := fw_mem (i := 1332) (by decide +kernel) (by decide +kernel)
theorem qv_yX10_tell : Cond.selects RX10 yX10_tell yX10_tell ∈ fwT := fw_mem (i := 1333) (by decide +kernel) (by decide +kernel)
theorem qc_yX10_tell : Cond.code yX10_tell cX10_tell 2 (Option.some Jvm.ClassFile.FieldType.int) ∈ fwT := fw_mem (i := 1334) (by decide +kernel) (by decide +kernel)
theorem ql_RL_172 : Cond.methodLink RL 172 yX10_breed ∈ fwT := fw_mem (i := 1335) (by decide +kernel) (by decide +kernel)
theorem qi_yX10_breed : Cond.instanceMethod yX10_breed ∈ fwT := fw_mem (i := 1336) (by decide +kernel) (by decide +kernel)
theorem qv_yX10_breed : Cond.selects RX10 yX10_breed yX10_breed ∈ fwT := fw_mem (i := 1337) (by decide +kernel) (by decide +kernel)
theorem qc_yX10_breed : Cond.code yX10_breed cX10_breed 2 (Option.some Jvm.ClassFile.FieldType.int) ∈ fwT := fw_mem (i := 1338) (by decide +kernel) (by decide +kernel)
theorem ql_RX10_269 : Cond.methodLink RX10 269 yX10_breedNow ∈ fwT := fw_mem (i := 1339) (by decide +kernel) (by decide +kernel)
theorem qi_yX10_breedNow : Cond.instanceMethod yX10_breedNow ∈ fwT := fw_mem (i := 1341) (by decide +kernel) (by decide +kernel)
theorem qc_yX10_breedNow : Cond.code yX10_breedNow cX10_breedNow 3 (Option.some Jvm.ClassFile.FieldType.int) ∈ fwT := fw_mem (i := 1342) (by decide +kernel) (by decide +kernel)
theorem ql_RX10_266 : Cond.methodLink RX10 266 yX10_generation ∈ fwT := fw_mem (i := 1343) (by decide +kernel) (by decide +kernel)
theorem qi_yX10_generation : Cond.instanceMethod yX10_generation ∈ fwT := fw_mem (i := 1345) (by decide +kernel) (by decide +kernel)
theorem qc_yX10_generation : Cond.code yX10_generation cX10_generation 7 (Option.none : Option Jvm.ClassFile.FieldType) ∈ fwT := fw_mem (i := 1346) (by decide +kernel) (by decide +kernel)
theorem ql_RX10_252 : Cond.methodLink RX10 252 yX10_ranks ∈ fwT := fw_mem (i := 1347) (by decide +kernel) (by decide +kernel)
theorem qi_yX10_ranks : Cond.instanceMethod yX10_ranks ∈ fwT := fw_mem (i := 1349) (by decide +kernel) (by decide +kernel)
theorem qc_yX10_ranks : Cond.code yX10_ranks cX10_ranks 6 (Option.some (Jvm.ClassFile.FieldType.array Jvm.ClassFile.FieldType.int)) ∈ fwT := fw_mem (i := 1350) (by decide +kernel) (by decide +kernel)
theorem ql_RX10_232 : Cond.methodLink RX10 232 yX10_meritOf ∈ fwT := fw_mem (i := 1351) (by decide +kernel) (by decide +kernel)
theorem qi_yX10_meritOf : Cond.instanceMethod yX10_meritOf ∈ fwT := fw_mem (i := 1353) (by decide +kernel) (by decide +kernel)
theorem qc_yX10_meritOf : Cond.code yX10_meritOf cX10_meritOf 2 (Option.some Jvm.ClassFile.FieldType.int) ∈ fwT := fw_mem (i := 1354) (by decide +kernel) (by decide +kernel)
theorem ql_RX10_229 : Cond.methodLink RX10 229 yX10_errorOf ∈ fwT := fw_mem (i := 1355) (by decide +kernel) (by decide +kernel)
theorem qi_yX10_errorOf : Cond.instanceMethod yX10_errorOf ∈ fwT := fw_mem (i := 1357) (by decide +kernel) (by decide +kernel)
theorem qc_yX10_errorOf : Cond.code yX10_errorOf cX10_errorOf 4 (Option.some Jvm.ClassFile.FieldType.int) ∈ fwT := fw_mem (i := 1358) (by decide +kernel) (by decide +kernel)
theorem ql_RX10_226 : Cond.methodLink RX10 226 Lib.Math.abs.name ∈ fwT := fw_mem (i := 1359) (by decide +kernel) (by decide +kernel)
theorem qs_J9_abs : Cond.static Lib.Math.abs.name ∈ fwT := fw_mem (i := 1360) (by decide +kernel) (by decide +kernel)
theorem qc_J9_abs : Cond.code Lib.Math.abs.name Lib.Math.abs.code 1 (some .int) ∈ fwT := fw_mem (i := 1361) (by decide +kernel) (by decide +kernel)
theorem ql_RX10_235 : Cond.methodLink RX10 235 yX10_isBetter ∈ fwT := fw_mem (i := 1362) (by decide +kernel) (by decide +kernel)
theorem qi_yX10_isBetter : Cond.instanceMethod yX10_isBetter ∈ fwT := fw_mem (i := 1364) (by decide +kernel) (by decide +kernel)
theorem qc_yX10_isBetter : Cond.code yX10_isBetter cX10_isBetter 4 (Option.some Jvm.ClassFile.FieldType.boolean) ∈ fwT := fw_mem (i := 1365) (by decide +kernel) (by decide +kernel)
theorem ql_RX10_239 : Cond.methodLink RX10 239 yX10_draw ∈ fwT := fw_mem (i := 1366) (by decide +kernel) (by decide +kernel)
theorem qi_yX10_draw : Cond.instanceMethod yX10_draw ∈ fwT := fw_mem (i := 1368) (by decide +kernel) (by decide +kernel)
theorem qc_yX10_draw : Cond.code yX10_draw cX10_draw 3 (Option.some Jvm.ClassFile.FieldType.int) ∈ fwT := fw_mem (i := 1369) (by decide +kernel) (by decide +kernel)
theorem ql_RX10_242 : Cond.methodLink RX10 242 yX10_choose ∈ fwT := fw_mem (i := 1370) (by decide +kernel) (by decide +kernel)
theorem qi_yX10_choose : Cond.instanceMethod yX10_choose ∈ fwT := fw_mem (i := 1372) (by decide +kernel) (by decide +kernel)
theorem qc_yX10_choose : Cond.code yX10_choose cX10_choose 5 (Option.some Jvm.ClassFile.FieldType.int) ∈ fwT := fw_mem (i := 1373) (by decide +kernel) (by decide +kernel)
theorem ql_RX10_256 : Cond.methodLink RX10 256 yX10_bred ∈ fwT := fw_mem (i := 1374) (by decide +kernel) (by decide +kernel)
theorem qi_yX10_bred : Cond.instanceMethod yX10_bred ∈ fwT := fw_mem (i := 1376) (by decide +kernel) (by decide +kernel)
theorem qc_yX10_bred : Cond.code yX10_bred cX10_bred 7 (Option.some (Jvm.ClassFile.FieldType.array Jvm.ClassFile.FieldType.int)) ∈ fwT := fw_mem (i := 1377) (by decide +kernel) (by decide +kernel)
theorem ql_RX10_245 : Cond.methodLink RX10 245 yX10_drawPlace ∈ fwT := fw_mem (i := 1378) (by decide +kernel) (by decide +kernel)
theorem qi_yX10_drawPlace : Cond.instanceMethod yX10_drawPlace ∈ fwT := fw_mem (i := 1380) (by decide +kernel) (by decide +kernel)
theorem qc_yX10_drawPlace : Cond.code yX10_drawPlace cX10_drawPlace 6 (Option.some Jvm.ClassFile.FieldType.int) ∈ fwT := fw_mem (i := 1381) (by decide +kernel) (by decide +kernel)
theorem ql_RX10_249 : Cond.methodLink RX10 249 yX10_changed ∈ fwT := fw_mem (i := 1382) (by decide +kernel) (by decide +kernel)
theorem qi_yX10_changed : Cond.instanceMethod yX10_changed ∈ fwT := fw_mem (i := 1384) (by decide +kernel) (by decide +kernel)
theorem qc_yX10_changed : Cond.code yX10_changed cX10_changed 8 (Option.some (Jvm.ClassFile.FieldType.array Jvm.ClassFile.FieldType.int)) ∈ fwT := fw_mem (i := 1385) (by decide +kernel) (by decide +kernel)
theorem ql_RL_176 : Cond.methodLink RL 176 yX10_sketched ∈ fwT := fw_mem (i := 1386) (by decide +kernel) (by decide +kernel)
theorem qi_yX10_sketched : Cond.instanceMethod yX10_sketched ∈ fwT := fw_mem (i := 1387) (by decide +kernel) (by decide +kernel)
theorem qv_yX10_sketched : Cond.selects RX10 yX10_sketched yX10_sketched ∈ fwT := fw_mem (i := 1388) (by decide +kernel) (by decide +kernel)
theorem qc_yX10_sketched : Cond.code yX10_sketched cX10_sketched 1 (Option.some Jvm.ClassFile.FieldType.int) ∈ fwT := fw_mem (i := 1389) (by decide +kernel) (by decide +kernel)
theorem ql_RX10_272 : Cond.methodLink RX10 272 yX10_ok ∈ fwT := fw_mem (i := 1390) (by decide +kernel) (by decide +kernel)
theorem qi_yX10_ok : Cond.instanceMethod yX10_ok ∈ fwT := fw_mem (i := 1392) (by decide +kernel) (by decide +kernel)
theorem qc_yX10_ok : Cond.code yX10_ok cX10_ok 2 (Option.some Jvm.ClassFile.FieldType.int) ∈ fwT := fw_mem (i := 1393) (by decide +kernel) (by decide +kernel)
theorem ql_RL_180 : Cond.methodLink RL 180 yX10_trees ∈ fwT := fw_mem (i := 1394) (by decide +kernel) (by decide +kernel)
theorem qi_yX10_trees : Cond.instanceMethod yX10_trees ∈ fwT := fw_mem (i := 1395) (by decide +kernel) (by decide +kernel)
theorem qv_yX10_trees : Cond.selects RX10 yX10_trees yX10_trees ∈ fwT := fw_mem (i := 1396) (by decide +kernel) (by decide +kernel)
theorem qc_yX10_trees : Cond.code yX10_trees cX10_trees 1 (Option.some Jvm.ClassFile.FieldType.int) ∈ fwT := fw_mem (i := 1397) (by decide +kernel) (by decide +kernel)
theorem ql_RL_184 : Cond.methodLink RL 184 yX10_cases ∈ fwT := fw_mem (i := 1398) (by decide +kernel) (by decide +kernel)
theorem qi_yX10_cases : Cond.instanceMethod yX10_cases ∈ fwT := fw_mem (i := 1399) (by decide +kernel) (by decide +kernel)
theorem qv_yX10_cases : Cond.selects RX10 yX10_cases yX10_cases ∈ fwT := fw_mem (i := 1400) (by decide +kernel) (by decide +kernel)
theorem qc_yX10_cases : Cond.code yX10_cases cX10_cases 1 (Option.some Jvm.ClassFile.FieldType.int) ∈ fwT := fw_mem (i := 1401) (by decide +kernel) (by decide +kernel)
theorem ql_RL_187 : Cond.methodLink RL 187 yX10_size ∈ fwT := fw_mem (i := 1402) (by decide +kernel) (by decide +kernel)
theorem qi_yX10_size : Cond.instanceMethod yX10_size ∈ fwT := fw_mem (i := 1403) (by decide +kernel) (by decide +kernel)
theorem qv_yX10_size : Cond.selects RX10 yX10_size yX10_size ∈ fwT := fw_mem (i := 1404) (by decide +kernel) (by decide +kernel)
theorem qc_yX10_size : Cond.code yX10_size cX10_size 2 (Option.some Jvm.ClassFile.FieldType.int) ∈ fwT := fw_mem (i := 1405) (by decide +kernel) (by decide +kernel)
theorem ql_RL_190 : Cond.methodLink RL 190 yX10_depth ∈ fwT := fw_mem (i := 1406) (by decide +kernel) (by decide +kernel)
theorem qi_yX10_depth : Cond.instanceMethod yX10_depth ∈ fwT := fw_mem (i := 1407) (by decide +kernel) (by decide +kernel)
theorem qv_yX10_depth : Cond.selects RX10 yX10_depth yX10_depth ∈ fwT := fw_mem (i := 1408) (by decide +kernel) (by decide +kernel)
theorem qc_yX10_depth : Cond.code yX10_depth cX10_depth 2 (Option.some Jvm.ClassFile.FieldType.int) ∈ fwT := fw_mem (i := 1409) (by decide +kernel) (by decide +kernel)
theorem ql_RL_193 : Cond.methodLink RL 193 yX10_codeAt ∈ fwT := fw_mem (i := 1410) (by decide +kernel) (by decide +kernel)
theorem qi_yX10_codeAt : Cond.instanceMethod yX10_codeAt ∈ fwT := fw_mem (i := 1411) (by decide +kernel) (by decide +kernel)
theorem qv_yX10_codeAt : Cond.selects RX10 yX10_codeAt yX10_codeAt ∈ fwT := fw_mem (i := 1412) (by decide +kernel) (by decide +kernel)
theorem qc_yX10_codeAt : Cond.code yX10_codeAt cX10_codeAt 3 (Option.some Jvm.ClassFile.FieldType.int) ∈ fwT := fw_mem (i := 1413) (by decide +kernel) (by decide +kernel)
theorem ql_RL_196 : Cond.methodLink RL 196 yX10_valueAt ∈ fwT := fw_mem (i := 1414) (by decide +kernel) (by decide +kernel)
theorem qi_yX10_valueAt : Cond.instanceMethod yX10_valueAt ∈ fwT := fw_mem (i := 1415) (by decide +kernel) (by decide +kernel)
theorem qv_yX10_valueAt : Cond.selects RX10 yX10_valueAt yX10_valueAt ∈ fwT := fw_mem (i := 1416) (by decide +kernel) (by decide +kernel)
theorem qc_yX10_valueAt : Cond.code yX10_valueAt cX10_valueAt 3 (Option.some Jvm.ClassFile.FieldType.int) ∈ fwT := fw_mem (i := 1417) (by decide +kernel) (by decide +kernel)
theorem ql_RL_199 : Cond.methodLink RL 199 yX10_sizeAt ∈ fwT := fw_mem (i := 1418) (by decide +kernel) (by decide +kernel)
theorem qi_yX10_sizeAt : Cond.instanceMethod yX10_sizeAt ∈ fwT := fw_mem (i := 1419) (by decide +kernel) (by decide +kernel)
theorem qv_yX10_sizeAt : Cond.selects RX10 yX10_sizeAt yX10_sizeAt ∈ fwT := fw_mem (i := 1420) (by decide +kernel) (by decide +kernel)
theorem qc_yX10_sizeAt : Cond.code yX10_sizeAt cX10_sizeAt 3 (Option.some Jvm.ClassFile.FieldType.int) ∈ fwT := fw_mem (i := 1421) (by decide +kernel) (by decide +kernel)
theorem ql_RL_202 : Cond.methodLink RL 202 yX10_above ∈ fwT := fw_mem (i := 1422) (by decide +kernel) (by decide +kernel)
theorem qi_yX10_above : Cond.instanceMethod yX10_above ∈ fwT := fw_mem (i := 1423) (by decide +kernel) (by decide +kernel)
theorem qv_yX10_above : Cond.selects RX10 yX10_above yX10_above ∈ fwT := fw_mem (i := 1424) (by decide +kernel) (by decide +kernel)
theorem qc_yX10_above : Cond.code yX10_above cX10_above 3 (Option.some Jvm.ClassFile.FieldType.int) ∈ fwT := fw_mem (i := 1425) (by decide +kernel) (by decide +kernel)
theorem ql_RL_205 : Cond.methodLink RL 205 yX10_gives_ ∈ fwT := fw_mem (i := 1426) (by decide +kernel) (by decide +kernel)
theorem qi_yX10_gives_ : Cond.instanceMethod yX10_gives_ ∈ fwT := fw_mem (i := 1427) (by decide +kernel) (by decide +kernel)
theorem qv_yX10_gives_ : Cond.selects RX10 yX10_gives_ yX10_gives_ ∈ fwT := fw_mem (i := 1428) (by decide +kernel) (by decide +kernel)
theorem qc_yX10_gives_ : Cond.code yX10_gives_ cX10_gives_ 5 (Option.some Jvm.ClassFile.FieldType.int) ∈ fwT := fw_mem (i := 1429) (by decide +kernel) (by decide +kernel)
theorem ql_RL_208 : Cond.methodLink RL 208 yX10_error ∈ fwT := fw_mem (i := 1430) (by decide +kernel) (by decide +kernel)
theorem qi_yX10_error : Cond.instanceMethod yX10_error ∈ fwT := fw_mem (i := 1431) (by decide +kernel) (by decide +kernel)
theorem qv_yX10_error : Cond.selects RX10 yX10_error yX10_error ∈ fwT := fw_mem (i := 1432) (by decide +kernel) (by decide +kernel)
theorem qc_yX10_error : Cond.code yX10_error cX10_error 2 (Option.some Jvm.ClassFile.FieldType.int) ∈ fwT := fw_mem (i := 1433) (by decide +kernel) (by decide +kernel)
theorem ql_RL_211 : Cond.methodLink RL 211 yX10_merit ∈ fwT := fw_mem (i := 1434) (by decide +kernel) (by decide +kernel)
theorem qi_yX10_merit : Cond.instanceMethod yX10_merit ∈ fwT := fw_mem (i := 1435) (by decide +kernel) (by decide +kernel)
theorem qv_yX10_merit : Cond.selects RX10 yX10_merit yX10_merit ∈ fwT := fw_mem (i := 1436) (by decide +kernel) (by decide +kernel)
theorem qc_yX10_merit : Cond.code yX10_merit cX10_merit 2 (Option.some Jvm.ClassFile.FieldType.int) ∈ fwT := fw_mem (i := 1437) (by decide +kernel) (by decide +kernel)
theorem ql_RL_214 : Cond.methodLink RL 214 yX10_hits ∈ fwT := fw_mem (i := 1438) (by decide +kernel) (by decide +kernel)
theorem qi_yX10_hits : Cond.instanceMethod yX10_hits ∈ fwT := fw_mem (i := 1439) (by decide +kernel) (by decide +kernel)
theorem qv_yX10_hits : Cond.selects RX10 yX10_hits yX10_hits ∈ fwT := fw_mem (i := 1440) (by decide +kernel) (by decide +kernel)
theorem qc_yX10_hits : Cond.code yX10_hits cX10_hits 2 (Option.some Jvm.ClassFile.FieldType.int) ∈ fwT := fw_mem (i := 1441) (by decide +kernel) (by decide +kernel)
theorem ql_RX10_275 : Cond.methodLink RX10 275 yX10_hitsOf ∈ fwT := fw_mem (i := 1442) (by decide +kernel) (by decide +kernel)
theorem qi_yX10_hitsOf : Cond.instanceMethod yX10_hitsOf ∈ fwT := fw_mem (i := 1444) (by decide +kernel) (by decide +kernel)
theorem qc_yX10_hitsOf : Cond.code yX10_hitsOf cX10_hitsOf 4 (Option.some Jvm.ClassFile.FieldType.int) ∈ fwT := fw_mem (i := 1445) (by decide +kernel) (by decide +kernel)
theorem ql_RL_217 : Cond.methodLink RL 217 yX10_ranked ∈ fwT := fw_mem (i := 1446) (by decide +kernel) (by decide +kernel)
theorem qi_yX10_ranked : Cond.instanceMethod yX10_ranked ∈ fwT := fw_mem (i := 1447) (by decide +kernel) (by decide +kernel)
theorem qv_yX10_ranked : Cond.selects RX10 yX10_ranked yX10_ranked ∈ fwT := fw_mem (i := 1448) (by decide +kernel) (by decide +kernel)
theorem qc_yX10_ranked : Cond.code yX10_ranked cX10_ranked 2 (Option.some Jvm.ClassFile.FieldType.int) ∈ fwT := fw_mem (i := 1449) (by decide +kernel) (by decide +kernel)
theorem ql_RL_221 : Cond.methodLink RL 221 yX10_different ∈ fwT := fw_mem (i := 1450) (by decide +kernel) (by decide +kernel)
theorem qi_yX10_different : Cond.instanceMethod yX10_different ∈ fwT := fw_mem (i := 1451) (by decide +kernel) (by decide +kernel)
theorem qv_yX10_different : Cond.selects RX10 yX10_different yX10_different ∈ fwT := fw_mem (i := 1452) (by decide +kernel) (by decide +kernel)
theorem qc_yX10_different : Cond.code yX10_different cX10_different 1 (Option.some Jvm.ClassFile.FieldType.int) ∈ fwT := fw_mem (i := 1453) (by decide +kernel) (by decide +kernel)
theorem ql_RX10_278 : Cond.methodLink RX10 278 yX10_differentNow ∈ fwT := fw_mem (i := 1454) (by decide +kernel) (by decide +kernel)
theorem qi_yX10_differentNow : Cond.instanceMethod yX10_differentNow ∈ fwT := fw_mem (i := 1456) (by decide +kernel) (by decide +kernel)
theorem qc_yX10_differentNow : Cond.code yX10_differentNow cX10_differentNow 5 (Option.some Jvm.ClassFile.FieldType.int) ∈ fwT := fw_mem (i := 1457) (by decide +kernel) (by decide +kernel)
theorem ql_RL_224 : Cond.methodLink RL 224 yX10_alike ∈ fwT := fw_mem (i := 1458) (by decide +kernel) (by decide +kernel)
theorem qi_yX10_alike : Cond.instanceMethod yX10_alike ∈ fwT := fw_mem (i := 1459) (by decide +kernel) (by decide +kernel)
theorem qv_yX10_alike : Cond.selects RX10 yX10_alike yX10_alike ∈ fwT := fw_mem (i := 1460) (by decide +kernel) (by decide +kernel)
theorem qc_yX10_alike : Cond.code yX10_alike cX10_alike 4 (Option.some Jvm.ClassFile.FieldType.int) ∈ fwT := fw_mem (i := 1461) (by decide +kernel) (by decide +kernel)
theorem ql_RL_229 : Cond.methodLink RL 229 yX10_meanSize ∈ fwT := fw_mem (i := 1462) (by decide +kernel) (by decide +kernel)
theorem qi_yX10_meanSize : Cond.instanceMethod yX10_meanSize ∈ fwT := fw_mem (i := 1463) (by decide +kernel) (by decide +kernel)
theorem qv_yX10_meanSize : Cond.selects RX10 yX10_meanSize yX10_meanSize ∈ fwT := fw_mem (i := 1464) (by decide +kernel) (by decide +kernel)
theorem qc_yX10_meanSize : Cond.code yX10_meanSize cX10_meanSize 3 (Option.some Jvm.ClassFile.FieldType.double) ∈ fwT := fw_mem (i := 1465) (by decide +kernel) (by decide +kernel)
theorem ql_RL_233 : Cond.methodLink RL 233 yX10_generations ∈ fwT := fw_mem (i := 1466) (by decide +kernel) (by decide +kernel)
theorem qi_yX10_generations : Cond.instanceMethod yX10_generations ∈ fwT := fw_mem (i := 1467) (by decide +kernel) (by decide +kernel)
theorem qv_yX10_generations : Cond.selects RX10 yX10_generations yX10_generations ∈ fwT := fw_mem (i := 1468) (by decide +kernel) (by decide +kernel)
theorem qc_yX10_generations : Cond.code yX10_generations cX10_generations 1 (Option.some Jvm.ClassFile.FieldType.int) ∈ fwT := fw_mem (i := 1469) (by decide +kernel) (by decide +kernel)
theorem ql_RL_237 : Cond.methodLink RL 237 yX10_misses ∈ fwT := fw_mem (i := 1470) (by decide +kernel) (by decide +kernel)
theorem qi_yX10_misses : Cond.instanceMethod yX10_misses ∈ fwT := fw_mem (i := 1471) (by decide +kernel) (by decide +kernel)
theorem qv_yX10_misses : Cond.selects RX10 yX10_misses yX10_misses ∈ fwT := fw_mem (i := 1472) (by decide +kernel) (by decide +kernel)
theorem qc_yX10_misses : Cond.code yX10_misses cX10_misses 1 (Option.some Jvm.ClassFile.FieldType.int) ∈ fwT := fw_mem (i := 1473) (by decide +kernel) (by decide +kernel)
theorem ql_RL_241 : Cond.methodLink RL 241 yX10_luck ∈ fwT := fw_mem (i := 1474) (by decide +kernel) (by decide +kernel)
theorem qi_yX10_luck : Cond.instanceMethod yX10_luck ∈ fwT := fw_mem (i := 1475) (by decide +kernel) (by decide +kernel)
theorem qv_yX10_luck : Cond.selects RX10 yX10_luck yX10_luck ∈ fwT := fw_mem (i := 1476) (by decide +kernel) (by decide +kernel)
theorem qc_yX10_luck : Cond.code yX10_luck cX10_luck 1 (Option.some Jvm.ClassFile.FieldType.int) ∈ fwT := fw_mem (i := 1477) (by decide +kernel) (by decide +kernel)
theorem ql_RL_245 : Cond.methodLink RL 245 yX10_waiting ∈ fwT := fw_mem (i := 1478) (by decide +kernel) (by decide +kernel)
theorem qi_yX10_waiting : Cond.instanceMethod yX10_waiting ∈ fwT := fw_mem (i := 1479) (by decide +kernel) (by decide +kernel)
theorem qv_yX10_waiting : Cond.selects RX10 yX10_waiting yX10_waiting ∈ fwT := fw_mem (i := 1480) (by decide +kernel) (by decide +kernel)
theorem qc_yX10_waiting : Cond.code yX10_waiting cX10_waiting 1 (Option.some Jvm.ClassFile.FieldType.int) ∈ fwT := fw_mem (i := 1481) (by decide +kernel) (by decide +kernel)
theorem ql_RL_248 : Cond.methodLink RL 248 yX10_errorCrossed ∈ fwT := fw_mem (i := 1482) (by decide +kernel) (by decide +kernel)
theorem qi_yX10_errorCrossed : Cond.instanceMethod yX10_errorCrossed ∈ fwT := fw_mem (i := 1483) (by decide +kernel) (by decide +kernel)
theorem qv_yX10_errorCrossed : Cond.selects RX10 yX10_errorCrossed yX10_errorCrossed ∈ fwT := fw_mem (i := 1484) (by decide +kernel) (by decide +kernel)
theorem qc_yX10_errorCrossed : Cond.code yX10_errorCrossed cX10_errorCrossed 6 (Option.some Jvm.ClassFile.FieldType.int) ∈ fwT := fw_mem (i := 1485) (by decide +kernel) (by decide +kernel)
theorem ql_RL_251 : Cond.methodLink RL 251 yX10_bestHoist ∈ fwT := fw_mem (i := 1486) (by decide +kernel) (by decide +kernel)
theorem qi_yX10_bestHoist : Cond.instanceMethod yX10_bestHoist ∈ fwT := fw_mem (i := 1487) (by decide +kernel) (by decide +kernel)
theorem qv_yX10_bestHoist : Cond.selects RX10 yX10_bestHoist yX10_bestHoist ∈ fwT := fw_mem (i := 1488) (by decide +kernel) (by decide +kernel)
theorem qc_yX10_bestHoist : Cond.code yX10_bestHoist cX10_bestHoist 7 (Option.some Jvm.ClassFile.FieldType.int) ∈ fwT := fw_mem (i := 1489) (by decide +kernel) (by decide +kernel)
theorem ql_RL_254 : Cond.methodLink RL 254 yX10_errorBred ∈ fwT := fw_mem (i := 1490) (by decide +kernel) (by decide +kernel)
theorem qi_yX10_errorBred : Cond.instanceMethod yX10_errorBred ∈ fwT := fw_mem (i := 1491) (by decide +kernel) (by decide +kernel)
theorem qv_yX10_errorBred : Cond.selects RX10 yX10_errorBred yX10_errorBred ∈ fwT := fw_mem (i := 1492) (by decide +kernel) (by decide +kernel)
theorem qc_yX10_errorBred : Cond.code yX10_errorBred cX10_errorBred 6 (Option.some Jvm.ClassFile.FieldType.int) ∈ fwT := fw_mem (i := 1493) (by decide +kernel) (by decide +kernel)
theorem ql_RL_259 : Cond.methodLink RL 259 yX10_digest ∈ fwT := fw_mem (i := 1494) (by decide +kernel) (by decide +kernel)
theorem qi_yX10_digest : Cond.instanceMethod yX10_digest ∈ fwT := fw_mem (i := 1495) (by decide +kernel) (by decide +kernel)
theorem qv_yX10_digest : Cond.selects RX10 yX10_digest yX10_digest ∈ fwT := fw_mem (i := 1496) (by decide +kernel) (by decide +kernel)
theorem qc_yX10_digest : Cond.code yX10_digest cX10_digest 8 (Option.some Jvm.ClassFile.FieldType.long) ∈ fwT := fw_mem (i := 1497) (by decide +kernel) (by decide +kernel)
theorem ql_RX10_281 : Cond.constantLong RX10 281 (1799302) ∈ fwT := fw_mem (i := 1498) (by decide +kernel) (by decide +kernel)
theorem ql_RX10_283 : Cond.constantLong RX10 283 (31) ∈ fwT := fw_mem (i := 1499) (by decide +kernel) (by decide +kernel)
theorem qa_long : Cond.arrayClass Jvm.ClassFile.FieldType.long ∈ fwT := fw_mem (i := 1500) (by decide +kernel) (by decide +kernel)
theorem ql_RJ0_9 : Cond.fieldLink RJ0 9 "java/lang/String" "value" "[B" ∈ fwT := fw_mem (i := 1502) (by decide +kernel) (by decide +kernel)
theorem ql_RJ0_15 : Cond.fieldLink RJ0 15 "java/lang/String" "coder" "B" ∈ fwT := fw_mem (i := 1503) (by decide +kernel) (by decide +kernel)
