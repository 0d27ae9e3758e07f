-- ===== PART A: goes FIRST, ahead of the names: the tables' words, and 'selects' of the private methods out of them =====
/-- a private method of a class that the tables say can be made, by its rows of tables_1 -/
def lw_okq (q : MethodName × Nat) : Prop := (q.1.cls ≠ "java/lang/invoke/MethodHandle" ∧ q.1.cls ≠ "java/lang/invoke/VarHandle") ∧ Cond.instantiable q.1.cls q.2 ∈ tables_1 ∧ Cond.privateMethod q.1 ∈ tables_1 ∧ Cond.instanceMethod q.1 ∈ tables_1
theorem lw_p0 : lw_okq (⟨"KeptPaths$LeastWays", "clear", "()V"⟩, 4) := ⟨⟨by decide +kernel, by decide +kernel⟩, List.mem_of_getElem? (i := 69) (by decide +kernel), List.mem_of_getElem? (i := 75) (by decide +kernel), List.mem_of_getElem? (i := 76) (by decide +kernel)⟩
theorem lw_p1 : lw_okq (⟨"KeptPaths$LeastWays", "followArcs", "(ILKeptPaths$Net;)I"⟩, 4) := ⟨⟨by decide +kernel, by decide +kernel⟩, List.mem_of_getElem? (i := 69) (by decide +kernel), List.mem_of_getElem? (i := 177) (by decide +kernel), List.mem_of_getElem? (i := 178) (by decide +kernel)⟩
theorem lw_p2 : lw_okq (⟨"KeptPaths$LeastWays", "isBetter", "(III)Z"⟩, 4) := ⟨⟨by decide +kernel, by decide +kernel⟩, List.mem_of_getElem? (i := 69) (by decide +kernel), List.mem_of_getElem? (i := 185) (by decide +kernel), List.mem_of_getElem? (i := 186) (by decide +kernel)⟩
theorem lw_p3 : lw_okq (⟨"KeptPaths$LeastWays", "findTightArcs", "(ILKeptPaths$Net;)V"⟩, 4) := ⟨⟨by decide +kernel, by decide +kernel⟩, List.mem_of_getElem? (i := 69) (by decide +kernel), List.mem_of_getElem? (i := 193) (by decide +kernel), List.mem_of_getElem? (i := 194) (by decide +kernel)⟩
theorem lw_p4 : lw_okq (⟨"KeptPaths", "isBatchFull", "()Z"⟩, 8) := ⟨⟨by decide +kernel, by decide +kernel⟩, List.mem_of_getElem? (i := 9) (by decide +kernel), List.mem_of_getElem? (i := 206) (by decide +kernel), List.mem_of_getElem? (i := 207) (by decide +kernel)⟩
theorem lw_p5 : lw_okq (⟨"KeptPaths$History", "openSlot", "()I"⟩, 6) := ⟨⟨by decide +kernel, by decide +kernel⟩, List.mem_of_getElem? (i := 41) (by decide +kernel), List.mem_of_getElem? (i := 214) (by decide +kernel), List.mem_of_getElem? (i := 215) (by decide +kernel)⟩
theorem lw_p6 : lw_okq (⟨"KeptPaths", "wouldFall", "(III)Z"⟩, 8) := ⟨⟨by decide +kernel, by decide +kernel⟩, List.mem_of_getElem? (i := 9) (by decide +kernel), List.mem_of_getElem? (i := 218) (by decide +kernel), List.mem_of_getElem? (i := 219) (by decide +kernel)⟩
theorem lw_p7 : lw_okq (⟨"KeptPaths", "keepRing", "(I)V"⟩, 8) := ⟨⟨by decide +kernel, by decide +kernel⟩, List.mem_of_getElem? (i := 9) (by decide +kernel), List.mem_of_getElem? (i := 224) (by decide +kernel), List.mem_of_getElem? (i := 225) (by decide +kernel)⟩
theorem lw_p8 : lw_okq (⟨"KeptPaths", "change", "(III)I"⟩, 8) := ⟨⟨by decide +kernel, by decide +kernel⟩, List.mem_of_getElem? (i := 9) (by decide +kernel), List.mem_of_getElem? (i := 237) (by decide +kernel), List.mem_of_getElem? (i := 238) (by decide +kernel)⟩
theorem lw_p9 : lw_okq (⟨"KeptPaths", "recountSources", "()V"⟩, 8) := ⟨⟨by decide +kernel, by decide +kernel⟩, List.mem_of_getElem? (i := 9) (by decide +kernel), List.mem_of_getElem? (i := 255) (by decide +kernel), List.mem_of_getElem? (i := 256) (by decide +kernel)⟩
theorem lw_p10 : lw_okq (⟨"KeptPathsModel", "settle", "()V"⟩, 24) := ⟨⟨by decide +kernel, by decide +kernel⟩, List.mem_of_getElem? (i := 325) (by decide +kernel), List.mem_of_getElem? (i := 332) (by decide +kernel), List.mem_of_getElem? (i := 333) (by decide +kernel)⟩
theorem lw_p11 : lw_okq (⟨"KeptPathsModel", "find", "(III)V"⟩, 24) := ⟨⟨by decide +kernel, by decide +kernel⟩, List.mem_of_getElem? (i := 325) (by decide +kernel), List.mem_of_getElem? (i := 337) (by decide +kernel), List.mem_of_getElem? (i := 338) (by decide +kernel)⟩
theorem lw_p12 : lw_okq (⟨"KeptPathsModel", "noNode", "(I)Z"⟩, 24) := ⟨⟨by decide +kernel, by decide +kernel⟩, List.mem_of_getElem? (i := 325) (by decide +kernel), List.mem_of_getElem? (i := 432) (by decide +kernel), List.mem_of_getElem? (i := 433) (by decide +kernel)⟩
theorem lw_p13 : lw_okq (⟨"KeptPathsModel", "isFalling", "(III)Z"⟩, 24) := ⟨⟨by decide +kernel, by decide +kernel⟩, List.mem_of_getElem? (i := 325) (by decide +kernel), List.mem_of_getElem? (i := 436) (by decide +kernel), List.mem_of_getElem? (i := 437) (by decide +kernel)⟩
theorem lw_p14 : lw_okq (⟨"KeptPathsModel", "change", "(II)V"⟩, 24) := ⟨⟨by decide +kernel, by decide +kernel⟩, List.mem_of_getElem? (i := 325) (by decide +kernel), List.mem_of_getElem? (i := 441) (by decide +kernel), List.mem_of_getElem? (i := 442) (by decide +kernel)⟩
theorem lw_p15 : lw_okq (⟨"KeptPathsModel", "keep", "()V"⟩, 24) := ⟨⟨by decide +kernel, by decide +kernel⟩, List.mem_of_getElem? (i := 325) (by decide +kernel), List.mem_of_getElem? (i := 445) (by decide +kernel), List.mem_of_getElem? (i := 446) (by decide +kernel)⟩
def lw_privs_1 : List (MethodName × Nat) := [(⟨"KeptPaths$LeastWays", "clear", "()V"⟩, 4), (⟨"KeptPaths$LeastWays", "followArcs", "(ILKeptPaths$Net;)I"⟩, 4), (⟨"KeptPaths$LeastWays", "isBetter", "(III)Z"⟩, 4), (⟨"KeptPaths$LeastWays", "findTightArcs", "(ILKeptPaths$Net;)V"⟩, 4), (⟨"KeptPaths", "isBatchFull", "()Z"⟩, 8), (⟨"KeptPaths$History", "openSlot", "()I"⟩, 6), (⟨"KeptPaths", "wouldFall", "(III)Z"⟩, 8), (⟨"KeptPaths", "keepRing", "(I)V"⟩, 8), (⟨"KeptPaths", "change", "(III)I"⟩, 8), (⟨"KeptPaths", "recountSources", "()V"⟩, 8), (⟨"KeptPathsModel", "settle", "()V"⟩, 24), (⟨"KeptPathsModel", "find", "(III)V"⟩, 24), (⟨"KeptPathsModel", "noNode", "(I)Z"⟩, 24), (⟨"KeptPathsModel", "isFalling", "(III)Z"⟩, 24), (⟨"KeptPathsModel", "change", "(II)V"⟩, 24), (⟨"KeptPathsModel", "keep", "()V"⟩, 24)]
theorem lw_r1 : ∀ q ∈ lw_privs_1, lw_okq q := List.forall_mem_cons.mpr ⟨lw_p0, List.forall_mem_cons.mpr ⟨lw_p1, List.forall_mem_cons.mpr ⟨lw_p2, List.forall_mem_cons.mpr ⟨lw_p3, List.forall_mem_cons.mpr ⟨lw_p4, List.forall_mem_cons.mpr ⟨lw_p5, List.forall_mem_cons.mpr ⟨lw_p6, List.forall_mem_cons.mpr ⟨lw_p7, List.forall_mem_cons.mpr ⟨lw_p8, List.forall_mem_cons.mpr ⟨lw_p9, List.forall_mem_cons.mpr ⟨lw_p10, List.forall_mem_cons.mpr ⟨lw_p11, List.forall_mem_cons.mpr ⟨lw_p12, List.forall_mem_cons.mpr ⟨lw_p13, List.forall_mem_cons.mpr ⟨lw_p14, List.forall_mem_cons.mpr ⟨lw_p15, fun _ h => absurd h List.not_mem_nil⟩⟩⟩⟩⟩⟩⟩⟩⟩⟩⟩⟩⟩⟩⟩⟩
theorem lw_p16 : lw_okq (⟨"KeptPathsModel", "count", "()V"⟩, 24) := ⟨⟨by decide +kernel, by decide +kernel⟩, List.mem_of_getElem? (i := 325) (by decide +kernel), List.mem_of_getElem? (i := 449) (by decide +kernel), List.mem_of_getElem? (i := 450) (by decide +kernel)⟩
theorem lw_p17 : lw_okq (⟨"KeptPathsModel", "isBad", "(II)Z"⟩, 24) := ⟨⟨by decide +kernel, by decide +kernel⟩, List.mem_of_getElem? (i := 325) (by decide +kernel), List.mem_of_getElem? (i := 477) (by decide +kernel), List.mem_of_getElem? (i := 478) (by decide +kernel)⟩
def lw_privs_2 : List (MethodName × Nat) := [(⟨"KeptPathsModel", "count", "()V"⟩, 24), (⟨"KeptPathsModel", "isBad", "(II)Z"⟩, 24)]
theorem lw_r2 : ∀ q ∈ lw_privs_2, lw_okq q := List.forall_mem_cons.mpr ⟨lw_p16, List.forall_mem_cons.mpr ⟨lw_p17, fun _ h => absurd h List.not_mem_nil⟩⟩
def lw_privs : List (MethodName × Nat) := lw_privs_1 ++ (lw_privs_2)
def lw_tbl : List Cond := k2_sels lw_privs ++ tables_1
theorem lw_privs_ok : ∀ q ∈ lw_privs, lw_okq q := by
  show ∀ q ∈ lw_privs_1 ++ (lw_privs_2), lw_okq q
  exact List.forall_mem_append.mpr ⟨lw_r1, lw_r2⟩
def RH : String := "KeptPaths$History"
def RL : String := "KeptPaths$LeastWays"
def RN : String := "KeptPaths$Net"
def RS : String := "KeptPaths$Source"
def RK : String := "KeptPaths"
def RM : String := "KeptPathsModel"
def RA : String := "java/util/Arrays"
def RW : String := "KeptPathsLaw"
def TH : u_T := fun k => match k with
  | 0 => ("KeptPaths$History", "kept", "I", false)
  | 1 => ("KeptPaths$History", "oldest", "I", false)
  | 2 => ("KeptPaths$History", "sizes", "[I", true)
  | 3 => ("KeptPaths$History", "begins", "[I", true)
  | 4 => ("KeptPaths$History", "ends", "[I", true)
  | _ => ("KeptPaths$History", "lengths", "[I", true)
def tyH : Nat → FieldType := fun k => match k with
  | 0 => .int
  | 1 => .int
  | 2 => (.array .int)
  | 3 => (.array .int)
  | 4 => (.array .int)
  | _ => (.array .int)
theorem nmH : ∀ a, a < 6 → ∀ b, b < 6 → a ≠ b → (TH a).2.1 ≠ (TH b).2.1 := by decide +kernel
theorem tyH_ok : ∀ k, k < 6 → parseFieldDescriptor (TH k).2.2.1 = some (tyH k) := by decide +kernel
def TL : u_T := fun k => match k with
  | 0 => ("KeptPaths$LeastWays", "distances", "[I", true)
  | 1 => ("KeptPaths$LeastWays", "hopCounts", "[I", true)
  | 2 => ("KeptPaths$LeastWays", "parents", "[I", true)
  | _ => ("KeptPaths$LeastWays", "tightArcs", "I", false)
def tyL : Nat → FieldType := fun k => match k with
  | 0 => (.array .int)
  | 1 => (.array .int)
  | 2 => (.array .int)
  | _ => .int
theorem nmL : ∀ a, a < 4 → ∀ b, b < 4 → a ≠ b → (TL a).2.1 ≠ (TL b).2.1 := by decide +kernel
theorem tyL_ok : ∀ k, k < 4 → parseFieldDescriptor (TL k).2.2.1 = some (tyL k) := by decide +kernel
def TN : u_T := fun k => match k with
  | 0 => ("KeptPaths$Net", "nodes", "I", false)
  | 1 => ("KeptPaths$Net", "arcs", "I", false)
  | _ => ("KeptPaths$Net", "lengths", "[I", true)
def tyN : Nat → FieldType := fun k => match k with
  | 0 => .int
  | 1 => .int
  | _ => (.array .int)
theorem nmN : ∀ a, a < 3 → ∀ b, b < 3 → a ≠ b → (TN a).2.1 ≠ (TN b).2.1 := by decide +kernel
theorem tyN_ok : ∀ k, k < 3 → parseFieldDescriptor (TN k).2.2.1 = some (tyN k) := by decide +kernel
def TS : u_T := fun k => match k with
  | 0 => ("KeptPaths$Source", "place", "I", false)
  | 1 => ("KeptPaths$Source", "affectedNodes", "I", false)
  | 2 => ("KeptPaths$Source", "told", "LKeptPaths$LeastWays;", false)
  | _ => ("KeptPaths$Source", "spare", "LKeptPaths$LeastWays;", false)
def tyS : Nat → FieldType := fun k => match k with
  | 0 => .int
  | 1 => .int
  | 2 => (.object "KeptPaths$LeastWays")
  | _ => (.object "KeptPaths$LeastWays")
theorem nmS : ∀ a, a < 4 → ∀ b, b < 4 → a ≠ b → (TS a).2.1 ≠ (TS b).2.1 := by decide +kernel
theorem tyS_ok : ∀ k, k < 4 → parseFieldDescriptor (TS k).2.2.1 = some (tyS k) := by decide +kernel
def TK : u_T := fun k => match k with
  | 0 => ("KeptPaths", "net", "LKeptPaths$Net;", true)
  | 1 => ("KeptPaths", "history", "LKeptPaths$History;", true)
  | 2 => ("KeptPaths", "sources", "[LKeptPaths$Source;", true)
  | 3 => ("KeptPaths", "waysBack", "LKeptPaths$LeastWays;", true)
  | 4 => ("KeptPaths", "ringNodes", "[I", true)
  | 5 => ("KeptPaths", "ringSize", "I", false)
  | 6 => ("KeptPaths", "inBatch", "Z", false)
  | _ => ("KeptPaths", "changesInAll", "I", false)
def tyK : Nat → FieldType := fun k => match k with
  | 0 => (.object "KeptPaths$Net")
  | 1 => (.object "KeptPaths$History")
  | 2 => (.array (.object "KeptPaths$Source"))
  | 3 => (.object "KeptPaths$LeastWays")
  | 4 => (.array .int)
  | 5 => .int
  | 6 => .boolean
  | _ => .int
theorem nmK : ∀ a, a < 8 → ∀ b, b < 8 → a ≠ b → (TK a).2.1 ≠ (TK b).2.1 := by decide +kernel
theorem tyK_ok : ∀ k, k < 8 → parseFieldDescriptor (TK k).2.2.1 = some (tyK k) := by decide +kernel
def TM : u_T := fun k => match k with
  | 0 => ("KeptPathsModel", "thrown", "I", false)
  | 1 => ("KeptPathsModel", "nodes", "I", false)
  | 2 => ("KeptPathsModel", "arc", "[I", true)
  | 3 => ("KeptPathsModel", "source", "[I", true)
  | 4 => ("KeptPathsModel", "distance", "[I", true)
  | 5 => ("KeptPathsModel", "hops", "[I", true)
  | 6 => ("KeptPathsModel", "parent", "[I", true)
  | 7 => ("KeptPathsModel", "tight", "[I", true)
  | 8 => ("KeptPathsModel", "affected", "[I", true)
  | 9 => ("KeptPathsModel", "wasDistance", "[I", true)
  | 10 => ("KeptPathsModel", "wasHops", "[I", true)
  | 11 => ("KeptPathsModel", "wasParent", "[I", true)
  | 12 => ("KeptPathsModel", "least", "[I", true)
  | 13 => ("KeptPathsModel", "foundLength", "[I", true)
  | 14 => ("KeptPathsModel", "foundHops", "[I", true)
  | 15 => ("KeptPathsModel", "foundParent", "[I", true)
  | 16 => ("KeptPathsModel", "kept", "I", false)
  | 17 => ("KeptPathsModel", "many", "[I", true)
  | 18 => ("KeptPathsModel", "place", "[I", true)
  | 19 => ("KeptPathsModel", "elder", "[I", true)
  | 20 => ("KeptPathsModel", "isBatch", "Z", false)
  | 21 => ("KeptPathsModel", "changes", "I", false)
  | 22 => ("KeptPathsModel", "rings", "I", false)
  | _ => ("KeptPathsModel", "ring", "[I", true)
def tyM : Nat → FieldType := fun k => match k with
  | 0 => .int
  | 1 => .int
  | 2 => (.array .int)
  | 3 => (.array .int)
  | 4 => (.array .int)
  | 5 => (.array .int)
  | 6 => (.array .int)
  | 7 => (.array .int)
  | 8 => (.array .int)
  | 9 => (.array .int)
  | 10 => (.array .int)
  | 11 => (.array .int)
  | 12 => (.array .int)
  | 13 => (.array .int)
  | 14 => (.array .int)
  | 15 => (.array .int)
  | 16 => .int
  | 17 => (.array .int)
  | 18 => (.array .int)
  | 19 => (.array .int)
  | 20 => .boolean
  | 21 => .int
  | 22 => .int
  | _ => (.array .int)
theorem nmM : ∀ a, a < 24 → ∀ b, b < 24 → a ≠ b → (TM a).2.1 ≠ (TM b).2.1 := by decide +kernel
theorem tyM_ok : ∀ k, k < 24 → parseFieldDescriptor (TM k).2.2.1 = some (tyM k) := by decide +kernel
abbrev vwCl : List vw_C := [(RH, TH, 6), (RL, TL, 4), (RN, TN, 3), (RS, TS, 4), (RK, TK, 8), (RM, TM, 24)]
abbrev cK_init : ByteArray := prog_1_method_1_code
def yK_init : MethodName := ⟨RK, "<init>", "()V"⟩
abbrev cN_init : ByteArray := prog_4_method_1_code
def yN_init : MethodName := ⟨RN, "<init>", "()V"⟩
abbrev cA_fill : ByteArray := prog_8_method_103_code
def yA_fill : MethodName := ⟨RA, "fill", "([II)V"⟩
abbrev cH_init : ByteArray := prog_2_method_1_code
def yH_init : MethodName := ⟨RH, "<init>", "()V"⟩
abbrev cL_init : ByteArray := prog_3_method_1_code
def yL_init : MethodName := ⟨RL, "<init>", "()V"⟩
abbrev cL_clear : ByteArray := prog_3_method_2_code
def yL_clear : MethodName := ⟨RL, "clear", "()V"⟩
abbrev cS_init : ByteArray := prog_5_method_1_code
def yS_init : MethodName := ⟨RS, "<init>", "()V"⟩
abbrev cK_node : ByteArray := prog_1_method_2_code
def yK_node : MethodName := ⟨RK, "node", "()I"⟩
abbrev cN_addNode : ByteArray := prog_4_method_2_code
def yN_addNode : MethodName := ⟨RN, "addNode", "()I"⟩
abbrev cK_source : ByteArray := prog_1_method_3_code
def yK_source : MethodName := ⟨RK, "source", "(II)I"⟩
abbrev cK_isSource : ByteArray := prog_1_method_18_code
def yK_isSource : MethodName := ⟨RK, "isSource", "(I)Z"⟩
abbrev cN_isNode : ByteArray := prog_4_method_3_code
def yN_isNode : MethodName := ⟨RN, "isNode", "(I)Z"⟩
abbrev cS_moveTo : ByteArray := prog_5_method_2_code
def yS_moveTo : MethodName := ⟨RS, "moveTo", "(ILKeptPaths$Net;)V"⟩
abbrev cL_settle : ByteArray := prog_3_method_3_code
def yL_settle : MethodName := ⟨RL, "settle", "(LKeptPaths$Net;I)V"⟩
abbrev cL_followArcs : ByteArray := prog_3_method_4_code
def yL_followArcs : MethodName := ⟨RL, "followArcs", "(ILKeptPaths$Net;)I"⟩
abbrev cN_lengthOf : ByteArray := prog_4_method_5_code
def yN_lengthOf : MethodName := ⟨RN, "lengthOf", "(II)I"⟩
abbrev cL_isBetter : ByteArray := prog_3_method_5_code
def yL_isBetter : MethodName := ⟨RL, "isBetter", "(III)Z"⟩
abbrev cL_reaches : ByteArray := prog_3_method_7_code
def yL_reaches : MethodName := ⟨RL, "reaches", "(I)Z"⟩
abbrev cL_findTightArcs : ByteArray := prog_3_method_6_code
def yL_findTightArcs : MethodName := ⟨RL, "findTightArcs", "(ILKeptPaths$Net;)V"⟩
abbrev cK_put : ByteArray := prog_1_method_4_code
def yK_put : MethodName := ⟨RK, "put", "(III)I"⟩
abbrev cN_areTwoNodes : ByteArray := prog_4_method_4_code
def yN_areTwoNodes : MethodName := ⟨RN, "areTwoNodes", "(II)Z"⟩
abbrev cK_isBatchFull : ByteArray := prog_1_method_19_code
def yK_isBatchFull : MethodName := ⟨RK, "isBatchFull", "()Z"⟩
abbrev cH_openChanges : ByteArray := prog_2_method_3_code
def yH_openChanges : MethodName := ⟨RH, "openChanges", "()I"⟩
abbrev cH_openSlot : ByteArray := prog_2_method_2_code
def yH_openSlot : MethodName := ⟨RH, "openSlot", "()I"⟩
abbrev cK_wouldFall : ByteArray := prog_1_method_20_code
def yK_wouldFall : MethodName := ⟨RK, "wouldFall", "(III)Z"⟩
abbrev cK_keepRing : ByteArray := prog_1_method_21_code
def yK_keepRing : MethodName := ⟨RK, "keepRing", "(I)V"⟩
abbrev cL_sizeOfWay : ByteArray := prog_3_method_8_code
def yL_sizeOfWay : MethodName := ⟨RL, "sizeOfWay", "(I)I"⟩
abbrev cL_nodeOnWay : ByteArray := prog_3_method_9_code
def yL_nodeOnWay : MethodName := ⟨RL, "nodeOnWay", "(II)I"⟩
abbrev cK_change : ByteArray := prog_1_method_22_code
def yK_change : MethodName := ⟨RK, "change", "(III)I"⟩
abbrev cH_note : ByteArray := prog_2_method_4_code
def yH_note : MethodName := ⟨RH, "note", "(III)V"⟩
abbrev cN_setLength : ByteArray := prog_4_method_6_code
def yN_setLength : MethodName := ⟨RN, "setLength", "(III)V"⟩
abbrev cH_keepOpen : ByteArray := prog_2_method_5_code
def yH_keepOpen : MethodName := ⟨RH, "keepOpen", "()V"⟩
abbrev cK_recountSources : ByteArray := prog_1_method_23_code
def yK_recountSources : MethodName := ⟨RK, "recountSources", "()V"⟩
abbrev cS_recount : ByteArray := prog_5_method_3_code
def yS_recount : MethodName := ⟨RS, "recount", "(LKeptPaths$Net;)V"⟩
abbrev cL_differingNodes : ByteArray := prog_3_method_10_code
def yL_differingNodes : MethodName := ⟨RL, "differingNodes", "(LKeptPaths$LeastWays;)I"⟩
abbrev cK_take : ByteArray := prog_1_method_5_code
def yK_take : MethodName := ⟨RK, "take", "(II)I"⟩
abbrev cK_arc : ByteArray := prog_1_method_6_code
def yK_arc : MethodName := ⟨RK, "arc", "(II)I"⟩
abbrev cK_begin : ByteArray := prog_1_method_7_code
def yK_begin : MethodName := ⟨RK, "begin", "()I"⟩
abbrev cK_end : ByteArray := prog_1_method_8_code
def yK_end : MethodName := ⟨RK, "end", "()I"⟩
abbrev cK_undo : ByteArray := prog_1_method_9_code
def yK_undo : MethodName := ⟨RK, "undo", "()I"⟩
abbrev cH_takeBackLatest : ByteArray := prog_2_method_6_code
def yH_takeBackLatest : MethodName := ⟨RH, "takeBackLatest", "(LKeptPaths$Net;)V"⟩
abbrev cK_distance : ByteArray := prog_1_method_10_code
def yK_distance : MethodName := ⟨RK, "distance", "(II)I"⟩
abbrev cK_hops : ByteArray := prog_1_method_11_code
def yK_hops : MethodName := ⟨RK, "hops", "(II)I"⟩
abbrev cK_parent : ByteArray := prog_1_method_12_code
def yK_parent : MethodName := ⟨RK, "parent", "(II)I"⟩
abbrev cK_way : ByteArray := prog_1_method_13_code
def yK_way : MethodName := ⟨RK, "way", "(III)I"⟩
abbrev cK_affected : ByteArray := prog_1_method_14_code
def yK_affected : MethodName := ⟨RK, "affected", "(I)I"⟩
abbrev cK_tight : ByteArray := prog_1_method_15_code
def yK_tight : MethodName := ⟨RK, "tight", "(I)I"⟩
abbrev cK_ring : ByteArray := prog_1_method_16_code
def yK_ring : MethodName := ⟨RK, "ring", "(I)I"⟩
abbrev cK_count : ByteArray := prog_1_method_17_code
def yK_count : MethodName := ⟨RK, "count", "(I)I"⟩
abbrev cM_init : ByteArray := prog_7_method_3_code
def yM_init : MethodName := ⟨RM, "<init>", "()V"⟩
abbrev cM_settle : ByteArray := prog_7_method_6_code
def yM_settle : MethodName := ⟨RM, "settle", "()V"⟩
abbrev cM_find : ByteArray := prog_7_method_5_code
def yM_find : MethodName := ⟨RM, "find", "(III)V"⟩
abbrev cM_node : ByteArray := prog_7_method_10_code
def yM_node : MethodName := ⟨RM, "node", "()I"⟩
abbrev cM_source : ByteArray := prog_7_method_11_code
def yM_source : MethodName := ⟨RM, "source", "(II)I"⟩
abbrev cM_in : ByteArray := prog_7_method_2_code
def yM_in : MethodName := ⟨RM, "in", "(III)Z"⟩
abbrev cM_put : ByteArray := prog_7_method_13_code
def yM_put : MethodName := ⟨RM, "put", "(III)I"⟩
abbrev cM_noNode : ByteArray := prog_7_method_4_code
def yM_noNode : MethodName := ⟨RM, "noNode", "(I)Z"⟩
abbrev cM_isFalling : ByteArray := prog_7_method_12_code
def yM_isFalling : MethodName := ⟨RM, "isFalling", "(III)Z"⟩
abbrev cM_change : ByteArray := prog_7_method_8_code
def yM_change : MethodName := ⟨RM, "change", "(II)V"⟩
abbrev cM_keep : ByteArray := prog_7_method_9_code
def yM_keep : MethodName := ⟨RM, "keep", "()V"⟩
abbrev cM_count0 : ByteArray := prog_7_method_7_code
def yM_count0 : MethodName := ⟨RM, "count", "()V"⟩
abbrev cM_take : ByteArray := prog_7_method_14_code
def yM_take : MethodName := ⟨RM, "take", "(II)I"⟩
abbrev cM_arc : ByteArray := prog_7_method_15_code
def yM_arc : MethodName := ⟨RM, "arc", "(II)I"⟩
abbrev cM_begin : ByteArray := prog_7_method_16_code
def yM_begin : MethodName := ⟨RM, "begin", "()I"⟩
abbrev cM_end : ByteArray := prog_7_method_17_code
def yM_end : MethodName := ⟨RM, "end", "()I"⟩
abbrev cM_undo : ByteArray := prog_7_method_18_code
def yM_undo : MethodName := ⟨RM, "undo", "()I"⟩
abbrev cM_distance : ByteArray := prog_7_method_20_code
def yM_distance : MethodName := ⟨RM, "distance", "(II)I"⟩
abbrev cM_isBad : ByteArray := prog_7_method_19_code
def yM_isBad : MethodName := ⟨RM, "isBad", "(II)Z"⟩
abbrev cM_hops : ByteArray := prog_7_method_21_code
def yM_hops : MethodName := ⟨RM, "hops", "(II)I"⟩
abbrev cM_parent : ByteArray := prog_7_method_22_code
def yM_parent : MethodName := ⟨RM, "parent", "(II)I"⟩
abbrev cM_way : ByteArray := prog_7_method_23_code
def yM_way : MethodName := ⟨RM, "way", "(III)I"⟩
abbrev cM_affected : ByteArray := prog_7_method_24_code
def yM_affected : MethodName := ⟨RM, "affected", "(I)I"⟩
abbrev cM_tight : ByteArray := prog_7_method_25_code
def yM_tight : MethodName := ⟨RM, "tight", "(I)I"⟩
abbrev cM_ring : ByteArray := prog_7_method_26_code
def yM_ring : MethodName := ⟨RM, "ring", "(I)I"⟩
abbrev cM_count1 : ByteArray := prog_7_method_27_code
def yM_count1 : MethodName := ⟨RM, "count", "(I)I"⟩
/-- the tables' words that go down to a callee -/
def kTbl : List Cond := lw_tbl.filter goodWord
theorem kTblIn {w : Cond} (i : Nat) (h : tables_1[i]? = some w) (g : goodWord w = true) : w ∈ kTbl := List.mem_filter.mpr ⟨List.mem_append_right _ (List.mem_of_getElem? h), g⟩
theorem kSelIn {w : Cond} (i : Nat) (h : (k2_sels lw_privs)[i]? = some w) (g : goodWord w = true) : w ∈ kTbl := List.mem_filter.mpr ⟨List.mem_append_left _ (List.mem_of_getElem? h), g⟩
def kWs (y : MethodName) (c : ByteArray) (n : Nat) (r : Option FieldType) : List Cond := Cond.code y c n r :: kTbl
theorem kGoodIn {w0 : Cond} (h : w0 ∈ kTbl) : GoodIn kTbl (w0 :: kTbl) := fun w hw => by
  have hm : w ∈ kTbl := (List.mem_cons.mp hw).elim (fun e => e ▸ h) id
  exact ⟨hm, good_of_word (List.mem_filter.mp hm).2⟩
/-- what a call asks of an instance method -/
def kMeth (y : MethodName) (c : ByteArray) (n : Nat) (r : Option FieldType) (k : Nat) : Prop := Cond.code y c n r ∈ kTbl ∧ Cond.instanceMethod y ∈ kTbl ∧ Cond.selects y.cls y y ∈ kTbl ∧ Cond.initialized y.cls ∈ kTbl ∧ y.cls ≠ "java/lang/invoke/MethodHandle" ∧ y.cls ≠ "java/lang/invoke/VarHandle" ∧ (parseMethodDescriptor y.desc).map (fun d => d.parameters.length) = some k
def kMethS (y : MethodName) (c : ByteArray) (n : Nat) (r : Option FieldType) (k : Nat) : Prop := Cond.code y c n r ∈ kTbl ∧ Cond.static y ∈ kTbl ∧ Cond.initialized y.cls ∈ kTbl ∧ y.cls ≠ "java/lang/invoke/MethodHandle" ∧ y.cls ≠ "java/lang/invoke/VarHandle" ∧ (parseMethodDescriptor y.desc).map (fun d => d.parameters.length) = some k
theorem kcwV {R : Room} {s : State} {args : Array Value} {own : String} {index : Nat} {y : MethodName} {bytes : ByteArray} {maxL n : Nat} {ret : Option FieldType} {rm : Room} (hts : ∀ w ∈ kTbl, w.before args s = true) (q : kMeth y bytes maxL ret n) (hl : Cond.methodLink own index y ∈ kTbl) (hrc : rm.cells = 0) (hrs : rm.slots = 0) (hR : rm.frames + 1 ≤ R.frames ∧ 8 + (maxL + 11) + rm.locals ≤ R.locals) :
    CallW R s args own y.cls index y bytes maxL ret (kWs y bytes maxL ret) rm 0 0 n :=
  ⟨callB_of n hts (kGoodIn q.1) rfl hrc hrs (hts _ q.2.2.2.1) (hts _ hl) q.2.2.2.2 hR, hts _ q.2.1, hts _ q.2.2.1⟩
theorem kcwS {R : Room} {s : State} {args : Array Value} {own : String} {index : Nat} {y : MethodName} {bytes : ByteArray} {maxL n : Nat} {ret : Option FieldType} {rm : Room} (hts : ∀ w ∈ kTbl, w.before args s = true) (q : kMethS y bytes maxL ret n) (hl : Cond.methodLink own index y ∈ kTbl) (hrc : rm.cells = 0) (hrs : rm.slots = 0) (hR : rm.frames + 1 ≤ R.frames ∧ 8 + (maxL + 11) + rm.locals ≤ R.locals) :
    CallB R s args own index y bytes maxL ret (kWs y bytes maxL ret) rm 0 0 n ∧ (Cond.static y).before args s = true :=
  ⟨callB_of n hts (kGoodIn q.1) rfl hrc hrs (hts _ q.2.2.1) (hts _ hl) q.2.2.2 hR, hts _ q.2.1⟩
theorem iH : ∀ w ∈ u_ws RH TH 6, w ∈ kTbl := by decide +kernel
theorem iL : ∀ w ∈ u_ws RL TL 4, w ∈ kTbl := by decide +kernel
theorem iN : ∀ w ∈ u_ws RN TN 3, w ∈ kTbl := by decide +kernel
theorem iS : ∀ w ∈ u_ws RS TS 4, w ∈ kTbl := by decide +kernel
theorem iK : ∀ w ∈ u_ws RK TK 8, w ∈ kTbl := by decide +kernel
theorem iM : ∀ w ∈ u_ws RM TM 24, w ∈ kTbl := by decide +kernel
