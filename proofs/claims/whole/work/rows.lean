section
-- ===== PART A: goes FIRST, ahead of the names: the tables' words, and 'selects' of the private methods out of them =====
/-- a private method of a class that the tables say can be made, by its rows of tables_1 -/
def lw_okq (q : MethodName × Nat) : Prop := (q.1.cls ≠ "java/lang/invoke/MethodHandle" ∧ q.1.cls ≠ "java/lang/invoke/VarHandle") ∧ Cond.instantiable q.1.cls q.2 ∈ tables_1 ∧ Cond.privateMethod q.1 ∈ tables_1 ∧ Cond.instanceMethod q.1 ∈ tables_1
theorem lw_p0 : lw_okq (⟨"KeptPaths$LeastWays", "clear", "()V"⟩, 4) := ⟨⟨by decide +kernel, by decide +kernel⟩, List.mem_of_getElem? (i := 69) (by decide +kernel), List.mem_of_getElem? (i := 75) (by decide +kernel), List.mem_of_getElem? (i := 76) (by decide +kernel)⟩
theorem lw_p1 : lw_okq (⟨"KeptPaths$LeastWays", "followArcs", "(ILKeptPaths$Net;)I"⟩, 4) := ⟨⟨by decide +kernel, by decide +kernel⟩, List.mem_of_getElem? (i := 69) (by decide +kernel), List.mem_of_getElem? (i := 177) (by decide +kernel), List.mem_of_getElem? (i := 178) (by decide +kernel)⟩
theorem lw_p2 : lw_okq (⟨"KeptPaths$LeastWays", "isBetter", "(III)Z"⟩, 4) := ⟨⟨by decide +kernel, by decide +kernel⟩, List.mem_of_getElem? (i := 69) (by decide +kernel), List.mem_of_getElem? (i := 185) (by decide +kernel), List.mem_of_getElem? (i := 186) (by decide +kernel)⟩
theorem lw_p3 : lw_okq (⟨"KeptPaths$LeastWays", "findTightArcs", "(ILKeptPaths$Net;)V"⟩, 4) := ⟨⟨by decide +kernel, by decide +kernel⟩, List.mem_of_getElem? (i := 69) (by decide +kernel), List.mem_of_getElem? (i := 193) (by decide +kernel), List.mem_of_getElem? (i := 194) (by decide +kernel)⟩
theorem lw_p4 : lw_okq (⟨"KeptPaths", "isBatchFull", "()Z"⟩, 8) := ⟨⟨by decide +kernel, by decide +kernel⟩, List.mem_of_getElem? (i := 9) (by decide +kernel), List.mem_of_getElem? (i := 206) (by decide +kernel), List.mem_of_getElem? (i := 207) (by decide +kernel)⟩
theorem lw_p5 : lw_okq (⟨"KeptPaths$History", "openSlot", "()I"⟩, 6) := ⟨⟨by decide +kernel, by decide +kernel⟩, List.mem_of_getElem? (i := 41) (by decide +kernel), List.mem_of_getElem? (i := 214) (by decide +kernel), List.mem_of_getElem? (i := 215) (by decide +kernel)⟩
theorem lw_p6 : lw_okq (⟨"KeptPaths", "wouldFall", "(III)Z"⟩, 8) := ⟨⟨by decide +kernel, by decide +kernel⟩, List.mem_of_getElem? (i := 9) (by decide +kernel), List.mem_of_getElem? (i := 218) (by decide +kernel), List.mem_of_getElem? (i := 219) (by decide +kernel)⟩
theorem lw_p7 : lw_okq (⟨"KeptPaths", "keepRing", "(I)V"⟩, 8) := ⟨⟨by decide +kernel, by decide +kernel⟩, List.mem_of_getElem? (i := 9) (by decide +kernel), List.mem_of_getElem? (i := 224) (by decide +kernel), List.mem_of_getElem? (i := 225) (by decide +kernel)⟩
theorem lw_p8 : lw_okq (⟨"KeptPaths", "change", "(III)I"⟩, 8) := ⟨⟨by decide +kernel, by decide +kernel⟩, List.mem_of_getElem? (i := 9) (by decide +kernel), List.mem_of_getElem? (i := 237) (by decide +kernel), List.mem_of_getElem? (i := 238) (by decide +kernel)⟩
theorem lw_p9 : lw_okq (⟨"KeptPaths", "recountSources", "()V"⟩, 8) := ⟨⟨by decide +kernel, by decide +kernel⟩, List.mem_of_getElem? (i := 9) (by decide +kernel), List.mem_of_getElem? (i := 255) (by decide +kernel), List.mem_of_getElem? (i := 256) (by decide +kernel)⟩
theorem lw_p10 : lw_okq (⟨"KeptPathsModel", "settle", "()V"⟩, 24) := ⟨⟨by decide +kernel, by decide +kernel⟩, List.mem_of_getElem? (i := 325) (by decide +kernel), List.mem_of_getElem? (i := 332) (by decide +kernel), List.mem_of_getElem? (i := 333) (by decide +kernel)⟩
theorem lw_p11 : lw_okq (⟨"KeptPathsModel", "find", "(III)V"⟩, 24) := ⟨⟨by decide +kernel, by decide +kernel⟩, List.mem_of_getElem? (i := 325) (by decide +kernel), List.mem_of_getElem? (i := 337) (by decide +kernel), List.mem_of_getElem? (i := 338) (by decide +kernel)⟩
theorem lw_p12 : lw_okq (⟨"KeptPathsModel", "noNode", "(I)Z"⟩, 24) := ⟨⟨by decide +kernel, by decide +kernel⟩, List.mem_of_getElem? (i := 325) (by decide +kernel), List.mem_of_getElem? (i := 432) (by decide +kernel), List.mem_of_getElem? (i := 433) (by decide +kernel)⟩
theorem lw_p13 : lw_okq (⟨"KeptPathsModel", "isFalling", "(III)Z"⟩, 24) := ⟨⟨by decide +kernel, by decide +kernel⟩, List.mem_of_getElem? (i := 325) (by decide +kernel), List.mem_of_getElem? (i := 436) (by decide +kernel), List.mem_of_getElem? (i := 437) (by decide +kernel)⟩
theorem lw_p14 : lw_okq (⟨"KeptPathsModel", "change", "(II)V"⟩, 24) := ⟨⟨by decide +kernel, by decide +kernel⟩, List.mem_of_getElem? (i := 325) (by decide +kernel), List.mem_of_getElem? (i := 441) (by decide +kernel), List.mem_of_getElem? (i := 442) (by decide +kernel)⟩
theorem lw_p15 : lw_okq (⟨"KeptPathsModel", "keep", "()V"⟩, 24) := ⟨⟨by decide +kernel, by decide +kernel⟩, List.mem_of_getElem? (i := 325) (by decide +kernel), List.mem_of_getElem? (i := 445) (by decide +kernel), List.mem_of_getElem? (i := 446) (by decide +kernel)⟩
def lw_privs_1 : List (MethodName × Nat) := [(⟨"KeptPaths$LeastWays", "clear", "()V"⟩, 4), (⟨"KeptPaths$LeastWays", "followArcs", "(ILKeptPaths$Net;)I"⟩, 4), (⟨"KeptPaths$LeastWays", "isBetter", "(III)Z"⟩, 4), (⟨"KeptPaths$LeastWays", "findTightArcs", "(ILKeptPaths$Net;)V"⟩, 4), (⟨"KeptPaths", "isBatchFull", "()Z"⟩, 8), (⟨"KeptPaths$History", "openSlot", "()I"⟩, 6), (⟨"KeptPaths", "wouldFall", "(III)Z"⟩, 8), (⟨"KeptPaths", "keepRing", "(I)V"⟩, 8), (⟨"KeptPaths", "change", "(III)I"⟩, 8), (⟨"KeptPaths", "recountSources", "()V"⟩, 8), (⟨"KeptPathsModel", "settle", "()V"⟩, 24), (⟨"KeptPathsModel", "find", "(III)V"⟩, 24), (⟨"KeptPathsModel", "noNode", "(I)Z"⟩, 24), (⟨"KeptPathsModel", "isFalling", "(III)Z"⟩, 24), (⟨"KeptPathsModel", "change", "(II)V"⟩, 24), (⟨"KeptPathsModel", "keep", "()V"⟩, 24)]
theorem lw_r1 : ∀ q ∈ lw_privs_1, lw_okq q := List.forall_mem_cons.mpr ⟨lw_p0, List.forall_mem_cons.mpr ⟨lw_p1, List.forall_mem_cons.mpr ⟨lw_p2, List.forall_mem_cons.mpr ⟨lw_p3, List.forall_mem_cons.mpr ⟨lw_p4, List.forall_mem_cons.mpr ⟨lw_p5, List.forall_mem_cons.mpr ⟨lw_p6, List.forall_mem_cons.mpr ⟨lw_p7, List.forall_mem_cons.mpr ⟨lw_p8, List.forall_mem_cons.mpr ⟨lw_p9, List.forall_mem_cons.mpr ⟨lw_p10, List.forall_mem_cons.mpr ⟨lw_p11, List.forall_mem_cons.mpr ⟨lw_p12, List.forall_mem_cons.mpr ⟨lw_p13, List.forall_mem_cons.mpr ⟨lw_p14, List.forall_mem_cons.mpr ⟨lw_p15, fun _ h => absurd h List.not_mem_nil⟩⟩⟩⟩⟩⟩⟩⟩⟩⟩⟩⟩⟩⟩⟩⟩
theorem lw_p16 : lw_okq (⟨"KeptPathsModel", "count", "()V"⟩, 24) := ⟨⟨by decide +kernel, by decide +kernel⟩, List.mem_of_getElem? (i := 325) (by decide +kernel), List.mem_of_getElem? (i := 449) (by decide +kernel), List.mem_of_getElem? (i := 450) (by decide +kernel)⟩
theorem lw_p17 : lw_okq (⟨"KeptPathsModel", "isBad", "(II)Z"⟩, 24) := ⟨⟨by decide +kernel, by decide +kernel⟩, List.mem_of_getElem? (i := 325) (by decide +kernel), List.mem_of_getElem? (i := 477) (by decide +kernel), List.mem_of_getElem? (i := 478) (by decide +kernel)⟩
def lw_privs_2 : List (MethodName × Nat) := [(⟨"KeptPathsModel", "count", "()V"⟩, 24), (⟨"KeptPathsModel", "isBad", "(II)Z"⟩, 24)]
theorem lw_r2 : ∀ q ∈ lw_privs_2, lw_okq q := List.forall_mem_cons.mpr ⟨lw_p16, List.forall_mem_cons.mpr ⟨lw_p17, fun _ h => absurd h List.not_mem_nil⟩⟩
def lw_privs : List (MethodName × Nat) := lw_privs_1 ++ (lw_privs_2)
def lw_tbl : List Cond := k2_sels lw_privs ++ tables_1
theorem lw_privs_ok : ∀ q ∈ lw_privs, lw_okq q := by
  show ∀ q ∈ lw_privs_1 ++ (lw_privs_2), lw_okq q
  exact List.forall_mem_append.mpr ⟨lw_r1, lw_r2⟩
def RH : String := "KeptPaths$History"
def RL : String := "KeptPaths$LeastWays"
def RN : String := "KeptPaths$Net"
def RS : String := "KeptPaths$Source"
def RK : String := "KeptPaths"
def RM : String := "KeptPathsModel"
def RA : String := "java/util/Arrays"
def RW : String := "KeptPathsLaw"
def TH : u_T := fun k => match k with
  | 0 => ("KeptPaths$History", "kept", "I", false)
  | 1 => ("KeptPaths$History", "oldest", "I", false)
  | 2 => ("KeptPaths$History", "sizes", "[I", true)
  | 3 => ("KeptPaths$History", "begins", "[I", true)
  | 4 => ("KeptPaths$History", "ends", "[I", true)
  | _ => ("KeptPaths$History", "lengths", "[I", true)
def tyH : Nat → FieldType := fun k => match k with
  | 0 => .int
  | 1 => .int
  | 2 => (.array .int)
  | 3 => (.array .int)
  | 4 => (.array .int)
  | _ => (.array .int)
theorem nmH : ∀ a, a < 6 → ∀ b, b < 6 → a ≠ b → (TH a).2.1 ≠ (TH b).2.1 := by decide +kernel
theorem tyH_ok : ∀ k, k < 6 → parseFieldDescriptor (TH k).2.2.1 = some (tyH k) := by decide +kernel
def TL : u_T := fun k => match k with
  | 0 => ("KeptPaths$LeastWays", "distances", "[I", true)
  | 1 => ("KeptPaths$LeastWays", "hopCounts", "[I", true)
  | 2 => ("KeptPaths$LeastWays", "parents", "[I", true)
  | _ => ("KeptPaths$LeastWays", "tightArcs", "I", false)
def tyL : Nat → FieldType := fun k => match k with
  | 0 => (.array .int)
  | 1 => (.array .int)
  | 2 => (.array .int)
  | _ => .int
theorem nmL : ∀ a, a < 4 → ∀ b, b < 4 → a ≠ b → (TL a).2.1 ≠ (TL b).2.1 := by decide +kernel
theorem tyL_ok : ∀ k, k < 4 → parseFieldDescriptor (TL k).2.2.1 = some (tyL k) := by decide +kernel
def TN : u_T := fun k => match k with
  | 0 => ("KeptPaths$Net", "nodes", "I", false)
  | 1 => ("KeptPaths$Net", "arcs", "I", false)
  | _ => ("KeptPaths$Net", "lengths", "[I", true)
def tyN : Nat → FieldType := fun k => match k with
  | 0 => .int
  | 1 => .int
  | _ => (.array .int)
theorem nmN : ∀ a, a < 3 → ∀ b, b < 3 → a ≠ b → (TN a).2.1 ≠ (TN b).2.1 := by decide +kernel
theorem tyN_ok : ∀ k, k < 3 → parseFieldDescriptor (TN k).2.2.1 = some (tyN k) := by decide +kernel
def TS : u_T := fun k => match k with
  | 0 => ("KeptPaths$Source", "place", "I", false)
  | 1 => ("KeptPaths$Source", "affectedNodes", "I", false)
  | 2 => ("KeptPaths$Source", "told", "LKeptPaths$LeastWays;", false)
  | _ => ("KeptPaths$Source", "spare", "LKeptPaths$LeastWays;", false)
def tyS : Nat → FieldType := fun k => match k with
  | 0 => .int
  | 1 => .int
  | 2 => (.object "KeptPaths$LeastWays")
  | _ => (.object "KeptPaths$LeastWays")
theorem nmS : ∀ a, a < 4 → ∀ b, b < 4 → a ≠ b → (TS a).2.1 ≠ (TS b).2.1 := by decide +kernel
theorem tyS_ok : ∀ k, k < 4 → parseFieldDescriptor (TS k).2.2.1 = some (tyS k) := by decide +kernel
def TK : u_T := fun k => match k with
  | 0 => ("KeptPaths", "net", "LKeptPaths$Net;", true)
  | 1 => ("KeptPaths", "history", "LKeptPaths$History;", true)
  | 2 => ("KeptPaths", "sources", "[LKeptPaths$Source;", true)
  | 3 => ("KeptPaths", "waysBack", "LKeptPaths$LeastWays;", true)
  | 4 => ("KeptPaths", "ringNodes", "[I", true)
  | 5 => ("KeptPaths", "ringSize", "I", false)
  | 6 => ("KeptPaths", "inBatch", "Z", false)
  | _ => ("KeptPaths", "changesInAll", "I", false)
def tyK : Nat → FieldType := fun k => match k with
  | 0 => (.object "KeptPaths$Net")
  | 1 => (.object "KeptPaths$History")
  | 2 => (.array (.object "KeptPaths$Source"))
  | 3 => (.object "KeptPaths$LeastWays")
  | 4 => (.array .int)
  | 5 => .int
  | 6 => .boolean
  | _ => .int
theorem nmK : ∀ a, a < 8 → ∀ b, b < 8 → a ≠ b → (TK a).2.1 ≠ (TK b).2.1 := by decide +kernel
theorem tyK_ok : ∀ k, k < 8 → parseFieldDescriptor (TK k).2.2.1 = some (tyK k) := by decide +kernel
def TM : u_T := fun k => match k with
  | 0 => ("KeptPathsModel", "thrown", "I", false)
  | 1 => ("KeptPathsModel", "nodes", "I", false)
  | 2 => ("KeptPathsModel", "arc", "[I", true)
  | 3 => ("KeptPathsModel", "source", "[I", true)
  | 4 => ("KeptPathsModel", "distance", "[I", true)
  | 5 => ("KeptPathsModel", "hops", "[I", true)
  | 6 => ("KeptPathsModel", "parent", "[I", true)
  | 7 => ("KeptPathsModel", "tight", "[I", true)
  | 8 => ("KeptPathsModel", "affected", "[I", true)
  | 9 => ("KeptPathsModel", "wasDistance", "[I", true)
  | 10 => ("KeptPathsModel", "wasHops", "[I", true)
  | 11 => ("KeptPathsModel", "wasParent", "[I", true)
  | 12 => ("KeptPathsModel", "least", "[I", true)
  | 13 => ("KeptPathsModel", "foundLength", "[I", true)
  | 14 => ("KeptPathsModel", "foundHops", "[I", true)
  | 15 => ("KeptPathsModel", "foundParent", "[I", true)
  | 16 => ("KeptPathsModel", "kept", "I", false)
  | 17 => ("KeptPathsModel", "many", "[I", true)
  | 18 => ("KeptPathsModel", "place", "[I", true)
  | 19 => ("KeptPathsModel", "elder", "[I", true)
  | 20 => ("KeptPathsModel", "isBatch", "Z", false)
  | 21 => ("KeptPathsModel", "changes", "I", false)
  | 22 => ("KeptPathsModel", "rings", "I", false)
  | _ => ("KeptPathsModel", "ring", "[I", true)
def tyM : Nat → FieldType := fun k => match k with
  | 0 => .int
  | 1 => .int
  | 2 => (.array .int)
  | 3 => (.array .int)
  | 4 => (.array .int)
  | 5 => (.array .int)
  | 6 => (.array .int)
  | 7 => (.array .int)
  | 8 => (.array .int)
  | 9 => (.array .int)
  | 10 => (.array .int)
  | 11 => (.array .int)
  | 12 => (.array .int)
  | 13 => (.array .int)
  | 14 => (.array .int)
  | 15 => (.array .int)
  | 16 => .int
  | 17 => (.array .int)
  | 18 => (.array .int)
  | 19 => (.array .int)
  | 20 => .boolean
  | 21 => .int
  | 22 => .int
  | _ => (.array .int)
theorem nmM : ∀ a, a < 24 → ∀ b, b < 24 → a ≠ b → (TM a).2.1 ≠ (TM b).2.1 := by decide +kernel
theorem tyM_ok : ∀ k, k < 24 → parseFieldDescriptor (TM k).2.2.1 = some (tyM k) := by decide +kernel
abbrev vwCl : List vw_C := [(RH, TH, 6), (RL, TL, 4), (RN, TN, 3), (RS, TS, 4), (RK, TK, 8), (RM, TM, 24)]
abbrev cK_init : ByteArray := prog_1_method_1_code
def yK_init : MethodName := ⟨RK, "<init>", "()V"⟩
abbrev cN_init : ByteArray := prog_4_method_1_code
def yN_init : MethodName := ⟨RN, "<init>", "()V"⟩
abbrev cA_fill : ByteArray := prog_8_method_103_code
def yA_fill : MethodName := ⟨RA, "fill", "([II)V"⟩
abbrev cH_init : ByteArray := prog_2_method_1_code
def yH_init : MethodName := ⟨RH, "<init>", "()V"⟩
abbrev cL_init : ByteArray := prog_3_method_1_code
def yL_init : MethodName := ⟨RL, "<init>", "()V"⟩
abbrev cL_clear : ByteArray := prog_3_method_2_code
def yL_clear : MethodName := ⟨RL, "clear", "()V"⟩
abbrev cS_init : ByteArray := prog_5_method_1_code
def yS_init : MethodName := ⟨RS, "<init>", "()V"⟩
abbrev cK_node : ByteArray := prog_1_method_2_code
def yK_node : MethodName := ⟨RK, "node", "()I"⟩
abbrev cN_addNode : ByteArray := prog_4_method_2_code
def yN_addNode : MethodName := ⟨RN, "addNode", "()I"⟩
abbrev cK_source : ByteArray := prog_1_method_3_code
def yK_source : MethodName := ⟨RK, "source", "(II)I"⟩
abbrev cK_isSource : ByteArray := prog_1_method_18_code
def yK_isSource : MethodName := ⟨RK, "isSource", "(I)Z"⟩
abbrev cN_isNode : ByteArray := prog_4_method_3_code
def yN_isNode : MethodName := ⟨RN, "isNode", "(I)Z"⟩
abbrev cS_moveTo : ByteArray := prog_5_method_2_code
def yS_moveTo : MethodName := ⟨RS, "moveTo", "(ILKeptPaths$Net;)V"⟩
abbrev cL_settle : ByteArray := prog_3_method_3_code
def yL_settle : MethodName := ⟨RL, "settle", "(LKeptPaths$Net;I)V"⟩
abbrev cL_followArcs : ByteArray := prog_3_method_4_code
def yL_followArcs : MethodName := ⟨RL, "followArcs", "(ILKeptPaths$Net;)I"⟩
abbrev cN_lengthOf : ByteArray := prog_4_method_5_code
def yN_lengthOf : MethodName := ⟨RN, "lengthOf", "(II)I"⟩
abbrev cL_isBetter : ByteArray := prog_3_method_5_code
def yL_isBetter : MethodName := ⟨RL, "isBetter", "(III)Z"⟩
abbrev cL_reaches : ByteArray := prog_3_method_7_code
def yL_reaches : MethodName := ⟨RL, "reaches", "(I)Z"⟩
abbrev cL_findTightArcs : ByteArray := prog_3_method_6_code
def yL_findTightArcs : MethodName := ⟨RL, "findTightArcs", "(ILKeptPaths$Net;)V"⟩
abbrev cK_put : ByteArray := prog_1_method_4_code
def yK_put : MethodName := ⟨RK, "put", "(III)I"⟩
abbrev cN_areTwoNodes : ByteArray := prog_4_method_4_code
def yN_areTwoNodes : MethodName := ⟨RN, "areTwoNodes", "(II)Z"⟩
abbrev cK_isBatchFull : ByteArray := prog_1_method_19_code
def yK_isBatchFull : MethodName := ⟨RK, "isBatchFull", "()Z"⟩
abbrev cH_openChanges : ByteArray := prog_2_method_3_code
def yH_openChanges : MethodName := ⟨RH, "openChanges", "()I"⟩
abbrev cH_openSlot : ByteArray := prog_2_method_2_code
def yH_openSlot : MethodName := ⟨RH, "openSlot", "()I"⟩
abbrev cK_wouldFall : ByteArray := prog_1_method_20_code
def yK_wouldFall : MethodName := ⟨RK, "wouldFall", "(III)Z"⟩
abbrev cK_keepRing : ByteArray := prog_1_method_21_code
def yK_keepRing : MethodName := ⟨RK, "keepRing", "(I)V"⟩
abbrev cL_sizeOfWay : ByteArray := prog_3_method_8_code
def yL_sizeOfWay : MethodName := ⟨RL, "sizeOfWay", "(I)I"⟩
abbrev cL_nodeOnWay : ByteArray := prog_3_method_9_code
def yL_nodeOnWay : MethodName := ⟨RL, "nodeOnWay", "(II)I"⟩
abbrev cK_change : ByteArray := prog_1_method_22_code
def yK_change : MethodName := ⟨RK, "change", "(III)I"⟩
abbrev cH_note : ByteArray := prog_2_method_4_code
def yH_note : MethodName := ⟨RH, "note", "(III)V"⟩
abbrev cN_setLength : ByteArray := prog_4_method_6_code
def yN_setLength : MethodName := ⟨RN, "setLength", "(III)V"⟩
abbrev cH_keepOpen : ByteArray := prog_2_method_5_code
def yH_keepOpen : MethodName := ⟨RH, "keepOpen", "()V"⟩
abbrev cK_recountSources : ByteArray := prog_1_method_23_code
def yK_recountSources : MethodName := ⟨RK, "recountSources", "()V"⟩
abbrev cS_recount : ByteArray := prog_5_method_3_code
def yS_recount : MethodName := ⟨RS, "recount", "(LKeptPaths$Net;)V"⟩
abbrev cL_differingNodes : ByteArray := prog_3_method_10_code
def yL_differingNodes : MethodName := ⟨RL, "differingNodes", "(LKeptPaths$LeastWays;)I"⟩
abbrev cK_take : ByteArray := prog_1_method_5_code
def yK_take : MethodName := ⟨RK, "take", "(II)I"⟩
abbrev cK_arc : ByteArray := prog_1_method_6_code
def yK_arc : MethodName := ⟨RK, "arc", "(II)I"⟩
abbrev cK_begin : ByteArray := prog_1_method_7_code
def yK_begin : MethodName := ⟨RK, "begin", "()I"⟩
abbrev cK_end : ByteArray := prog_1_method_8_code
def yK_end : MethodName := ⟨RK, "end", "()I"⟩
abbrev cK_undo : ByteArray := prog_1_method_9_code
def yK_undo : MethodName := ⟨RK, "undo", "()I"⟩
abbrev cH_takeBackLatest : ByteArray := prog_2_method_6_code
def yH_takeBackLatest : MethodName := ⟨RH, "takeBackLatest", "(LKeptPaths$Net;)V"⟩
abbrev cK_distance : ByteArray := prog_1_method_10_code
def yK_distance : MethodName := ⟨RK, "distance", "(II)I"⟩
abbrev cK_hops : ByteArray := prog_1_method_11_code
def yK_hops : MethodName := ⟨RK, "hops", "(II)I"⟩
abbrev cK_parent : ByteArray := prog_1_method_12_code
def yK_parent : MethodName := ⟨RK, "parent", "(II)I"⟩
abbrev cK_way : ByteArray := prog_1_method_13_code
def yK_way : MethodName := ⟨RK, "way", "(III)I"⟩
abbrev cK_affected : ByteArray := prog_1_method_14_code
def yK_affected : MethodName := ⟨RK, "affected", "(I)I"⟩
abbrev cK_tight : ByteArray := prog_1_method_15_code
def yK_tight : MethodName := ⟨RK, "tight", "(I)I"⟩
abbrev cK_ring : ByteArray := prog_1_method_16_code
def yK_ring : MethodName := ⟨RK, "ring", "(I)I"⟩
abbrev cK_count : ByteArray := prog_1_method_17_code
def yK_count : MethodName := ⟨RK, "count", "(I)I"⟩
abbrev cM_init : ByteArray := prog_7_method_3_code
def yM_init : MethodName := ⟨RM, "<init>", "()V"⟩
abbrev cM_settle : ByteArray := prog_7_method_6_code
def yM_settle : MethodName := ⟨RM, "settle", "()V"⟩
abbrev cM_find : ByteArray := prog_7_method_5_code
def yM_find : MethodName := ⟨RM, "find", "(III)V"⟩
abbrev cM_node : ByteArray := prog_7_method_10_code
def yM_node : MethodName := ⟨RM, "node", "()I"⟩
abbrev cM_source : ByteArray := prog_7_method_11_code
def yM_source : MethodName := ⟨RM, "source", "(II)I"⟩
abbrev cM_in : ByteArray := prog_7_method_2_code
def yM_in : MethodName := ⟨RM, "in", "(III)Z"⟩
abbrev cM_put : ByteArray := prog_7_method_13_code
def yM_put : MethodName := ⟨RM, "put", "(III)I"⟩
abbrev cM_noNode : ByteArray := prog_7_method_4_code
def yM_noNode : MethodName := ⟨RM, "noNode", "(I)Z"⟩
abbrev cM_isFalling : ByteArray := prog_7_method_12_code
def yM_isFalling : MethodName := ⟨RM, "isFalling", "(III)Z"⟩
abbrev cM_change : ByteArray := prog_7_method_8_code
def yM_change : MethodName := ⟨RM, "change", "(II)V"⟩
abbrev cM_keep : ByteArray := prog_7_method_9_code
def yM_keep : MethodName := ⟨RM, "keep", "()V"⟩
abbrev cM_count0 : ByteArray := prog_7_method_7_code
def yM_count0 : MethodName := ⟨RM, "count", "()V"⟩
abbrev cM_take : ByteArray := prog_7_method_14_code
def yM_take : MethodName := ⟨RM, "take", "(II)I"⟩
abbrev cM_arc : ByteArray := prog_7_method_15_code
def yM_arc : MethodName := ⟨RM, "arc", "(II)I"⟩
abbrev cM_begin : ByteArray := prog_7_method_16_code
def yM_begin : MethodName := ⟨RM, "begin", "()I"⟩
abbrev cM_end : ByteArray := prog_7_method_17_code
def yM_end : MethodName := ⟨RM, "end", "()I"⟩
abbrev cM_undo : ByteArray := prog_7_method_18_code
def yM_undo : MethodName := ⟨RM, "undo", "()I"⟩
abbrev cM_distance : ByteArray := prog_7_method_20_code
def yM_distance : MethodName := ⟨RM, "distance", "(II)I"⟩
abbrev cM_isBad : ByteArray := prog_7_method_19_code
def yM_isBad : MethodName := ⟨RM, "isBad", "(II)Z"⟩
abbrev cM_hops : ByteArray := prog_7_method_21_code
def yM_hops : MethodName := ⟨RM, "hops", "(II)I"⟩
abbrev cM_parent : ByteArray := prog_7_method_22_code
def yM_parent : MethodName := ⟨RM, "parent", "(II)I"⟩
abbrev cM_way : ByteArray := prog_7_method_23_code
def yM_way : MethodName := ⟨RM, "way", "(III)I"⟩
abbrev cM_affected : ByteArray := prog_7_method_24_code
def yM_affected : MethodName := ⟨RM, "affected", "(I)I"⟩
abbrev cM_tight : ByteArray := prog_7_method_25_code
def yM_tight : MethodName := ⟨RM, "tight", "(I)I"⟩
abbrev cM_ring : ByteArray := prog_7_method_26_code
def yM_ring : MethodName := ⟨RM, "ring", "(I)I"⟩
abbrev cM_count1 : ByteArray := prog_7_method_27_code
def yM_count1 : MethodName := ⟨RM, "count", "(I)I"⟩
/-- the tables' words that go down to a callee -/
def kTbl : List Cond := lw_tbl.filter goodWord
theorem kTblIn {w : Cond} (i : Nat) (h : tables_1[i]? = some w) (g : goodWord w = true) : w ∈ kTbl := List.mem_filter.mpr ⟨List.mem_append_right _ (List.mem_of_getElem? h), g⟩
theorem kSelIn {w : Cond} (i : Nat) (h : (k2_sels lw_privs)[i]? = some w) (g : goodWord w = true) : w ∈ kTbl := List.mem_filter.mpr ⟨List.mem_append_left _ (List.mem_of_getElem? h), g⟩
def kWs (y : MethodName) (c : ByteArray) (n : Nat) (r : Option FieldType) : List Cond := Cond.code y c n r :: kTbl
theorem kGoodIn {w0 : Cond} (h : w0 ∈ kTbl) : GoodIn kTbl (w0 :: kTbl) := fun w hw => by
  have hm : w ∈ kTbl := (List.mem_cons.mp hw).elim (fun e => e ▸ h) id
  exact ⟨hm, good_of_word (List.mem_filter.mp hm).2⟩
/-- what a call asks of an instance method -/
def kMeth (y : MethodName) (c : ByteArray) (n : Nat) (r : Option FieldType) (k : Nat) : Prop := Cond.code y c n r ∈ kTbl ∧ Cond.instanceMethod y ∈ kTbl ∧ Cond.selects y.cls y y ∈ kTbl ∧ Cond.initialized y.cls ∈ kTbl ∧ y.cls ≠ "java/lang/invoke/MethodHandle" ∧ y.cls ≠ "java/lang/invoke/VarHandle" ∧ (parseMethodDescriptor y.desc).map (fun d => d.parameters.length) = some k
def kMethS (y : MethodName) (c : ByteArray) (n : Nat) (r : Option FieldType) (k : Nat) : Prop := Cond.code y c n r ∈ kTbl ∧ Cond.static y ∈ kTbl ∧ Cond.initialized y.cls ∈ kTbl ∧ y.cls ≠ "java/lang/invoke/MethodHandle" ∧ y.cls ≠ "java/lang/invoke/VarHandle" ∧ (parseMethodDescriptor y.desc).map (fun d => d.parameters.length) = some k
theorem kcwV {R : Room} {s : State} {args : Array Value} {own : String} {index : Nat} {y : MethodName} {bytes : ByteArray} {maxL n : Nat} {ret : Option FieldType} {rm : Room} (hts : ∀ w ∈ kTbl, w.before args s = true) (q : kMeth y bytes maxL ret n) (hl : Cond.methodLink own index y ∈ kTbl) (hrc : rm.cells = 0) (hrs : rm.slots = 0) (hR : rm.frames + 1 ≤ R.frames ∧ 8 + (maxL + 11) + rm.locals ≤ R.locals) :
    CallW R s args own y.cls index y bytes maxL ret (kWs y bytes maxL ret) rm 0 0 n :=
  ⟨callB_of n hts (kGoodIn q.1) rfl hrc hrs (hts _ q.2.2.2.1) (hts _ hl) q.2.2.2.2 hR, hts _ q.2.1, hts _ q.2.2.1⟩
theorem kcwS {R : Room} {s : State} {args : Array Value} {own : String} {index : Nat} {y : MethodName} {bytes : ByteArray} {maxL n : Nat} {ret : Option FieldType} {rm : Room} (hts : ∀ w ∈ kTbl, w.before args s = true) (q : kMethS y bytes maxL ret n) (hl : Cond.methodLink own index y ∈ kTbl) (hrc : rm.cells = 0) (hrs : rm.slots = 0) (hR : rm.frames + 1 ≤ R.frames ∧ 8 + (maxL + 11) + rm.locals ≤ R.locals) :
    CallB R s args own index y bytes maxL ret (kWs y bytes maxL ret) rm 0 0 n ∧ (Cond.static y).before args s = true :=
  ⟨callB_of n hts (kGoodIn q.1) rfl hrc hrs (hts _ q.2.2.1) (hts _ hl) q.2.2.2 hR, hts _ q.2.1⟩
theorem iH : ∀ w ∈ u_ws RH TH 6, w ∈ kTbl := by decide +kernel
theorem iL : ∀ w ∈ u_ws RL TL 4, w ∈ kTbl := by decide +kernel
theorem iN : ∀ w ∈ u_ws RN TN 3, w ∈ kTbl := by decide +kernel
theorem iS : ∀ w ∈ u_ws RS TS 4, w ∈ kTbl := by decide +kernel
theorem iK : ∀ w ∈ u_ws RK TK 8, w ∈ kTbl := by decide +kernel
theorem iM : ∀ w ∈ u_ws RM TM 24, w ∈ kTbl := by decide +kernel
end
section
theorem w_0 : Cond.initialized RW ∈ kTbl := kTblIn 0 (by decide +kernel) (by decide +kernel)
theorem w_1 : Cond.initialized RK ∈ kTbl := kTblIn 1 (by decide +kernel) (by decide +kernel)
theorem w_2 : Cond.initialized RN ∈ kTbl := kTblIn 2 (by decide +kernel) (by decide +kernel)
theorem w_3 : Cond.initialized RA ∈ kTbl := kTblIn 3 (by decide +kernel) (by decide +kernel)
theorem w_4 : Cond.initialized RH ∈ kTbl := kTblIn 4 (by decide +kernel) (by decide +kernel)
theorem w_5 : Cond.initialized RL ∈ kTbl := kTblIn 5 (by decide +kernel) (by decide +kernel)
theorem w_6 : Cond.initialized RS ∈ kTbl := kTblIn 6 (by decide +kernel) (by decide +kernel)
theorem w_7 : Cond.initialized RM ∈ kTbl := kTblIn 7 (by decide +kernel) (by decide +kernel)
theorem w_8 : Cond.classLink RW 7 RK ∈ kTbl := kTblIn 8 (by decide +kernel) (by decide +kernel)
theorem w_9 : Cond.instantiable RK 8 ∈ kTbl := kTblIn 9 (by decide +kernel) (by decide +kernel)
theorem w_10 : Cond.methodLink RW 9 yK_init ∈ kTbl := kTblIn 10 (by decide +kernel) (by decide +kernel)
theorem w_11 : Cond.instanceMethod yK_init ∈ kTbl := kTblIn 11 (by decide +kernel) (by decide +kernel)
theorem w_13 : Cond.methodLink RK 1 objectInit ∈ kTbl := kTblIn 13 (by decide +kernel) (by decide +kernel)
theorem w_14 : Cond.instanceMethod objectInit ∈ kTbl := kTblIn 14 (by decide +kernel) (by decide +kernel)
theorem w_16 : Cond.classLink RK 7 RN ∈ kTbl := kTblIn 16 (by decide +kernel) (by decide +kernel)
theorem w_17 : Cond.instantiable RN 3 ∈ kTbl := kTblIn 17 (by decide +kernel) (by decide +kernel)
theorem w_18 : Cond.methodLink RK 9 yN_init ∈ kTbl := kTblIn 18 (by decide +kernel) (by decide +kernel)
theorem w_19 : Cond.instanceMethod yN_init ∈ kTbl := kTblIn 19 (by decide +kernel) (by decide +kernel)
theorem w_21 : Cond.methodLink RN 3 objectInit ∈ kTbl := kTblIn 21 (by decide +kernel) (by decide +kernel)
theorem w_22 : Cond.constant RN 22 (-1000000) ∈ kTbl := kTblIn 22 (by decide +kernel) (by decide +kernel)
theorem w_23 : Cond.methodLink RN 23 yA_fill ∈ kTbl := kTblIn 23 (by decide +kernel) (by decide +kernel)
theorem w_24 : Cond.static yA_fill ∈ kTbl := kTblIn 24 (by decide +kernel) (by decide +kernel)
theorem w_26 : Cond.fieldLink RN 9 "KeptPaths$Net" "nodes" "I" ∈ kTbl := kTblIn 26 (by decide +kernel) (by decide +kernel)
theorem w_27 : Cond.fieldLink RK 53 "KeptPaths$Net" "nodes" "I" ∈ kTbl := kTblIn 27 (by decide +kernel) (by decide +kernel)
theorem w_28 : Cond.fieldLink RL 41 "KeptPaths$Net" "nodes" "I" ∈ kTbl := kTblIn 28 (by decide +kernel) (by decide +kernel)
theorem w_29 : Cond.fieldLink RN 15 "KeptPaths$Net" "arcs" "I" ∈ kTbl := kTblIn 29 (by decide +kernel) (by decide +kernel)
theorem w_30 : Cond.fieldLink RK 146 "KeptPaths$Net" "arcs" "I" ∈ kTbl := kTblIn 30 (by decide +kernel) (by decide +kernel)
theorem w_31 : Cond.fieldLink RN 18 "KeptPaths$Net" "lengths" "[I" ∈ kTbl := kTblIn 31 (by decide +kernel) (by decide +kernel)
theorem w_39 : Cond.arrayClass .int ∈ kTbl := kTblIn 39 (by decide +kernel) (by decide +kernel)
theorem w_40 : Cond.classLink RK 16 RH ∈ kTbl := kTblIn 40 (by decide +kernel) (by decide +kernel)
theorem w_41 : Cond.instantiable RH 6 ∈ kTbl := kTblIn 41 (by decide +kernel) (by decide +kernel)
theorem w_43 : Cond.instanceMethod yH_init ∈ kTbl := kTblIn 43 (by decide +kernel) (by decide +kernel)
theorem w_45 : Cond.methodLink RH 3 objectInit ∈ kTbl := kTblIn 45 (by decide +kernel) (by decide +kernel)
theorem w_46 : Cond.fieldLink RH 9 "KeptPaths$History" "kept" "I" ∈ kTbl := kTblIn 46 (by decide +kernel) (by decide +kernel)
theorem w_47 : Cond.fieldLink RK 111 "KeptPaths$History" "kept" "I" ∈ kTbl := kTblIn 47 (by decide +kernel) (by decide +kernel)
theorem w_48 : Cond.fieldLink RH 15 "KeptPaths$History" "oldest" "I" ∈ kTbl := kTblIn 48 (by decide +kernel) (by decide +kernel)
theorem w_49 : Cond.fieldLink RH 18 "KeptPaths$History" "sizes" "[I" ∈ kTbl := kTblIn 49 (by decide +kernel) (by decide +kernel)
theorem w_50 : Cond.fieldLink RH 22 "KeptPaths$History" "begins" "[I" ∈ kTbl := kTblIn 50 (by decide +kernel) (by decide +kernel)
theorem w_51 : Cond.fieldLink RH 25 "KeptPaths$History" "ends" "[I" ∈ kTbl := kTblIn 51 (by decide +kernel) (by decide +kernel)
theorem w_52 : Cond.fieldLink RH 28 "KeptPaths$History" "lengths" "[I" ∈ kTbl := kTblIn 52 (by decide +kernel) (by decide +kernel)
theorem w_66 : Cond.classLink RK 23 RS ∈ kTbl := kTblIn 66 (by decide +kernel) (by decide +kernel)
theorem w_68 : Cond.classLink RK 29 RL ∈ kTbl := kTblIn 68 (by decide +kernel) (by decide +kernel)
theorem w_69 : Cond.instantiable RL 4 ∈ kTbl := kTblIn 69 (by decide +kernel) (by decide +kernel)
theorem w_70 : Cond.methodLink RK 31 yL_init ∈ kTbl := kTblIn 70 (by decide +kernel) (by decide +kernel)
theorem w_71 : Cond.instanceMethod yL_init ∈ kTbl := kTblIn 71 (by decide +kernel) (by decide +kernel)
theorem w_73 : Cond.methodLink RL 3 objectInit ∈ kTbl := kTblIn 73 (by decide +kernel) (by decide +kernel)
theorem w_74 : Cond.methodLink RL 25 yL_clear ∈ kTbl := kTblIn 74 (by decide +kernel) (by decide +kernel)
theorem w_76 : Cond.instanceMethod yL_clear ∈ kTbl := kTblIn 76 (by decide +kernel) (by decide +kernel)
theorem w_78 : Cond.constant RL 28 (-1000000) ∈ kTbl := kTblIn 78 (by decide +kernel) (by decide +kernel)
theorem w_79 : Cond.methodLink RL 29 yA_fill ∈ kTbl := kTblIn 79 (by decide +kernel) (by decide +kernel)
theorem w_80 : Cond.fieldLink RL 9 "KeptPaths$LeastWays" "distances" "[I" ∈ kTbl := kTblIn 80 (by decide +kernel) (by decide +kernel)
theorem w_81 : Cond.fieldLink RK 121 "KeptPaths$LeastWays" "distances" "[I" ∈ kTbl := kTblIn 81 (by decide +kernel) (by decide +kernel)
theorem w_82 : Cond.fieldLink RL 15 "KeptPaths$LeastWays" "hopCounts" "[I" ∈ kTbl := kTblIn 82 (by decide +kernel) (by decide +kernel)
theorem w_83 : Cond.fieldLink RK 124 "KeptPaths$LeastWays" "hopCounts" "[I" ∈ kTbl := kTblIn 83 (by decide +kernel) (by decide +kernel)
theorem w_84 : Cond.fieldLink RL 18 "KeptPaths$LeastWays" "parents" "[I" ∈ kTbl := kTblIn 84 (by decide +kernel) (by decide +kernel)
theorem w_85 : Cond.fieldLink RK 127 "KeptPaths$LeastWays" "parents" "[I" ∈ kTbl := kTblIn 85 (by decide +kernel) (by decide +kernel)
theorem w_86 : Cond.fieldLink RL 21 "KeptPaths$LeastWays" "tightArcs" "I" ∈ kTbl := kTblIn 86 (by decide +kernel) (by decide +kernel)
theorem w_87 : Cond.fieldLink RK 143 "KeptPaths$LeastWays" "tightArcs" "I" ∈ kTbl := kTblIn 87 (by decide +kernel) (by decide +kernel)
theorem w_97 : Cond.instantiable RS 4 ∈ kTbl := kTblIn 97 (by decide +kernel) (by decide +kernel)
theorem w_99 : Cond.instanceMethod yS_init ∈ kTbl := kTblIn 99 (by decide +kernel) (by decide +kernel)
theorem w_101 : Cond.methodLink RS 3 objectInit ∈ kTbl := kTblIn 101 (by decide +kernel) (by decide +kernel)
theorem w_102 : Cond.classLink RS 18 RL ∈ kTbl := kTblIn 102 (by decide +kernel) (by decide +kernel)
theorem w_103 : Cond.methodLink RS 20 yL_init ∈ kTbl := kTblIn 103 (by decide +kernel) (by decide +kernel)
theorem w_104 : Cond.fieldLink RS 9 "KeptPaths$Source" "place" "I" ∈ kTbl := kTblIn 104 (by decide +kernel) (by decide +kernel)
theorem w_105 : Cond.fieldLink RK 69 "KeptPaths$Source" "place" "I" ∈ kTbl := kTblIn 105 (by decide +kernel) (by decide +kernel)
theorem w_106 : Cond.fieldLink RS 15 "KeptPaths$Source" "affectedNodes" "I" ∈ kTbl := kTblIn 106 (by decide +kernel) (by decide +kernel)
theorem w_107 : Cond.fieldLink RK 140 "KeptPaths$Source" "affectedNodes" "I" ∈ kTbl := kTblIn 107 (by decide +kernel) (by decide +kernel)
theorem w_108 : Cond.fieldLink RS 21 "KeptPaths$Source" "told" "LKeptPaths$LeastWays;" ∈ kTbl := kTblIn 108 (by decide +kernel) (by decide +kernel)
theorem w_109 : Cond.fieldLink RK 118 "KeptPaths$Source" "told" "LKeptPaths$LeastWays;" ∈ kTbl := kTblIn 109 (by decide +kernel) (by decide +kernel)
theorem w_110 : Cond.fieldLink RS 25 "KeptPaths$Source" "spare" "LKeptPaths$LeastWays;" ∈ kTbl := kTblIn 110 (by decide +kernel) (by decide +kernel)
theorem w_120 : Cond.fieldLink RK 10 "KeptPaths" "net" "LKeptPaths$Net;" ∈ kTbl := kTblIn 120 (by decide +kernel) (by decide +kernel)
theorem w_121 : Cond.fieldLink RK 19 "KeptPaths" "history" "LKeptPaths$History;" ∈ kTbl := kTblIn 121 (by decide +kernel) (by decide +kernel)
theorem w_122 : Cond.fieldLink RK 25 "KeptPaths" "sources" "[LKeptPaths$Source;" ∈ kTbl := kTblIn 122 (by decide +kernel) (by decide +kernel)
theorem w_123 : Cond.fieldLink RK 32 "KeptPaths" "waysBack" "LKeptPaths$LeastWays;" ∈ kTbl := kTblIn 123 (by decide +kernel) (by decide +kernel)
theorem w_124 : Cond.fieldLink RK 36 "KeptPaths" "ringNodes" "[I" ∈ kTbl := kTblIn 124 (by decide +kernel) (by decide +kernel)
theorem w_125 : Cond.fieldLink RK 40 "KeptPaths" "ringSize" "I" ∈ kTbl := kTblIn 125 (by decide +kernel) (by decide +kernel)
theorem w_126 : Cond.fieldLink RK 44 "KeptPaths" "inBatch" "Z" ∈ kTbl := kTblIn 126 (by decide +kernel) (by decide +kernel)
theorem w_127 : Cond.fieldLink RK 48 "KeptPaths" "changesInAll" "I" ∈ kTbl := kTblIn 127 (by decide +kernel) (by decide +kernel)
theorem w_145 : Cond.methodLink RW 13 yK_node ∈ kTbl := kTblIn 145 (by decide +kernel) (by decide +kernel)
theorem w_146 : Cond.instanceMethod yK_node ∈ kTbl := kTblIn 146 (by decide +kernel) (by decide +kernel)
theorem w_147 : Cond.selects RK yK_node yK_node ∈ kTbl := kTblIn 147 (by decide +kernel) (by decide +kernel)
theorem w_149 : Cond.constant RK 52 (-4000000) ∈ kTbl := kTblIn 149 (by decide +kernel) (by decide +kernel)
theorem w_150 : Cond.constant RK 56 (-3000000) ∈ kTbl := kTblIn 150 (by decide +kernel) (by decide +kernel)
theorem w_151 : Cond.methodLink RK 57 yN_addNode ∈ kTbl := kTblIn 151 (by decide +kernel) (by decide +kernel)
theorem w_152 : Cond.instanceMethod yN_addNode ∈ kTbl := kTblIn 152 (by decide +kernel) (by decide +kernel)
theorem w_153 : Cond.selects RN yN_addNode yN_addNode ∈ kTbl := kTblIn 153 (by decide +kernel) (by decide +kernel)
theorem w_155 : Cond.methodLink RW 18 yK_source ∈ kTbl := kTblIn 155 (by decide +kernel) (by decide +kernel)
theorem w_156 : Cond.instanceMethod yK_source ∈ kTbl := kTblIn 156 (by decide +kernel) (by decide +kernel)
theorem w_157 : Cond.selects RK yK_source yK_source ∈ kTbl := kTblIn 157 (by decide +kernel) (by decide +kernel)
theorem w_159 : Cond.methodLink RK 61 yK_isSource ∈ kTbl := kTblIn 159 (by decide +kernel) (by decide +kernel)
theorem w_160 : Cond.static yK_isSource ∈ kTbl := kTblIn 160 (by decide +kernel) (by decide +kernel)
theorem w_162 : Cond.methodLink RK 65 yN_isNode ∈ kTbl := kTblIn 162 (by decide +kernel) (by decide +kernel)
theorem w_163 : Cond.instanceMethod yN_isNode ∈ kTbl := kTblIn 163 (by decide +kernel) (by decide +kernel)
theorem w_164 : Cond.selects RN yN_isNode yN_isNode ∈ kTbl := kTblIn 164 (by decide +kernel) (by decide +kernel)
theorem w_166 : Cond.constant RK 68 (-2000000) ∈ kTbl := kTblIn 166 (by decide +kernel) (by decide +kernel)
theorem w_167 : Cond.methodLink RK 72 yS_moveTo ∈ kTbl := kTblIn 167 (by decide +kernel) (by decide +kernel)
theorem w_168 : Cond.instanceMethod yS_moveTo ∈ kTbl := kTblIn 168 (by decide +kernel) (by decide +kernel)
theorem w_169 : Cond.selects RS yS_moveTo yS_moveTo ∈ kTbl := kTblIn 169 (by decide +kernel) (by decide +kernel)
theorem w_171 : Cond.methodLink RS 28 yL_settle ∈ kTbl := kTblIn 171 (by decide +kernel) (by decide +kernel)
theorem w_172 : Cond.instanceMethod yL_settle ∈ kTbl := kTblIn 172 (by decide +kernel) (by decide +kernel)
theorem w_173 : Cond.selects RL yL_settle yL_settle ∈ kTbl := kTblIn 173 (by decide +kernel) (by decide +kernel)
theorem w_175 : Cond.methodLink RL 35 yN_isNode ∈ kTbl := kTblIn 175 (by decide +kernel) (by decide +kernel)
theorem w_176 : Cond.methodLink RL 44 yL_followArcs ∈ kTbl := kTblIn 176 (by decide +kernel) (by decide +kernel)
theorem w_178 : Cond.instanceMethod yL_followArcs ∈ kTbl := kTblIn 178 (by decide +kernel) (by decide +kernel)
theorem w_180 : Cond.methodLink RL 55 yN_lengthOf ∈ kTbl := kTblIn 180 (by decide +kernel) (by decide +kernel)
theorem w_181 : Cond.instanceMethod yN_lengthOf ∈ kTbl := kTblIn 181 (by decide +kernel) (by decide +kernel)
theorem w_182 : Cond.selects RN yN_lengthOf yN_lengthOf ∈ kTbl := kTblIn 182 (by decide +kernel) (by decide +kernel)
theorem w_184 : Cond.methodLink RL 59 yL_isBetter ∈ kTbl := kTblIn 184 (by decide +kernel) (by decide +kernel)
theorem w_186 : Cond.instanceMethod yL_isBetter ∈ kTbl := kTblIn 186 (by decide +kernel) (by decide +kernel)
theorem w_188 : Cond.methodLink RL 48 yL_reaches ∈ kTbl := kTblIn 188 (by decide +kernel) (by decide +kernel)
theorem w_189 : Cond.instanceMethod yL_reaches ∈ kTbl := kTblIn 189 (by decide +kernel) (by decide +kernel)
theorem w_190 : Cond.selects RL yL_reaches yL_reaches ∈ kTbl := kTblIn 190 (by decide +kernel) (by decide +kernel)
theorem w_192 : Cond.methodLink RL 51 yL_findTightArcs ∈ kTbl := kTblIn 192 (by decide +kernel) (by decide +kernel)
theorem w_194 : Cond.instanceMethod yL_findTightArcs ∈ kTbl := kTblIn 194 (by decide +kernel) (by decide +kernel)
theorem w_196 : Cond.methodLink RW 23 yK_put ∈ kTbl := kTblIn 196 (by decide +kernel) (by decide +kernel)
theorem w_197 : Cond.instanceMethod yK_put ∈ kTbl := kTblIn 197 (by decide +kernel) (by decide +kernel)
theorem w_198 : Cond.selects RK yK_put yK_put ∈ kTbl := kTblIn 198 (by decide +kernel) (by decide +kernel)
theorem w_200 : Cond.methodLink RK 76 yN_areTwoNodes ∈ kTbl := kTblIn 200 (by decide +kernel) (by decide +kernel)
theorem w_201 : Cond.instanceMethod yN_areTwoNodes ∈ kTbl := kTblIn 201 (by decide +kernel) (by decide +kernel)
theorem w_202 : Cond.selects RN yN_areTwoNodes yN_areTwoNodes ∈ kTbl := kTblIn 202 (by decide +kernel) (by decide +kernel)
theorem w_204 : Cond.methodLink RN 29 yN_isNode ∈ kTbl := kTblIn 204 (by decide +kernel) (by decide +kernel)
theorem w_205 : Cond.methodLink RK 80 yK_isBatchFull ∈ kTbl := kTblIn 205 (by decide +kernel) (by decide +kernel)
theorem w_207 : Cond.instanceMethod yK_isBatchFull ∈ kTbl := kTblIn 207 (by decide +kernel) (by decide +kernel)
theorem w_209 : Cond.methodLink RK 102 yH_openChanges ∈ kTbl := kTblIn 209 (by decide +kernel) (by decide +kernel)
theorem w_210 : Cond.instanceMethod yH_openChanges ∈ kTbl := kTblIn 210 (by decide +kernel) (by decide +kernel)
theorem w_211 : Cond.selects RH yH_openChanges yH_openChanges ∈ kTbl := kTblIn 211 (by decide +kernel) (by decide +kernel)
theorem w_213 : Cond.methodLink RH 31 yH_openSlot ∈ kTbl := kTblIn 213 (by decide +kernel) (by decide +kernel)
theorem w_215 : Cond.instanceMethod yH_openSlot ∈ kTbl := kTblIn 215 (by decide +kernel) (by decide +kernel)
theorem w_217 : Cond.methodLink RK 84 yK_wouldFall ∈ kTbl := kTblIn 217 (by decide +kernel) (by decide +kernel)
theorem w_219 : Cond.instanceMethod yK_wouldFall ∈ kTbl := kTblIn 219 (by decide +kernel) (by decide +kernel)
theorem w_221 : Cond.methodLink RK 149 yL_settle ∈ kTbl := kTblIn 221 (by decide +kernel) (by decide +kernel)
theorem w_222 : Cond.methodLink RK 130 yL_reaches ∈ kTbl := kTblIn 222 (by decide +kernel) (by decide +kernel)
theorem w_223 : Cond.methodLink RK 88 yK_keepRing ∈ kTbl := kTblIn 223 (by decide +kernel) (by decide +kernel)
theorem w_225 : Cond.instanceMethod yK_keepRing ∈ kTbl := kTblIn 225 (by decide +kernel) (by decide +kernel)
theorem w_227 : Cond.methodLink RK 133 yL_sizeOfWay ∈ kTbl := kTblIn 227 (by decide +kernel) (by decide +kernel)
theorem w_228 : Cond.instanceMethod yL_sizeOfWay ∈ kTbl := kTblIn 228 (by decide +kernel) (by decide +kernel)
theorem w_229 : Cond.selects RL yL_sizeOfWay yL_sizeOfWay ∈ kTbl := kTblIn 229 (by decide +kernel) (by decide +kernel)
theorem w_231 : Cond.methodLink RK 137 yL_nodeOnWay ∈ kTbl := kTblIn 231 (by decide +kernel) (by decide +kernel)
theorem w_232 : Cond.instanceMethod yL_nodeOnWay ∈ kTbl := kTblIn 232 (by decide +kernel) (by decide +kernel)
theorem w_233 : Cond.selects RL yL_nodeOnWay yL_nodeOnWay ∈ kTbl := kTblIn 233 (by decide +kernel) (by decide +kernel)
theorem w_235 : Cond.constant RK 92 (-5000000) ∈ kTbl := kTblIn 235 (by decide +kernel) (by decide +kernel)
theorem w_236 : Cond.methodLink RK 93 yK_change ∈ kTbl := kTblIn 236 (by decide +kernel) (by decide +kernel)
theorem w_238 : Cond.instanceMethod yK_change ∈ kTbl := kTblIn 238 (by decide +kernel) (by decide +kernel)
theorem w_240 : Cond.methodLink RK 97 yN_lengthOf ∈ kTbl := kTblIn 240 (by decide +kernel) (by decide +kernel)
theorem w_241 : Cond.methodLink RK 153 yH_note ∈ kTbl := kTblIn 241 (by decide +kernel) (by decide +kernel)
theorem w_242 : Cond.instanceMethod yH_note ∈ kTbl := kTblIn 242 (by decide +kernel) (by decide +kernel)
theorem w_243 : Cond.selects RH yH_note yH_note ∈ kTbl := kTblIn 243 (by decide +kernel) (by decide +kernel)
theorem w_245 : Cond.methodLink RK 157 yN_setLength ∈ kTbl := kTblIn 245 (by decide +kernel) (by decide +kernel)
theorem w_246 : Cond.instanceMethod yN_setLength ∈ kTbl := kTblIn 246 (by decide +kernel) (by decide +kernel)
theorem w_247 : Cond.selects RN yN_setLength yN_setLength ∈ kTbl := kTblIn 247 (by decide +kernel) (by decide +kernel)
theorem w_249 : Cond.methodLink RN 33 yN_lengthOf ∈ kTbl := kTblIn 249 (by decide +kernel) (by decide +kernel)
theorem w_250 : Cond.methodLink RK 105 yH_keepOpen ∈ kTbl := kTblIn 250 (by decide +kernel) (by decide +kernel)
theorem w_251 : Cond.instanceMethod yH_keepOpen ∈ kTbl := kTblIn 251 (by decide +kernel) (by decide +kernel)
theorem w_252 : Cond.selects RH yH_keepOpen yH_keepOpen ∈ kTbl := kTblIn 252 (by decide +kernel) (by decide +kernel)
theorem w_254 : Cond.methodLink RK 108 yK_recountSources ∈ kTbl := kTblIn 254 (by decide +kernel) (by decide +kernel)
theorem w_256 : Cond.instanceMethod yK_recountSources ∈ kTbl := kTblIn 256 (by decide +kernel) (by decide +kernel)
theorem w_258 : Cond.methodLink RK 160 yS_recount ∈ kTbl := kTblIn 258 (by decide +kernel) (by decide +kernel)
theorem w_259 : Cond.instanceMethod yS_recount ∈ kTbl := kTblIn 259 (by decide +kernel) (by decide +kernel)
theorem w_260 : Cond.selects RS yS_recount yS_recount ∈ kTbl := kTblIn 260 (by decide +kernel) (by decide +kernel)
theorem w_262 : Cond.methodLink RS 32 yL_differingNodes ∈ kTbl := kTblIn 262 (by decide +kernel) (by decide +kernel)
theorem w_263 : Cond.instanceMethod yL_differingNodes ∈ kTbl := kTblIn 263 (by decide +kernel) (by decide +kernel)
theorem w_264 : Cond.selects RL yL_differingNodes yL_differingNodes ∈ kTbl := kTblIn 264 (by decide +kernel) (by decide +kernel)
theorem w_266 : Cond.methodLink RW 28 yK_take ∈ kTbl := kTblIn 266 (by decide +kernel) (by decide +kernel)
theorem w_267 : Cond.instanceMethod yK_take ∈ kTbl := kTblIn 267 (by decide +kernel) (by decide +kernel)
theorem w_268 : Cond.selects RK yK_take yK_take ∈ kTbl := kTblIn 268 (by decide +kernel) (by decide +kernel)
theorem w_270 : Cond.constant RK 101 (-1000000) ∈ kTbl := kTblIn 270 (by decide +kernel) (by decide +kernel)
theorem w_271 : Cond.methodLink RW 32 yK_arc ∈ kTbl := kTblIn 271 (by decide +kernel) (by decide +kernel)
theorem w_272 : Cond.instanceMethod yK_arc ∈ kTbl := kTblIn 272 (by decide +kernel) (by decide +kernel)
theorem w_273 : Cond.selects RK yK_arc yK_arc ∈ kTbl := kTblIn 273 (by decide +kernel) (by decide +kernel)
theorem w_275 : Cond.methodLink RW 36 yK_begin ∈ kTbl := kTblIn 275 (by decide +kernel) (by decide +kernel)
theorem w_276 : Cond.instanceMethod yK_begin ∈ kTbl := kTblIn 276 (by decide +kernel) (by decide +kernel)
theorem w_277 : Cond.selects RK yK_begin yK_begin ∈ kTbl := kTblIn 277 (by decide +kernel) (by decide +kernel)
theorem w_279 : Cond.methodLink RW 40 yK_end ∈ kTbl := kTblIn 279 (by decide +kernel) (by decide +kernel)
theorem w_280 : Cond.instanceMethod yK_end ∈ kTbl := kTblIn 280 (by decide +kernel) (by decide +kernel)
theorem w_281 : Cond.selects RK yK_end yK_end ∈ kTbl := kTblIn 281 (by decide +kernel) (by decide +kernel)
theorem w_283 : Cond.methodLink RW 44 yK_undo ∈ kTbl := kTblIn 283 (by decide +kernel) (by decide +kernel)
theorem w_284 : Cond.instanceMethod yK_undo ∈ kTbl := kTblIn 284 (by decide +kernel) (by decide +kernel)
theorem w_285 : Cond.selects RK yK_undo yK_undo ∈ kTbl := kTblIn 285 (by decide +kernel) (by decide +kernel)
theorem w_287 : Cond.methodLink RK 114 yH_takeBackLatest ∈ kTbl := kTblIn 287 (by decide +kernel) (by decide +kernel)
theorem w_288 : Cond.instanceMethod yH_takeBackLatest ∈ kTbl := kTblIn 288 (by decide +kernel) (by decide +kernel)
theorem w_289 : Cond.selects RH yH_takeBackLatest yH_takeBackLatest ∈ kTbl := kTblIn 289 (by decide +kernel) (by decide +kernel)
theorem w_291 : Cond.methodLink RH 35 yN_setLength ∈ kTbl := kTblIn 291 (by decide +kernel) (by decide +kernel)
theorem w_292 : Cond.methodLink RW 48 yK_distance ∈ kTbl := kTblIn 292 (by decide +kernel) (by decide +kernel)
theorem w_293 : Cond.instanceMethod yK_distance ∈ kTbl := kTblIn 293 (by decide +kernel) (by decide +kernel)
theorem w_294 : Cond.selects RK yK_distance yK_distance ∈ kTbl := kTblIn 294 (by decide +kernel) (by decide +kernel)
theorem w_296 : Cond.methodLink RW 52 yK_hops ∈ kTbl := kTblIn 296 (by decide +kernel) (by decide +kernel)
theorem w_297 : Cond.instanceMethod yK_hops ∈ kTbl := kTblIn 297 (by decide +kernel) (by decide +kernel)
theorem w_298 : Cond.selects RK yK_hops yK_hops ∈ kTbl := kTblIn 298 (by decide +kernel) (by decide +kernel)
theorem w_300 : Cond.methodLink RW 56 yK_parent ∈ kTbl := kTblIn 300 (by decide +kernel) (by decide +kernel)
theorem w_301 : Cond.instanceMethod yK_parent ∈ kTbl := kTblIn 301 (by decide +kernel) (by decide +kernel)
theorem w_302 : Cond.selects RK yK_parent yK_parent ∈ kTbl := kTblIn 302 (by decide +kernel) (by decide +kernel)
theorem w_304 : Cond.methodLink RW 60 yK_way ∈ kTbl := kTblIn 304 (by decide +kernel) (by decide +kernel)
theorem w_305 : Cond.instanceMethod yK_way ∈ kTbl := kTblIn 305 (by decide +kernel) (by decide +kernel)
theorem w_306 : Cond.selects RK yK_way yK_way ∈ kTbl := kTblIn 306 (by decide +kernel) (by decide +kernel)
theorem w_308 : Cond.methodLink RW 64 yK_affected ∈ kTbl := kTblIn 308 (by decide +kernel) (by decide +kernel)
theorem w_309 : Cond.instanceMethod yK_affected ∈ kTbl := kTblIn 309 (by decide +kernel) (by decide +kernel)
theorem w_310 : Cond.selects RK yK_affected yK_affected ∈ kTbl := kTblIn 310 (by decide +kernel) (by decide +kernel)
theorem w_312 : Cond.methodLink RW 69 yK_tight ∈ kTbl := kTblIn 312 (by decide +kernel) (by decide +kernel)
theorem w_313 : Cond.instanceMethod yK_tight ∈ kTbl := kTblIn 313 (by decide +kernel) (by decide +kernel)
theorem w_314 : Cond.selects RK yK_tight yK_tight ∈ kTbl := kTblIn 314 (by decide +kernel) (by decide +kernel)
theorem w_316 : Cond.methodLink RW 73 yK_ring ∈ kTbl := kTblIn 316 (by decide +kernel) (by decide +kernel)
theorem w_317 : Cond.instanceMethod yK_ring ∈ kTbl := kTblIn 317 (by decide +kernel) (by decide +kernel)
theorem w_318 : Cond.selects RK yK_ring yK_ring ∈ kTbl := kTblIn 318 (by decide +kernel) (by decide +kernel)
theorem w_320 : Cond.methodLink RW 77 yK_count ∈ kTbl := kTblIn 320 (by decide +kernel) (by decide +kernel)
theorem w_321 : Cond.instanceMethod yK_count ∈ kTbl := kTblIn 321 (by decide +kernel) (by decide +kernel)
theorem w_322 : Cond.selects RK yK_count yK_count ∈ kTbl := kTblIn 322 (by decide +kernel) (by decide +kernel)
theorem w_324 : Cond.classLink RW 10 RM ∈ kTbl := kTblIn 324 (by decide +kernel) (by decide +kernel)
theorem w_325 : Cond.instantiable RM 24 ∈ kTbl := kTblIn 325 (by decide +kernel) (by decide +kernel)
theorem w_326 : Cond.methodLink RW 12 yM_init ∈ kTbl := kTblIn 326 (by decide +kernel) (by decide +kernel)
theorem w_327 : Cond.instanceMethod yM_init ∈ kTbl := kTblIn 327 (by decide +kernel) (by decide +kernel)
theorem w_329 : Cond.methodLink RM 7 objectInit ∈ kTbl := kTblIn 329 (by decide +kernel) (by decide +kernel)
theorem w_330 : Cond.constant RM 68 (1000000) ∈ kTbl := kTblIn 330 (by decide +kernel) (by decide +kernel)
theorem w_331 : Cond.methodLink RM 69 yM_settle ∈ kTbl := kTblIn 331 (by decide +kernel) (by decide +kernel)
theorem w_333 : Cond.instanceMethod yM_settle ∈ kTbl := kTblIn 333 (by decide +kernel) (by decide +kernel)
theorem w_335 : Cond.constant RM 79 (-1000000) ∈ kTbl := kTblIn 335 (by decide +kernel) (by decide +kernel)
theorem w_336 : Cond.methodLink RM 80 yM_find ∈ kTbl := kTblIn 336 (by decide +kernel) (by decide +kernel)
theorem w_338 : Cond.instanceMethod yM_find ∈ kTbl := kTblIn 338 (by decide +kernel) (by decide +kernel)
theorem w_340 : Cond.fieldLink RM 1 "KeptPathsModel" "thrown" "I" ∈ kTbl := kTblIn 340 (by decide +kernel) (by decide +kernel)
theorem w_341 : Cond.fieldLink RM 72 "KeptPathsModel" "nodes" "I" ∈ kTbl := kTblIn 341 (by decide +kernel) (by decide +kernel)
theorem w_342 : Cond.fieldLink RM 13 "KeptPathsModel" "arc" "[I" ∈ kTbl := kTblIn 342 (by decide +kernel) (by decide +kernel)
theorem w_343 : Cond.fieldLink RM 17 "KeptPathsModel" "source" "[I" ∈ kTbl := kTblIn 343 (by decide +kernel) (by decide +kernel)
theorem w_344 : Cond.fieldLink RM 20 "KeptPathsModel" "distance" "[I" ∈ kTbl := kTblIn 344 (by decide +kernel) (by decide +kernel)
theorem w_345 : Cond.fieldLink RM 23 "KeptPathsModel" "hops" "[I" ∈ kTbl := kTblIn 345 (by decide +kernel) (by decide +kernel)
theorem w_346 : Cond.fieldLink RM 26 "KeptPathsModel" "parent" "[I" ∈ kTbl := kTblIn 346 (by decide +kernel) (by decide +kernel)
theorem w_347 : Cond.fieldLink RM 29 "KeptPathsModel" "tight" "[I" ∈ kTbl := kTblIn 347 (by decide +kernel) (by decide +kernel)
theorem w_348 : Cond.fieldLink RM 32 "KeptPathsModel" "affected" "[I" ∈ kTbl := kTblIn 348 (by decide +kernel) (by decide +kernel)
theorem w_349 : Cond.fieldLink RM 35 "KeptPathsModel" "wasDistance" "[I" ∈ kTbl := kTblIn 349 (by decide +kernel) (by decide +kernel)
theorem w_350 : Cond.fieldLink RM 38 "KeptPathsModel" "wasHops" "[I" ∈ kTbl := kTblIn 350 (by decide +kernel) (by decide +kernel)
theorem w_351 : Cond.fieldLink RM 41 "KeptPathsModel" "wasParent" "[I" ∈ kTbl := kTblIn 351 (by decide +kernel) (by decide +kernel)
theorem w_352 : Cond.fieldLink RM 44 "KeptPathsModel" "least" "[I" ∈ kTbl := kTblIn 352 (by decide +kernel) (by decide +kernel)
theorem w_353 : Cond.fieldLink RM 47 "KeptPathsModel" "foundLength" "[I" ∈ kTbl := kTblIn 353 (by decide +kernel) (by decide +kernel)
theorem w_354 : Cond.fieldLink RM 50 "KeptPathsModel" "foundHops" "[I" ∈ kTbl := kTblIn 354 (by decide +kernel) (by decide +kernel)
theorem w_355 : Cond.fieldLink RM 53 "KeptPathsModel" "foundParent" "[I" ∈ kTbl := kTblIn 355 (by decide +kernel) (by decide +kernel)
theorem w_356 : Cond.fieldLink RM 88 "KeptPathsModel" "kept" "I" ∈ kTbl := kTblIn 356 (by decide +kernel) (by decide +kernel)
theorem w_357 : Cond.fieldLink RM 56 "KeptPathsModel" "many" "[I" ∈ kTbl := kTblIn 357 (by decide +kernel) (by decide +kernel)
theorem w_358 : Cond.fieldLink RM 59 "KeptPathsModel" "place" "[I" ∈ kTbl := kTblIn 358 (by decide +kernel) (by decide +kernel)
theorem w_359 : Cond.fieldLink RM 62 "KeptPathsModel" "elder" "[I" ∈ kTbl := kTblIn 359 (by decide +kernel) (by decide +kernel)
theorem w_360 : Cond.fieldLink RM 84 "KeptPathsModel" "isBatch" "Z" ∈ kTbl := kTblIn 360 (by decide +kernel) (by decide +kernel)
theorem w_361 : Cond.fieldLink RM 91 "KeptPathsModel" "changes" "I" ∈ kTbl := kTblIn 361 (by decide +kernel) (by decide +kernel)
theorem w_362 : Cond.fieldLink RM 103 "KeptPathsModel" "rings" "I" ∈ kTbl := kTblIn 362 (by decide +kernel) (by decide +kernel)
theorem w_363 : Cond.fieldLink RM 65 "KeptPathsModel" "ring" "[I" ∈ kTbl := kTblIn 363 (by decide +kernel) (by decide +kernel)
theorem w_413 : Cond.methodLink RW 17 yM_node ∈ kTbl := kTblIn 413 (by decide +kernel) (by decide +kernel)
theorem w_414 : Cond.instanceMethod yM_node ∈ kTbl := kTblIn 414 (by decide +kernel) (by decide +kernel)
theorem w_415 : Cond.selects RM yM_node yM_node ∈ kTbl := kTblIn 415 (by decide +kernel) (by decide +kernel)
theorem w_417 : Cond.constant RM 100 (-4000000) ∈ kTbl := kTblIn 417 (by decide +kernel) (by decide +kernel)
theorem w_418 : Cond.constant RM 101 (-3000000) ∈ kTbl := kTblIn 418 (by decide +kernel) (by decide +kernel)
theorem w_419 : Cond.methodLink RW 22 yM_source ∈ kTbl := kTblIn 419 (by decide +kernel) (by decide +kernel)
theorem w_420 : Cond.instanceMethod yM_source ∈ kTbl := kTblIn 420 (by decide +kernel) (by decide +kernel)
theorem w_421 : Cond.selects RM yM_source yM_source ∈ kTbl := kTblIn 421 (by decide +kernel) (by decide +kernel)
theorem w_423 : Cond.methodLink RM 75 yM_in ∈ kTbl := kTblIn 423 (by decide +kernel) (by decide +kernel)
theorem w_424 : Cond.static yM_in ∈ kTbl := kTblIn 424 (by decide +kernel) (by decide +kernel)
theorem w_426 : Cond.constant RM 102 (-2000000) ∈ kTbl := kTblIn 426 (by decide +kernel) (by decide +kernel)
theorem w_427 : Cond.methodLink RW 27 yM_put ∈ kTbl := kTblIn 427 (by decide +kernel) (by decide +kernel)
theorem w_428 : Cond.instanceMethod yM_put ∈ kTbl := kTblIn 428 (by decide +kernel) (by decide +kernel)
theorem w_429 : Cond.selects RM yM_put yM_put ∈ kTbl := kTblIn 429 (by decide +kernel) (by decide +kernel)
theorem w_431 : Cond.methodLink RM 106 yM_noNode ∈ kTbl := kTblIn 431 (by decide +kernel) (by decide +kernel)
theorem w_433 : Cond.instanceMethod yM_noNode ∈ kTbl := kTblIn 433 (by decide +kernel) (by decide +kernel)
theorem w_435 : Cond.methodLink RM 110 yM_isFalling ∈ kTbl := kTblIn 435 (by decide +kernel) (by decide +kernel)
theorem w_437 : Cond.instanceMethod yM_isFalling ∈ kTbl := kTblIn 437 (by decide +kernel) (by decide +kernel)
theorem w_439 : Cond.constant RM 113 (-5000000) ∈ kTbl := kTblIn 439 (by decide +kernel) (by decide +kernel)
theorem w_440 : Cond.methodLink RM 114 yM_change ∈ kTbl := kTblIn 440 (by decide +kernel) (by decide +kernel)
theorem w_442 : Cond.instanceMethod yM_change ∈ kTbl := kTblIn 442 (by decide +kernel) (by decide +kernel)
theorem w_444 : Cond.methodLink RM 94 yM_keep ∈ kTbl := kTblIn 444 (by decide +kernel) (by decide +kernel)
theorem w_446 : Cond.instanceMethod yM_keep ∈ kTbl := kTblIn 446 (by decide +kernel) (by decide +kernel)
theorem w_448 : Cond.methodLink RM 97 yM_count0 ∈ kTbl := kTblIn 448 (by decide +kernel) (by decide +kernel)
theorem w_450 : Cond.instanceMethod yM_count0 ∈ kTbl := kTblIn 450 (by decide +kernel) (by decide +kernel)
theorem w_452 : Cond.methodLink RW 31 yM_take ∈ kTbl := kTblIn 452 (by decide +kernel) (by decide +kernel)
theorem w_453 : Cond.instanceMethod yM_take ∈ kTbl := kTblIn 453 (by decide +kernel) (by decide +kernel)
theorem w_454 : Cond.selects RM yM_take yM_take ∈ kTbl := kTblIn 454 (by decide +kernel) (by decide +kernel)
theorem w_456 : Cond.methodLink RW 35 yM_arc ∈ kTbl := kTblIn 456 (by decide +kernel) (by decide +kernel)
theorem w_457 : Cond.instanceMethod yM_arc ∈ kTbl := kTblIn 457 (by decide +kernel) (by decide +kernel)
theorem w_458 : Cond.selects RM yM_arc yM_arc ∈ kTbl := kTblIn 458 (by decide +kernel) (by decide +kernel)
theorem w_460 : Cond.methodLink RW 39 yM_begin ∈ kTbl := kTblIn 460 (by decide +kernel) (by decide +kernel)
theorem w_461 : Cond.instanceMethod yM_begin ∈ kTbl := kTblIn 461 (by decide +kernel) (by decide +kernel)
theorem w_462 : Cond.selects RM yM_begin yM_begin ∈ kTbl := kTblIn 462 (by decide +kernel) (by decide +kernel)
theorem w_464 : Cond.methodLink RW 43 yM_end ∈ kTbl := kTblIn 464 (by decide +kernel) (by decide +kernel)
theorem w_465 : Cond.instanceMethod yM_end ∈ kTbl := kTblIn 465 (by decide +kernel) (by decide +kernel)
theorem w_466 : Cond.selects RM yM_end yM_end ∈ kTbl := kTblIn 466 (by decide +kernel) (by decide +kernel)
theorem w_468 : Cond.methodLink RW 47 yM_undo ∈ kTbl := kTblIn 468 (by decide +kernel) (by decide +kernel)
theorem w_469 : Cond.instanceMethod yM_undo ∈ kTbl := kTblIn 469 (by decide +kernel) (by decide +kernel)
theorem w_470 : Cond.selects RM yM_undo yM_undo ∈ kTbl := kTblIn 470 (by decide +kernel) (by decide +kernel)
theorem w_472 : Cond.methodLink RW 51 yM_distance ∈ kTbl := kTblIn 472 (by decide +kernel) (by decide +kernel)
theorem w_473 : Cond.instanceMethod yM_distance ∈ kTbl := kTblIn 473 (by decide +kernel) (by decide +kernel)
theorem w_474 : Cond.selects RM yM_distance yM_distance ∈ kTbl := kTblIn 474 (by decide +kernel) (by decide +kernel)
theorem w_476 : Cond.methodLink RM 118 yM_isBad ∈ kTbl := kTblIn 476 (by decide +kernel) (by decide +kernel)
theorem w_478 : Cond.instanceMethod yM_isBad ∈ kTbl := kTblIn 478 (by decide +kernel) (by decide +kernel)
theorem w_480 : Cond.methodLink RW 55 yM_hops ∈ kTbl := kTblIn 480 (by decide +kernel) (by decide +kernel)
theorem w_481 : Cond.instanceMethod yM_hops ∈ kTbl := kTblIn 481 (by decide +kernel) (by decide +kernel)
theorem w_482 : Cond.selects RM yM_hops yM_hops ∈ kTbl := kTblIn 482 (by decide +kernel) (by decide +kernel)
theorem w_484 : Cond.methodLink RW 59 yM_parent ∈ kTbl := kTblIn 484 (by decide +kernel) (by decide +kernel)
theorem w_485 : Cond.instanceMethod yM_parent ∈ kTbl := kTblIn 485 (by decide +kernel) (by decide +kernel)
theorem w_486 : Cond.selects RM yM_parent yM_parent ∈ kTbl := kTblIn 486 (by decide +kernel) (by decide +kernel)
theorem w_488 : Cond.methodLink RW 63 yM_way ∈ kTbl := kTblIn 488 (by decide +kernel) (by decide +kernel)
theorem w_489 : Cond.instanceMethod yM_way ∈ kTbl := kTblIn 489 (by decide +kernel) (by decide +kernel)
theorem w_490 : Cond.selects RM yM_way yM_way ∈ kTbl := kTblIn 490 (by decide +kernel) (by decide +kernel)
theorem w_492 : Cond.methodLink RW 68 yM_affected ∈ kTbl := kTblIn 492 (by decide +kernel) (by decide +kernel)
theorem w_493 : Cond.instanceMethod yM_affected ∈ kTbl := kTblIn 493 (by decide +kernel) (by decide +kernel)
theorem w_494 : Cond.selects RM yM_affected yM_affected ∈ kTbl := kTblIn 494 (by decide +kernel) (by decide +kernel)
theorem w_496 : Cond.methodLink RW 72 yM_tight ∈ kTbl := kTblIn 496 (by decide +kernel) (by decide +kernel)
theorem w_497 : Cond.instanceMethod yM_tight ∈ kTbl := kTblIn 497 (by decide +kernel) (by decide +kernel)
theorem w_498 : Cond.selects RM yM_tight yM_tight ∈ kTbl := kTblIn 498 (by decide +kernel) (by decide +kernel)
theorem w_500 : Cond.methodLink RW 76 yM_ring ∈ kTbl := kTblIn 500 (by decide +kernel) (by decide +kernel)
theorem w_501 : Cond.instanceMethod yM_ring ∈ kTbl := kTblIn 501 (by decide +kernel) (by decide +kernel)
theorem w_502 : Cond.selects RM yM_ring yM_ring ∈ kTbl := kTblIn 502 (by decide +kernel) (by decide +kernel)
theorem w_504 : Cond.methodLink RW 80 yM_count1 ∈ kTbl := kTblIn 504 (by decide +kernel) (by decide +kernel)
theorem w_505 : Cond.instanceMethod yM_count1 ∈ kTbl := kTblIn 505 (by decide +kernel) (by decide +kernel)
theorem w_506 : Cond.selects RM yM_count1 yM_count1 ∈ kTbl := kTblIn 506 (by decide +kernel) (by decide +kernel)
theorem w_oi : Cond.instanceMethod objectInit ∈ kTbl := w_14
theorem w_oc : Cond.code objectInit ⟨#[0xb1]⟩ 1 none ∈ kTbl := kTblIn 15 rfl (by decide +kernel)
theorem kK_init : Cond.code yK_init cK_init 2 none ∈ kTbl := (kTblIn 12 (by decide +kernel) (by decide +kernel))
theorem kN_init : Cond.code yN_init cN_init 1 none ∈ kTbl := (kTblIn 20 (by decide +kernel) (by decide +kernel))
theorem qA_fill : kMethS yA_fill cA_fill 4 none 2 := ⟨(kTblIn 25 (by decide +kernel) (by decide +kernel)), w_24, w_3, by decide +kernel, by decide +kernel, by decide +kernel⟩
theorem kH_init : Cond.code yH_init cH_init 1 none ∈ kTbl := (kTblIn 44 (by decide +kernel) (by decide +kernel))
theorem kL_init : Cond.code yL_init cL_init 1 none ∈ kTbl := (kTblIn 72 (by decide +kernel) (by decide +kernel))
theorem qL_clear : kMeth yL_clear cL_clear 1 none 0 := ⟨(kTblIn 77 (by decide +kernel) (by decide +kernel)), w_76, (kSelIn 0 (by decide +kernel) (by decide +kernel)), w_5, by decide +kernel, by decide +kernel, by decide +kernel⟩
theorem kS_init : Cond.code yS_init cS_init 1 none ∈ kTbl := (kTblIn 100 (by decide +kernel) (by decide +kernel))
theorem qK_node : kMeth yK_node cK_node 1 (some .int) 0 := ⟨(kTblIn 148 (by decide +kernel) (by decide +kernel)), w_146, w_147, w_1, by decide +kernel, by decide +kernel, by decide +kernel⟩
theorem qN_addNode : kMeth yN_addNode cN_addNode 1 (some .int) 0 := ⟨(kTblIn 154 (by decide +kernel) (by decide +kernel)), w_152, w_153, w_2, by decide +kernel, by decide +kernel, by decide +kernel⟩
theorem qK_source : kMeth yK_source cK_source 4 (some .int) 2 := ⟨(kTblIn 158 (by decide +kernel) (by decide +kernel)), w_156, w_157, w_1, by decide +kernel, by decide +kernel, by decide +kernel⟩
theorem qK_isSource : kMethS yK_isSource cK_isSource 1 (some .boolean) 1 := ⟨(kTblIn 161 (by decide +kernel) (by decide +kernel)), w_160, w_1, by decide +kernel, by decide +kernel, by decide +kernel⟩
theorem qN_isNode : kMeth yN_isNode cN_isNode 2 (some .boolean) 1 := ⟨(kTblIn 165 (by decide +kernel) (by decide +kernel)), w_163, w_164, w_2, by decide +kernel, by decide +kernel, by decide +kernel⟩
theorem qS_moveTo : kMeth yS_moveTo cS_moveTo 3 none 2 := ⟨(kTblIn 170 (by decide +kernel) (by decide +kernel)), w_168, w_169, w_6, by decide +kernel, by decide +kernel, by decide +kernel⟩
theorem qL_settle : kMeth yL_settle cL_settle 7 none 2 := ⟨(kTblIn 174 (by decide +kernel) (by decide +kernel)), w_172, w_173, w_5, by decide +kernel, by decide +kernel, by decide +kernel⟩
theorem qL_followArcs : kMeth yL_followArcs cL_followArcs 6 (some .int) 2 := ⟨(kTblIn 179 (by decide +kernel) (by decide +kernel)), w_178, (kSelIn 1 (by decide +kernel) (by decide +kernel)), w_5, by decide +kernel, by decide +kernel, by decide +kernel⟩
theorem qN_lengthOf : kMeth yN_lengthOf cN_lengthOf 3 (some .int) 2 := ⟨(kTblIn 183 (by decide +kernel) (by decide +kernel)), w_181, w_182, w_2, by decide +kernel, by decide +kernel, by decide +kernel⟩
theorem qL_isBetter : kMeth yL_isBetter cL_isBetter 4 (some .boolean) 3 := ⟨(kTblIn 187 (by decide +kernel) (by decide +kernel)), w_186, (kSelIn 2 (by decide +kernel) (by decide +kernel)), w_5, by decide +kernel, by decide +kernel, by decide +kernel⟩
theorem qL_reaches : kMeth yL_reaches cL_reaches 2 (some .boolean) 1 := ⟨(kTblIn 191 (by decide +kernel) (by decide +kernel)), w_189, w_190, w_5, by decide +kernel, by decide +kernel, by decide +kernel⟩
theorem qL_findTightArcs : kMeth yL_findTightArcs cL_findTightArcs 5 none 2 := ⟨(kTblIn 195 (by decide +kernel) (by decide +kernel)), w_194, (kSelIn 3 (by decide +kernel) (by decide +kernel)), w_5, by decide +kernel, by decide +kernel, by decide +kernel⟩
theorem qK_put : kMeth yK_put cK_put 4 (some .int) 3 := ⟨(kTblIn 199 (by decide +kernel) (by decide +kernel)), w_197, w_198, w_1, by decide +kernel, by decide +kernel, by decide +kernel⟩
theorem qN_areTwoNodes : kMeth yN_areTwoNodes cN_areTwoNodes 3 (some .boolean) 2 := ⟨(kTblIn 203 (by decide +kernel) (by decide +kernel)), w_201, w_202, w_2, by decide +kernel, by decide +kernel, by decide +kernel⟩
theorem qK_isBatchFull : kMeth yK_isBatchFull cK_isBatchFull 1 (some .boolean) 0 := ⟨(kTblIn 208 (by decide +kernel) (by decide +kernel)), w_207, (kSelIn 4 (by decide +kernel) (by decide +kernel)), w_1, by decide +kernel, by decide +kernel, by decide +kernel⟩
theorem qH_openChanges : kMeth yH_openChanges cH_openChanges 1 (some .int) 0 := ⟨(kTblIn 212 (by decide +kernel) (by decide +kernel)), w_210, w_211, w_4, by decide +kernel, by decide +kernel, by decide +kernel⟩
theorem qH_openSlot : kMeth yH_openSlot cH_openSlot 1 (some .int) 0 := ⟨(kTblIn 216 (by decide +kernel) (by decide +kernel)), w_215, (kSelIn 5 (by decide +kernel) (by decide +kernel)), w_4, by decide +kernel, by decide +kernel, by decide +kernel⟩
theorem qK_wouldFall : kMeth yK_wouldFall cK_wouldFall 4 (some .boolean) 3 := ⟨(kTblIn 220 (by decide +kernel) (by decide +kernel)), w_219, (kSelIn 6 (by decide +kernel) (by decide +kernel)), w_1, by decide +kernel, by decide +kernel, by decide +kernel⟩
theorem qK_keepRing : kMeth yK_keepRing cK_keepRing 3 none 1 := ⟨(kTblIn 226 (by decide +kernel) (by decide +kernel)), w_225, (kSelIn 7 (by decide +kernel) (by decide +kernel)), w_1, by decide +kernel, by decide +kernel, by decide +kernel⟩
theorem qL_sizeOfWay : kMeth yL_sizeOfWay cL_sizeOfWay 2 (some .int) 1 := ⟨(kTblIn 230 (by decide +kernel) (by decide +kernel)), w_228, w_229, w_5, by decide +kernel, by decide +kernel, by decide +kernel⟩
theorem qL_nodeOnWay : kMeth yL_nodeOnWay cL_nodeOnWay 5 (some .int) 2 := ⟨(kTblIn 234 (by decide +kernel) (by decide +kernel)), w_232, w_233, w_5, by decide +kernel, by decide +kernel, by decide +kernel⟩
theorem qK_change : kMeth yK_change cK_change 5 (some .int) 3 := ⟨(kTblIn 239 (by decide +kernel) (by decide +kernel)), w_238, (kSelIn 8 (by decide +kernel) (by decide +kernel)), w_1, by decide +kernel, by decide +kernel, by decide +kernel⟩
theorem qH_note : kMeth yH_note cH_note 6 none 3 := ⟨(kTblIn 244 (by decide +kernel) (by decide +kernel)), w_242, w_243, w_4, by decide +kernel, by decide +kernel, by decide +kernel⟩
theorem qN_setLength : kMeth yN_setLength cN_setLength 5 none 3 := ⟨(kTblIn 248 (by decide +kernel) (by decide +kernel)), w_246, w_247, w_2, by decide +kernel, by decide +kernel, by decide +kernel⟩
theorem qH_keepOpen : kMeth yH_keepOpen cH_keepOpen 1 none 0 := ⟨(kTblIn 253 (by decide +kernel) (by decide +kernel)), w_251, w_252, w_4, by decide +kernel, by decide +kernel, by decide +kernel⟩
theorem qK_recountSources : kMeth yK_recountSources cK_recountSources 2 none 0 := ⟨(kTblIn 257 (by decide +kernel) (by decide +kernel)), w_256, (kSelIn 9 (by decide +kernel) (by decide +kernel)), w_1, by decide +kernel, by decide +kernel, by decide +kernel⟩
theorem qS_recount : kMeth yS_recount cS_recount 3 none 1 := ⟨(kTblIn 261 (by decide +kernel) (by decide +kernel)), w_259, w_260, w_6, by decide +kernel, by decide +kernel, by decide +kernel⟩
theorem qL_differingNodes : kMeth yL_differingNodes cL_differingNodes 4 (some .int) 1 := ⟨(kTblIn 265 (by decide +kernel) (by decide +kernel)), w_263, w_264, w_5, by decide +kernel, by decide +kernel, by decide +kernel⟩
theorem qK_take : kMeth yK_take cK_take 3 (some .int) 2 := ⟨(kTblIn 269 (by decide +kernel) (by decide +kernel)), w_267, w_268, w_1, by decide +kernel, by decide +kernel, by decide +kernel⟩
theorem qK_arc : kMeth yK_arc cK_arc 3 (some .int) 2 := ⟨(kTblIn 274 (by decide +kernel) (by decide +kernel)), w_272, w_273, w_1, by decide +kernel, by decide +kernel, by decide +kernel⟩
theorem qK_begin : kMeth yK_begin cK_begin 1 (some .int) 0 := ⟨(kTblIn 278 (by decide +kernel) (by decide +kernel)), w_276, w_277, w_1, by decide +kernel, by decide +kernel, by decide +kernel⟩
theorem qK_end : kMeth yK_end cK_end 2 (some .int) 0 := ⟨(kTblIn 282 (by decide +kernel) (by decide +kernel)), w_280, w_281, w_1, by decide +kernel, by decide +kernel, by decide +kernel⟩
theorem qK_undo : kMeth yK_undo cK_undo 1 (some .int) 0 := ⟨(kTblIn 286 (by decide +kernel) (by decide +kernel)), w_284, w_285, w_1, by decide +kernel, by decide +kernel, by decide +kernel⟩
theorem qH_takeBackLatest : kMeth yH_takeBackLatest cH_takeBackLatest 5 none 1 := ⟨(kTblIn 290 (by decide +kernel) (by decide +kernel)), w_288, w_289, w_4, by decide +kernel, by decide +kernel, by decide +kernel⟩
theorem qK_distance : kMeth yK_distance cK_distance 3 (some .int) 2 := ⟨(kTblIn 295 (by decide +kernel) (by decide +kernel)), w_293, w_294, w_1, by decide +kernel, by decide +kernel, by decide +kernel⟩
theorem qK_hops : kMeth yK_hops cK_hops 3 (some .int) 2 := ⟨(kTblIn 299 (by decide +kernel) (by decide +kernel)), w_297, w_298, w_1, by decide +kernel, by decide +kernel, by decide +kernel⟩
theorem qK_parent : kMeth yK_parent cK_parent 3 (some .int) 2 := ⟨(kTblIn 303 (by decide +kernel) (by decide +kernel)), w_301, w_302, w_1, by decide +kernel, by decide +kernel, by decide +kernel⟩
theorem qK_way : kMeth yK_way cK_way 6 (some .int) 3 := ⟨(kTblIn 307 (by decide +kernel) (by decide +kernel)), w_305, w_306, w_1, by decide +kernel, by decide +kernel, by decide +kernel⟩
theorem qK_affected : kMeth yK_affected cK_affected 2 (some .int) 1 := ⟨(kTblIn 311 (by decide +kernel) (by decide +kernel)), w_309, w_310, w_1, by decide +kernel, by decide +kernel, by decide +kernel⟩
theorem qK_tight : kMeth yK_tight cK_tight 2 (some .int) 1 := ⟨(kTblIn 315 (by decide +kernel) (by decide +kernel)), w_313, w_314, w_1, by decide +kernel, by decide +kernel, by decide +kernel⟩
theorem qK_ring : kMeth yK_ring cK_ring 2 (some .int) 1 := ⟨(kTblIn 319 (by decide +kernel) (by decide +kernel)), w_317, w_318, w_1, by decide +kernel, by decide +kernel, by decide +kernel⟩
theorem qK_count : kMeth yK_count cK_count 2 (some .int) 1 := ⟨(kTblIn 323 (by decide +kernel) (by decide +kernel)), w_321, w_322, w_1, by decide +kernel, by decide +kernel, by decide +kernel⟩
theorem kM_init : Cond.code yM_init cM_init 2 none ∈ kTbl := (kTblIn 328 (by decide +kernel) (by decide +kernel))
theorem qM_settle : kMeth yM_settle cM_settle 6 none 0 := ⟨(kTblIn 334 (by decide +kernel) (by decide +kernel)), w_333, (kSelIn 10 (by decide +kernel) (by decide +kernel)), w_7, by decide +kernel, by decide +kernel, by decide +kernel⟩
theorem qM_find : kMeth yM_find cM_find 10 none 3 := ⟨(kTblIn 339 (by decide +kernel) (by decide +kernel)), w_338, (kSelIn 11 (by decide +kernel) (by decide +kernel)), w_7, by decide +kernel, by decide +kernel, by decide +kernel⟩
theorem qM_node : kMeth yM_node cM_node 1 (some .int) 0 := ⟨(kTblIn 416 (by decide +kernel) (by decide +kernel)), w_414, w_415, w_7, by decide +kernel, by decide +kernel, by decide +kernel⟩
theorem qM_source : kMeth yM_source cM_source 4 (some .int) 2 := ⟨(kTblIn 422 (by decide +kernel) (by decide +kernel)), w_420, w_421, w_7, by decide +kernel, by decide +kernel, by decide +kernel⟩
theorem qM_in : kMethS yM_in cM_in 3 (some .boolean) 3 := ⟨(kTblIn 425 (by decide +kernel) (by decide +kernel)), w_424, w_7, by decide +kernel, by decide +kernel, by decide +kernel⟩
theorem qM_put : kMeth yM_put cM_put 5 (some .int) 3 := ⟨(kTblIn 430 (by decide +kernel) (by decide +kernel)), w_428, w_429, w_7, by decide +kernel, by decide +kernel, by decide +kernel⟩
theorem qM_noNode : kMeth yM_noNode cM_noNode 2 (some .boolean) 1 := ⟨(kTblIn 434 (by decide +kernel) (by decide +kernel)), w_433, (kSelIn 12 (by decide +kernel) (by decide +kernel)), w_7, by decide +kernel, by decide +kernel, by decide +kernel⟩
theorem qM_isFalling : kMeth yM_isFalling cM_isFalling 6 (some .boolean) 3 := ⟨(kTblIn 438 (by decide +kernel) (by decide +kernel)), w_437, (kSelIn 13 (by decide +kernel) (by decide +kernel)), w_7, by decide +kernel, by decide +kernel, by decide +kernel⟩
theorem qM_change : kMeth yM_change cM_change 4 none 2 := ⟨(kTblIn 443 (by decide +kernel) (by decide +kernel)), w_442, (kSelIn 14 (by decide +kernel) (by decide +kernel)), w_7, by decide +kernel, by decide +kernel, by decide +kernel⟩
theorem qM_keep : kMeth yM_keep cM_keep 2 none 0 := ⟨(kTblIn 447 (by decide +kernel) (by decide +kernel)), w_446, (kSelIn 15 (by decide +kernel) (by decide +kernel)), w_7, by decide +kernel, by decide +kernel, by decide +kernel⟩
theorem qM_count0 : kMeth yM_count0 cM_count0 5 none 0 := ⟨(kTblIn 451 (by decide +kernel) (by decide +kernel)), w_450, (kSelIn 16 (by decide +kernel) (by decide +kernel)), w_7, by decide +kernel, by decide +kernel, by decide +kernel⟩
theorem qM_take : kMeth yM_take cM_take 4 (some .int) 2 := ⟨(kTblIn 455 (by decide +kernel) (by decide +kernel)), w_453, w_454, w_7, by decide +kernel, by decide +kernel, by decide +kernel⟩
theorem qM_arc : kMeth yM_arc cM_arc 3 (some .int) 2 := ⟨(kTblIn 459 (by decide +kernel) (by decide +kernel)), w_457, w_458, w_7, by decide +kernel, by decide +kernel, by decide +kernel⟩
theorem qM_begin : kMeth yM_begin cM_begin 1 (some .int) 0 := ⟨(kTblIn 463 (by decide +kernel) (by decide +kernel)), w_461, w_462, w_7, by decide +kernel, by decide +kernel, by decide +kernel⟩
theorem qM_end : kMeth yM_end cM_end 2 (some .int) 0 := ⟨(kTblIn 467 (by decide +kernel) (by decide +kernel)), w_465, w_466, w_7, by decide +kernel, by decide +kernel, by decide +kernel⟩
theorem qM_undo : kMeth yM_undo cM_undo 2 (some .int) 0 := ⟨(kTblIn 471 (by decide +kernel) (by decide +kernel)), w_469, w_470, w_7, by decide +kernel, by decide +kernel, by decide +kernel⟩
theorem qM_distance : kMeth yM_distance cM_distance 3 (some .int) 2 := ⟨(kTblIn 475 (by decide +kernel) (by decide +kernel)), w_473, w_474, w_7, by decide +kernel, by decide +kernel, by decide +kernel⟩
theorem qM_isBad : kMeth yM_isBad cM_isBad 3 (some .boolean) 2 := ⟨(kTblIn 479 (by decide +kernel) (by decide +kernel)), w_478, (kSelIn 17 (by decide +kernel) (by decide +kernel)), w_7, by decide +kernel, by decide +kernel, by decide +kernel⟩
theorem qM_hops : kMeth yM_hops cM_hops 3 (some .int) 2 := ⟨(kTblIn 483 (by decide +kernel) (by decide +kernel)), w_481, w_482, w_7, by decide +kernel, by decide +kernel, by decide +kernel⟩
theorem qM_parent : kMeth yM_parent cM_parent 3 (some .int) 2 := ⟨(kTblIn 487 (by decide +kernel) (by decide +kernel)), w_485, w_486, w_7, by decide +kernel, by decide +kernel, by decide +kernel⟩
theorem qM_way : kMeth yM_way cM_way 7 (some .int) 3 := ⟨(kTblIn 491 (by decide +kernel) (by decide +kernel)), w_489, w_490, w_7, by decide +kernel, by decide +kernel, by decide +kernel⟩
theorem qM_affected : kMeth yM_affected cM_affected 2 (some .int) 1 := ⟨(kTblIn 495 (by decide +kernel) (by decide +kernel)), w_493, w_494, w_7, by decide +kernel, by decide +kernel, by decide +kernel⟩
theorem qM_tight : kMeth yM_tight cM_tight 2 (some .int) 1 := ⟨(kTblIn 499 (by decide +kernel) (by decide +kernel)), w_497, w_498, w_7, by decide +kernel, by decide +kernel, by decide +kernel⟩
theorem qM_ring : kMeth yM_ring cM_ring 2 (some .int) 1 := ⟨(kTblIn 503 (by decide +kernel) (by decide +kernel)), w_501, w_502, w_7, by decide +kernel, by decide +kernel, by decide +kernel⟩
theorem qM_count1 : kMeth yM_count1 cM_count1 4 (some .int) 1 := ⟨(kTblIn 507 (by decide +kernel) (by decide +kernel)), w_505, w_506, w_7, by decide +kernel, by decide +kernel, by decide +kernel⟩
end
section
theorem dK_init_0 : decode cK_init 0 = .ok (.aload_n 0, 1) := by decide +kernel
theorem dK_init_1 : decode cK_init 1 = .ok (.invokespecial 1, 3) := by decide +kernel
theorem dK_init_4 : decode cK_init 4 = .ok (.aload_n 0, 1) := by decide +kernel
theorem dK_init_5 : decode cK_init 5 = .ok (.new 7, 3) := by decide +kernel
theorem dK_init_8 : decode cK_init 8 = .ok (.dup, 1) := by decide +kernel
theorem dK_init_9 : decode cK_init 9 = .ok (.invokespecial 9, 3) := by decide +kernel
theorem dK_init_12 : decode cK_init 12 = .ok (.putfield 10, 3) := by decide +kernel
theorem dK_init_15 : decode cK_init 15 = .ok (.aload_n 0, 1) := by decide +kernel
theorem dK_init_16 : decode cK_init 16 = .ok (.new 16, 3) := by decide +kernel
theorem dK_init_19 : decode cK_init 19 = .ok (.dup, 1) := by decide +kernel
theorem dK_init_20 : decode cK_init 20 = .ok (.invokespecial 18, 3) := by decide +kernel
theorem dK_init_23 : decode cK_init 23 = .ok (.putfield 19, 3) := by decide +kernel
theorem dK_init_26 : decode cK_init 26 = .ok (.aload_n 0, 1) := by decide +kernel
theorem dK_init_27 : decode cK_init 27 = .ok (.iconst 3, 1) := by decide +kernel
theorem dK_init_28 : decode cK_init 28 = .ok (.anewarray 23, 3) := by decide +kernel
theorem dK_init_31 : decode cK_init 31 = .ok (.putfield 25, 3) := by decide +kernel
theorem dK_init_34 : decode cK_init 34 = .ok (.aload_n 0, 1) := by decide +kernel
theorem dK_init_35 : decode cK_init 35 = .ok (.new 29, 3) := by decide +kernel
theorem dK_init_38 : decode cK_init 38 = .ok (.dup, 1) := by decide +kernel
theorem dK_init_39 : decode cK_init 39 = .ok (.invokespecial 31, 3) := by decide +kernel
theorem dK_init_42 : decode cK_init 42 = .ok (.putfield 32, 3) := by decide +kernel
theorem dK_init_45 : decode cK_init 45 = .ok (.aload_n 0, 1) := by decide +kernel
theorem dK_init_46 : decode cK_init 46 = .ok (.bipush 24, 2) := by decide +kernel
theorem dK_init_48 : decode cK_init 48 = .ok (.newarray .int, 2) := by decide +kernel
theorem dK_init_50 : decode cK_init 50 = .ok (.putfield 36, 3) := by decide +kernel
theorem dK_init_53 : decode cK_init 53 = .ok (.aload_n 0, 1) := by decide +kernel
theorem dK_init_54 : decode cK_init 54 = .ok (.iconst 0, 1) := by decide +kernel
theorem dK_init_55 : decode cK_init 55 = .ok (.putfield 40, 3) := by decide +kernel
theorem dK_init_58 : decode cK_init 58 = .ok (.aload_n 0, 1) := by decide +kernel
theorem dK_init_59 : decode cK_init 59 = .ok (.iconst 0, 1) := by decide +kernel
theorem dK_init_60 : decode cK_init 60 = .ok (.putfield 44, 3) := by decide +kernel
theorem dK_init_63 : decode cK_init 63 = .ok (.aload_n 0, 1) := by decide +kernel
theorem dK_init_64 : decode cK_init 64 = .ok (.iconst 0, 1) := by decide +kernel
theorem dK_init_65 : decode cK_init 65 = .ok (.putfield 48, 3) := by decide +kernel
theorem dK_init_68 : decode cK_init 68 = .ok (.iconst 0, 1) := by decide +kernel
theorem dK_init_69 : decode cK_init 69 = .ok (.istore_n 1, 1) := by decide +kernel
theorem dK_init_70 : decode cK_init 70 = .ok (.iload_n 1, 1) := by decide +kernel
theorem dK_init_71 : decode cK_init 71 = .ok (.iconst 3, 1) := by decide +kernel
theorem dK_init_72 : decode cK_init 72 = .ok (.if_icmp .ge 22, 3) := by decide +kernel
theorem dK_init_75 : decode cK_init 75 = .ok (.aload_n 0, 1) := by decide +kernel
theorem dK_init_76 : decode cK_init 76 = .ok (.getfield 25, 3) := by decide +kernel
theorem dK_init_79 : decode cK_init 79 = .ok (.iload_n 1, 1) := by decide +kernel
theorem dK_init_80 : decode cK_init 80 = .ok (.new 23, 3) := by decide +kernel
theorem dK_init_83 : decode cK_init 83 = .ok (.dup, 1) := by decide +kernel
theorem dK_init_84 : decode cK_init 84 = .ok (.invokespecial 51, 3) := by decide +kernel
theorem dK_init_87 : decode cK_init 87 = .ok (.aastore, 1) := by decide +kernel
theorem dK_init_88 : decode cK_init 88 = .ok (.iinc 1 1, 3) := by decide +kernel
theorem dK_init_91 : decode cK_init 91 = .ok (.goto (-21), 3) := by decide +kernel
theorem dK_init_94 : decode cK_init 94 = .ok (.return_, 1) := by decide +kernel
theorem dK_node_0 : decode cK_node 0 = .ok (.aload_n 0, 1) := by decide +kernel
theorem dK_node_1 : decode cK_node 1 = .ok (.getfield 44, 3) := by decide +kernel
theorem dK_node_4 : decode cK_node 4 = .ok (.ifCond .eq 6, 3) := by decide +kernel
theorem dK_node_7 : decode cK_node 7 = .ok (.ldc 52, 2) := by decide +kernel
theorem dK_node_9 : decode cK_node 9 = .ok (.ireturn, 1) := by decide +kernel
theorem dK_node_10 : decode cK_node 10 = .ok (.aload_n 0, 1) := by decide +kernel
theorem dK_node_11 : decode cK_node 11 = .ok (.getfield 10, 3) := by decide +kernel
theorem dK_node_14 : decode cK_node 14 = .ok (.getfield 53, 3) := by decide +kernel
theorem dK_node_17 : decode cK_node 17 = .ok (.bipush 24, 2) := by decide +kernel
theorem dK_node_19 : decode cK_node 19 = .ok (.if_icmp .lt 6, 3) := by decide +kernel
theorem dK_node_22 : decode cK_node 22 = .ok (.ldc 56, 2) := by decide +kernel
theorem dK_node_24 : decode cK_node 24 = .ok (.ireturn, 1) := by decide +kernel
theorem dK_node_25 : decode cK_node 25 = .ok (.aload_n 0, 1) := by decide +kernel
theorem dK_node_26 : decode cK_node 26 = .ok (.getfield 10, 3) := by decide +kernel
theorem dK_node_29 : decode cK_node 29 = .ok (.invokevirtual 57, 3) := by decide +kernel
theorem dK_node_32 : decode cK_node 32 = .ok (.ireturn, 1) := by decide +kernel
theorem dK_source_0 : decode cK_source 0 = .ok (.iload_n 1, 1) := by decide +kernel
theorem dK_source_1 : decode cK_source 1 = .ok (.invokestatic 61, 3) := by decide +kernel
theorem dK_source_4 : decode cK_source 4 = .ok (.ifCond .eq 19, 3) := by decide +kernel
theorem dK_source_7 : decode cK_source 7 = .ok (.iload_n 2, 1) := by decide +kernel
theorem dK_source_8 : decode cK_source 8 = .ok (.iconst (-1), 1) := by decide +kernel
theorem dK_source_9 : decode cK_source 9 = .ok (.if_icmp .eq 17, 3) := by decide +kernel
theorem dK_source_12 : decode cK_source 12 = .ok (.aload_n 0, 1) := by decide +kernel
theorem dK_source_13 : decode cK_source 13 = .ok (.getfield 10, 3) := by decide +kernel
theorem dK_source_16 : decode cK_source 16 = .ok (.iload_n 2, 1) := by decide +kernel
theorem dK_source_17 : decode cK_source 17 = .ok (.invokevirtual 65, 3) := by decide +kernel
theorem dK_source_20 : decode cK_source 20 = .ok (.ifCond .ne 6, 3) := by decide +kernel
theorem dK_source_23 : decode cK_source 23 = .ok (.ldc 68, 2) := by decide +kernel
theorem dK_source_25 : decode cK_source 25 = .ok (.ireturn, 1) := by decide +kernel
theorem dK_source_26 : decode cK_source 26 = .ok (.aload_n 0, 1) := by decide +kernel
theorem dK_source_27 : decode cK_source 27 = .ok (.getfield 44, 3) := by decide +kernel
theorem dK_source_30 : decode cK_source 30 = .ok (.ifCond .eq 6, 3) := by decide +kernel
theorem dK_source_33 : decode cK_source 33 = .ok (.ldc 52, 2) := by decide +kernel
theorem dK_source_35 : decode cK_source 35 = .ok (.ireturn, 1) := by decide +kernel
theorem dK_source_36 : decode cK_source 36 = .ok (.aload_n 0, 1) := by decide +kernel
theorem dK_source_37 : decode cK_source 37 = .ok (.getfield 25, 3) := by decide +kernel
theorem dK_source_40 : decode cK_source 40 = .ok (.iload_n 1, 1) := by decide +kernel
theorem dK_source_41 : decode cK_source 41 = .ok (.aaload, 1) := by decide +kernel
theorem dK_source_42 : decode cK_source 42 = .ok (.getfield 69, 3) := by decide +kernel
theorem dK_source_45 : decode cK_source 45 = .ok (.istore_n 3, 1) := by decide +kernel
theorem dK_source_46 : decode cK_source 46 = .ok (.aload_n 0, 1) := by decide +kernel
theorem dK_source_47 : decode cK_source 47 = .ok (.getfield 25, 3) := by decide +kernel
theorem dK_source_50 : decode cK_source 50 = .ok (.iload_n 1, 1) := by decide +kernel
theorem dK_source_51 : decode cK_source 51 = .ok (.aaload, 1) := by decide +kernel
theorem dK_source_52 : decode cK_source 52 = .ok (.iload_n 2, 1) := by decide +kernel
theorem dK_source_53 : decode cK_source 53 = .ok (.aload_n 0, 1) := by decide +kernel
theorem dK_source_54 : decode cK_source 54 = .ok (.getfield 10, 3) := by decide +kernel
theorem dK_source_57 : decode cK_source 57 = .ok (.invokevirtual 72, 3) := by decide +kernel
theorem dK_source_60 : decode cK_source 60 = .ok (.iload_n 3, 1) := by decide +kernel
theorem dK_source_61 : decode cK_source 61 = .ok (.ireturn, 1) := by decide +kernel
theorem dK_put_0 : decode cK_put 0 = .ok (.aload_n 0, 1) := by decide +kernel
theorem dK_put_1 : decode cK_put 1 = .ok (.getfield 10, 3) := by decide +kernel
theorem dK_put_4 : decode cK_put 4 = .ok (.iload_n 1, 1) := by decide +kernel
theorem dK_put_5 : decode cK_put 5 = .ok (.iload_n 2, 1) := by decide +kernel
theorem dK_put_6 : decode cK_put 6 = .ok (.invokevirtual 76, 3) := by decide +kernel
theorem dK_put_9 : decode cK_put 9 = .ok (.ifCond .eq 17, 3) := by decide +kernel
theorem dK_put_12 : decode cK_put 12 = .ok (.iload_n 3, 1) := by decide +kernel
theorem dK_put_13 : decode cK_put 13 = .ok (.sipush (-1000), 3) := by decide +kernel
theorem dK_put_16 : decode cK_put 16 = .ok (.if_icmp .lt 10, 3) := by decide +kernel
theorem dK_put_19 : decode cK_put 19 = .ok (.iload_n 3, 1) := by decide +kernel
theorem dK_put_20 : decode cK_put 20 = .ok (.sipush 1000, 3) := by decide +kernel
theorem dK_put_23 : decode cK_put 23 = .ok (.if_icmp .le 6, 3) := by decide +kernel
theorem dK_put_26 : decode cK_put 26 = .ok (.ldc 68, 2) := by decide +kernel
theorem dK_put_28 : decode cK_put 28 = .ok (.ireturn, 1) := by decide +kernel
theorem dK_put_29 : decode cK_put 29 = .ok (.aload_n 0, 1) := by decide +kernel
theorem dK_put_30 : decode cK_put 30 = .ok (.invokevirtual 80, 3) := by decide +kernel
theorem dK_put_33 : decode cK_put 33 = .ok (.ifCond .eq 6, 3) := by decide +kernel
theorem dK_put_36 : decode cK_put 36 = .ok (.ldc 56, 2) := by decide +kernel
theorem dK_put_38 : decode cK_put 38 = .ok (.ireturn, 1) := by decide +kernel
theorem dK_put_39 : decode cK_put 39 = .ok (.aload_n 0, 1) := by decide +kernel
theorem dK_put_40 : decode cK_put 40 = .ok (.iload_n 1, 1) := by decide +kernel
theorem dK_put_41 : decode cK_put 41 = .ok (.iload_n 2, 1) := by decide +kernel
theorem dK_put_42 : decode cK_put 42 = .ok (.iload_n 3, 1) := by decide +kernel
theorem dK_put_43 : decode cK_put 43 = .ok (.invokevirtual 84, 3) := by decide +kernel
theorem dK_put_46 : decode cK_put 46 = .ok (.ifCond .eq 11, 3) := by decide +kernel
theorem dK_put_49 : decode cK_put 49 = .ok (.aload_n 0, 1) := by decide +kernel
theorem dK_put_50 : decode cK_put 50 = .ok (.iload_n 1, 1) := by decide +kernel
theorem dK_put_51 : decode cK_put 51 = .ok (.invokevirtual 88, 3) := by decide +kernel
theorem dK_put_54 : decode cK_put 54 = .ok (.ldc 92, 2) := by decide +kernel
theorem dK_put_56 : decode cK_put 56 = .ok (.ireturn, 1) := by decide +kernel
theorem dK_put_57 : decode cK_put 57 = .ok (.aload_n 0, 1) := by decide +kernel
theorem dK_put_58 : decode cK_put 58 = .ok (.iload_n 1, 1) := by decide +kernel
theorem dK_put_59 : decode cK_put 59 = .ok (.iload_n 2, 1) := by decide +kernel
theorem dK_put_60 : decode cK_put 60 = .ok (.iload_n 3, 1) := by decide +kernel
theorem dK_put_61 : decode cK_put 61 = .ok (.invokevirtual 93, 3) := by decide +kernel
theorem dK_put_64 : decode cK_put 64 = .ok (.ireturn, 1) := by decide +kernel
theorem dK_take_0 : decode cK_take 0 = .ok (.aload_n 0, 1) := by decide +kernel
theorem dK_take_1 : decode cK_take 1 = .ok (.getfield 10, 3) := by decide +kernel
theorem dK_take_4 : decode cK_take 4 = .ok (.iload_n 1, 1) := by decide +kernel
theorem dK_take_5 : decode cK_take 5 = .ok (.iload_n 2, 1) := by decide +kernel
theorem dK_take_6 : decode cK_take 6 = .ok (.invokevirtual 76, 3) := by decide +kernel
theorem dK_take_9 : decode cK_take 9 = .ok (.ifCond .ne 6, 3) := by decide +kernel
theorem dK_take_12 : decode cK_take 12 = .ok (.ldc 68, 2) := by decide +kernel
theorem dK_take_14 : decode cK_take 14 = .ok (.ireturn, 1) := by decide +kernel
theorem dK_take_15 : decode cK_take 15 = .ok (.aload_n 0, 1) := by decide +kernel
theorem dK_take_16 : decode cK_take 16 = .ok (.invokevirtual 80, 3) := by decide +kernel
theorem dK_take_19 : decode cK_take 19 = .ok (.ifCond .eq 6, 3) := by decide +kernel
theorem dK_take_22 : decode cK_take 22 = .ok (.ldc 56, 2) := by decide +kernel
theorem dK_take_24 : decode cK_take 24 = .ok (.ireturn, 1) := by decide +kernel
theorem dK_take_25 : decode cK_take 25 = .ok (.aload_n 0, 1) := by decide +kernel
theorem dK_take_26 : decode cK_take 26 = .ok (.getfield 10, 3) := by decide +kernel
theorem dK_take_29 : decode cK_take 29 = .ok (.iload_n 1, 1) := by decide +kernel
theorem dK_take_30 : decode cK_take 30 = .ok (.iload_n 2, 1) := by decide +kernel
theorem dK_take_31 : decode cK_take 31 = .ok (.invokevirtual 97, 3) := by decide +kernel
theorem dK_take_34 : decode cK_take 34 = .ok (.ldc 101, 2) := by decide +kernel
theorem dK_take_36 : decode cK_take 36 = .ok (.if_icmp .ne 6, 3) := by decide +kernel
theorem dK_take_39 : decode cK_take 39 = .ok (.ldc 101, 2) := by decide +kernel
theorem dK_take_41 : decode cK_take 41 = .ok (.ireturn, 1) := by decide +kernel
theorem dK_take_42 : decode cK_take 42 = .ok (.aload_n 0, 1) := by decide +kernel
theorem dK_take_43 : decode cK_take 43 = .ok (.iload_n 1, 1) := by decide +kernel
theorem dK_take_44 : decode cK_take 44 = .ok (.iload_n 2, 1) := by decide +kernel
theorem dK_take_45 : decode cK_take 45 = .ok (.ldc 101, 2) := by decide +kernel
theorem dK_take_47 : decode cK_take 47 = .ok (.invokevirtual 93, 3) := by decide +kernel
theorem dK_take_50 : decode cK_take 50 = .ok (.ireturn, 1) := by decide +kernel
theorem dK_arc_0 : decode cK_arc 0 = .ok (.aload_n 0, 1) := by decide +kernel
theorem dK_arc_1 : decode cK_arc 1 = .ok (.getfield 10, 3) := by decide +kernel
theorem dK_arc_4 : decode cK_arc 4 = .ok (.iload_n 1, 1) := by decide +kernel
theorem dK_arc_5 : decode cK_arc 5 = .ok (.iload_n 2, 1) := by decide +kernel
theorem dK_arc_6 : decode cK_arc 6 = .ok (.invokevirtual 76, 3) := by decide +kernel
theorem dK_arc_9 : decode cK_arc 9 = .ok (.ifCond .eq 15, 3) := by decide +kernel
theorem dK_arc_12 : decode cK_arc 12 = .ok (.aload_n 0, 1) := by decide +kernel
theorem dK_arc_13 : decode cK_arc 13 = .ok (.getfield 10, 3) := by decide +kernel
theorem dK_arc_16 : decode cK_arc 16 = .ok (.iload_n 1, 1) := by decide +kernel
theorem dK_arc_17 : decode cK_arc 17 = .ok (.iload_n 2, 1) := by decide +kernel
theorem dK_arc_18 : decode cK_arc 18 = .ok (.invokevirtual 97, 3) := by decide +kernel
theorem dK_arc_21 : decode cK_arc 21 = .ok (.goto 5, 3) := by decide +kernel
theorem dK_arc_24 : decode cK_arc 24 = .ok (.ldc 68, 2) := by decide +kernel
theorem dK_arc_26 : decode cK_arc 26 = .ok (.ireturn, 1) := by decide +kernel
theorem dK_begin_0 : decode cK_begin 0 = .ok (.aload_n 0, 1) := by decide +kernel
theorem dK_begin_1 : decode cK_begin 1 = .ok (.getfield 44, 3) := by decide +kernel
theorem dK_begin_4 : decode cK_begin 4 = .ok (.ifCond .eq 6, 3) := by decide +kernel
theorem dK_begin_7 : decode cK_begin 7 = .ok (.ldc 52, 2) := by decide +kernel
theorem dK_begin_9 : decode cK_begin 9 = .ok (.ireturn, 1) := by decide +kernel
theorem dK_begin_10 : decode cK_begin 10 = .ok (.aload_n 0, 1) := by decide +kernel
theorem dK_begin_11 : decode cK_begin 11 = .ok (.iconst 1, 1) := by decide +kernel
theorem dK_begin_12 : decode cK_begin 12 = .ok (.putfield 44, 3) := by decide +kernel
theorem dK_begin_15 : decode cK_begin 15 = .ok (.iconst 1, 1) := by decide +kernel
theorem dK_begin_16 : decode cK_begin 16 = .ok (.ireturn, 1) := by decide +kernel
theorem dK_end_0 : decode cK_end 0 = .ok (.aload_n 0, 1) := by decide +kernel
theorem dK_end_1 : decode cK_end 1 = .ok (.getfield 44, 3) := by decide +kernel
theorem dK_end_4 : decode cK_end 4 = .ok (.ifCond .ne 6, 3) := by decide +kernel
theorem dK_end_7 : decode cK_end 7 = .ok (.ldc 52, 2) := by decide +kernel
theorem dK_end_9 : decode cK_end 9 = .ok (.ireturn, 1) := by decide +kernel
theorem dK_end_10 : decode cK_end 10 = .ok (.aload_n 0, 1) := by decide +kernel
theorem dK_end_11 : decode cK_end 11 = .ok (.getfield 19, 3) := by decide +kernel
theorem dK_end_14 : decode cK_end 14 = .ok (.invokevirtual 102, 3) := by decide +kernel
theorem dK_end_17 : decode cK_end 17 = .ok (.istore_n 1, 1) := by decide +kernel
theorem dK_end_18 : decode cK_end 18 = .ok (.aload_n 0, 1) := by decide +kernel
theorem dK_end_19 : decode cK_end 19 = .ok (.iconst 0, 1) := by decide +kernel
theorem dK_end_20 : decode cK_end 20 = .ok (.putfield 44, 3) := by decide +kernel
theorem dK_end_23 : decode cK_end 23 = .ok (.iload_n 1, 1) := by decide +kernel
theorem dK_end_24 : decode cK_end 24 = .ok (.ifCond .le 10, 3) := by decide +kernel
theorem dK_end_27 : decode cK_end 27 = .ok (.aload_n 0, 1) := by decide +kernel
theorem dK_end_28 : decode cK_end 28 = .ok (.getfield 19, 3) := by decide +kernel
theorem dK_end_31 : decode cK_end 31 = .ok (.invokevirtual 105, 3) := by decide +kernel
theorem dK_end_34 : decode cK_end 34 = .ok (.aload_n 0, 1) := by decide +kernel
theorem dK_end_35 : decode cK_end 35 = .ok (.invokevirtual 108, 3) := by decide +kernel
theorem dK_end_38 : decode cK_end 38 = .ok (.iload_n 1, 1) := by decide +kernel
theorem dK_end_39 : decode cK_end 39 = .ok (.ireturn, 1) := by decide +kernel
theorem dK_undo_0 : decode cK_undo 0 = .ok (.aload_n 0, 1) := by decide +kernel
theorem dK_undo_1 : decode cK_undo 1 = .ok (.getfield 44, 3) := by decide +kernel
theorem dK_undo_4 : decode cK_undo 4 = .ok (.ifCond .eq 6, 3) := by decide +kernel
theorem dK_undo_7 : decode cK_undo 7 = .ok (.ldc 52, 2) := by decide +kernel
theorem dK_undo_9 : decode cK_undo 9 = .ok (.ireturn, 1) := by decide +kernel
theorem dK_undo_10 : decode cK_undo 10 = .ok (.aload_n 0, 1) := by decide +kernel
theorem dK_undo_11 : decode cK_undo 11 = .ok (.getfield 19, 3) := by decide +kernel
theorem dK_undo_14 : decode cK_undo 14 = .ok (.getfield 111, 3) := by decide +kernel
theorem dK_undo_17 : decode cK_undo 17 = .ok (.ifCond .ne 6, 3) := by decide +kernel
theorem dK_undo_20 : decode cK_undo 20 = .ok (.ldc 101, 2) := by decide +kernel
theorem dK_undo_22 : decode cK_undo 22 = .ok (.ireturn, 1) := by decide +kernel
theorem dK_undo_23 : decode cK_undo 23 = .ok (.aload_n 0, 1) := by decide +kernel
theorem dK_undo_24 : decode cK_undo 24 = .ok (.getfield 19, 3) := by decide +kernel
theorem dK_undo_27 : decode cK_undo 27 = .ok (.aload_n 0, 1) := by decide +kernel
theorem dK_undo_28 : decode cK_undo 28 = .ok (.getfield 10, 3) := by decide +kernel
theorem dK_undo_31 : decode cK_undo 31 = .ok (.invokevirtual 114, 3) := by decide +kernel
theorem dK_undo_34 : decode cK_undo 34 = .ok (.aload_n 0, 1) := by decide +kernel
theorem dK_undo_35 : decode cK_undo 35 = .ok (.invokevirtual 108, 3) := by decide +kernel
theorem dK_undo_38 : decode cK_undo 38 = .ok (.aload_n 0, 1) := by decide +kernel
theorem dK_undo_39 : decode cK_undo 39 = .ok (.getfield 19, 3) := by decide +kernel
theorem dK_undo_42 : decode cK_undo 42 = .ok (.getfield 111, 3) := by decide +kernel
theorem dK_undo_45 : decode cK_undo 45 = .ok (.ireturn, 1) := by decide +kernel
theorem dK_distance_0 : decode cK_distance 0 = .ok (.iload_n 1, 1) := by decide +kernel
theorem dK_distance_1 : decode cK_distance 1 = .ok (.invokestatic 61, 3) := by decide +kernel
theorem dK_distance_4 : decode cK_distance 4 = .ok (.ifCond .eq 31, 3) := by decide +kernel
theorem dK_distance_7 : decode cK_distance 7 = .ok (.aload_n 0, 1) := by decide +kernel
theorem dK_distance_8 : decode cK_distance 8 = .ok (.getfield 10, 3) := by decide +kernel
theorem dK_distance_11 : decode cK_distance 11 = .ok (.iload_n 2, 1) := by decide +kernel
theorem dK_distance_12 : decode cK_distance 12 = .ok (.invokevirtual 65, 3) := by decide +kernel
theorem dK_distance_15 : decode cK_distance 15 = .ok (.ifCond .eq 20, 3) := by decide +kernel
theorem dK_distance_18 : decode cK_distance 18 = .ok (.aload_n 0, 1) := by decide +kernel
theorem dK_distance_19 : decode cK_distance 19 = .ok (.getfield 25, 3) := by decide +kernel
theorem dK_distance_22 : decode cK_distance 22 = .ok (.iload_n 1, 1) := by decide +kernel
theorem dK_distance_23 : decode cK_distance 23 = .ok (.aaload, 1) := by decide +kernel
theorem dK_distance_24 : decode cK_distance 24 = .ok (.getfield 118, 3) := by decide +kernel
theorem dK_distance_27 : decode cK_distance 27 = .ok (.getfield 121, 3) := by decide +kernel
theorem dK_distance_30 : decode cK_distance 30 = .ok (.iload_n 2, 1) := by decide +kernel
theorem dK_distance_31 : decode cK_distance 31 = .ok (.iaload, 1) := by decide +kernel
theorem dK_distance_32 : decode cK_distance 32 = .ok (.goto 5, 3) := by decide +kernel
theorem dK_distance_35 : decode cK_distance 35 = .ok (.ldc 68, 2) := by decide +kernel
theorem dK_distance_37 : decode cK_distance 37 = .ok (.ireturn, 1) := by decide +kernel
theorem dK_hops_0 : decode cK_hops 0 = .ok (.iload_n 1, 1) := by decide +kernel
theorem dK_hops_1 : decode cK_hops 1 = .ok (.invokestatic 61, 3) := by decide +kernel
theorem dK_hops_4 : decode cK_hops 4 = .ok (.ifCond .eq 31, 3) := by decide +kernel
theorem dK_hops_7 : decode cK_hops 7 = .ok (.aload_n 0, 1) := by decide +kernel
theorem dK_hops_8 : decode cK_hops 8 = .ok (.getfield 10, 3) := by decide +kernel
theorem dK_hops_11 : decode cK_hops 11 = .ok (.iload_n 2, 1) := by decide +kernel
theorem dK_hops_12 : decode cK_hops 12 = .ok (.invokevirtual 65, 3) := by decide +kernel
theorem dK_hops_15 : decode cK_hops 15 = .ok (.ifCond .eq 20, 3) := by decide +kernel
theorem dK_hops_18 : decode cK_hops 18 = .ok (.aload_n 0, 1) := by decide +kernel
theorem dK_hops_19 : decode cK_hops 19 = .ok (.getfield 25, 3) := by decide +kernel
theorem dK_hops_22 : decode cK_hops 22 = .ok (.iload_n 1, 1) := by decide +kernel
theorem dK_hops_23 : decode cK_hops 23 = .ok (.aaload, 1) := by decide +kernel
theorem dK_hops_24 : decode cK_hops 24 = .ok (.getfield 118, 3) := by decide +kernel
theorem dK_hops_27 : decode cK_hops 27 = .ok (.getfield 124, 3) := by decide +kernel
theorem dK_hops_30 : decode cK_hops 30 = .ok (.iload_n 2, 1) := by decide +kernel
theorem dK_hops_31 : decode cK_hops 31 = .ok (.iaload, 1) := by decide +kernel
theorem dK_hops_32 : decode cK_hops 32 = .ok (.goto 5, 3) := by decide +kernel
theorem dK_hops_35 : decode cK_hops 35 = .ok (.ldc 68, 2) := by decide +kernel
theorem dK_hops_37 : decode cK_hops 37 = .ok (.ireturn, 1) := by decide +kernel
theorem dK_parent_0 : decode cK_parent 0 = .ok (.iload_n 1, 1) := by decide +kernel
theorem dK_parent_1 : decode cK_parent 1 = .ok (.invokestatic 61, 3) := by decide +kernel
theorem dK_parent_4 : decode cK_parent 4 = .ok (.ifCond .eq 31, 3) := by decide +kernel
theorem dK_parent_7 : decode cK_parent 7 = .ok (.aload_n 0, 1) := by decide +kernel
theorem dK_parent_8 : decode cK_parent 8 = .ok (.getfield 10, 3) := by decide +kernel
theorem dK_parent_11 : decode cK_parent 11 = .ok (.iload_n 2, 1) := by decide +kernel
theorem dK_parent_12 : decode cK_parent 12 = .ok (.invokevirtual 65, 3) := by decide +kernel
theorem dK_parent_15 : decode cK_parent 15 = .ok (.ifCond .eq 20, 3) := by decide +kernel
theorem dK_parent_18 : decode cK_parent 18 = .ok (.aload_n 0, 1) := by decide +kernel
theorem dK_parent_19 : decode cK_parent 19 = .ok (.getfield 25, 3) := by decide +kernel
theorem dK_parent_22 : decode cK_parent 22 = .ok (.iload_n 1, 1) := by decide +kernel
theorem dK_parent_23 : decode cK_parent 23 = .ok (.aaload, 1) := by decide +kernel
theorem dK_parent_24 : decode cK_parent 24 = .ok (.getfield 118, 3) := by decide +kernel
theorem dK_parent_27 : decode cK_parent 27 = .ok (.getfield 127, 3) := by decide +kernel
theorem dK_parent_30 : decode cK_parent 30 = .ok (.iload_n 2, 1) := by decide +kernel
theorem dK_parent_31 : decode cK_parent 31 = .ok (.iaload, 1) := by decide +kernel
theorem dK_parent_32 : decode cK_parent 32 = .ok (.goto 5, 3) := by decide +kernel
theorem dK_parent_35 : decode cK_parent 35 = .ok (.ldc 68, 2) := by decide +kernel
theorem dK_parent_37 : decode cK_parent 37 = .ok (.ireturn, 1) := by decide +kernel
theorem dK_way_0 : decode cK_way 0 = .ok (.iload_n 1, 1) := by decide +kernel
theorem dK_way_1 : decode cK_way 1 = .ok (.invokestatic 61, 3) := by decide +kernel
theorem dK_way_4 : decode cK_way 4 = .ok (.ifCond .eq 14, 3) := by decide +kernel
theorem dK_way_7 : decode cK_way 7 = .ok (.aload_n 0, 1) := by decide +kernel
theorem dK_way_8 : decode cK_way 8 = .ok (.getfield 10, 3) := by decide +kernel
theorem dK_way_11 : decode cK_way 11 = .ok (.iload_n 2, 1) := by decide +kernel
theorem dK_way_12 : decode cK_way 12 = .ok (.invokevirtual 65, 3) := by decide +kernel
theorem dK_way_15 : decode cK_way 15 = .ok (.ifCond .ne 6, 3) := by decide +kernel
theorem dK_way_18 : decode cK_way 18 = .ok (.ldc 68, 2) := by decide +kernel
theorem dK_way_20 : decode cK_way 20 = .ok (.ireturn, 1) := by decide +kernel
theorem dK_way_21 : decode cK_way 21 = .ok (.aload_n 0, 1) := by decide +kernel
theorem dK_way_22 : decode cK_way 22 = .ok (.getfield 25, 3) := by decide +kernel
theorem dK_way_25 : decode cK_way 25 = .ok (.iload_n 1, 1) := by decide +kernel
theorem dK_way_26 : decode cK_way 26 = .ok (.aaload, 1) := by decide +kernel
theorem dK_way_27 : decode cK_way 27 = .ok (.getfield 118, 3) := by decide +kernel
theorem dK_way_30 : decode cK_way 30 = .ok (.astore 4, 2) := by decide +kernel
theorem dK_way_32 : decode cK_way 32 = .ok (.aload 4, 2) := by decide +kernel
theorem dK_way_34 : decode cK_way 34 = .ok (.iload_n 2, 1) := by decide +kernel
theorem dK_way_35 : decode cK_way 35 = .ok (.invokevirtual 130, 3) := by decide +kernel
theorem dK_way_38 : decode cK_way 38 = .ok (.ifCond .ne 6, 3) := by decide +kernel
theorem dK_way_41 : decode cK_way 41 = .ok (.ldc 101, 2) := by decide +kernel
theorem dK_way_43 : decode cK_way 43 = .ok (.ireturn, 1) := by decide +kernel
theorem dK_way_44 : decode cK_way 44 = .ok (.aload 4, 2) := by decide +kernel
theorem dK_way_46 : decode cK_way 46 = .ok (.iload_n 2, 1) := by decide +kernel
theorem dK_way_47 : decode cK_way 47 = .ok (.invokevirtual 133, 3) := by decide +kernel
theorem dK_way_50 : decode cK_way 50 = .ok (.istore 5, 2) := by decide +kernel
theorem dK_way_52 : decode cK_way 52 = .ok (.iload_n 3, 1) := by decide +kernel
theorem dK_way_53 : decode cK_way 53 = .ok (.iconst (-1), 1) := by decide +kernel
theorem dK_way_54 : decode cK_way 54 = .ok (.if_icmp .ne 6, 3) := by decide +kernel
theorem dK_way_57 : decode cK_way 57 = .ok (.iload 5, 2) := by decide +kernel
theorem dK_way_59 : decode cK_way 59 = .ok (.ireturn, 1) := by decide +kernel
theorem dK_way_60 : decode cK_way 60 = .ok (.iload_n 3, 1) := by decide +kernel
theorem dK_way_61 : decode cK_way 61 = .ok (.ifCond .lt 19, 3) := by decide +kernel
theorem dK_way_64 : decode cK_way 64 = .ok (.iload_n 3, 1) := by decide +kernel
theorem dK_way_65 : decode cK_way 65 = .ok (.iload 5, 2) := by decide +kernel
theorem dK_way_67 : decode cK_way 67 = .ok (.if_icmp .ge 13, 3) := by decide +kernel
theorem dK_way_70 : decode cK_way 70 = .ok (.aload 4, 2) := by decide +kernel
theorem dK_way_72 : decode cK_way 72 = .ok (.iload_n 2, 1) := by decide +kernel
theorem dK_way_73 : decode cK_way 73 = .ok (.iload_n 3, 1) := by decide +kernel
theorem dK_way_74 : decode cK_way 74 = .ok (.invokevirtual 137, 3) := by decide +kernel
theorem dK_way_77 : decode cK_way 77 = .ok (.goto 5, 3) := by decide +kernel
theorem dK_way_80 : decode cK_way 80 = .ok (.ldc 68, 2) := by decide +kernel
theorem dK_way_82 : decode cK_way 82 = .ok (.ireturn, 1) := by decide +kernel
theorem dK_affected_0 : decode cK_affected 0 = .ok (.iload_n 1, 1) := by decide +kernel
theorem dK_affected_1 : decode cK_affected 1 = .ok (.invokestatic 61, 3) := by decide +kernel
theorem dK_affected_4 : decode cK_affected 4 = .ok (.ifCond .eq 15, 3) := by decide +kernel
theorem dK_affected_7 : decode cK_affected 7 = .ok (.aload_n 0, 1) := by decide +kernel
theorem dK_affected_8 : decode cK_affected 8 = .ok (.getfield 25, 3) := by decide +kernel
theorem dK_affected_11 : decode cK_affected 11 = .ok (.iload_n 1, 1) := by decide +kernel
theorem dK_affected_12 : decode cK_affected 12 = .ok (.aaload, 1) := by decide +kernel
theorem dK_affected_13 : decode cK_affected 13 = .ok (.getfield 140, 3) := by decide +kernel
theorem dK_affected_16 : decode cK_affected 16 = .ok (.goto 5, 3) := by decide +kernel
theorem dK_affected_19 : decode cK_affected 19 = .ok (.ldc 68, 2) := by decide +kernel
theorem dK_affected_21 : decode cK_affected 21 = .ok (.ireturn, 1) := by decide +kernel
theorem dK_tight_0 : decode cK_tight 0 = .ok (.iload_n 1, 1) := by decide +kernel
theorem dK_tight_1 : decode cK_tight 1 = .ok (.invokestatic 61, 3) := by decide +kernel
theorem dK_tight_4 : decode cK_tight 4 = .ok (.ifCond .eq 18, 3) := by decide +kernel
theorem dK_tight_7 : decode cK_tight 7 = .ok (.aload_n 0, 1) := by decide +kernel
theorem dK_tight_8 : decode cK_tight 8 = .ok (.getfield 25, 3) := by decide +kernel
theorem dK_tight_11 : decode cK_tight 11 = .ok (.iload_n 1, 1) := by decide +kernel
theorem dK_tight_12 : decode cK_tight 12 = .ok (.aaload, 1) := by decide +kernel
theorem dK_tight_13 : decode cK_tight 13 = .ok (.getfield 118, 3) := by decide +kernel
theorem dK_tight_16 : decode cK_tight 16 = .ok (.getfield 143, 3) := by decide +kernel
theorem dK_tight_19 : decode cK_tight 19 = .ok (.goto 5, 3) := by decide +kernel
theorem dK_tight_22 : decode cK_tight 22 = .ok (.ldc 68, 2) := by decide +kernel
theorem dK_tight_24 : decode cK_tight 24 = .ok (.ireturn, 1) := by decide +kernel
theorem dK_ring_0 : decode cK_ring 0 = .ok (.iload_n 1, 1) := by decide +kernel
theorem dK_ring_1 : decode cK_ring 1 = .ok (.iconst (-1), 1) := by decide +kernel
theorem dK_ring_2 : decode cK_ring 2 = .ok (.if_icmp .ne 8, 3) := by decide +kernel
theorem dK_ring_5 : decode cK_ring 5 = .ok (.aload_n 0, 1) := by decide +kernel
theorem dK_ring_6 : decode cK_ring 6 = .ok (.getfield 40, 3) := by decide +kernel
theorem dK_ring_9 : decode cK_ring 9 = .ok (.ireturn, 1) := by decide +kernel
theorem dK_ring_10 : decode cK_ring 10 = .ok (.iload_n 1, 1) := by decide +kernel
theorem dK_ring_11 : decode cK_ring 11 = .ok (.ifCond .lt 20, 3) := by decide +kernel
theorem dK_ring_14 : decode cK_ring 14 = .ok (.iload_n 1, 1) := by decide +kernel
theorem dK_ring_15 : decode cK_ring 15 = .ok (.aload_n 0, 1) := by decide +kernel
theorem dK_ring_16 : decode cK_ring 16 = .ok (.getfield 40, 3) := by decide +kernel
theorem dK_ring_19 : decode cK_ring 19 = .ok (.if_icmp .ge 12, 3) := by decide +kernel
theorem dK_ring_22 : decode cK_ring 22 = .ok (.aload_n 0, 1) := by decide +kernel
theorem dK_ring_23 : decode cK_ring 23 = .ok (.getfield 36, 3) := by decide +kernel
theorem dK_ring_26 : decode cK_ring 26 = .ok (.iload_n 1, 1) := by decide +kernel
theorem dK_ring_27 : decode cK_ring 27 = .ok (.iaload, 1) := by decide +kernel
theorem dK_ring_28 : decode cK_ring 28 = .ok (.goto 5, 3) := by decide +kernel
theorem dK_ring_31 : decode cK_ring 31 = .ok (.ldc 68, 2) := by decide +kernel
theorem dK_ring_33 : decode cK_ring 33 = .ok (.ireturn, 1) := by decide +kernel
theorem dK_count_0 : decode cK_count 0 = .ok (.iload_n 1, 1) := by decide +kernel
theorem dK_count_1 : decode cK_count 1 = .ok (.tableswitch 89 0 5 #[39, 47, 55, 63, 71, 84], 39) := by decide +kernel
theorem dK_count_40 : decode cK_count 40 = .ok (.aload_n 0, 1) := by decide +kernel
theorem dK_count_41 : decode cK_count 41 = .ok (.getfield 10, 3) := by decide +kernel
theorem dK_count_44 : decode cK_count 44 = .ok (.getfield 53, 3) := by decide +kernel
theorem dK_count_47 : decode cK_count 47 = .ok (.ireturn, 1) := by decide +kernel
theorem dK_count_48 : decode cK_count 48 = .ok (.aload_n 0, 1) := by decide +kernel
theorem dK_count_49 : decode cK_count 49 = .ok (.getfield 10, 3) := by decide +kernel
theorem dK_count_52 : decode cK_count 52 = .ok (.getfield 146, 3) := by decide +kernel
theorem dK_count_55 : decode cK_count 55 = .ok (.ireturn, 1) := by decide +kernel
theorem dK_count_56 : decode cK_count 56 = .ok (.aload_n 0, 1) := by decide +kernel
theorem dK_count_57 : decode cK_count 57 = .ok (.getfield 19, 3) := by decide +kernel
theorem dK_count_60 : decode cK_count 60 = .ok (.getfield 111, 3) := by decide +kernel
theorem dK_count_63 : decode cK_count 63 = .ok (.ireturn, 1) := by decide +kernel
theorem dK_count_64 : decode cK_count 64 = .ok (.aload_n 0, 1) := by decide +kernel
theorem dK_count_65 : decode cK_count 65 = .ok (.getfield 19, 3) := by decide +kernel
theorem dK_count_68 : decode cK_count 68 = .ok (.invokevirtual 102, 3) := by decide +kernel
theorem dK_count_71 : decode cK_count 71 = .ok (.ireturn, 1) := by decide +kernel
theorem dK_count_72 : decode cK_count 72 = .ok (.aload_n 0, 1) := by decide +kernel
theorem dK_count_73 : decode cK_count 73 = .ok (.getfield 44, 3) := by decide +kernel
theorem dK_count_76 : decode cK_count 76 = .ok (.ifCond .eq 7, 3) := by decide +kernel
theorem dK_count_79 : decode cK_count 79 = .ok (.iconst 1, 1) := by decide +kernel
theorem dK_count_80 : decode cK_count 80 = .ok (.goto 4, 3) := by decide +kernel
theorem dK_count_83 : decode cK_count 83 = .ok (.iconst 0, 1) := by decide +kernel
theorem dK_count_84 : decode cK_count 84 = .ok (.ireturn, 1) := by decide +kernel
theorem dK_count_85 : decode cK_count 85 = .ok (.aload_n 0, 1) := by decide +kernel
theorem dK_count_86 : decode cK_count 86 = .ok (.getfield 48, 3) := by decide +kernel
theorem dK_count_89 : decode cK_count 89 = .ok (.ireturn, 1) := by decide +kernel
theorem dK_count_90 : decode cK_count 90 = .ok (.ldc 68, 2) := by decide +kernel
theorem dK_count_92 : decode cK_count 92 = .ok (.ireturn, 1) := by decide +kernel
theorem dK_isSource_0 : decode cK_isSource 0 = .ok (.iload_n 0, 1) := by decide +kernel
theorem dK_isSource_1 : decode cK_isSource 1 = .ok (.ifCond .lt 12, 3) := by decide +kernel
theorem dK_isSource_4 : decode cK_isSource 4 = .ok (.iload_n 0, 1) := by decide +kernel
theorem dK_isSource_5 : decode cK_isSource 5 = .ok (.iconst 3, 1) := by decide +kernel
theorem dK_isSource_6 : decode cK_isSource 6 = .ok (.if_icmp .ge 7, 3) := by decide +kernel
theorem dK_isSource_9 : decode cK_isSource 9 = .ok (.iconst 1, 1) := by decide +kernel
theorem dK_isSource_10 : decode cK_isSource 10 = .ok (.goto 4, 3) := by decide +kernel
theorem dK_isSource_13 : decode cK_isSource 13 = .ok (.iconst 0, 1) := by decide +kernel
theorem dK_isSource_14 : decode cK_isSource 14 = .ok (.ireturn, 1) := by decide +kernel
theorem dK_isBatchFull_0 : decode cK_isBatchFull 0 = .ok (.aload_n 0, 1) := by decide +kernel
theorem dK_isBatchFull_1 : decode cK_isBatchFull 1 = .ok (.getfield 44, 3) := by decide +kernel
theorem dK_isBatchFull_4 : decode cK_isBatchFull 4 = .ok (.ifCond .eq 19, 3) := by decide +kernel
theorem dK_isBatchFull_7 : decode cK_isBatchFull 7 = .ok (.aload_n 0, 1) := by decide +kernel
theorem dK_isBatchFull_8 : decode cK_isBatchFull 8 = .ok (.getfield 19, 3) := by decide +kernel
theorem dK_isBatchFull_11 : decode cK_isBatchFull 11 = .ok (.invokevirtual 102, 3) := by decide +kernel
theorem dK_isBatchFull_14 : decode cK_isBatchFull 14 = .ok (.bipush 30, 2) := by decide +kernel
theorem dK_isBatchFull_16 : decode cK_isBatchFull 16 = .ok (.if_icmp .lt 7, 3) := by decide +kernel
theorem dK_isBatchFull_19 : decode cK_isBatchFull 19 = .ok (.iconst 1, 1) := by decide +kernel
theorem dK_isBatchFull_20 : decode cK_isBatchFull 20 = .ok (.goto 4, 3) := by decide +kernel
theorem dK_isBatchFull_23 : decode cK_isBatchFull 23 = .ok (.iconst 0, 1) := by decide +kernel
theorem dK_isBatchFull_24 : decode cK_isBatchFull 24 = .ok (.ireturn, 1) := by decide +kernel
theorem dK_wouldFall_0 : decode cK_wouldFall 0 = .ok (.aload_n 0, 1) := by decide +kernel
theorem dK_wouldFall_1 : decode cK_wouldFall 1 = .ok (.getfield 32, 3) := by decide +kernel
theorem dK_wouldFall_4 : decode cK_wouldFall 4 = .ok (.aload_n 0, 1) := by decide +kernel
theorem dK_wouldFall_5 : decode cK_wouldFall 5 = .ok (.getfield 10, 3) := by decide +kernel
theorem dK_wouldFall_8 : decode cK_wouldFall 8 = .ok (.iload_n 2, 1) := by decide +kernel
theorem dK_wouldFall_9 : decode cK_wouldFall 9 = .ok (.invokevirtual 149, 3) := by decide +kernel
theorem dK_wouldFall_12 : decode cK_wouldFall 12 = .ok (.aload_n 0, 1) := by decide +kernel
theorem dK_wouldFall_13 : decode cK_wouldFall 13 = .ok (.getfield 32, 3) := by decide +kernel
theorem dK_wouldFall_16 : decode cK_wouldFall 16 = .ok (.iload_n 1, 1) := by decide +kernel
theorem dK_wouldFall_17 : decode cK_wouldFall 17 = .ok (.invokevirtual 130, 3) := by decide +kernel
theorem dK_wouldFall_20 : decode cK_wouldFall 20 = .ok (.ifCond .eq 21, 3) := by decide +kernel
theorem dK_wouldFall_23 : decode cK_wouldFall 23 = .ok (.aload_n 0, 1) := by decide +kernel
theorem dK_wouldFall_24 : decode cK_wouldFall 24 = .ok (.getfield 32, 3) := by decide +kernel
theorem dK_wouldFall_27 : decode cK_wouldFall 27 = .ok (.getfield 121, 3) := by decide +kernel
theorem dK_wouldFall_30 : decode cK_wouldFall 30 = .ok (.iload_n 1, 1) := by decide +kernel
theorem dK_wouldFall_31 : decode cK_wouldFall 31 = .ok (.iaload, 1) := by decide +kernel
theorem dK_wouldFall_32 : decode cK_wouldFall 32 = .ok (.iload_n 3, 1) := by decide +kernel
theorem dK_wouldFall_33 : decode cK_wouldFall 33 = .ok (.iadd, 1) := by decide +kernel
theorem dK_wouldFall_34 : decode cK_wouldFall 34 = .ok (.ifCond .ge 7, 3) := by decide +kernel
theorem dK_wouldFall_37 : decode cK_wouldFall 37 = .ok (.iconst 1, 1) := by decide +kernel
theorem dK_wouldFall_38 : decode cK_wouldFall 38 = .ok (.goto 4, 3) := by decide +kernel
theorem dK_wouldFall_41 : decode cK_wouldFall 41 = .ok (.iconst 0, 1) := by decide +kernel
theorem dK_wouldFall_42 : decode cK_wouldFall 42 = .ok (.ireturn, 1) := by decide +kernel
theorem dK_keepRing_0 : decode cK_keepRing 0 = .ok (.aload_n 0, 1) := by decide +kernel
theorem dK_keepRing_1 : decode cK_keepRing 1 = .ok (.aload_n 0, 1) := by decide +kernel
theorem dK_keepRing_2 : decode cK_keepRing 2 = .ok (.getfield 32, 3) := by decide +kernel
theorem dK_keepRing_5 : decode cK_keepRing 5 = .ok (.iload_n 1, 1) := by decide +kernel
theorem dK_keepRing_6 : decode cK_keepRing 6 = .ok (.invokevirtual 133, 3) := by decide +kernel
theorem dK_keepRing_9 : decode cK_keepRing 9 = .ok (.putfield 40, 3) := by decide +kernel
theorem dK_keepRing_12 : decode cK_keepRing 12 = .ok (.iconst 0, 1) := by decide +kernel
theorem dK_keepRing_13 : decode cK_keepRing 13 = .ok (.istore_n 2, 1) := by decide +kernel
theorem dK_keepRing_14 : decode cK_keepRing 14 = .ok (.iload_n 2, 1) := by decide +kernel
theorem dK_keepRing_15 : decode cK_keepRing 15 = .ok (.aload_n 0, 1) := by decide +kernel
theorem dK_keepRing_16 : decode cK_keepRing 16 = .ok (.getfield 40, 3) := by decide +kernel
theorem dK_keepRing_19 : decode cK_keepRing 19 = .ok (.if_icmp .ge 24, 3) := by decide +kernel
theorem dK_keepRing_22 : decode cK_keepRing 22 = .ok (.aload_n 0, 1) := by decide +kernel
theorem dK_keepRing_23 : decode cK_keepRing 23 = .ok (.getfield 36, 3) := by decide +kernel
theorem dK_keepRing_26 : decode cK_keepRing 26 = .ok (.iload_n 2, 1) := by decide +kernel
theorem dK_keepRing_27 : decode cK_keepRing 27 = .ok (.aload_n 0, 1) := by decide +kernel
theorem dK_keepRing_28 : decode cK_keepRing 28 = .ok (.getfield 32, 3) := by decide +kernel
theorem dK_keepRing_31 : decode cK_keepRing 31 = .ok (.iload_n 1, 1) := by decide +kernel
theorem dK_keepRing_32 : decode cK_keepRing 32 = .ok (.iload_n 2, 1) := by decide +kernel
theorem dK_keepRing_33 : decode cK_keepRing 33 = .ok (.invokevirtual 137, 3) := by decide +kernel
theorem dK_keepRing_36 : decode cK_keepRing 36 = .ok (.iastore, 1) := by decide +kernel
theorem dK_keepRing_37 : decode cK_keepRing 37 = .ok (.iinc 2 1, 3) := by decide +kernel
theorem dK_keepRing_40 : decode cK_keepRing 40 = .ok (.goto (-26), 3) := by decide +kernel
theorem dK_keepRing_43 : decode cK_keepRing 43 = .ok (.return_, 1) := by decide +kernel
theorem dK_change_0 : decode cK_change 0 = .ok (.aload_n 0, 1) := by decide +kernel
theorem dK_change_1 : decode cK_change 1 = .ok (.getfield 10, 3) := by decide +kernel
theorem dK_change_4 : decode cK_change 4 = .ok (.iload_n 1, 1) := by decide +kernel
theorem dK_change_5 : decode cK_change 5 = .ok (.iload_n 2, 1) := by decide +kernel
theorem dK_change_6 : decode cK_change 6 = .ok (.invokevirtual 97, 3) := by decide +kernel
theorem dK_change_9 : decode cK_change 9 = .ok (.istore 4, 2) := by decide +kernel
theorem dK_change_11 : decode cK_change 11 = .ok (.aload_n 0, 1) := by decide +kernel
theorem dK_change_12 : decode cK_change 12 = .ok (.getfield 19, 3) := by decide +kernel
theorem dK_change_15 : decode cK_change 15 = .ok (.iload_n 1, 1) := by decide +kernel
theorem dK_change_16 : decode cK_change 16 = .ok (.iload_n 2, 1) := by decide +kernel
theorem dK_change_17 : decode cK_change 17 = .ok (.iload 4, 2) := by decide +kernel
theorem dK_change_19 : decode cK_change 19 = .ok (.invokevirtual 153, 3) := by decide +kernel
theorem dK_change_22 : decode cK_change 22 = .ok (.aload_n 0, 1) := by decide +kernel
theorem dK_change_23 : decode cK_change 23 = .ok (.getfield 10, 3) := by decide +kernel
theorem dK_change_26 : decode cK_change 26 = .ok (.iload_n 1, 1) := by decide +kernel
theorem dK_change_27 : decode cK_change 27 = .ok (.iload_n 2, 1) := by decide +kernel
theorem dK_change_28 : decode cK_change 28 = .ok (.iload_n 3, 1) := by decide +kernel
theorem dK_change_29 : decode cK_change 29 = .ok (.invokevirtual 157, 3) := by decide +kernel
theorem dK_change_32 : decode cK_change 32 = .ok (.aload_n 0, 1) := by decide +kernel
theorem dK_change_33 : decode cK_change 33 = .ok (.dup, 1) := by decide +kernel
theorem dK_change_34 : decode cK_change 34 = .ok (.getfield 48, 3) := by decide +kernel
theorem dK_change_37 : decode cK_change 37 = .ok (.iconst 1, 1) := by decide +kernel
theorem dK_change_38 : decode cK_change 38 = .ok (.iadd, 1) := by decide +kernel
theorem dK_change_39 : decode cK_change 39 = .ok (.putfield 48, 3) := by decide +kernel
theorem dK_change_42 : decode cK_change 42 = .ok (.aload_n 0, 1) := by decide +kernel
theorem dK_change_43 : decode cK_change 43 = .ok (.getfield 44, 3) := by decide +kernel
theorem dK_change_46 : decode cK_change 46 = .ok (.ifCond .ne 14, 3) := by decide +kernel
theorem dK_change_49 : decode cK_change 49 = .ok (.aload_n 0, 1) := by decide +kernel
theorem dK_change_50 : decode cK_change 50 = .ok (.getfield 19, 3) := by decide +kernel
theorem dK_change_53 : decode cK_change 53 = .ok (.invokevirtual 105, 3) := by decide +kernel
theorem dK_change_56 : decode cK_change 56 = .ok (.aload_n 0, 1) := by decide +kernel
theorem dK_change_57 : decode cK_change 57 = .ok (.invokevirtual 108, 3) := by decide +kernel
theorem dK_change_60 : decode cK_change 60 = .ok (.iload 4, 2) := by decide +kernel
theorem dK_change_62 : decode cK_change 62 = .ok (.ireturn, 1) := by decide +kernel
theorem dK_recountSources_0 : decode cK_recountSources 0 = .ok (.iconst 0, 1) := by decide +kernel
theorem dK_recountSources_1 : decode cK_recountSources 1 = .ok (.istore_n 1, 1) := by decide +kernel
theorem dK_recountSources_2 : decode cK_recountSources 2 = .ok (.iload_n 1, 1) := by decide +kernel
theorem dK_recountSources_3 : decode cK_recountSources 3 = .ok (.iconst 3, 1) := by decide +kernel
theorem dK_recountSources_4 : decode cK_recountSources 4 = .ok (.if_icmp .ge 22, 3) := by decide +kernel
theorem dK_recountSources_7 : decode cK_recountSources 7 = .ok (.aload_n 0, 1) := by decide +kernel
theorem dK_recountSources_8 : decode cK_recountSources 8 = .ok (.getfield 25, 3) := by decide +kernel
theorem dK_recountSources_11 : decode cK_recountSources 11 = .ok (.iload_n 1, 1) := by decide +kernel
theorem dK_recountSources_12 : decode cK_recountSources 12 = .ok (.aaload, 1) := by decide +kernel
theorem dK_recountSources_13 : decode cK_recountSources 13 = .ok (.aload_n 0, 1) := by decide +kernel
theorem dK_recountSources_14 : decode cK_recountSources 14 = .ok (.getfield 10, 3) := by decide +kernel
theorem dK_recountSources_17 : decode cK_recountSources 17 = .ok (.invokevirtual 160, 3) := by decide +kernel
theorem dK_recountSources_20 : decode cK_recountSources 20 = .ok (.iinc 1 1, 3) := by decide +kernel
theorem dK_recountSources_23 : decode cK_recountSources 23 = .ok (.goto (-21), 3) := by decide +kernel
theorem dK_recountSources_26 : decode cK_recountSources 26 = .ok (.return_, 1) := by decide +kernel
end
section
theorem dL_init_0 : decode cL_init 0 = .ok (.aload_n 0, 1) := by decide +kernel
theorem dL_init_1 : decode cL_init 1 = .ok (.invokespecial 3, 3) := by decide +kernel
theorem dL_init_4 : decode cL_init 4 = .ok (.aload_n 0, 1) := by decide +kernel
theorem dL_init_5 : decode cL_init 5 = .ok (.bipush 24, 2) := by decide +kernel
theorem dL_init_7 : decode cL_init 7 = .ok (.newarray .int, 2) := by decide +kernel
theorem dL_init_9 : decode cL_init 9 = .ok (.putfield 9, 3) := by decide +kernel
theorem dL_init_12 : decode cL_init 12 = .ok (.aload_n 0, 1) := by decide +kernel
theorem dL_init_13 : decode cL_init 13 = .ok (.bipush 24, 2) := by decide +kernel
theorem dL_init_15 : decode cL_init 15 = .ok (.newarray .int, 2) := by decide +kernel
theorem dL_init_17 : decode cL_init 17 = .ok (.putfield 15, 3) := by decide +kernel
theorem dL_init_20 : decode cL_init 20 = .ok (.aload_n 0, 1) := by decide +kernel
theorem dL_init_21 : decode cL_init 21 = .ok (.bipush 24, 2) := by decide +kernel
theorem dL_init_23 : decode cL_init 23 = .ok (.newarray .int, 2) := by decide +kernel
theorem dL_init_25 : decode cL_init 25 = .ok (.putfield 18, 3) := by decide +kernel
theorem dL_init_28 : decode cL_init 28 = .ok (.aload_n 0, 1) := by decide +kernel
theorem dL_init_29 : decode cL_init 29 = .ok (.iconst 0, 1) := by decide +kernel
theorem dL_init_30 : decode cL_init 30 = .ok (.putfield 21, 3) := by decide +kernel
theorem dL_init_33 : decode cL_init 33 = .ok (.aload_n 0, 1) := by decide +kernel
theorem dL_init_34 : decode cL_init 34 = .ok (.invokevirtual 25, 3) := by decide +kernel
theorem dL_init_37 : decode cL_init 37 = .ok (.return_, 1) := by decide +kernel
theorem dL_clear_0 : decode cL_clear 0 = .ok (.aload_n 0, 1) := by decide +kernel
theorem dL_clear_1 : decode cL_clear 1 = .ok (.getfield 9, 3) := by decide +kernel
theorem dL_clear_4 : decode cL_clear 4 = .ok (.ldc 28, 2) := by decide +kernel
theorem dL_clear_6 : decode cL_clear 6 = .ok (.invokestatic 29, 3) := by decide +kernel
theorem dL_clear_9 : decode cL_clear 9 = .ok (.aload_n 0, 1) := by decide +kernel
theorem dL_clear_10 : decode cL_clear 10 = .ok (.getfield 15, 3) := by decide +kernel
theorem dL_clear_13 : decode cL_clear 13 = .ok (.ldc 28, 2) := by decide +kernel
theorem dL_clear_15 : decode cL_clear 15 = .ok (.invokestatic 29, 3) := by decide +kernel
theorem dL_clear_18 : decode cL_clear 18 = .ok (.aload_n 0, 1) := by decide +kernel
theorem dL_clear_19 : decode cL_clear 19 = .ok (.getfield 18, 3) := by decide +kernel
theorem dL_clear_22 : decode cL_clear 22 = .ok (.ldc 28, 2) := by decide +kernel
theorem dL_clear_24 : decode cL_clear 24 = .ok (.invokestatic 29, 3) := by decide +kernel
theorem dL_clear_27 : decode cL_clear 27 = .ok (.aload_n 0, 1) := by decide +kernel
theorem dL_clear_28 : decode cL_clear 28 = .ok (.iconst 0, 1) := by decide +kernel
theorem dL_clear_29 : decode cL_clear 29 = .ok (.putfield 21, 3) := by decide +kernel
theorem dL_clear_32 : decode cL_clear 32 = .ok (.return_, 1) := by decide +kernel
theorem dL_settle_0 : decode cL_settle 0 = .ok (.aload_n 0, 1) := by decide +kernel
theorem dL_settle_1 : decode cL_settle 1 = .ok (.invokevirtual 25, 3) := by decide +kernel
theorem dL_settle_4 : decode cL_settle 4 = .ok (.aload_n 1, 1) := by decide +kernel
theorem dL_settle_5 : decode cL_settle 5 = .ok (.iload_n 2, 1) := by decide +kernel
theorem dL_settle_6 : decode cL_settle 6 = .ok (.invokevirtual 35, 3) := by decide +kernel
theorem dL_settle_9 : decode cL_settle 9 = .ok (.ifCond .ne 4, 3) := by decide +kernel
theorem dL_settle_12 : decode cL_settle 12 = .ok (.return_, 1) := by decide +kernel
theorem dL_settle_13 : decode cL_settle 13 = .ok (.aload_n 0, 1) := by decide +kernel
theorem dL_settle_14 : decode cL_settle 14 = .ok (.getfield 9, 3) := by decide +kernel
theorem dL_settle_17 : decode cL_settle 17 = .ok (.iload_n 2, 1) := by decide +kernel
theorem dL_settle_18 : decode cL_settle 18 = .ok (.iconst 0, 1) := by decide +kernel
theorem dL_settle_19 : decode cL_settle 19 = .ok (.iastore, 1) := by decide +kernel
theorem dL_settle_20 : decode cL_settle 20 = .ok (.aload_n 0, 1) := by decide +kernel
theorem dL_settle_21 : decode cL_settle 21 = .ok (.getfield 15, 3) := by decide +kernel
theorem dL_settle_24 : decode cL_settle 24 = .ok (.iload_n 2, 1) := by decide +kernel
theorem dL_settle_25 : decode cL_settle 25 = .ok (.iconst 0, 1) := by decide +kernel
theorem dL_settle_26 : decode cL_settle 26 = .ok (.iastore, 1) := by decide +kernel
theorem dL_settle_27 : decode cL_settle 27 = .ok (.iconst 1, 1) := by decide +kernel
theorem dL_settle_28 : decode cL_settle 28 = .ok (.iload_n 2, 1) := by decide +kernel
theorem dL_settle_29 : decode cL_settle 29 = .ok (.ishl, 1) := by decide +kernel
theorem dL_settle_30 : decode cL_settle 30 = .ok (.istore_n 3, 1) := by decide +kernel
theorem dL_settle_31 : decode cL_settle 31 = .ok (.iconst 0, 1) := by decide +kernel
theorem dL_settle_32 : decode cL_settle 32 = .ok (.istore 4, 2) := by decide +kernel
theorem dL_settle_34 : decode cL_settle 34 = .ok (.iload 4, 2) := by decide +kernel
theorem dL_settle_36 : decode cL_settle 36 = .ok (.aload_n 1, 1) := by decide +kernel
theorem dL_settle_37 : decode cL_settle 37 = .ok (.getfield 41, 3) := by decide +kernel
theorem dL_settle_40 : decode cL_settle 40 = .ok (.if_icmp .ge 56, 3) := by decide +kernel
theorem dL_settle_43 : decode cL_settle 43 = .ok (.iload_n 3, 1) := by decide +kernel
theorem dL_settle_44 : decode cL_settle 44 = .ok (.ifCond .eq 52, 3) := by decide +kernel
theorem dL_settle_47 : decode cL_settle 47 = .ok (.iload_n 3, 1) := by decide +kernel
theorem dL_settle_48 : decode cL_settle 48 = .ok (.istore 5, 2) := by decide +kernel
theorem dL_settle_50 : decode cL_settle 50 = .ok (.iconst 0, 1) := by decide +kernel
theorem dL_settle_51 : decode cL_settle 51 = .ok (.istore_n 3, 1) := by decide +kernel
theorem dL_settle_52 : decode cL_settle 52 = .ok (.iconst 0, 1) := by decide +kernel
theorem dL_settle_53 : decode cL_settle 53 = .ok (.istore 6, 2) := by decide +kernel
theorem dL_settle_55 : decode cL_settle 55 = .ok (.iload 6, 2) := by decide +kernel
theorem dL_settle_57 : decode cL_settle 57 = .ok (.aload_n 1, 1) := by decide +kernel
theorem dL_settle_58 : decode cL_settle 58 = .ok (.getfield 41, 3) := by decide +kernel
theorem dL_settle_61 : decode cL_settle 61 = .ok (.if_icmp .ge 29, 3) := by decide +kernel
theorem dL_settle_64 : decode cL_settle 64 = .ok (.iload 5, 2) := by decide +kernel
theorem dL_settle_66 : decode cL_settle 66 = .ok (.iload 6, 2) := by decide +kernel
theorem dL_settle_68 : decode cL_settle 68 = .ok (.ishr, 1) := by decide +kernel
theorem dL_settle_69 : decode cL_settle 69 = .ok (.iconst 1, 1) := by decide +kernel
theorem dL_settle_70 : decode cL_settle 70 = .ok (.iand, 1) := by decide +kernel
theorem dL_settle_71 : decode cL_settle 71 = .ok (.ifCond .eq 13, 3) := by decide +kernel
theorem dL_settle_74 : decode cL_settle 74 = .ok (.iload_n 3, 1) := by decide +kernel
theorem dL_settle_75 : decode cL_settle 75 = .ok (.aload_n 0, 1) := by decide +kernel
theorem dL_settle_76 : decode cL_settle 76 = .ok (.iload 6, 2) := by decide +kernel
theorem dL_settle_78 : decode cL_settle 78 = .ok (.aload_n 1, 1) := by decide +kernel
theorem dL_settle_79 : decode cL_settle 79 = .ok (.invokevirtual 44, 3) := by decide +kernel
theorem dL_settle_82 : decode cL_settle 82 = .ok (.ior, 1) := by decide +kernel
theorem dL_settle_83 : decode cL_settle 83 = .ok (.istore_n 3, 1) := by decide +kernel
theorem dL_settle_84 : decode cL_settle 84 = .ok (.iinc 6 1, 3) := by decide +kernel
theorem dL_settle_87 : decode cL_settle 87 = .ok (.goto (-32), 3) := by decide +kernel
theorem dL_settle_90 : decode cL_settle 90 = .ok (.iinc 4 1, 3) := by decide +kernel
theorem dL_settle_93 : decode cL_settle 93 = .ok (.goto (-59), 3) := by decide +kernel
theorem dL_settle_96 : decode cL_settle 96 = .ok (.iconst 0, 1) := by decide +kernel
theorem dL_settle_97 : decode cL_settle 97 = .ok (.istore 4, 2) := by decide +kernel
theorem dL_settle_99 : decode cL_settle 99 = .ok (.iload 4, 2) := by decide +kernel
theorem dL_settle_101 : decode cL_settle 101 = .ok (.aload_n 1, 1) := by decide +kernel
theorem dL_settle_102 : decode cL_settle 102 = .ok (.getfield 41, 3) := by decide +kernel
theorem dL_settle_105 : decode cL_settle 105 = .ok (.if_icmp .ge 25, 3) := by decide +kernel
theorem dL_settle_108 : decode cL_settle 108 = .ok (.aload_n 0, 1) := by decide +kernel
theorem dL_settle_109 : decode cL_settle 109 = .ok (.iload 4, 2) := by decide +kernel
theorem dL_settle_111 : decode cL_settle 111 = .ok (.invokevirtual 48, 3) := by decide +kernel
theorem dL_settle_114 : decode cL_settle 114 = .ok (.ifCond .eq 10, 3) := by decide +kernel
theorem dL_settle_117 : decode cL_settle 117 = .ok (.aload_n 0, 1) := by decide +kernel
theorem dL_settle_118 : decode cL_settle 118 = .ok (.iload 4, 2) := by decide +kernel
theorem dL_settle_120 : decode cL_settle 120 = .ok (.aload_n 1, 1) := by decide +kernel
theorem dL_settle_121 : decode cL_settle 121 = .ok (.invokevirtual 51, 3) := by decide +kernel
theorem dL_settle_124 : decode cL_settle 124 = .ok (.iinc 4 1, 3) := by decide +kernel
theorem dL_settle_127 : decode cL_settle 127 = .ok (.goto (-28), 3) := by decide +kernel
theorem dL_settle_130 : decode cL_settle 130 = .ok (.return_, 1) := by decide +kernel
theorem dL_followArcs_0 : decode cL_followArcs 0 = .ok (.iconst 0, 1) := by decide +kernel
theorem dL_followArcs_1 : decode cL_followArcs 1 = .ok (.istore_n 3, 1) := by decide +kernel
theorem dL_followArcs_2 : decode cL_followArcs 2 = .ok (.iconst 0, 1) := by decide +kernel
theorem dL_followArcs_3 : decode cL_followArcs 3 = .ok (.istore 4, 2) := by decide +kernel
theorem dL_followArcs_5 : decode cL_followArcs 5 = .ok (.iload 4, 2) := by decide +kernel
theorem dL_followArcs_7 : decode cL_followArcs 7 = .ok (.aload_n 2, 1) := by decide +kernel
theorem dL_followArcs_8 : decode cL_followArcs 8 = .ok (.getfield 41, 3) := by decide +kernel
theorem dL_followArcs_11 : decode cL_followArcs 11 = .ok (.if_icmp .ge 89, 3) := by decide +kernel
theorem dL_followArcs_14 : decode cL_followArcs 14 = .ok (.aload_n 2, 1) := by decide +kernel
theorem dL_followArcs_15 : decode cL_followArcs 15 = .ok (.iload_n 1, 1) := by decide +kernel
theorem dL_followArcs_16 : decode cL_followArcs 16 = .ok (.iload 4, 2) := by decide +kernel
theorem dL_followArcs_18 : decode cL_followArcs 18 = .ok (.invokevirtual 55, 3) := by decide +kernel
theorem dL_followArcs_21 : decode cL_followArcs 21 = .ok (.istore 5, 2) := by decide +kernel
theorem dL_followArcs_23 : decode cL_followArcs 23 = .ok (.iload 5, 2) := by decide +kernel
theorem dL_followArcs_25 : decode cL_followArcs 25 = .ok (.ldc 28, 2) := by decide +kernel
theorem dL_followArcs_27 : decode cL_followArcs 27 = .ok (.if_icmp .eq 67, 3) := by decide +kernel
theorem dL_followArcs_30 : decode cL_followArcs 30 = .ok (.aload_n 0, 1) := by decide +kernel
theorem dL_followArcs_31 : decode cL_followArcs 31 = .ok (.iload 4, 2) := by decide +kernel
theorem dL_followArcs_33 : decode cL_followArcs 33 = .ok (.aload_n 0, 1) := by decide +kernel
theorem dL_followArcs_34 : decode cL_followArcs 34 = .ok (.getfield 9, 3) := by decide +kernel
theorem dL_followArcs_37 : decode cL_followArcs 37 = .ok (.iload_n 1, 1) := by decide +kernel
theorem dL_followArcs_38 : decode cL_followArcs 38 = .ok (.iaload, 1) := by decide +kernel
theorem dL_followArcs_39 : decode cL_followArcs 39 = .ok (.iload 5, 2) := by decide +kernel
theorem dL_followArcs_41 : decode cL_followArcs 41 = .ok (.iadd, 1) := by decide +kernel
theorem dL_followArcs_42 : decode cL_followArcs 42 = .ok (.aload_n 0, 1) := by decide +kernel
theorem dL_followArcs_43 : decode cL_followArcs 43 = .ok (.getfield 15, 3) := by decide +kernel
theorem dL_followArcs_46 : decode cL_followArcs 46 = .ok (.iload_n 1, 1) := by decide +kernel
theorem dL_followArcs_47 : decode cL_followArcs 47 = .ok (.iaload, 1) := by decide +kernel
theorem dL_followArcs_48 : decode cL_followArcs 48 = .ok (.iconst 1, 1) := by decide +kernel
theorem dL_followArcs_49 : decode cL_followArcs 49 = .ok (.iadd, 1) := by decide +kernel
theorem dL_followArcs_50 : decode cL_followArcs 50 = .ok (.invokevirtual 59, 3) := by decide +kernel
theorem dL_followArcs_53 : decode cL_followArcs 53 = .ok (.ifCond .eq 41, 3) := by decide +kernel
theorem dL_followArcs_56 : decode cL_followArcs 56 = .ok (.aload_n 0, 1) := by decide +kernel
theorem dL_followArcs_57 : decode cL_followArcs 57 = .ok (.getfield 9, 3) := by decide +kernel
theorem dL_followArcs_60 : decode cL_followArcs 60 = .ok (.iload 4, 2) := by decide +kernel
theorem dL_followArcs_62 : decode cL_followArcs 62 = .ok (.aload_n 0, 1) := by decide +kernel
theorem dL_followArcs_63 : decode cL_followArcs 63 = .ok (.getfield 9, 3) := by decide +kernel
theorem dL_followArcs_66 : decode cL_followArcs 66 = .ok (.iload_n 1, 1) := by decide +kernel
theorem dL_followArcs_67 : decode cL_followArcs 67 = .ok (.iaload, 1) := by decide +kernel
theorem dL_followArcs_68 : decode cL_followArcs 68 = .ok (.iload 5, 2) := by decide +kernel
theorem dL_followArcs_70 : decode cL_followArcs 70 = .ok (.iadd, 1) := by decide +kernel
theorem dL_followArcs_71 : decode cL_followArcs 71 = .ok (.iastore, 1) := by decide +kernel
theorem dL_followArcs_72 : decode cL_followArcs 72 = .ok (.aload_n 0, 1) := by decide +kernel
theorem dL_followArcs_73 : decode cL_followArcs 73 = .ok (.getfield 15, 3) := by decide +kernel
theorem dL_followArcs_76 : decode cL_followArcs 76 = .ok (.iload 4, 2) := by decide +kernel
theorem dL_followArcs_78 : decode cL_followArcs 78 = .ok (.aload_n 0, 1) := by decide +kernel
theorem dL_followArcs_79 : decode cL_followArcs 79 = .ok (.getfield 15, 3) := by decide +kernel
theorem dL_followArcs_82 : decode cL_followArcs 82 = .ok (.iload_n 1, 1) := by decide +kernel
theorem dL_followArcs_83 : decode cL_followArcs 83 = .ok (.iaload, 1) := by decide +kernel
theorem dL_followArcs_84 : decode cL_followArcs 84 = .ok (.iconst 1, 1) := by decide +kernel
theorem dL_followArcs_85 : decode cL_followArcs 85 = .ok (.iadd, 1) := by decide +kernel
theorem dL_followArcs_86 : decode cL_followArcs 86 = .ok (.iastore, 1) := by decide +kernel
theorem dL_followArcs_87 : decode cL_followArcs 87 = .ok (.iload_n 3, 1) := by decide +kernel
theorem dL_followArcs_88 : decode cL_followArcs 88 = .ok (.iconst 1, 1) := by decide +kernel
theorem dL_followArcs_89 : decode cL_followArcs 89 = .ok (.iload 4, 2) := by decide +kernel
theorem dL_followArcs_91 : decode cL_followArcs 91 = .ok (.ishl, 1) := by decide +kernel
theorem dL_followArcs_92 : decode cL_followArcs 92 = .ok (.ior, 1) := by decide +kernel
theorem dL_followArcs_93 : decode cL_followArcs 93 = .ok (.istore_n 3, 1) := by decide +kernel
theorem dL_followArcs_94 : decode cL_followArcs 94 = .ok (.iinc 4 1, 3) := by decide +kernel
theorem dL_followArcs_97 : decode cL_followArcs 97 = .ok (.goto (-92), 3) := by decide +kernel
theorem dL_followArcs_100 : decode cL_followArcs 100 = .ok (.iload_n 3, 1) := by decide +kernel
theorem dL_followArcs_101 : decode cL_followArcs 101 = .ok (.ireturn, 1) := by decide +kernel
theorem dL_isBetter_0 : decode cL_isBetter 0 = .ok (.aload_n 0, 1) := by decide +kernel
theorem dL_isBetter_1 : decode cL_isBetter 1 = .ok (.getfield 9, 3) := by decide +kernel
theorem dL_isBetter_4 : decode cL_isBetter 4 = .ok (.iload_n 1, 1) := by decide +kernel
theorem dL_isBetter_5 : decode cL_isBetter 5 = .ok (.iaload, 1) := by decide +kernel
theorem dL_isBetter_6 : decode cL_isBetter 6 = .ok (.ldc 28, 2) := by decide +kernel
theorem dL_isBetter_8 : decode cL_isBetter 8 = .ok (.if_icmp .eq 33, 3) := by decide +kernel
theorem dL_isBetter_11 : decode cL_isBetter 11 = .ok (.iload_n 2, 1) := by decide +kernel
theorem dL_isBetter_12 : decode cL_isBetter 12 = .ok (.aload_n 0, 1) := by decide +kernel
theorem dL_isBetter_13 : decode cL_isBetter 13 = .ok (.getfield 9, 3) := by decide +kernel
theorem dL_isBetter_16 : decode cL_isBetter 16 = .ok (.iload_n 1, 1) := by decide +kernel
theorem dL_isBetter_17 : decode cL_isBetter 17 = .ok (.iaload, 1) := by decide +kernel
theorem dL_isBetter_18 : decode cL_isBetter 18 = .ok (.if_icmp .lt 23, 3) := by decide +kernel
theorem dL_isBetter_21 : decode cL_isBetter 21 = .ok (.iload_n 2, 1) := by decide +kernel
theorem dL_isBetter_22 : decode cL_isBetter 22 = .ok (.aload_n 0, 1) := by decide +kernel
theorem dL_isBetter_23 : decode cL_isBetter 23 = .ok (.getfield 9, 3) := by decide +kernel
theorem dL_isBetter_26 : decode cL_isBetter 26 = .ok (.iload_n 1, 1) := by decide +kernel
theorem dL_isBetter_27 : decode cL_isBetter 27 = .ok (.iaload, 1) := by decide +kernel
theorem dL_isBetter_28 : decode cL_isBetter 28 = .ok (.if_icmp .ne 17, 3) := by decide +kernel
theorem dL_isBetter_31 : decode cL_isBetter 31 = .ok (.iload_n 3, 1) := by decide +kernel
theorem dL_isBetter_32 : decode cL_isBetter 32 = .ok (.aload_n 0, 1) := by decide +kernel
theorem dL_isBetter_33 : decode cL_isBetter 33 = .ok (.getfield 15, 3) := by decide +kernel
theorem dL_isBetter_36 : decode cL_isBetter 36 = .ok (.iload_n 1, 1) := by decide +kernel
theorem dL_isBetter_37 : decode cL_isBetter 37 = .ok (.iaload, 1) := by decide +kernel
theorem dL_isBetter_38 : decode cL_isBetter 38 = .ok (.if_icmp .ge 7, 3) := by decide +kernel
theorem dL_isBetter_41 : decode cL_isBetter 41 = .ok (.iconst 1, 1) := by decide +kernel
theorem dL_isBetter_42 : decode cL_isBetter 42 = .ok (.goto 4, 3) := by decide +kernel
theorem dL_isBetter_45 : decode cL_isBetter 45 = .ok (.iconst 0, 1) := by decide +kernel
theorem dL_isBetter_46 : decode cL_isBetter 46 = .ok (.ireturn, 1) := by decide +kernel
theorem dL_findTightArcs_0 : decode cL_findTightArcs 0 = .ok (.iconst 0, 1) := by decide +kernel
theorem dL_findTightArcs_1 : decode cL_findTightArcs 1 = .ok (.istore_n 3, 1) := by decide +kernel
theorem dL_findTightArcs_2 : decode cL_findTightArcs 2 = .ok (.iload_n 3, 1) := by decide +kernel
theorem dL_findTightArcs_3 : decode cL_findTightArcs 3 = .ok (.aload_n 2, 1) := by decide +kernel
theorem dL_findTightArcs_4 : decode cL_findTightArcs 4 = .ok (.getfield 41, 3) := by decide +kernel
theorem dL_findTightArcs_7 : decode cL_findTightArcs 7 = .ok (.if_icmp .ge 87, 3) := by decide +kernel
theorem dL_findTightArcs_10 : decode cL_findTightArcs 10 = .ok (.aload_n 2, 1) := by decide +kernel
theorem dL_findTightArcs_11 : decode cL_findTightArcs 11 = .ok (.iload_n 1, 1) := by decide +kernel
theorem dL_findTightArcs_12 : decode cL_findTightArcs 12 = .ok (.iload_n 3, 1) := by decide +kernel
theorem dL_findTightArcs_13 : decode cL_findTightArcs 13 = .ok (.invokevirtual 55, 3) := by decide +kernel
theorem dL_findTightArcs_16 : decode cL_findTightArcs 16 = .ok (.istore 4, 2) := by decide +kernel
theorem dL_findTightArcs_18 : decode cL_findTightArcs 18 = .ok (.iload 4, 2) := by decide +kernel
theorem dL_findTightArcs_20 : decode cL_findTightArcs 20 = .ok (.ldc 28, 2) := by decide +kernel
theorem dL_findTightArcs_22 : decode cL_findTightArcs 22 = .ok (.if_icmp .eq 66, 3) := by decide +kernel
theorem dL_findTightArcs_25 : decode cL_findTightArcs 25 = .ok (.aload_n 0, 1) := by decide +kernel
theorem dL_findTightArcs_26 : decode cL_findTightArcs 26 = .ok (.getfield 9, 3) := by decide +kernel
theorem dL_findTightArcs_29 : decode cL_findTightArcs 29 = .ok (.iload_n 1, 1) := by decide +kernel
theorem dL_findTightArcs_30 : decode cL_findTightArcs 30 = .ok (.iaload, 1) := by decide +kernel
theorem dL_findTightArcs_31 : decode cL_findTightArcs 31 = .ok (.iload 4, 2) := by decide +kernel
theorem dL_findTightArcs_33 : decode cL_findTightArcs 33 = .ok (.iadd, 1) := by decide +kernel
theorem dL_findTightArcs_34 : decode cL_findTightArcs 34 = .ok (.aload_n 0, 1) := by decide +kernel
theorem dL_findTightArcs_35 : decode cL_findTightArcs 35 = .ok (.getfield 9, 3) := by decide +kernel
theorem dL_findTightArcs_38 : decode cL_findTightArcs 38 = .ok (.iload_n 3, 1) := by decide +kernel
theorem dL_findTightArcs_39 : decode cL_findTightArcs 39 = .ok (.iaload, 1) := by decide +kernel
theorem dL_findTightArcs_40 : decode cL_findTightArcs 40 = .ok (.if_icmp .ne 48, 3) := by decide +kernel
theorem dL_findTightArcs_43 : decode cL_findTightArcs 43 = .ok (.aload_n 0, 1) := by decide +kernel
theorem dL_findTightArcs_44 : decode cL_findTightArcs 44 = .ok (.dup, 1) := by decide +kernel
theorem dL_findTightArcs_45 : decode cL_findTightArcs 45 = .ok (.getfield 21, 3) := by decide +kernel
theorem dL_findTightArcs_48 : decode cL_findTightArcs 48 = .ok (.iconst 1, 1) := by decide +kernel
theorem dL_findTightArcs_49 : decode cL_findTightArcs 49 = .ok (.iadd, 1) := by decide +kernel
theorem dL_findTightArcs_50 : decode cL_findTightArcs 50 = .ok (.putfield 21, 3) := by decide +kernel
theorem dL_findTightArcs_53 : decode cL_findTightArcs 53 = .ok (.aload_n 0, 1) := by decide +kernel
theorem dL_findTightArcs_54 : decode cL_findTightArcs 54 = .ok (.getfield 18, 3) := by decide +kernel
theorem dL_findTightArcs_57 : decode cL_findTightArcs 57 = .ok (.iload_n 3, 1) := by decide +kernel
theorem dL_findTightArcs_58 : decode cL_findTightArcs 58 = .ok (.iaload, 1) := by decide +kernel
theorem dL_findTightArcs_59 : decode cL_findTightArcs 59 = .ok (.ldc 28, 2) := by decide +kernel
theorem dL_findTightArcs_61 : decode cL_findTightArcs 61 = .ok (.if_icmp .ne 27, 3) := by decide +kernel
theorem dL_findTightArcs_64 : decode cL_findTightArcs 64 = .ok (.aload_n 0, 1) := by decide +kernel
theorem dL_findTightArcs_65 : decode cL_findTightArcs 65 = .ok (.getfield 15, 3) := by decide +kernel
theorem dL_findTightArcs_68 : decode cL_findTightArcs 68 = .ok (.iload_n 1, 1) := by decide +kernel
theorem dL_findTightArcs_69 : decode cL_findTightArcs 69 = .ok (.iaload, 1) := by decide +kernel
theorem dL_findTightArcs_70 : decode cL_findTightArcs 70 = .ok (.iconst 1, 1) := by decide +kernel
theorem dL_findTightArcs_71 : decode cL_findTightArcs 71 = .ok (.iadd, 1) := by decide +kernel
theorem dL_findTightArcs_72 : decode cL_findTightArcs 72 = .ok (.aload_n 0, 1) := by decide +kernel
theorem dL_findTightArcs_73 : decode cL_findTightArcs 73 = .ok (.getfield 15, 3) := by decide +kernel
theorem dL_findTightArcs_76 : decode cL_findTightArcs 76 = .ok (.iload_n 3, 1) := by decide +kernel
theorem dL_findTightArcs_77 : decode cL_findTightArcs 77 = .ok (.iaload, 1) := by decide +kernel
theorem dL_findTightArcs_78 : decode cL_findTightArcs 78 = .ok (.if_icmp .ne 10, 3) := by decide +kernel
theorem dL_findTightArcs_81 : decode cL_findTightArcs 81 = .ok (.aload_n 0, 1) := by decide +kernel
theorem dL_findTightArcs_82 : decode cL_findTightArcs 82 = .ok (.getfield 18, 3) := by decide +kernel
theorem dL_findTightArcs_85 : decode cL_findTightArcs 85 = .ok (.iload_n 3, 1) := by decide +kernel
theorem dL_findTightArcs_86 : decode cL_findTightArcs 86 = .ok (.iload_n 1, 1) := by decide +kernel
theorem dL_findTightArcs_87 : decode cL_findTightArcs 87 = .ok (.iastore, 1) := by decide +kernel
theorem dL_findTightArcs_88 : decode cL_findTightArcs 88 = .ok (.iinc 3 1, 3) := by decide +kernel
theorem dL_findTightArcs_91 : decode cL_findTightArcs 91 = .ok (.goto (-89), 3) := by decide +kernel
theorem dL_findTightArcs_94 : decode cL_findTightArcs 94 = .ok (.return_, 1) := by decide +kernel
theorem dL_reaches_0 : decode cL_reaches 0 = .ok (.aload_n 0, 1) := by decide +kernel
theorem dL_reaches_1 : decode cL_reaches 1 = .ok (.getfield 9, 3) := by decide +kernel
theorem dL_reaches_4 : decode cL_reaches 4 = .ok (.iload_n 1, 1) := by decide +kernel
theorem dL_reaches_5 : decode cL_reaches 5 = .ok (.iaload, 1) := by decide +kernel
theorem dL_reaches_6 : decode cL_reaches 6 = .ok (.ldc 28, 2) := by decide +kernel
theorem dL_reaches_8 : decode cL_reaches 8 = .ok (.if_icmp .eq 7, 3) := by decide +kernel
theorem dL_reaches_11 : decode cL_reaches 11 = .ok (.iconst 1, 1) := by decide +kernel
theorem dL_reaches_12 : decode cL_reaches 12 = .ok (.goto 4, 3) := by decide +kernel
theorem dL_reaches_15 : decode cL_reaches 15 = .ok (.iconst 0, 1) := by decide +kernel
theorem dL_reaches_16 : decode cL_reaches 16 = .ok (.ireturn, 1) := by decide +kernel
theorem dL_sizeOfWay_0 : decode cL_sizeOfWay 0 = .ok (.aload_n 0, 1) := by decide +kernel
theorem dL_sizeOfWay_1 : decode cL_sizeOfWay 1 = .ok (.getfield 15, 3) := by decide +kernel
theorem dL_sizeOfWay_4 : decode cL_sizeOfWay 4 = .ok (.iload_n 1, 1) := by decide +kernel
theorem dL_sizeOfWay_5 : decode cL_sizeOfWay 5 = .ok (.iaload, 1) := by decide +kernel
theorem dL_sizeOfWay_6 : decode cL_sizeOfWay 6 = .ok (.iconst 1, 1) := by decide +kernel
theorem dL_sizeOfWay_7 : decode cL_sizeOfWay 7 = .ok (.iadd, 1) := by decide +kernel
theorem dL_sizeOfWay_8 : decode cL_sizeOfWay 8 = .ok (.ireturn, 1) := by decide +kernel
theorem dL_nodeOnWay_0 : decode cL_nodeOnWay 0 = .ok (.iload_n 1, 1) := by decide +kernel
theorem dL_nodeOnWay_1 : decode cL_nodeOnWay 1 = .ok (.istore_n 3, 1) := by decide +kernel
theorem dL_nodeOnWay_2 : decode cL_nodeOnWay 2 = .ok (.aload_n 0, 1) := by decide +kernel
theorem dL_nodeOnWay_3 : decode cL_nodeOnWay 3 = .ok (.getfield 15, 3) := by decide +kernel
theorem dL_nodeOnWay_6 : decode cL_nodeOnWay 6 = .ok (.iload_n 1, 1) := by decide +kernel
theorem dL_nodeOnWay_7 : decode cL_nodeOnWay 7 = .ok (.iaload, 1) := by decide +kernel
theorem dL_nodeOnWay_8 : decode cL_nodeOnWay 8 = .ok (.istore 4, 2) := by decide +kernel
theorem dL_nodeOnWay_10 : decode cL_nodeOnWay 10 = .ok (.iload 4, 2) := by decide +kernel
theorem dL_nodeOnWay_12 : decode cL_nodeOnWay 12 = .ok (.iload_n 2, 1) := by decide +kernel
theorem dL_nodeOnWay_13 : decode cL_nodeOnWay 13 = .ok (.if_icmp .le 20, 3) := by decide +kernel
theorem dL_nodeOnWay_16 : decode cL_nodeOnWay 16 = .ok (.iload_n 3, 1) := by decide +kernel
theorem dL_nodeOnWay_17 : decode cL_nodeOnWay 17 = .ok (.ifCond .lt 16, 3) := by decide +kernel
theorem dL_nodeOnWay_20 : decode cL_nodeOnWay 20 = .ok (.aload_n 0, 1) := by decide +kernel
theorem dL_nodeOnWay_21 : decode cL_nodeOnWay 21 = .ok (.getfield 18, 3) := by decide +kernel
theorem dL_nodeOnWay_24 : decode cL_nodeOnWay 24 = .ok (.iload_n 3, 1) := by decide +kernel
theorem dL_nodeOnWay_25 : decode cL_nodeOnWay 25 = .ok (.iaload, 1) := by decide +kernel
theorem dL_nodeOnWay_26 : decode cL_nodeOnWay 26 = .ok (.istore_n 3, 1) := by decide +kernel
theorem dL_nodeOnWay_27 : decode cL_nodeOnWay 27 = .ok (.iinc 4 (-1), 3) := by decide +kernel
theorem dL_nodeOnWay_30 : decode cL_nodeOnWay 30 = .ok (.goto (-20), 3) := by decide +kernel
theorem dL_nodeOnWay_33 : decode cL_nodeOnWay 33 = .ok (.iload_n 3, 1) := by decide +kernel
theorem dL_nodeOnWay_34 : decode cL_nodeOnWay 34 = .ok (.ireturn, 1) := by decide +kernel
theorem dL_differingNodes_0 : decode cL_differingNodes 0 = .ok (.iconst 0, 1) := by decide +kernel
theorem dL_differingNodes_1 : decode cL_differingNodes 1 = .ok (.istore_n 2, 1) := by decide +kernel
theorem dL_differingNodes_2 : decode cL_differingNodes 2 = .ok (.iconst 0, 1) := by decide +kernel
theorem dL_differingNodes_3 : decode cL_differingNodes 3 = .ok (.istore_n 3, 1) := by decide +kernel
theorem dL_differingNodes_4 : decode cL_differingNodes 4 = .ok (.iload_n 3, 1) := by decide +kernel
theorem dL_differingNodes_5 : decode cL_differingNodes 5 = .ok (.bipush 24, 2) := by decide +kernel
theorem dL_differingNodes_7 : decode cL_differingNodes 7 = .ok (.if_icmp .ge 60, 3) := by decide +kernel
theorem dL_differingNodes_10 : decode cL_differingNodes 10 = .ok (.aload_n 0, 1) := by decide +kernel
theorem dL_differingNodes_11 : decode cL_differingNodes 11 = .ok (.getfield 9, 3) := by decide +kernel
theorem dL_differingNodes_14 : decode cL_differingNodes 14 = .ok (.iload_n 3, 1) := by decide +kernel
theorem dL_differingNodes_15 : decode cL_differingNodes 15 = .ok (.iaload, 1) := by decide +kernel
theorem dL_differingNodes_16 : decode cL_differingNodes 16 = .ok (.aload_n 1, 1) := by decide +kernel
theorem dL_differingNodes_17 : decode cL_differingNodes 17 = .ok (.getfield 9, 3) := by decide +kernel
theorem dL_differingNodes_20 : decode cL_differingNodes 20 = .ok (.iload_n 3, 1) := by decide +kernel
theorem dL_differingNodes_21 : decode cL_differingNodes 21 = .ok (.iaload, 1) := by decide +kernel
theorem dL_differingNodes_22 : decode cL_differingNodes 22 = .ok (.if_icmp .ne 33, 3) := by decide +kernel
theorem dL_differingNodes_25 : decode cL_differingNodes 25 = .ok (.aload_n 0, 1) := by decide +kernel
theorem dL_differingNodes_26 : decode cL_differingNodes 26 = .ok (.getfield 15, 3) := by decide +kernel
theorem dL_differingNodes_29 : decode cL_differingNodes 29 = .ok (.iload_n 3, 1) := by decide +kernel
theorem dL_differingNodes_30 : decode cL_differingNodes 30 = .ok (.iaload, 1) := by decide +kernel
theorem dL_differingNodes_31 : decode cL_differingNodes 31 = .ok (.aload_n 1, 1) := by decide +kernel
theorem dL_differingNodes_32 : decode cL_differingNodes 32 = .ok (.getfield 15, 3) := by decide +kernel
theorem dL_differingNodes_35 : decode cL_differingNodes 35 = .ok (.iload_n 3, 1) := by decide +kernel
theorem dL_differingNodes_36 : decode cL_differingNodes 36 = .ok (.iaload, 1) := by decide +kernel
theorem dL_differingNodes_37 : decode cL_differingNodes 37 = .ok (.if_icmp .ne 18, 3) := by decide +kernel
theorem dL_differingNodes_40 : decode cL_differingNodes 40 = .ok (.aload_n 0, 1) := by decide +kernel
theorem dL_differingNodes_41 : decode cL_differingNodes 41 = .ok (.getfield 18, 3) := by decide +kernel
theorem dL_differingNodes_44 : decode cL_differingNodes 44 = .ok (.iload_n 3, 1) := by decide +kernel
theorem dL_differingNodes_45 : decode cL_differingNodes 45 = .ok (.iaload, 1) := by decide +kernel
theorem dL_differingNodes_46 : decode cL_differingNodes 46 = .ok (.aload_n 1, 1) := by decide +kernel
theorem dL_differingNodes_47 : decode cL_differingNodes 47 = .ok (.getfield 18, 3) := by decide +kernel
theorem dL_differingNodes_50 : decode cL_differingNodes 50 = .ok (.iload_n 3, 1) := by decide +kernel
theorem dL_differingNodes_51 : decode cL_differingNodes 51 = .ok (.iaload, 1) := by decide +kernel
theorem dL_differingNodes_52 : decode cL_differingNodes 52 = .ok (.if_icmp .eq 9, 3) := by decide +kernel
theorem dL_differingNodes_55 : decode cL_differingNodes 55 = .ok (.iload_n 2, 1) := by decide +kernel
theorem dL_differingNodes_56 : decode cL_differingNodes 56 = .ok (.iconst 1, 1) := by decide +kernel
theorem dL_differingNodes_57 : decode cL_differingNodes 57 = .ok (.iload_n 3, 1) := by decide +kernel
theorem dL_differingNodes_58 : decode cL_differingNodes 58 = .ok (.ishl, 1) := by decide +kernel
theorem dL_differingNodes_59 : decode cL_differingNodes 59 = .ok (.ior, 1) := by decide +kernel
theorem dL_differingNodes_60 : decode cL_differingNodes 60 = .ok (.istore_n 2, 1) := by decide +kernel
theorem dL_differingNodes_61 : decode cL_differingNodes 61 = .ok (.iinc 3 1, 3) := by decide +kernel
theorem dL_differingNodes_64 : decode cL_differingNodes 64 = .ok (.goto (-60), 3) := by decide +kernel
theorem dL_differingNodes_67 : decode cL_differingNodes 67 = .ok (.iload_n 2, 1) := by decide +kernel
theorem dL_differingNodes_68 : decode cL_differingNodes 68 = .ok (.ireturn, 1) := by decide +kernel
theorem dN_init_0 : decode cN_init 0 = .ok (.aload_n 0, 1) := by decide +kernel
theorem dN_init_1 : decode cN_init 1 = .ok (.invokespecial 3, 3) := by decide +kernel
theorem dN_init_4 : decode cN_init 4 = .ok (.aload_n 0, 1) := by decide +kernel
theorem dN_init_5 : decode cN_init 5 = .ok (.iconst 0, 1) := by decide +kernel
theorem dN_init_6 : decode cN_init 6 = .ok (.putfield 9, 3) := by decide +kernel
theorem dN_init_9 : decode cN_init 9 = .ok (.aload_n 0, 1) := by decide +kernel
theorem dN_init_10 : decode cN_init 10 = .ok (.iconst 0, 1) := by decide +kernel
theorem dN_init_11 : decode cN_init 11 = .ok (.putfield 15, 3) := by decide +kernel
theorem dN_init_14 : decode cN_init 14 = .ok (.aload_n 0, 1) := by decide +kernel
theorem dN_init_15 : decode cN_init 15 = .ok (.sipush 576, 3) := by decide +kernel
theorem dN_init_18 : decode cN_init 18 = .ok (.newarray .int, 2) := by decide +kernel
theorem dN_init_20 : decode cN_init 20 = .ok (.putfield 18, 3) := by decide +kernel
theorem dN_init_23 : decode cN_init 23 = .ok (.aload_n 0, 1) := by decide +kernel
theorem dN_init_24 : decode cN_init 24 = .ok (.getfield 18, 3) := by decide +kernel
theorem dN_init_27 : decode cN_init 27 = .ok (.ldc 22, 2) := by decide +kernel
theorem dN_init_29 : decode cN_init 29 = .ok (.invokestatic 23, 3) := by decide +kernel
theorem dN_init_32 : decode cN_init 32 = .ok (.return_, 1) := by decide +kernel
theorem dN_addNode_0 : decode cN_addNode 0 = .ok (.aload_n 0, 1) := by decide +kernel
theorem dN_addNode_1 : decode cN_addNode 1 = .ok (.dup, 1) := by decide +kernel
theorem dN_addNode_2 : decode cN_addNode 2 = .ok (.getfield 9, 3) := by decide +kernel
theorem dN_addNode_5 : decode cN_addNode 5 = .ok (.dup_x1, 1) := by decide +kernel
theorem dN_addNode_6 : decode cN_addNode 6 = .ok (.iconst 1, 1) := by decide +kernel
theorem dN_addNode_7 : decode cN_addNode 7 = .ok (.iadd, 1) := by decide +kernel
theorem dN_addNode_8 : decode cN_addNode 8 = .ok (.putfield 9, 3) := by decide +kernel
theorem dN_addNode_11 : decode cN_addNode 11 = .ok (.ireturn, 1) := by decide +kernel
theorem dN_isNode_0 : decode cN_isNode 0 = .ok (.iload_n 1, 1) := by decide +kernel
theorem dN_isNode_1 : decode cN_isNode 1 = .ok (.ifCond .lt 15, 3) := by decide +kernel
theorem dN_isNode_4 : decode cN_isNode 4 = .ok (.iload_n 1, 1) := by decide +kernel
theorem dN_isNode_5 : decode cN_isNode 5 = .ok (.aload_n 0, 1) := by decide +kernel
theorem dN_isNode_6 : decode cN_isNode 6 = .ok (.getfield 9, 3) := by decide +kernel
theorem dN_isNode_9 : decode cN_isNode 9 = .ok (.if_icmp .ge 7, 3) := by decide +kernel
theorem dN_isNode_12 : decode cN_isNode 12 = .ok (.iconst 1, 1) := by decide +kernel
theorem dN_isNode_13 : decode cN_isNode 13 = .ok (.goto 4, 3) := by decide +kernel
theorem dN_isNode_16 : decode cN_isNode 16 = .ok (.iconst 0, 1) := by decide +kernel
theorem dN_isNode_17 : decode cN_isNode 17 = .ok (.ireturn, 1) := by decide +kernel
theorem dN_areTwoNodes_0 : decode cN_areTwoNodes 0 = .ok (.aload_n 0, 1) := by decide +kernel
theorem dN_areTwoNodes_1 : decode cN_areTwoNodes 1 = .ok (.iload_n 1, 1) := by decide +kernel
theorem dN_areTwoNodes_2 : decode cN_areTwoNodes 2 = .ok (.invokevirtual 29, 3) := by decide +kernel
theorem dN_areTwoNodes_5 : decode cN_areTwoNodes 5 = .ok (.ifCond .eq 20, 3) := by decide +kernel
theorem dN_areTwoNodes_8 : decode cN_areTwoNodes 8 = .ok (.aload_n 0, 1) := by decide +kernel
theorem dN_areTwoNodes_9 : decode cN_areTwoNodes 9 = .ok (.iload_n 2, 1) := by decide +kernel
theorem dN_areTwoNodes_10 : decode cN_areTwoNodes 10 = .ok (.invokevirtual 29, 3) := by decide +kernel
theorem dN_areTwoNodes_13 : decode cN_areTwoNodes 13 = .ok (.ifCond .eq 12, 3) := by decide +kernel
theorem dN_areTwoNodes_16 : decode cN_areTwoNodes 16 = .ok (.iload_n 1, 1) := by decide +kernel
theorem dN_areTwoNodes_17 : decode cN_areTwoNodes 17 = .ok (.iload_n 2, 1) := by decide +kernel
theorem dN_areTwoNodes_18 : decode cN_areTwoNodes 18 = .ok (.if_icmp .eq 7, 3) := by decide +kernel
theorem dN_areTwoNodes_21 : decode cN_areTwoNodes 21 = .ok (.iconst 1, 1) := by decide +kernel
theorem dN_areTwoNodes_22 : decode cN_areTwoNodes 22 = .ok (.goto 4, 3) := by decide +kernel
theorem dN_areTwoNodes_25 : decode cN_areTwoNodes 25 = .ok (.iconst 0, 1) := by decide +kernel
theorem dN_areTwoNodes_26 : decode cN_areTwoNodes 26 = .ok (.ireturn, 1) := by decide +kernel
theorem dN_lengthOf_0 : decode cN_lengthOf 0 = .ok (.aload_n 0, 1) := by decide +kernel
theorem dN_lengthOf_1 : decode cN_lengthOf 1 = .ok (.getfield 18, 3) := by decide +kernel
theorem dN_lengthOf_4 : decode cN_lengthOf 4 = .ok (.iload_n 1, 1) := by decide +kernel
theorem dN_lengthOf_5 : decode cN_lengthOf 5 = .ok (.bipush 24, 2) := by decide +kernel
theorem dN_lengthOf_7 : decode cN_lengthOf 7 = .ok (.imul, 1) := by decide +kernel
theorem dN_lengthOf_8 : decode cN_lengthOf 8 = .ok (.iload_n 2, 1) := by decide +kernel
theorem dN_lengthOf_9 : decode cN_lengthOf 9 = .ok (.iadd, 1) := by decide +kernel
theorem dN_lengthOf_10 : decode cN_lengthOf 10 = .ok (.iaload, 1) := by decide +kernel
theorem dN_lengthOf_11 : decode cN_lengthOf 11 = .ok (.ireturn, 1) := by decide +kernel
theorem dN_setLength_0 : decode cN_setLength 0 = .ok (.aload_n 0, 1) := by decide +kernel
theorem dN_setLength_1 : decode cN_setLength 1 = .ok (.iload_n 1, 1) := by decide +kernel
theorem dN_setLength_2 : decode cN_setLength 2 = .ok (.iload_n 2, 1) := by decide +kernel
theorem dN_setLength_3 : decode cN_setLength 3 = .ok (.invokevirtual 33, 3) := by decide +kernel
theorem dN_setLength_6 : decode cN_setLength 6 = .ok (.istore 4, 2) := by decide +kernel
theorem dN_setLength_8 : decode cN_setLength 8 = .ok (.iload 4, 2) := by decide +kernel
theorem dN_setLength_10 : decode cN_setLength 10 = .ok (.ldc 22, 2) := by decide +kernel
theorem dN_setLength_12 : decode cN_setLength 12 = .ok (.if_icmp .ne 19, 3) := by decide +kernel
theorem dN_setLength_15 : decode cN_setLength 15 = .ok (.iload_n 3, 1) := by decide +kernel
theorem dN_setLength_16 : decode cN_setLength 16 = .ok (.ldc 22, 2) := by decide +kernel
theorem dN_setLength_18 : decode cN_setLength 18 = .ok (.if_icmp .eq 13, 3) := by decide +kernel
theorem dN_setLength_21 : decode cN_setLength 21 = .ok (.aload_n 0, 1) := by decide +kernel
theorem dN_setLength_22 : decode cN_setLength 22 = .ok (.dup, 1) := by decide +kernel
theorem dN_setLength_23 : decode cN_setLength 23 = .ok (.getfield 15, 3) := by decide +kernel
theorem dN_setLength_26 : decode cN_setLength 26 = .ok (.iconst 1, 1) := by decide +kernel
theorem dN_setLength_27 : decode cN_setLength 27 = .ok (.iadd, 1) := by decide +kernel
theorem dN_setLength_28 : decode cN_setLength 28 = .ok (.putfield 15, 3) := by decide +kernel
theorem dN_setLength_31 : decode cN_setLength 31 = .ok (.iload 4, 2) := by decide +kernel
theorem dN_setLength_33 : decode cN_setLength 33 = .ok (.ldc 22, 2) := by decide +kernel
theorem dN_setLength_35 : decode cN_setLength 35 = .ok (.if_icmp .eq 19, 3) := by decide +kernel
theorem dN_setLength_38 : decode cN_setLength 38 = .ok (.iload_n 3, 1) := by decide +kernel
theorem dN_setLength_39 : decode cN_setLength 39 = .ok (.ldc 22, 2) := by decide +kernel
theorem dN_setLength_41 : decode cN_setLength 41 = .ok (.if_icmp .ne 13, 3) := by decide +kernel
theorem dN_setLength_44 : decode cN_setLength 44 = .ok (.aload_n 0, 1) := by decide +kernel
theorem dN_setLength_45 : decode cN_setLength 45 = .ok (.dup, 1) := by decide +kernel
theorem dN_setLength_46 : decode cN_setLength 46 = .ok (.getfield 15, 3) := by decide +kernel
theorem dN_setLength_49 : decode cN_setLength 49 = .ok (.iconst 1, 1) := by decide +kernel
theorem dN_setLength_50 : decode cN_setLength 50 = .ok (.isub, 1) := by decide +kernel
theorem dN_setLength_51 : decode cN_setLength 51 = .ok (.putfield 15, 3) := by decide +kernel
theorem dN_setLength_54 : decode cN_setLength 54 = .ok (.aload_n 0, 1) := by decide +kernel
theorem dN_setLength_55 : decode cN_setLength 55 = .ok (.getfield 18, 3) := by decide +kernel
theorem dN_setLength_58 : decode cN_setLength 58 = .ok (.iload_n 1, 1) := by decide +kernel
theorem dN_setLength_59 : decode cN_setLength 59 = .ok (.bipush 24, 2) := by decide +kernel
theorem dN_setLength_61 : decode cN_setLength 61 = .ok (.imul, 1) := by decide +kernel
theorem dN_setLength_62 : decode cN_setLength 62 = .ok (.iload_n 2, 1) := by decide +kernel
theorem dN_setLength_63 : decode cN_setLength 63 = .ok (.iadd, 1) := by decide +kernel
theorem dN_setLength_64 : decode cN_setLength 64 = .ok (.iload_n 3, 1) := by decide +kernel
theorem dN_setLength_65 : decode cN_setLength 65 = .ok (.iastore, 1) := by decide +kernel
theorem dN_setLength_66 : decode cN_setLength 66 = .ok (.return_, 1) := by decide +kernel
theorem dA_fill_0 : decode cA_fill 0 = .ok (.iconst 0, 1) := by decide +kernel
theorem dA_fill_1 : decode cA_fill 1 = .ok (.istore_n 2, 1) := by decide +kernel
theorem dA_fill_2 : decode cA_fill 2 = .ok (.aload_n 0, 1) := by decide +kernel
theorem dA_fill_3 : decode cA_fill 3 = .ok (.arraylength, 1) := by decide +kernel
theorem dA_fill_4 : decode cA_fill 4 = .ok (.istore_n 3, 1) := by decide +kernel
theorem dA_fill_5 : decode cA_fill 5 = .ok (.iload_n 2, 1) := by decide +kernel
theorem dA_fill_6 : decode cA_fill 6 = .ok (.iload_n 3, 1) := by decide +kernel
theorem dA_fill_7 : decode cA_fill 7 = .ok (.if_icmp .ge 13, 3) := by decide +kernel
theorem dA_fill_10 : decode cA_fill 10 = .ok (.aload_n 0, 1) := by decide +kernel
theorem dA_fill_11 : decode cA_fill 11 = .ok (.iload_n 2, 1) := by decide +kernel
theorem dA_fill_12 : decode cA_fill 12 = .ok (.iload_n 1, 1) := by decide +kernel
theorem dA_fill_13 : decode cA_fill 13 = .ok (.iastore, 1) := by decide +kernel
theorem dA_fill_14 : decode cA_fill 14 = .ok (.iinc 2 1, 3) := by decide +kernel
theorem dA_fill_17 : decode cA_fill 17 = .ok (.goto (-12), 3) := by decide +kernel
theorem dA_fill_20 : decode cA_fill 20 = .ok (.return_, 1) := by decide +kernel
end
section
theorem dH_init_0 : decode cH_init 0 = .ok (.aload_n 0, 1) := by decide +kernel
theorem dH_init_1 : decode cH_init 1 = .ok (.invokespecial 3, 3) := by decide +kernel
theorem dH_init_4 : decode cH_init 4 = .ok (.aload_n 0, 1) := by decide +kernel
theorem dH_init_5 : decode cH_init 5 = .ok (.iconst 0, 1) := by decide +kernel
theorem dH_init_6 : decode cH_init 6 = .ok (.putfield 9, 3) := by decide +kernel
theorem dH_init_9 : decode cH_init 9 = .ok (.aload_n 0, 1) := by decide +kernel
theorem dH_init_10 : decode cH_init 10 = .ok (.iconst 0, 1) := by decide +kernel
theorem dH_init_11 : decode cH_init 11 = .ok (.putfield 15, 3) := by decide +kernel
theorem dH_init_14 : decode cH_init 14 = .ok (.aload_n 0, 1) := by decide +kernel
theorem dH_init_15 : decode cH_init 15 = .ok (.bipush 41, 2) := by decide +kernel
theorem dH_init_17 : decode cH_init 17 = .ok (.newarray .int, 2) := by decide +kernel
theorem dH_init_19 : decode cH_init 19 = .ok (.putfield 18, 3) := by decide +kernel
theorem dH_init_22 : decode cH_init 22 = .ok (.aload_n 0, 1) := by decide +kernel
theorem dH_init_23 : decode cH_init 23 = .ok (.sipush 1230, 3) := by decide +kernel
theorem dH_init_26 : decode cH_init 26 = .ok (.newarray .int, 2) := by decide +kernel
theorem dH_init_28 : decode cH_init 28 = .ok (.putfield 22, 3) := by decide +kernel
theorem dH_init_31 : decode cH_init 31 = .ok (.aload_n 0, 1) := by decide +kernel
theorem dH_init_32 : decode cH_init 32 = .ok (.sipush 1230, 3) := by decide +kernel
theorem dH_init_35 : decode cH_init 35 = .ok (.newarray .int, 2) := by decide +kernel
theorem dH_init_37 : decode cH_init 37 = .ok (.putfield 25, 3) := by decide +kernel
theorem dH_init_40 : decode cH_init 40 = .ok (.aload_n 0, 1) := by decide +kernel
theorem dH_init_41 : decode cH_init 41 = .ok (.sipush 1230, 3) := by decide +kernel
theorem dH_init_44 : decode cH_init 44 = .ok (.newarray .int, 2) := by decide +kernel
theorem dH_init_46 : decode cH_init 46 = .ok (.putfield 28, 3) := by decide +kernel
theorem dH_init_49 : decode cH_init 49 = .ok (.return_, 1) := by decide +kernel
theorem dH_openSlot_0 : decode cH_openSlot 0 = .ok (.aload_n 0, 1) := by decide +kernel
theorem dH_openSlot_1 : decode cH_openSlot 1 = .ok (.getfield 15, 3) := by decide +kernel
theorem dH_openSlot_4 : decode cH_openSlot 4 = .ok (.aload_n 0, 1) := by decide +kernel
theorem dH_openSlot_5 : decode cH_openSlot 5 = .ok (.getfield 9, 3) := by decide +kernel
theorem dH_openSlot_8 : decode cH_openSlot 8 = .ok (.iadd, 1) := by decide +kernel
theorem dH_openSlot_9 : decode cH_openSlot 9 = .ok (.bipush 41, 2) := by decide +kernel
theorem dH_openSlot_11 : decode cH_openSlot 11 = .ok (.irem, 1) := by decide +kernel
theorem dH_openSlot_12 : decode cH_openSlot 12 = .ok (.ireturn, 1) := by decide +kernel
theorem dH_openChanges_0 : decode cH_openChanges 0 = .ok (.aload_n 0, 1) := by decide +kernel
theorem dH_openChanges_1 : decode cH_openChanges 1 = .ok (.getfield 18, 3) := by decide +kernel
theorem dH_openChanges_4 : decode cH_openChanges 4 = .ok (.aload_n 0, 1) := by decide +kernel
theorem dH_openChanges_5 : decode cH_openChanges 5 = .ok (.invokevirtual 31, 3) := by decide +kernel
theorem dH_openChanges_8 : decode cH_openChanges 8 = .ok (.iaload, 1) := by decide +kernel
theorem dH_openChanges_9 : decode cH_openChanges 9 = .ok (.ireturn, 1) := by decide +kernel
theorem dH_note_0 : decode cH_note 0 = .ok (.aload_n 0, 1) := by decide +kernel
theorem dH_note_1 : decode cH_note 1 = .ok (.invokevirtual 31, 3) := by decide +kernel
theorem dH_note_4 : decode cH_note 4 = .ok (.istore 4, 2) := by decide +kernel
theorem dH_note_6 : decode cH_note 6 = .ok (.aload_n 0, 1) := by decide +kernel
theorem dH_note_7 : decode cH_note 7 = .ok (.getfield 18, 3) := by decide +kernel
theorem dH_note_10 : decode cH_note 10 = .ok (.iload 4, 2) := by decide +kernel
theorem dH_note_12 : decode cH_note 12 = .ok (.iaload, 1) := by decide +kernel
theorem dH_note_13 : decode cH_note 13 = .ok (.bipush 30, 2) := by decide +kernel
theorem dH_note_15 : decode cH_note 15 = .ok (.if_icmp .lt 4, 3) := by decide +kernel
theorem dH_note_18 : decode cH_note 18 = .ok (.return_, 1) := by decide +kernel
theorem dH_note_19 : decode cH_note 19 = .ok (.iload 4, 2) := by decide +kernel
theorem dH_note_21 : decode cH_note 21 = .ok (.bipush 30, 2) := by decide +kernel
theorem dH_note_23 : decode cH_note 23 = .ok (.imul, 1) := by decide +kernel
theorem dH_note_24 : decode cH_note 24 = .ok (.aload_n 0, 1) := by decide +kernel
theorem dH_note_25 : decode cH_note 25 = .ok (.getfield 18, 3) := by decide +kernel
theorem dH_note_28 : decode cH_note 28 = .ok (.iload 4, 2) := by decide +kernel
theorem dH_note_30 : decode cH_note 30 = .ok (.iaload, 1) := by decide +kernel
theorem dH_note_31 : decode cH_note 31 = .ok (.iadd, 1) := by decide +kernel
theorem dH_note_32 : decode cH_note 32 = .ok (.istore 5, 2) := by decide +kernel
theorem dH_note_34 : decode cH_note 34 = .ok (.aload_n 0, 1) := by decide +kernel
theorem dH_note_35 : decode cH_note 35 = .ok (.getfield 22, 3) := by decide +kernel
theorem dH_note_38 : decode cH_note 38 = .ok (.iload 5, 2) := by decide +kernel
theorem dH_note_40 : decode cH_note 40 = .ok (.iload_n 1, 1) := by decide +kernel
theorem dH_note_41 : decode cH_note 41 = .ok (.iastore, 1) := by decide +kernel
theorem dH_note_42 : decode cH_note 42 = .ok (.aload_n 0, 1) := by decide +kernel
theorem dH_note_43 : decode cH_note 43 = .ok (.getfield 25, 3) := by decide +kernel
theorem dH_note_46 : decode cH_note 46 = .ok (.iload 5, 2) := by decide +kernel
theorem dH_note_48 : decode cH_note 48 = .ok (.iload_n 2, 1) := by decide +kernel
theorem dH_note_49 : decode cH_note 49 = .ok (.iastore, 1) := by decide +kernel
theorem dH_note_50 : decode cH_note 50 = .ok (.aload_n 0, 1) := by decide +kernel
theorem dH_note_51 : decode cH_note 51 = .ok (.getfield 28, 3) := by decide +kernel
theorem dH_note_54 : decode cH_note 54 = .ok (.iload 5, 2) := by decide +kernel
theorem dH_note_56 : decode cH_note 56 = .ok (.iload_n 3, 1) := by decide +kernel
theorem dH_note_57 : decode cH_note 57 = .ok (.iastore, 1) := by decide +kernel
theorem dH_note_58 : decode cH_note 58 = .ok (.aload_n 0, 1) := by decide +kernel
theorem dH_note_59 : decode cH_note 59 = .ok (.getfield 18, 3) := by decide +kernel
theorem dH_note_62 : decode cH_note 62 = .ok (.iload 4, 2) := by decide +kernel
theorem dH_note_64 : decode cH_note 64 = .ok (.dup2, 1) := by decide +kernel
theorem dH_note_65 : decode cH_note 65 = .ok (.iaload, 1) := by decide +kernel
theorem dH_note_66 : decode cH_note 66 = .ok (.iconst 1, 1) := by decide +kernel
theorem dH_note_67 : decode cH_note 67 = .ok (.iadd, 1) := by decide +kernel
theorem dH_note_68 : decode cH_note 68 = .ok (.iastore, 1) := by decide +kernel
theorem dH_note_69 : decode cH_note 69 = .ok (.return_, 1) := by decide +kernel
theorem dH_keepOpen_0 : decode cH_keepOpen 0 = .ok (.aload_n 0, 1) := by decide +kernel
theorem dH_keepOpen_1 : decode cH_keepOpen 1 = .ok (.getfield 9, 3) := by decide +kernel
theorem dH_keepOpen_4 : decode cH_keepOpen 4 = .ok (.bipush 40, 2) := by decide +kernel
theorem dH_keepOpen_6 : decode cH_keepOpen 6 = .ok (.if_icmp .ge 16, 3) := by decide +kernel
theorem dH_keepOpen_9 : decode cH_keepOpen 9 = .ok (.aload_n 0, 1) := by decide +kernel
theorem dH_keepOpen_10 : decode cH_keepOpen 10 = .ok (.dup, 1) := by decide +kernel
theorem dH_keepOpen_11 : decode cH_keepOpen 11 = .ok (.getfield 9, 3) := by decide +kernel
theorem dH_keepOpen_14 : decode cH_keepOpen 14 = .ok (.iconst 1, 1) := by decide +kernel
theorem dH_keepOpen_15 : decode cH_keepOpen 15 = .ok (.iadd, 1) := by decide +kernel
theorem dH_keepOpen_16 : decode cH_keepOpen 16 = .ok (.putfield 9, 3) := by decide +kernel
theorem dH_keepOpen_19 : decode cH_keepOpen 19 = .ok (.goto 16, 3) := by decide +kernel
theorem dH_keepOpen_22 : decode cH_keepOpen 22 = .ok (.aload_n 0, 1) := by decide +kernel
theorem dH_keepOpen_23 : decode cH_keepOpen 23 = .ok (.aload_n 0, 1) := by decide +kernel
theorem dH_keepOpen_24 : decode cH_keepOpen 24 = .ok (.getfield 15, 3) := by decide +kernel
theorem dH_keepOpen_27 : decode cH_keepOpen 27 = .ok (.iconst 1, 1) := by decide +kernel
theorem dH_keepOpen_28 : decode cH_keepOpen 28 = .ok (.iadd, 1) := by decide +kernel
theorem dH_keepOpen_29 : decode cH_keepOpen 29 = .ok (.bipush 41, 2) := by decide +kernel
theorem dH_keepOpen_31 : decode cH_keepOpen 31 = .ok (.irem, 1) := by decide +kernel
theorem dH_keepOpen_32 : decode cH_keepOpen 32 = .ok (.putfield 15, 3) := by decide +kernel
theorem dH_keepOpen_35 : decode cH_keepOpen 35 = .ok (.aload_n 0, 1) := by decide +kernel
theorem dH_keepOpen_36 : decode cH_keepOpen 36 = .ok (.getfield 18, 3) := by decide +kernel
theorem dH_keepOpen_39 : decode cH_keepOpen 39 = .ok (.aload_n 0, 1) := by decide +kernel
theorem dH_keepOpen_40 : decode cH_keepOpen 40 = .ok (.invokevirtual 31, 3) := by decide +kernel
theorem dH_keepOpen_43 : decode cH_keepOpen 43 = .ok (.iconst 0, 1) := by decide +kernel
theorem dH_keepOpen_44 : decode cH_keepOpen 44 = .ok (.iastore, 1) := by decide +kernel
theorem dH_keepOpen_45 : decode cH_keepOpen 45 = .ok (.return_, 1) := by decide +kernel
theorem dH_takeBackLatest_0 : decode cH_takeBackLatest 0 = .ok (.aload_n 0, 1) := by decide +kernel
theorem dH_takeBackLatest_1 : decode cH_takeBackLatest 1 = .ok (.getfield 9, 3) := by decide +kernel
theorem dH_takeBackLatest_4 : decode cH_takeBackLatest 4 = .ok (.ifCond .ne 4, 3) := by decide +kernel
theorem dH_takeBackLatest_7 : decode cH_takeBackLatest 7 = .ok (.return_, 1) := by decide +kernel
theorem dH_takeBackLatest_8 : decode cH_takeBackLatest 8 = .ok (.aload_n 0, 1) := by decide +kernel
theorem dH_takeBackLatest_9 : decode cH_takeBackLatest 9 = .ok (.dup, 1) := by decide +kernel
theorem dH_takeBackLatest_10 : decode cH_takeBackLatest 10 = .ok (.getfield 9, 3) := by decide +kernel
theorem dH_takeBackLatest_13 : decode cH_takeBackLatest 13 = .ok (.iconst 1, 1) := by decide +kernel
theorem dH_takeBackLatest_14 : decode cH_takeBackLatest 14 = .ok (.isub, 1) := by decide +kernel
theorem dH_takeBackLatest_15 : decode cH_takeBackLatest 15 = .ok (.putfield 9, 3) := by decide +kernel
theorem dH_takeBackLatest_18 : decode cH_takeBackLatest 18 = .ok (.aload_n 0, 1) := by decide +kernel
theorem dH_takeBackLatest_19 : decode cH_takeBackLatest 19 = .ok (.invokevirtual 31, 3) := by decide +kernel
theorem dH_takeBackLatest_22 : decode cH_takeBackLatest 22 = .ok (.istore_n 2, 1) := by decide +kernel
theorem dH_takeBackLatest_23 : decode cH_takeBackLatest 23 = .ok (.aload_n 0, 1) := by decide +kernel
theorem dH_takeBackLatest_24 : decode cH_takeBackLatest 24 = .ok (.getfield 18, 3) := by decide +kernel
theorem dH_takeBackLatest_27 : decode cH_takeBackLatest 27 = .ok (.iload_n 2, 1) := by decide +kernel
theorem dH_takeBackLatest_28 : decode cH_takeBackLatest 28 = .ok (.iaload, 1) := by decide +kernel
theorem dH_takeBackLatest_29 : decode cH_takeBackLatest 29 = .ok (.iconst 1, 1) := by decide +kernel
theorem dH_takeBackLatest_30 : decode cH_takeBackLatest 30 = .ok (.isub, 1) := by decide +kernel
theorem dH_takeBackLatest_31 : decode cH_takeBackLatest 31 = .ok (.istore_n 3, 1) := by decide +kernel
theorem dH_takeBackLatest_32 : decode cH_takeBackLatest 32 = .ok (.iload_n 3, 1) := by decide +kernel
theorem dH_takeBackLatest_33 : decode cH_takeBackLatest 33 = .ok (.ifCond .lt 42, 3) := by decide +kernel
theorem dH_takeBackLatest_36 : decode cH_takeBackLatest 36 = .ok (.iload_n 2, 1) := by decide +kernel
theorem dH_takeBackLatest_37 : decode cH_takeBackLatest 37 = .ok (.bipush 30, 2) := by decide +kernel
theorem dH_takeBackLatest_39 : decode cH_takeBackLatest 39 = .ok (.imul, 1) := by decide +kernel
theorem dH_takeBackLatest_40 : decode cH_takeBackLatest 40 = .ok (.iload_n 3, 1) := by decide +kernel
theorem dH_takeBackLatest_41 : decode cH_takeBackLatest 41 = .ok (.iadd, 1) := by decide +kernel
theorem dH_takeBackLatest_42 : decode cH_takeBackLatest 42 = .ok (.istore 4, 2) := by decide +kernel
theorem dH_takeBackLatest_44 : decode cH_takeBackLatest 44 = .ok (.aload_n 1, 1) := by decide +kernel
theorem dH_takeBackLatest_45 : decode cH_takeBackLatest 45 = .ok (.aload_n 0, 1) := by decide +kernel
theorem dH_takeBackLatest_46 : decode cH_takeBackLatest 46 = .ok (.getfield 22, 3) := by decide +kernel
theorem dH_takeBackLatest_49 : decode cH_takeBackLatest 49 = .ok (.iload 4, 2) := by decide +kernel
theorem dH_takeBackLatest_51 : decode cH_takeBackLatest 51 = .ok (.iaload, 1) := by decide +kernel
theorem dH_takeBackLatest_52 : decode cH_takeBackLatest 52 = .ok (.aload_n 0, 1) := by decide +kernel
theorem dH_takeBackLatest_53 : decode cH_takeBackLatest 53 = .ok (.getfield 25, 3) := by decide +kernel
theorem dH_takeBackLatest_56 : decode cH_takeBackLatest 56 = .ok (.iload 4, 2) := by decide +kernel
theorem dH_takeBackLatest_58 : decode cH_takeBackLatest 58 = .ok (.iaload, 1) := by decide +kernel
theorem dH_takeBackLatest_59 : decode cH_takeBackLatest 59 = .ok (.aload_n 0, 1) := by decide +kernel
theorem dH_takeBackLatest_60 : decode cH_takeBackLatest 60 = .ok (.getfield 28, 3) := by decide +kernel
theorem dH_takeBackLatest_63 : decode cH_takeBackLatest 63 = .ok (.iload 4, 2) := by decide +kernel
theorem dH_takeBackLatest_65 : decode cH_takeBackLatest 65 = .ok (.iaload, 1) := by decide +kernel
theorem dH_takeBackLatest_66 : decode cH_takeBackLatest 66 = .ok (.invokevirtual 35, 3) := by decide +kernel
theorem dH_takeBackLatest_69 : decode cH_takeBackLatest 69 = .ok (.iinc 3 (-1), 3) := by decide +kernel
theorem dH_takeBackLatest_72 : decode cH_takeBackLatest 72 = .ok (.goto (-40), 3) := by decide +kernel
theorem dH_takeBackLatest_75 : decode cH_takeBackLatest 75 = .ok (.aload_n 0, 1) := by decide +kernel
theorem dH_takeBackLatest_76 : decode cH_takeBackLatest 76 = .ok (.getfield 18, 3) := by decide +kernel
theorem dH_takeBackLatest_79 : decode cH_takeBackLatest 79 = .ok (.iload_n 2, 1) := by decide +kernel
theorem dH_takeBackLatest_80 : decode cH_takeBackLatest 80 = .ok (.iconst 0, 1) := by decide +kernel
theorem dH_takeBackLatest_81 : decode cH_takeBackLatest 81 = .ok (.iastore, 1) := by decide +kernel
theorem dH_takeBackLatest_82 : decode cH_takeBackLatest 82 = .ok (.return_, 1) := by decide +kernel
theorem dS_init_0 : decode cS_init 0 = .ok (.aload_n 0, 1) := by decide +kernel
theorem dS_init_1 : decode cS_init 1 = .ok (.invokespecial 3, 3) := by decide +kernel
theorem dS_init_4 : decode cS_init 4 = .ok (.aload_n 0, 1) := by decide +kernel
theorem dS_init_5 : decode cS_init 5 = .ok (.iconst (-1), 1) := by decide +kernel
theorem dS_init_6 : decode cS_init 6 = .ok (.putfield 9, 3) := by decide +kernel
theorem dS_init_9 : decode cS_init 9 = .ok (.aload_n 0, 1) := by decide +kernel
theorem dS_init_10 : decode cS_init 10 = .ok (.iconst 0, 1) := by decide +kernel
theorem dS_init_11 : decode cS_init 11 = .ok (.putfield 15, 3) := by decide +kernel
theorem dS_init_14 : decode cS_init 14 = .ok (.aload_n 0, 1) := by decide +kernel
theorem dS_init_15 : decode cS_init 15 = .ok (.new 18, 3) := by decide +kernel
theorem dS_init_18 : decode cS_init 18 = .ok (.dup, 1) := by decide +kernel
theorem dS_init_19 : decode cS_init 19 = .ok (.invokespecial 20, 3) := by decide +kernel
theorem dS_init_22 : decode cS_init 22 = .ok (.putfield 21, 3) := by decide +kernel
theorem dS_init_25 : decode cS_init 25 = .ok (.aload_n 0, 1) := by decide +kernel
theorem dS_init_26 : decode cS_init 26 = .ok (.new 18, 3) := by decide +kernel
theorem dS_init_29 : decode cS_init 29 = .ok (.dup, 1) := by decide +kernel
theorem dS_init_30 : decode cS_init 30 = .ok (.invokespecial 20, 3) := by decide +kernel
theorem dS_init_33 : decode cS_init 33 = .ok (.putfield 25, 3) := by decide +kernel
theorem dS_init_36 : decode cS_init 36 = .ok (.return_, 1) := by decide +kernel
theorem dS_moveTo_0 : decode cS_moveTo 0 = .ok (.aload_n 0, 1) := by decide +kernel
theorem dS_moveTo_1 : decode cS_moveTo 1 = .ok (.iload_n 1, 1) := by decide +kernel
theorem dS_moveTo_2 : decode cS_moveTo 2 = .ok (.putfield 9, 3) := by decide +kernel
theorem dS_moveTo_5 : decode cS_moveTo 5 = .ok (.aload_n 0, 1) := by decide +kernel
theorem dS_moveTo_6 : decode cS_moveTo 6 = .ok (.getfield 21, 3) := by decide +kernel
theorem dS_moveTo_9 : decode cS_moveTo 9 = .ok (.aload_n 2, 1) := by decide +kernel
theorem dS_moveTo_10 : decode cS_moveTo 10 = .ok (.iload_n 1, 1) := by decide +kernel
theorem dS_moveTo_11 : decode cS_moveTo 11 = .ok (.invokevirtual 28, 3) := by decide +kernel
theorem dS_moveTo_14 : decode cS_moveTo 14 = .ok (.aload_n 0, 1) := by decide +kernel
theorem dS_moveTo_15 : decode cS_moveTo 15 = .ok (.iconst 0, 1) := by decide +kernel
theorem dS_moveTo_16 : decode cS_moveTo 16 = .ok (.putfield 15, 3) := by decide +kernel
theorem dS_moveTo_19 : decode cS_moveTo 19 = .ok (.return_, 1) := by decide +kernel
theorem dS_recount_0 : decode cS_recount 0 = .ok (.aload_n 0, 1) := by decide +kernel
theorem dS_recount_1 : decode cS_recount 1 = .ok (.getfield 21, 3) := by decide +kernel
theorem dS_recount_4 : decode cS_recount 4 = .ok (.astore_n 2, 1) := by decide +kernel
theorem dS_recount_5 : decode cS_recount 5 = .ok (.aload_n 0, 1) := by decide +kernel
theorem dS_recount_6 : decode cS_recount 6 = .ok (.getfield 25, 3) := by decide +kernel
theorem dS_recount_9 : decode cS_recount 9 = .ok (.aload_n 1, 1) := by decide +kernel
theorem dS_recount_10 : decode cS_recount 10 = .ok (.aload_n 0, 1) := by decide +kernel
theorem dS_recount_11 : decode cS_recount 11 = .ok (.getfield 9, 3) := by decide +kernel
theorem dS_recount_14 : decode cS_recount 14 = .ok (.invokevirtual 28, 3) := by decide +kernel
theorem dS_recount_17 : decode cS_recount 17 = .ok (.aload_n 0, 1) := by decide +kernel
theorem dS_recount_18 : decode cS_recount 18 = .ok (.aload_n 0, 1) := by decide +kernel
theorem dS_recount_19 : decode cS_recount 19 = .ok (.getfield 25, 3) := by decide +kernel
theorem dS_recount_22 : decode cS_recount 22 = .ok (.aload_n 2, 1) := by decide +kernel
theorem dS_recount_23 : decode cS_recount 23 = .ok (.invokevirtual 32, 3) := by decide +kernel
theorem dS_recount_26 : decode cS_recount 26 = .ok (.putfield 15, 3) := by decide +kernel
theorem dS_recount_29 : decode cS_recount 29 = .ok (.aload_n 0, 1) := by decide +kernel
theorem dS_recount_30 : decode cS_recount 30 = .ok (.aload_n 0, 1) := by decide +kernel
theorem dS_recount_31 : decode cS_recount 31 = .ok (.getfield 25, 3) := by decide +kernel
theorem dS_recount_34 : decode cS_recount 34 = .ok (.putfield 21, 3) := by decide +kernel
theorem dS_recount_37 : decode cS_recount 37 = .ok (.aload_n 0, 1) := by decide +kernel
theorem dS_recount_38 : decode cS_recount 38 = .ok (.aload_n 2, 1) := by decide +kernel
theorem dS_recount_39 : decode cS_recount 39 = .ok (.putfield 25, 3) := by decide +kernel
theorem dS_recount_42 : decode cS_recount 42 = .ok (.return_, 1) := by decide +kernel
end
section
/-! the words of this claim's contracts: truths, counted loops, contracts over pictures, a row a call -/
noncomputable def kB (P : Prop) : Int32 := @ite Int32 P (Classical.propDecidable P) 1 0
theorem kB_t {P : Prop} (h : P) : kB P = 1 := by unfold kB; exact if_pos h
theorem kB_f {P : Prop} (h : ¬ P) : kB P = 0 := by unfold kB; exact if_neg h
theorem kB_0 {P : Prop} : kB P = 0 ↔ ¬ P := ⟨fun h q => by rw [kB_t q] at h; exact absurd h (by decide), kB_f⟩
theorem kB_1 {P : Prop} : ¬ kB P = 0 ↔ P := ⟨fun h => Classical.byContradiction fun q => h (kB_f q), fun q h => (kB_0.mp h) q⟩
/-- a counted loop's state behind its first n turns -/
def kItr {σ : Type} (f : Nat → σ → σ) : Nat → σ → σ
  | 0, s => s
  | n + 1, s => f n (kItr f n s)
theorem kItr_s {σ : Type} (f : Nat → σ → σ) (n : Nat) (s : σ) : kItr f (n + 1) s = f n (kItr f n s) := rfl
theorem kItr_0 {σ : Type} (f : Nat → σ → σ) (s : σ) : kItr f 0 s = s := rfl
theorem k_fm {α : Type} {is : List Nat} {f : Nat → Option α} {ws : List α} (h : is.map f = ws.map some) : is.filterMap f = ws := by
  have e : is.filterMap f = (is.map f).filterMap id := by rw [List.filterMap_map]; rfl
  rw [e, h, List.filterMap_map]
  induction ws with
  | nil => rfl
  | cons a t ih => simp
abbrev kTys (τ : Nat → ClassId) : List (ClassId × FieldType) := [(τ 0, .int), (τ 1, .object "KeptPaths$Source")]
def kPc (D : va_G) (τ : Nat → ClassId) (av : List Value) (w : va_W) (sz : Nat) : Array Value → State → Prop := va_Pc av (fun U => U.heap.size = sz ∧ va_P D vwCl w U.heap ∧ va_K D vwCl (kTys τ) U ∧ va_D (fun _ => True) w)
def kWd (D : va_G) (τ : Nat → ClassId) (A : Nat → Prop) (w : va_W) (t : State) : Prop := va_P D vwCl w t.heap ∧ va_K D vwCl (kTys τ) t ∧ va_D A w
/-- y with the arguments av over the cells w answers r, and the cells are w' -/
def kMi (l : Launch) (D : va_G) (τ : Nat → ClassId) (y : MethodName) (ws : List Cond) (rm : Room) (av : List Value) (w : va_W) (r : Int32) (w' : va_W) : Prop :=
  ∀ sz : Nat, Met l y ws rm (kPc D τ av w sz) (va_Qi (fun (x : Int32) (_ : Unit) => x = r) (fun _ t => kWd D τ (va_A w sz) w' t) (va_A w sz)) 0 0 (va_A w sz)
def kMv (l : Launch) (D : va_G) (τ : Nat → ClassId) (y : MethodName) (ws : List Cond) (rm : Room) (av : List Value) (w : va_W) (w' : va_W) : Prop :=
  ∀ sz : Nat, Met l y ws rm (kPc D τ av w sz) (va_Qv (fun (_ : Unit) => True) (fun _ t => kWd D τ (va_A w sz) w' t) (va_A w sz)) 0 0 (va_A w sz)
theorem kPc_blind {D : va_G} {τ : Nat → ClassId} {av : List Value} {w : va_W} {sz : Nat} : FrameBlind (kPc D τ av w sz) := fun a U g mk q => by
  obtain ⟨q0, q1, qP, qK, qD⟩ := q
  exact ⟨q0, q1, qP, va_K.moved (u := U) (U := U.calling g mk a) (Vm.Alike.refl U.vm) qK, qD⟩
section KROWS
variable {p : Program} {l : Launch} {e : Env} {R : Room} {s : State} {m : MethodId} {args : Array Value} {below : List Frame} {meth : Method} {c : Code} {H : Heap} {locs : List Loc} {cells slots : Nat} {Q : State → Prop} {cc : ByteArray} {D : va_G} {τ : Nat → ClassId} {A : Nat → Prop} {pc : Nat} {ls : Array Slot} {rest : List Value} {tys : List (ClassId × FieldType)} {ws : va_W} {cl : List vw_C}
theorem ka_iald (hexec : p.tables.exec = Jvm.exec) (hb : c.code = cc) (hK : va_K D cl tys s) (hP : va_P D cl ws H) (q0 t0 : Nat) {cA : ClassId} {n a : Nat} {f : Nat → Int32} {k : Nat} (ha : ws[q0]? = some (a, .inl (cA, n, .inl f))) (ht : tys[t0]? = some (cA, .int)) (hk : k < n) (hn : n < 2 ^ 31) {i : Int32} (hi : i = nI k) (hdg : decode cc pc = .ok (.iaload, 1))
    (kk : W p l e R s m args below meth c H locs cells slots Q (F0 m (pc + 1) ls (.int (f k) :: rest))) : W p l e R s m args below meth c H locs cells slots Q (F0 m pc ls (.int i :: .ref a :: rest)) := by
  subst hi
  refine va_iald hexec hb hK hP q0 t0 ha ht (vp_in_nI hk hn) hdg ?_
  rw [nI_clamp (by omega)]
  exact kk
theorem ka_iast (hexec : p.tables.exec = Jvm.exec) (hb : c.code = cc) (hK : va_K D cl tys s) (hP : va_P D cl ws H) (hD : va_D A ws) {H0 : Heap} (hS : va_S A H0 H locs) (q0 t0 : Nat) {cA : ClassId} {n a : Nat} {f : Nat → Int32} {k : Nat} (ha : ws[q0]? = some (a, .inl (cA, n, .inl f))) (ht : tys[t0]? = some (cA, .int)) (hk : k < n) (hn : n < 2 ^ 31) {i x : Int32} (hi : i = nI k) (hdg : decode cc pc = .ok (.iastore, 1))
    (kk : ∀ (H1 : Heap) (locs1 : List Loc), va_P D cl (ws.set q0 (a, .inl (cA, n, .inl (upd f k x)))) H1 → va_D A (ws.set q0 (a, .inl (cA, n, .inl (upd f k x)))) → va_S A H0 H1 locs1 → W p l e R s m args below meth c H1 locs1 cells slots Q (F0 m (pc + 1) ls rest)) : W p l e R s m args below meth c H locs cells slots Q (F0 m pc ls (.int x :: .int i :: .ref a :: rest)) := by
  subst hi
  refine va_iast hexec hb hK hP hD hS q0 t0 ha ht (vp_in_nI hk hn) hdg ?_
  rw [nI_clamp (by omega)]
  exact kk
theorem ka_aald (hexec : p.tables.exec = Jvm.exec) (hb : c.code = cc) (hK : va_K D cl tys s) (hP : va_P D cl ws H) (q0 t0 : Nat) {cA : ClassId} {C : String} {n a v : Nat} {f : Nat → Option Nat} {k : Nat} (ha : ws[q0]? = some (a, .inl (cA, n, .inr (.inr (.inr (.inr f)))))) (ht : tys[t0]? = some (cA, .object C)) (hk : k < n) (hn : n < 2 ^ 31) {i : Int32} (hi : i = nI k) (hv : f k = some v) (hdg : decode cc pc = .ok (.aaload, 1))
    (kk : W p l e R s m args below meth c H locs cells slots Q (F0 m (pc + 1) ls (.ref v :: rest))) : W p l e R s m args below meth c H locs cells slots Q (F0 m pc ls (.int i :: .ref a :: rest)) := by
  subst hi
  refine va_aldq hexec hb hK hP q0 t0 ha ht (vp_in_nI hk hn) hdg ?_
  rw [nI_clamp (by omega), hv]
  exact kk
theorem k_iret (hx : p.tables.exec = Jvm.exec) (hb : c.code = cc) (hr : meth.sig.returnType = some .int) (hlocks : meth.locks = false) (hK : va_K D vwCl (kTys τ) s) (hS : va_S A s.heap H locs) {w : va_W} {v r : Int32} (hv : v = r) (hP : va_P D vwCl w H) (hD : va_D A w) (hdg : decode cc pc = .ok (.ireturn, 1)) :
    W p l e R s m args below meth c H locs 0 0 (MQ below (va_Qi (fun (x : Int32) (_ : Unit) => x = r) (fun _ t => kWd D τ A w t) A) args s 0 0 A) (F0 m pc ls [.int v]) :=
  W.iret hx hb hr (fun t ht hW => ⟨⟨v, (), rfl, hv, by rw [ht]; exact hP, va_K.moved hW.alike hK, hD⟩, hS.F ht⟩) hS.2.2 hdg hlocks
theorem k_zret (hx : p.tables.exec = Jvm.exec) (hb : c.code = cc) (hr : meth.sig.returnType = some .boolean) (hlocks : meth.locks = false) (hK : va_K D vwCl (kTys τ) s) (hS : va_S A s.heap H locs) {w : va_W} {v r : Int32} (hn : narrow .boolean (.int v) = .int v) (hv : v = r) (hP : va_P D vwCl w H) (hD : va_D A w) (hdg : decode cc pc = .ok (.ireturn, 1)) :
    W p l e R s m args below meth c H locs 0 0 (MQ below (va_Qi (fun (x : Int32) (_ : Unit) => x = r) (fun _ t => kWd D τ A w t) A) args s 0 0 A) (F0 m pc ls [.int v]) :=
  W.zret hx hb hr hn (fun t ht hW => ⟨⟨v, (), rfl, hv, by rw [ht]; exact hP, va_K.moved hW.alike hK, hD⟩, hS.F ht⟩) hS.2.2 hdg hlocks
theorem k_vret (hx : p.tables.exec = Jvm.exec) (hb : c.code = cc) (hr : meth.sig.returnType = none) (hlocks : meth.locks = false) (hK : va_K D vwCl (kTys τ) s) (hS : va_S A s.heap H locs) {w : va_W} (hP : va_P D vwCl w H) (hD : va_D A w) (hdg : decode cc pc = .ok (.return_, 1)) :
    W p l e R s m args below meth c H locs 0 0 (MQ below (va_Qv (fun (_ : Unit) => True) (fun _ t => kWd D τ A w t) A) args s 0 0 A) (F0 m pc ls []) :=
  W.vret hx hb hr (fun t ht hW => ⟨⟨(), rfl, trivial, by rw [ht]; exact hP, va_K.moved hW.alike hK, hD⟩, hS.F ht⟩) hS.2.2 hdg hlocks
theorem kc_Vi {nL : Nat} {Ts ws' : List Cond} {own C : String} {y : MethodName} {rm : Room} {bytes : ByteArray} {maxL n index ci N b : Nat} {ret : Option FieldType} {As fs st0 : List Value} {T : u_T} {wc wc' W0 wr W1 : va_W} {r : Int32}
    (S : CallFix p m c cc nL s args Ts own) (hM : kMi l D τ y ws' rm (.ref b :: As) wc r wc') (cw : CallW R s args own C index y bytes maxL ret ws' rm 0 0 n) (hK : va_K D vwCl (kTys τ) s) (hP : va_P D vwCl W0 H) (hD : va_D A W0) (hS : va_S A s.heap H locs) (hA : ∀ q, s.heap.size ≤ q → A q) (isC isR perm : List Nat)
    (hC : isC.map (fun i => W0[i]?) = wc.map some) (hR : isR.map (fun i => W0[i]?) = wr.map some) (hnC : va_nd isC = true) (hn : va_nd isR = true) (hdis : ∀ i ∈ isR, i ∉ isC) (hc : vwCl[ci]? = some (C, T, N)) (he : wc[0]? = some (b, .inr (ci, fs))) (hp : perm.map (fun i => (wr ++ wc')[i]?) = W1.map some) (hpn : va_nd perm = true)
    (hsize : ls.size = nL) (hlen : As.length = n) (hst : st0 = As.reverse ++ .ref b :: rest) (hcat : (rest.map fun v => v.category).sum ≤ 8) (hcs : cells + 0 ≤ R.cells ∧ slots + 0 ≤ R.slots) (hdg : decode cc pc = .ok (.invokevirtual index, 3))
    (kk : ∀ (H1 : Heap) (locs1 : List Loc), va_P D vwCl W1 H1 → va_D A W1 → va_S A s.heap H1 locs1 → W p l e R s m args below meth c H1 locs1 cells slots Q (F0 m (pc + 3) ls (.int r :: rest))) : W p l e R s m args below meth c H locs cells slots Q (F0 m pc ls st0) := by
  have hPc := hP.sub (ws' := wc) isC (k_fm hC)
  have hDc := hD.sub (ws' := wc) isC hnC hC
  have hFc := va_free (wc := wc) hD hS hA isC hC
  refine va_calli (va_runV (As := As) (rest := rest) S (hM H.size) cw ⟨kPc_blind, va_recv hK hPc hc he, fun U hU hW => ⟨rfl, by rw [hU], by rw [hU]; exact hPc, va_K.moved hW.alike hK, hDc.weaken (fun _ _ _ _ => trivial)⟩⟩ rfl hlen hsize hst (lv_room hcat) hdg hcs) hS (fun q _ h => hFc q h) hFc (fun r1 u t H1 locs1 ht hvm hw hB hz1 hk1 hS1 => ?_)
  obtain ⟨hP1, hK1, hD1⟩ := hB
  rw [ht] at hP1
  obtain ⟨hP2, hD2⟩ := va_join (wr := wr) (w1 := wc') hP hD isC isR hC hR hn hdis hk1 hFc hP1 hD1
  have hw : r1 = r := hw
  subst hw
  exact kk H1 locs1 (hP2.sub perm (k_fm hp)) (hD2.sub perm hpn hp) hS1
theorem kc_Vv {nL : Nat} {Ts ws' : List Cond} {own C : String} {y : MethodName} {rm : Room} {bytes : ByteArray} {maxL n index ci N b : Nat} {ret : Option FieldType} {As fs st0 : List Value} {T : u_T} {wc wc' W0 wr W1 : va_W}
    (S : CallFix p m c cc nL s args Ts own) (hM : kMv l D τ y ws' rm (.ref b :: As) wc wc') (cw : CallW R s args own C index y bytes maxL ret ws' rm 0 0 n) (hK : va_K D vwCl (kTys τ) s) (hP : va_P D vwCl W0 H) (hD : va_D A W0) (hS : va_S A s.heap H locs) (hA : ∀ q, s.heap.size ≤ q → A q) (isC isR perm : List Nat)
    (hC : isC.map (fun i => W0[i]?) = wc.map some) (hR : isR.map (fun i => W0[i]?) = wr.map some) (hnC : va_nd isC = true) (hn : va_nd isR = true) (hdis : ∀ i ∈ isR, i ∉ isC) (hc : vwCl[ci]? = some (C, T, N)) (he : wc[0]? = some (b, .inr (ci, fs))) (hp : perm.map (fun i => (wr ++ wc')[i]?) = W1.map some) (hpn : va_nd perm = true)
    (hsize : ls.size = nL) (hlen : As.length = n) (hst : st0 = As.reverse ++ .ref b :: rest) (hcat : (rest.map fun v => v.category).sum ≤ 8) (hcs : cells + 0 ≤ R.cells ∧ slots + 0 ≤ R.slots) (hdg : decode cc pc = .ok (.invokevirtual index, 3))
    (kk : ∀ (H1 : Heap) (locs1 : List Loc), va_P D vwCl W1 H1 → va_D A W1 → va_S A s.heap H1 locs1 → W p l e R s m args below meth c H1 locs1 cells slots Q (F0 m (pc + 3) ls rest)) : W p l e R s m args below meth c H locs cells slots Q (F0 m pc ls st0) := by
  have hPc := hP.sub (ws' := wc) isC (k_fm hC)
  have hDc := hD.sub (ws' := wc) isC hnC hC
  have hFc := va_free (wc := wc) hD hS hA isC hC
  refine va_callv (va_runV (As := As) (rest := rest) S (hM H.size) cw ⟨kPc_blind, va_recv hK hPc hc he, fun U hU hW => ⟨rfl, by rw [hU], by rw [hU]; exact hPc, va_K.moved hW.alike hK, hDc.weaken (fun _ _ _ _ => trivial)⟩⟩ rfl hlen hsize hst (lv_room hcat) hdg hcs) hS (fun q _ h => hFc q h) hFc (fun u t H1 locs1 ht hvm hw hB hz1 hk1 hS1 => ?_)
  obtain ⟨hP1, hK1, hD1⟩ := hB
  rw [ht] at hP1
  obtain ⟨hP2, hD2⟩ := va_join (wr := wr) (w1 := wc') hP hD isC isR hC hR hn hdis hk1 hFc hP1 hD1
  exact kk H1 locs1 (hP2.sub perm (k_fm hp)) (hD2.sub perm hpn hp) hS1
theorem kc_Si {nL : Nat} {Ts ws' : List Cond} {own : String} {y : MethodName} {rm : Room} {bytes : ByteArray} {maxL n index : Nat} {ret : Option FieldType} {As st0 : List Value} {wc wc' W0 wr W1 : va_W} {r : Int32}
    (S : CallFix p m c cc nL s args Ts own) (hM : kMi l D τ y ws' rm As wc r wc') (cw : CallB R s args own index y bytes maxL ret ws' rm 0 0 n ∧ (Cond.static y).before args s = true) (hK : va_K D vwCl (kTys τ) s) (hP : va_P D vwCl W0 H) (hD : va_D A W0) (hS : va_S A s.heap H locs) (hA : ∀ q, s.heap.size ≤ q → A q) (isC isR perm : List Nat)
    (hC : isC.map (fun i => W0[i]?) = wc.map some) (hR : isR.map (fun i => W0[i]?) = wr.map some) (hnC : va_nd isC = true) (hn : va_nd isR = true) (hdis : ∀ i ∈ isR, i ∉ isC) (hp : perm.map (fun i => (wr ++ wc')[i]?) = W1.map some) (hpn : va_nd perm = true)
    (hsize : ls.size = nL) (hlen : As.length = n) (hst : st0 = As.reverse ++ rest) (hcat : (rest.map fun v => v.category).sum ≤ 8) (hcs : cells + 0 ≤ R.cells ∧ slots + 0 ≤ R.slots) (hdg : decode cc pc = .ok (.invokestatic index, 3))
    (kk : ∀ (H1 : Heap) (locs1 : List Loc), va_P D vwCl W1 H1 → va_D A W1 → va_S A s.heap H1 locs1 → W p l e R s m args below meth c H1 locs1 cells slots Q (F0 m (pc + 3) ls (.int r :: rest))) : W p l e R s m args below meth c H locs cells slots Q (F0 m pc ls st0) := by
  have hPc := hP.sub (ws' := wc) isC (k_fm hC)
  have hDc := hD.sub (ws' := wc) isC hnC hC
  have hFc := va_free (wc := wc) hD hS hA isC hC
  refine va_calli (va_runS (As := As) (rest := rest) S (hM H.size) cw ⟨kPc_blind, fun U hU hW => ⟨rfl, by rw [hU], by rw [hU]; exact hPc, va_K.moved hW.alike hK, hDc.weaken (fun _ _ _ _ => trivial)⟩⟩ rfl hlen hsize hst (lv_room hcat) hdg hcs) hS (fun q _ h => hFc q h) hFc (fun r1 u t H1 locs1 ht hvm hw hB hz1 hk1 hS1 => ?_)
  obtain ⟨hP1, hK1, hD1⟩ := hB
  rw [ht] at hP1
  obtain ⟨hP2, hD2⟩ := va_join (wr := wr) (w1 := wc') hP hD isC isR hC hR hn hdis hk1 hFc hP1 hD1
  have hw : r1 = r := hw
  subst hw
  exact kk H1 locs1 (hP2.sub perm (k_fm hp)) (hD2.sub perm hpn hp) hS1
theorem kc_Sv {nL : Nat} {Ts ws' : List Cond} {own : String} {y : MethodName} {rm : Room} {bytes : ByteArray} {maxL n index : Nat} {ret : Option FieldType} {As st0 : List Value} {wc wc' W0 wr W1 : va_W}
    (S : CallFix p m c cc nL s args Ts own) (hM : kMv l D τ y ws' rm As wc wc') (cw : CallB R s args own index y bytes maxL ret ws' rm 0 0 n ∧ (Cond.static y).before args s = true) (hK : va_K D vwCl (kTys τ) s) (hP : va_P D vwCl W0 H) (hD : va_D A W0) (hS : va_S A s.heap H locs) (hA : ∀ q, s.heap.size ≤ q → A q) (isC isR perm : List Nat)
    (hC : isC.map (fun i => W0[i]?) = wc.map some) (hR : isR.map (fun i => W0[i]?) = wr.map some) (hnC : va_nd isC = true) (hn : va_nd isR = true) (hdis : ∀ i ∈ isR, i ∉ isC) (hp : perm.map (fun i => (wr ++ wc')[i]?) = W1.map some) (hpn : va_nd perm = true)
    (hsize : ls.size = nL) (hlen : As.length = n) (hst : st0 = As.reverse ++ rest) (hcat : (rest.map fun v => v.category).sum ≤ 8) (hcs : cells + 0 ≤ R.cells ∧ slots + 0 ≤ R.slots) (hdg : decode cc pc = .ok (.invokestatic index, 3))
    (kk : ∀ (H1 : Heap) (locs1 : List Loc), va_P D vwCl W1 H1 → va_D A W1 → va_S A s.heap H1 locs1 → W p l e R s m args below meth c H1 locs1 cells slots Q (F0 m (pc + 3) ls rest)) : W p l e R s m args below meth c H locs cells slots Q (F0 m pc ls st0) := by
  have hPc := hP.sub (ws' := wc) isC (k_fm hC)
  have hDc := hD.sub (ws' := wc) isC hnC hC
  have hFc := va_free (wc := wc) hD hS hA isC hC
  refine va_callv (va_runS (As := As) (rest := rest) S (hM H.size) cw ⟨kPc_blind, fun U hU hW => ⟨rfl, by rw [hU], by rw [hU]; exact hPc, va_K.moved hW.alike hK, hDc.weaken (fun _ _ _ _ => trivial)⟩⟩ rfl hlen hsize hst (lv_room hcat) hdg hcs) hS (fun q _ h => hFc q h) hFc (fun u t H1 locs1 ht hvm hw hB hz1 hk1 hS1 => ?_)
  obtain ⟨hP1, hK1, hD1⟩ := hB
  rw [ht] at hP1
  obtain ⟨hP2, hD2⟩ := va_join (wr := wr) (w1 := wc') hP hD isC isR hC hR hn hdis hk1 hFc hP1 hD1
  exact kk H1 locs1 (hP2.sub perm (k_fm hp)) (hD2.sub perm hpn hp) hS1
end KROWS
end
section
/-! what the class computes, as functions of numbers and rows (Nat → Int32), in the order of its own code -/
noncomputable def kIf {α : Type} (P : Prop) (a b : α) : α := @ite α P (Classical.propDecidable P) a b
theorem kIf_t {α : Type} {P : Prop} {a b : α} (h : P) : kIf P a b = a := by unfold kIf; exact if_pos h
theorem kIf_f {α : Type} {P : Prop} {a b : α} (h : ¬ P) : kIf P a b = b := by unfold kIf; exact if_neg h
abbrev kF : Type := Nat → Int32
def kNo : kF := fun _ => (-1000000)
-- the net
def kNode (N : Nat) (v : Int32) : Prop := ¬ v < 0 ∧ ¬ nI N ≤ v
def kTwo (N : Nat) (a b : Int32) : Prop := kNode N a ∧ kNode N b ∧ ¬ a = b
noncomputable def kArcs (ar had x : Int32) : Int32 := kIf (had = (-1000000) ∧ ¬ x = (-1000000)) (ar + 1) (kIf (¬ had = (-1000000) ∧ x = (-1000000)) (ar - 1) ar)
-- least ways
def kBet (d h : kF) (v : Nat) (x y : Int32) : Prop := d v = (-1000000) ∨ x < d v ∨ (x = d v ∧ y < h v)
noncomputable def kFol (len : kF) (u v : Nat) (st : kF × kF × Int32) : kF × kF × Int32 :=
  kIf (len (u * 24 + v) = (-1000000)) st (kIf (kBet st.1 st.2.1 v (st.1 u + len (u * 24 + v)) (st.2.1 u + 1)) (upd st.1 v (st.1 u + len (u * 24 + v)), upd st.2.1 v (st.2.1 u + 1), st.2.2 ||| ((1 : Int32) <<< (nI v &&& 31))) st)
noncomputable def kFolA (N : Nat) (len : kF) (u : Nat) (d h : kF) : kF × kF × Int32 := kItr (kFol len u) N (d, h, 0)
noncomputable def kRnd1 (N : Nat) (len : kF) (go : Int32) (u : Nat) (st : kF × kF × Int32) : kF × kF × Int32 :=
  kIf ((go >>> (nI u &&& 31)) &&& 1 = 0) st ((kFolA N len u st.1 st.2.1).1, (kFolA N len u st.1 st.2.1).2.1, st.2.2 ||| (kFolA N len u st.1 st.2.1).2.2)
noncomputable def kRnd (N : Nat) (len : kF) (_ : Nat) (st : kF × kF × Int32) : kF × kF × Int32 :=
  kIf (st.2.2 = 0) st (kItr (kRnd1 N len st.2.2) N (st.1, st.2.1, 0))
noncomputable def kRel (N : Nat) (len : kF) (x : Nat) : kF × kF × Int32 := kItr (kRnd N len) N (upd kNo x 0, upd kNo x 0, (1 : Int32) <<< (nI x &&& 31))
noncomputable def kTg (len d h : kF) (u v : Nat) (st : kF × Int32) : kF × Int32 :=
  kIf (len (u * 24 + v) = (-1000000)) st (kIf (d u + len (u * 24 + v) = d v) (kIf (st.1 v = (-1000000) ∧ h u + 1 = h v) (upd st.1 v (nI u), st.2 + 1) (st.1, st.2 + 1)) st)
noncomputable def kTgU (N : Nat) (len d h : kF) (u : Nat) (st : kF × Int32) : kF × Int32 := kIf (d u = (-1000000)) st (kItr (kTg len d h u) N st)
abbrev kLW : Type := kF × kF × kF × Int32
noncomputable def kSet (N : Nat) (len : kF) (x : Nat) : kLW :=
  ((kRel N len x).1, (kRel N len x).2.1, (kItr (kTgU N len (kRel N len x).1 (kRel N len x).2.1) N (kNo, 0)).1, (kItr (kTgU N len (kRel N len x).1 (kRel N len x).2.1) N (kNo, 0)).2)
noncomputable def kSettle (N : Nat) (len : kF) (x : Int32) : kLW := kIf (kNode N x) (kSet N len x.toNatClampNeg) (kNo, kNo, kNo, 0)
noncomputable def kDif (d h p d' h' p' : kF) (v : Nat) (st : Int32) : Int32 := kIf (d v = d' v ∧ h v = h' v ∧ p v = p' v) st (st ||| ((1 : Int32) <<< (nI v &&& 31)))
noncomputable def kDiff (a b : kLW) : Int32 := kItr (kDif a.1 a.2.1 a.2.2.1 b.1 b.2.1 b.2.2.1) 24 0
/-- one step back by parents -/
noncomputable def kBack (p : kF) (_ : Nat) (x : Int32) : Int32 := kIf (x < 0) x (p x.toNatClampNeg)
theorem k_ix (i j : Nat) : nI i * 24 + nI j = nI (i * 24 + j) := by rw [show (24 : Int32) = nI 24 from rfl, pk_mul, nI_add]
theorem kNode_n {N : Nat} {x : Int32} (hN : N ≤ 24) (h : kNode N x) : ∃ j, j < N ∧ x = nI j := by
  rcases pk_ix x (n := N) (by omega) with q | q | q
  · exact absurd q h.1
  · exact absurd q h.2
  · exact q
theorem kNode_i {N j : Nat} (hN : N ≤ 24) (h : j < N) : kNode N (nI j) := ⟨nI_pos (by omega), nI_ge h (by omega)⟩
theorem kArr_eq {cA : ClassId} {n : Nat} {f g : Nat → Int32} (h : ∀ j, j < n → f j = g j) : vp_cell cA (n, .inl f) = vp_cell cA (n, .inl g) := by
  rw [vp_cell_i, vp_cell_i]
  unfold arrV
  congr 1
  congr 1
  funext j
  show Value.int (f j.val) = Value.int (g j.val)
  rw [h j.val j.isLt]
theorem kP_re {D : va_G} {cl : List vw_C} {ws : va_W} {H : Heap} (hP : va_P D cl ws H) (k : Nat) {a n : Nat} {cA : ClassId} {f g : Nat → Int32} (hk : ws[k]? = some (a, .inl (cA, n, .inl f))) (h : ∀ j, j < n → f j = g j) : va_P D cl (ws.set k (a, .inl (cA, n, .inl g))) H := by
  intro i q hi
  by_cases z : i = k
  · subst z
    have hlt : i < ws.length := (List.getElem?_eq_some_iff.mp hk).1
    rw [List.getElem?_set_self hlt] at hi
    cases hi
    have := hP i _ hk
    show H[a]? = some (vp_cell cA (n, .inl g))
    rw [← kArr_eq h]
    exact this
  · rw [List.getElem?_set_ne (fun q => z q.symm)] at hi
    exact hP i q hi
theorem kFill (x : Int32) (g : Nat → Int32) : ∀ n j, j < n → kItr (fun k f => upd f k x) n g j = x := by
  intro n
  induction n with
  | zero => intro j hj; exact absurd hj (Nat.not_lt_zero _)
  | succ n ih =>
    intro j hj
    rw [kItr_s]
    by_cases z : j = n
    · subst z; exact pk_us
    · rw [pk_un z]; exact ih j (by omega)
/-- the rounds stop where nothing was improved -/
theorem kRnd_stop {N : Nat} {len : kF} {s0 : kF × kF × Int32} {k : Nat} {d h : kF} {imp : Int32} (e : kItr (kRnd N len) k s0 = (d, h, imp)) (h0 : imp = 0) : ∀ n, kItr (kRnd N len) (k + n) s0 = (d, h, imp) := by
  intro n
  induction n with
  | zero => exact e
  | succ n ih =>
    rw [← Nat.add_assoc, kItr_s, ih]
    unfold kRnd
    exact kIf_t h0
theorem kBack_stop {p : kF} {s0 : Int32} {k : Nat} {x : Int32} (e : kItr (kBack p) k s0 = x) (h0 : x < 0) : ∀ n, kItr (kBack p) (k + n) s0 = x := by
  intro n
  induction n with
  | zero => exact e
  | succ n ih =>
    rw [← Nat.add_assoc, kItr_s, ih]
    unfold kBack
    exact kIf_t h0
/-- the parents are nodes, or none -/
def kPar (p : kF) : Prop := ∀ j, j < 24 → p j < 0 ∨ ∃ u, u < 24 ∧ p j = nI u
theorem kBack_t {p : kF} {n : Nat} {x : Int32} (h : x < 0) : kBack p n x = x := by unfold kBack; exact kIf_t h
theorem kBack_f {p : kF} {n : Nat} {x : Int32} (h : ¬ x < 0) : kBack p n x = p x.toNatClampNeg := by unfold kBack; exact kIf_f h
theorem kBack_in {p : kF} (hp : kPar p) {v : Nat} (hv : v < 24) : ∀ n, kItr (kBack p) n (nI v) < 0 ∨ ∃ u, u < 24 ∧ kItr (kBack p) n (nI v) = nI u := by
  intro n
  induction n with
  | zero => exact Or.inr ⟨v, hv, rfl⟩
  | succ n ih =>
    rw [kItr_s]
    rcases ih with g | ⟨u, h1, h2⟩
    · rw [kBack_t g]
      exact Or.inl g
    · rw [h2, kBack_f (nI_pos (by omega)), nI_clamp (by omega)]
      exact hp u h1
theorem k_m1 (x : Int32) : x + (-1) = x - 1 := by rw [Int32.sub_eq_add_neg]
-- what is kept
def kKk (K : Nat) : Nat := if K < 40 then K + 1 else K
def kKo (K O : Nat) : Nat := if K < 40 then O else (O + 1) % 41
noncomputable def kTb (bg en ln : kF) (sl S k : Nat) (st : Int32 × kF) : Int32 × kF :=
  (kArcs st.1 (st.2 ((bg (sl * 30 + (S - k - 1))).toNatClampNeg * 24 + (en (sl * 30 + (S - k - 1))).toNatClampNeg)) (ln (sl * 30 + (S - k - 1))), upd st.2 ((bg (sl * 30 + (S - k - 1))).toNatClampNeg * 24 + (en (sl * 30 + (S - k - 1))).toNatClampNeg) (ln (sl * 30 + (S - k - 1))))
end
section
/-! walks in a net: G u v is the length of the arc from u to v, if there is one -/
def kWk (G : Nat → Nat → Option Int) (s : Nat) : Nat → Nat → Int → Prop
  | 0, v, c => v = s ∧ c = 0
  | h + 1, v, c => ∃ (u : Nat) (x : Int), G u v = some x ∧ kWk G s h u (c - x)
theorem kWk_0 (G : Nat → Nat → Option Int) (s : Nat) : kWk G s 0 s 0 := ⟨rfl, rfl⟩
theorem kWk_s {G : Nat → Nat → Option Int} {s h u v : Nat} {c x : Int} (w : kWk G s h u c) (a : G u v = some x) : kWk G s (h + 1) v (c + x) :=
  ⟨u, x, a, by rw [Int.add_sub_cancel]; exact w⟩
theorem kWk_app {G : Nat → Nat → Option Int} {s u : Nat} {h : Nat} {c : Int} (w : kWk G s h u c) : ∀ (k v : Nat) (x : Int), kWk G u k v x → kWk G s (h + k) v (c + x) := by
  intro k
  induction k with
  | zero =>
    intro v x w2
    obtain ⟨rfl, rfl⟩ := w2
    simpa using w
  | succ k ih =>
    intro v x w2
    obtain ⟨z, y, a, w3⟩ := w2
    have := kWk_s (ih z _ w3) a
    rw [show c + (x - y) + y = c + x by omega] at this
    exact this
/-- no ring falls -/
def kNR (G : Nat → Nat → Option Int) : Prop := ∀ (v h : Nat) (c : Int), kWk G v h v c → 0 ≤ c
/-- the nodes are below N -/
def kIn (N : Nat) (G : Nat → Nat → Option Int) : Prop := ∀ (u v : Nat) (x : Int), G u v = some x → u < N ∧ v < N
theorem kPig : ∀ (N : Nat) (f : Nat → Nat), (∀ i, i ≤ N → f i < N) → ∃ i j, i < j ∧ j ≤ N ∧ f i = f j := by
  intro N
  induction N with
  | zero => intro f h; exact absurd (h 0 (Nat.le_refl 0)) (Nat.not_lt_zero _)
  | succ N ih =>
    intro f h
    by_cases q : ∃ i, i ≤ N ∧ f i = f (N + 1)
    · obtain ⟨i, h1, h2⟩ := q
      exact ⟨i, N + 1, by omega, Nat.le_refl _, h2⟩
    · have hne : ∀ i, i ≤ N → f i ≠ f (N + 1) := fun i h1 h2 => q ⟨i, h1, h2⟩
      obtain ⟨i, j, h1, h2, h3⟩ := ih (fun i => if f (N + 1) < f i then f i - 1 else f i) (fun i hi => by
        have a := h i (by omega)
        have b := h (N + 1) (Nat.le_refl _)
        have c := hne i hi
        show (if f (N + 1) < f i then f i - 1 else f i) < N
        split <;> omega)
      refine ⟨i, j, h1, by omega, ?_⟩
      have a := hne i (by omega)
      have b := hne j h2
      have h3 : (if f (N + 1) < f i then f i - 1 else f i) = (if f (N + 1) < f j then f j - 1 else f j) := h3
      split at h3 <;> split at h3 <;> omega
theorem kWk_path {G : Nat → Nat → Option Int} {s : Nat} : ∀ (h v : Nat) (c : Int), kWk G s h v c → ∃ (f : Nat → Nat) (L : Nat → Int), f h = v ∧ L h = c ∧ f 0 = s ∧ L 0 = 0 ∧ ∀ i, i < h → ∃ x, G (f i) (f (i + 1)) = some x ∧ L (i + 1) = L i + x := by
  intro h
  induction h with
  | zero =>
    intro v c w
    obtain ⟨rfl, rfl⟩ := w
    exact ⟨fun _ => v, fun _ => 0, rfl, rfl, rfl, rfl, fun i hi => absurd hi (Nat.not_lt_zero _)⟩
  | succ h ih =>
    intro v c w
    obtain ⟨u, x, a, w2⟩ := w
    obtain ⟨f, L, h1, h2, h3, h4, h5⟩ := ih u _ w2
    refine ⟨fun i => if i ≤ h then f i else v, fun i => if i ≤ h then L i else c, if_neg (by omega), if_neg (by omega), by simp [h3], by simp [h4], fun i hi => ?_⟩
    by_cases q : i < h
    · obtain ⟨y, g1, g2⟩ := h5 i q
      refine ⟨y, ?_, ?_⟩
      · simp [show i ≤ h by omega, show i + 1 ≤ h by omega]; exact g1
      · simp [show i ≤ h by omega, show i + 1 ≤ h by omega]; exact g2
    · have e : i = h := by omega
      subst e
      refine ⟨x, ?_, ?_⟩
      · show G (if i ≤ i then f i else v) (if i + 1 ≤ i then f (i + 1) else v) = some x
        rw [if_pos (Nat.le_refl _), if_neg (by omega), h1]
        exact a
      · show (if i + 1 ≤ i then L (i + 1) else c) = (if i ≤ i then L i else c) + x
        rw [if_pos (Nat.le_refl _), if_neg (by omega), h2]
        omega
theorem kWk_seg {G : Nat → Nat → Option Int} {h : Nat} {f : Nat → Nat} {L : Nat → Int} (h5 : ∀ i, i < h → ∃ x, G (f i) (f (i + 1)) = some x ∧ L (i + 1) = L i + x) (i : Nat) : ∀ j, i + j ≤ h → kWk G (f i) j (f (i + j)) (L (i + j) - L i) := by
  intro j
  induction j with
  | zero => intro _; exact ⟨rfl, by simp⟩
  | succ j ih =>
    intro hj
    obtain ⟨x, a, b⟩ := h5 (i + j) (by omega)
    have := kWk_s (ih (by omega)) a
    rw [show L (i + j) - L i + x = L (i + (j + 1)) - L i by rw [← Nat.add_assoc, b]; omega] at this
    exact this
/-- a walk of N arcs or more has a ring in it: without it, it is no longer -/
theorem kCut {G : Nat → Nat → Option Int} {N s h v : Nat} {c : Int} (hN : kIn N G) (hs : s < N) (hr : kNR G) (w : kWk G s h v c) (hh : N ≤ h) : ∃ (k : Nat) (x : Int), k < h ∧ x ≤ c ∧ kWk G s k v x := by
  obtain ⟨f, L, h1, h2, h3, h4, h5⟩ := kWk_path h v c w
  have hf : ∀ i, i ≤ N → f i < N := by
    intro i hi
    cases i with
    | zero => rw [h3]; exact hs
    | succ i => obtain ⟨x, a, -⟩ := h5 i (by omega); exact (hN _ _ _ a).2
  obtain ⟨i, j, g1, g2, g3⟩ := kPig N f hf
  have hring := kWk_seg h5 i (j - i) (by omega)
  rw [show i + (j - i) = j by omega, ← g3] at hring
  have hr0 := hr _ _ _ hring
  have wa := kWk_seg h5 0 i (by omega)
  have wb := kWk_seg h5 j (h - j) (by omega)
  rw [show j + (h - j) = h by omega, ← g3, h1, h2] at wb
  rw [show 0 + i = i by omega, h3, h4] at wa
  have := kWk_app wa _ _ _ wb
  exact ⟨i + (h - j), _, by omega, by omega, this⟩
theorem kShort {G : Nat → Nat → Option Int} {N s : Nat} (hN : kIn N G) (hs : s < N) (hr : kNR G) : ∀ (n h v : Nat) (c : Int), h ≤ n → kWk G s h v c → ∃ (k : Nat) (x : Int), k < N ∧ k ≤ h ∧ x ≤ c ∧ kWk G s k v x := by
  intro n
  induction n with
  | zero =>
    intro h v c h0 w
    exact ⟨h, c, by omega, Nat.le_refl _, Int.le_refl _, w⟩
  | succ n ih =>
    intro h v c h0 w
    by_cases q : h < N
    · exact ⟨h, c, q, Nat.le_refl _, Int.le_refl _, w⟩
    · obtain ⟨k, x, a1, a2, a3⟩ := kCut hN hs hr w (by omega)
      obtain ⟨k2, x2, b1, b2, b3, b4⟩ := ih k v x (by omega) a3
      exact ⟨k2, x2, b1, by omega, by omega, b4⟩
/-- (c, k): the least length, and of that the fewest arcs -/
def kLst (G : Nat → Nat → Option Int) (s v : Nat) (c : Int) (k : Nat) : Prop := kWk G s k v c ∧ ∀ (h : Nat) (x : Int), kWk G s h v x → c < x ∨ (c = x ∧ k ≤ h)
theorem kLst_u {G : Nat → Nat → Option Int} {s v k k' : Nat} {c c' : Int} (a : kLst G s v c k) (b : kLst G s v c' k') : c = c' ∧ k = k' := by
  have h1 := a.2 _ _ b.1
  have h2 := b.2 _ _ a.1
  omega
theorem kLst_lt {G : Nat → Nat → Option Int} {N s v k : Nat} {c : Int} (hN : kIn N G) (hs : s < N) (hr : kNR G) (a : kLst G s v c k) : k < N := by
  obtain ⟨k2, x, b1, b2, b3, b4⟩ := kShort hN hs hr k k v c (Nat.le_refl _) a.1
  have := a.2 _ _ b4
  omega
/-- arcs are at most M long: so is a walk, an arc -/
theorem kWk_abs {G : Nat → Nat → Option Int} {M : Int} (hM : ∀ u v x, G u v = some x → -M ≤ x ∧ x ≤ M) {s : Nat} : ∀ (h v : Nat) (c : Int), kWk G s h v c → -(M * h) ≤ c ∧ c ≤ M * h := by
  intro h
  induction h with
  | zero => intro v c w; obtain ⟨-, rfl⟩ := w; simp
  | succ h ih =>
    intro v c w
    obtain ⟨u, x, a, w2⟩ := w
    have h1 := ih u _ w2
    have h2 := hM u v x a
    have e : M * ((h + 1 : Nat) : Int) = M * (h : Int) + M := by
      rw [Int.natCast_add, Int.mul_add]; simp
    rw [e]
    omega
/-- the net with the arc from a to b put (some) or taken (none) -/
def kSetG (G : Nat → Nat → Option Int) (a b : Nat) (o : Option Int) : Nat → Nat → Option Int := fun u v => if u = a ∧ v = b then o else G u v
theorem kWk_mono {G G' : Nat → Nat → Option Int} (hG : ∀ u v x, G u v = some x → G' u v = some x) {s : Nat} : ∀ (h v : Nat) (c : Int), kWk G s h v c → kWk G' s h v c := by
  intro h
  induction h with
  | zero => intro v c w; exact w
  | succ h ih =>
    intro v c w
    obtain ⟨u, x, a, w2⟩ := w
    exact ⟨u, x, hG _ _ _ a, ih _ _ w2⟩
/-- a walk with an arc from a to b is one without it, or has a first and a last stretch without it -/
theorem kSplit {G : Nat → Nat → Option Int} {a b : Nat} {L : Int} (hL : ∀ (k : Nat) (z : Int), kWk (kSetG G a b none) b k a z → 0 ≤ z + L) {s : Nat} : ∀ (h v : Nat) (c : Int), kWk (kSetG G a b (some L)) s h v c →
    kWk (kSetG G a b none) s h v c ∨ ∃ (k1 k2 : Nat) (c1 c2 : Int), kWk (kSetG G a b none) s k1 a c1 ∧ kWk (kSetG G a b none) b k2 v c2 ∧ c1 + L + c2 ≤ c ∧ k1 + 1 + k2 ≤ h := by
  intro h
  induction h with
  | zero => intro v c w; exact Or.inl w
  | succ h ih =>
    intro v c w
    obtain ⟨u, x, hx, w2⟩ := w
    by_cases q : u = a ∧ v = b
    · obtain ⟨rfl, rfl⟩ := q
      have ex : L = x := by
        have : kSetG G u v (some L) u v = some L := by simp [kSetG]
        rw [this] at hx
        exact Option.some.inj hx
      subst ex
      rcases ih u _ w2 with g | ⟨k1, k2, c1, c2, g1, g2, g3, g4⟩
      · exact Or.inr ⟨h, 0, c - L, 0, g, kWk_0 _ _, by omega, by omega⟩
      · have := hL k2 c2 g2
        exact Or.inr ⟨k1, 0, c1, 0, g1, kWk_0 _ _, by omega, by omega⟩
    · have hx' : kSetG G a b none u v = some x := by
        unfold kSetG at hx ⊢
        rw [if_neg q] at hx ⊢
        exact hx
      rcases ih u _ w2 with g | ⟨k1, k2, c1, c2, g1, g2, g3, g4⟩
      · exact Or.inl ⟨u, x, hx', g⟩
      · refine Or.inr ⟨k1, k2 + 1, c1, c2 + x, g1, kWk_s g2 hx', by omega, by omega⟩
/-- an arc that closes no falling ring -/
theorem kNR_put {G : Nat → Nat → Option Int} {a b : Nat} {L : Int} (hG : kNR (kSetG G a b none)) (hL : ∀ (k : Nat) (z : Int), kWk (kSetG G a b none) b k a z → 0 ≤ z + L) : kNR (kSetG G a b (some L)) := by
  intro v h c w
  rcases kSplit hL h v c w with g | ⟨k1, k2, c1, c2, g1, g2, g3, g4⟩
  · exact hG _ _ _ g
  · have := hL _ _ (kWk_app g2 _ _ _ g1)
    omega
theorem kNR_take {G : Nat → Nat → Option Int} {a b : Nat} (hG : kNR G) : kNR (kSetG G a b none) := by
  intro v h c w
  refine hG v h c (kWk_mono (fun u v x hx => ?_) h v c w)
  unfold kSetG at hx
  split at hx
  · cases hx
  · exact hx
/-- an arc to where the walks begin is of no use -/
theorem kDrop {G : Nat → Nat → Option Int} {a b : Nat} (hG : kNR G) : ∀ (h v : Nat) (c : Int), kWk G b h v c → ∃ (k : Nat) (x : Int), kWk (kSetG G a b none) b k v x ∧ x ≤ c ∧ k ≤ h := by
  intro h
  induction h with
  | zero => intro v c w; exact ⟨0, c, w, Int.le_refl _, Nat.le_refl _⟩
  | succ h ih =>
    intro v c w
    have w0 := w
    obtain ⟨u, x, hx, w2⟩ := w
    by_cases q : u = a ∧ v = b
    · obtain ⟨rfl, rfl⟩ := q
      exact ⟨0, 0, kWk_0 _ _, hG _ _ _ w0, by omega⟩
    · obtain ⟨k, y, g1, g2, g3⟩ := ih u _ w2
      have hx' : kSetG G a b none u v = some x := by
        unfold kSetG
        rw [if_neg q]
        exact hx
      exact ⟨k + 1, y + x, kWk_s g1 hx', by omega, by omega⟩
theorem kSet_sub {G : Nat → Nat → Option Int} {a b : Nat} : ∀ u v x, kSetG G a b none u v = some x → G u v = some x := by
  intro u v x hx
  unfold kSetG at hx
  split at hx
  · cases hx
  · exact hx
theorem kLst_src {G : Nat → Nat → Option Int} {a b v k : Nat} {c : Int} (hG : kNR G) : kLst G b v c k ↔ kLst (kSetG G a b none) b v c k := by
  constructor
  · intro h
    obtain ⟨k2, x, g1, g2, g3⟩ := kDrop (a := a) hG k v c h.1
    have h1 := h.2 _ _ (kWk_mono kSet_sub _ _ _ g1)
    have e1 : x = c := by omega
    have e2 : k2 = k := by omega
    subst e1 e2
    exact ⟨g1, fun h2 x2 w => h.2 _ _ (kWk_mono kSet_sub _ _ _ w)⟩
  · intro h
    refine ⟨kWk_mono kSet_sub _ _ _ h.1, fun h2 x2 w => ?_⟩
    obtain ⟨k2, x, g1, g2, g3⟩ := kDrop (a := a) hG h2 v x2 w
    have := h.2 _ _ g1
    omega
end
section
/-! the class's rounds find the least ways -/
-- bits (begun from kit/laws/BITS.to-paste)
def bt (x : Int32) (i : Nat) : Bool := x.toBitVec.getLsbD i
theorem b_ext {x y : Int32} (h : ∀ i, i < 32 → bt x i = bt y i) : x = y := Int32.toBitVec_inj.mp (BitVec.eq_of_getLsbD_eq (fun i hi => h i hi))
theorem b_or (x y : Int32) (i : Nat) : bt (x ||| y) i = (bt x i || bt y i) := by unfold bt; rw [Int32.toBitVec_or, BitVec.getLsbD_or]
theorem b_and (x y : Int32) (i : Nat) : bt (x &&& y) i = (bt x i && bt y i) := by unfold bt; rw [Int32.toBitVec_and, BitVec.getLsbD_and]
theorem b_0 (i : Nat) : bt 0 i = false := BitVec.getLsbD_zero
theorem s_l : ∀ n, n < 32 → ((nI n &&& 31).toBitVec.smod 32).toNat = n := by decide +kernel
theorem b_shl (n : Nat) (hn : n < 32) (x : Int32) {i : Nat} (hi : i < 32) : bt (x <<< (nI n &&& 31)) i = (decide (n ≤ i) && bt x (i - n)) := by
  unfold bt
  rw [Int32.toBitVec_shiftLeft]
  show (x.toBitVec <<< ((nI n &&& 31).toBitVec.smod 32).toNat).getLsbD i = _
  rw [s_l n hn, BitVec.getLsbD_shiftLeft]
  rcases Nat.lt_or_ge i n with h | h
  · simp [h, Nat.not_le.mpr h]
  · simp [hi, h, Nat.not_lt.mpr h]
theorem b_sshr (n : Nat) (hn : n < 32) (x : Int32) {i : Nat} (hi : i < 32) : bt (x >>> (nI n &&& 31)) i = if n + i < 32 then bt x (n + i) else bt x 31 := by
  unfold bt
  rw [Int32.toBitVec_shiftRight]
  show (x.toBitVec.sshiftRight ((nI n &&& 31).toBitVec.smod 32).toNat).getLsbD i = _
  rw [s_l n hn, BitVec.getLsbD_sshiftRight, BitVec.msb_eq_getLsbD_last]
  simp [hi]
theorem kbit {x : Int32} {u : Nat} (hu : u < 24) : ((x >>> (nI u &&& 31)) &&& 1 = 0) ↔ bt x u = false := by
  have key : ∀ y : Int32, (y &&& 1 = 0) ↔ bt y 0 = false := by
    intro y
    constructor
    · intro h
      have := b_and y 1 0
      rw [h, b_0] at this
      have e : bt 1 0 = true := by decide
      rw [e, Bool.and_true] at this
      exact this.symm
    · intro h
      apply b_ext
      intro i hi
      rw [b_and, b_0]
      cases i with
      | zero => rw [h]; rfl
      | succ i =>
        have : bt 1 (i + 1) = false := (by decide +kernel : ∀ i, i < 31 → bt 1 (i + 1) = false) i (by omega)
        rw [this, Bool.and_false]
  rw [key, b_sshr u (by omega) x (by omega)]
  simp [show u < 32 by omega]
theorem kbit1 {u w : Nat} (hu : u < 24) (hw : w < 24) : bt ((1 : Int32) <<< (nI u &&& 31)) w = decide (w = u) := by
  rw [b_shl u (by omega) 1 (by omega)]
  by_cases q : w = u
  · subst q; simp; decide
  · by_cases g : u ≤ w
    · have : bt 1 (w - u) = false := by
        have e : w - u = (w - u - 1) + 1 := by omega
        rw [e]
        exact (by decide +kernel : ∀ i, i < 31 → bt 1 (i + 1) = false) _ (by omega)
      rw [this]; simp [q]
    · simp [g, q]
-- numbers
theorem kadd {a b : Int32} (h1 : -2147483648 ≤ a.toInt + b.toInt) (h2 : a.toInt + b.toInt < 2147483648) : (a + b).toInt = a.toInt + b.toInt := by
  rw [Int32.toInt_add]
  exact Int.bmod_eq_of_le (by omega) (by omega)
theorem kno_int : ((-1000000) : Int32).toInt = -1000000 := by decide
/-- the net that a row of lengths is -/
noncomputable def kG (N : Nat) (len : kF) : Nat → Nat → Option Int := fun u v => kIf (u < N ∧ v < N ∧ ¬ len (u * 24 + v) = (-1000000)) (some (len (u * 24 + v)).toInt) none
theorem kG_some {N : Nat} {len : kF} {u v : Nat} {x : Int} : kG N len u v = some x ↔ (u < N ∧ v < N ∧ ¬ len (u * 24 + v) = (-1000000)) ∧ (len (u * 24 + v)).toInt = x := by
  unfold kG
  by_cases q : u < N ∧ v < N ∧ ¬ len (u * 24 + v) = (-1000000)
  · rw [kIf_t q]; constructor
    · intro h; exact ⟨q, Option.some.inj h⟩
    · intro h; rw [h.2]
  · rw [kIf_f q]; constructor
    · intro h; cases h
    · intro h; exact absurd h.1 q
/-- the lengths are lengths, no arc leads to where it begins, nothing beyond the nodes -/
def kLen (N : Nat) (len : kF) : Prop := N ≤ 24 ∧ (∀ u v, u < 24 → v < 24 → len (u * 24 + v) = (-1000000) ∨ (u < N ∧ v < N ∧ ¬ u = v ∧ -1000 ≤ (len (u * 24 + v)).toInt ∧ (len (u * 24 + v)).toInt ≤ 1000))
theorem kLen_abs {N : Nat} {len : kF} (h : kLen N len) : ∀ u v x, kG N len u v = some x → -(1000 : Int) ≤ x ∧ x ≤ 1000 := by
  intro u v x hx
  obtain ⟨⟨h1, h2, h3⟩, rfl⟩ := kG_some.mp hx
  have := h.1
  rcases h.2 u v (by omega) (by omega) with g | g
  · exact absurd g h3
  · exact ⟨g.2.2.2.1, g.2.2.2.2⟩
theorem kLen_in {N : Nat} {len : kF} : kIn N (kG N len) := fun u v x hx => ⟨(kG_some.mp hx).1.1, (kG_some.mp hx).1.2.1⟩
def kJ (G : Nat → Nat → Option Int) (s N B : Nat) (d h : kF) : Prop := ∀ v, v < N → d v = (-1000000) ∨ ∃ k, k ≤ B ∧ h v = nI k ∧ kWk G s k v (d v).toInt
def kDm (d h : kF) (v : Nat) (c : Int) (k : Nat) : Prop := ¬ d v = (-1000000) ∧ ((d v).toInt < c ∨ ((d v).toInt = c ∧ (h v).toInt ≤ k))
theorem kDm_le {d h : kF} {v k k' : Nat} {c c' : Int} (a : kDm d h v c k) (b : c < c' ∨ (c = c' ∧ k ≤ k')) : kDm d h v c' k' := by
  obtain ⟨a1, a2⟩ := a
  exact ⟨a1, by omega⟩
def kExt (N : Nat) (d0 h0 d h : kF) (imp : Int32) : Prop := (∀ w c k, kDm d0 h0 w c k → kDm d h w c k) ∧ (∀ w, w < N → (d w = d0 w ∧ h w = h0 w) ∨ bt imp w = true) ∧ (∀ w, w < N → bt imp w = true → ¬ d w = (-1000000))
theorem kExt_0 (N : Nat) (d h : kF) : kExt N d h d h 0 := ⟨fun _ _ _ a => a, fun _ _ => Or.inl ⟨rfl, rfl⟩, fun w _ a => by rw [b_0] at a; cases a⟩
theorem kDm_self {d h : kF} {w : Nat} (a : ¬ d w = (-1000000)) : kDm d h w (d w).toInt (h w).toInt.toNat := ⟨a, by omega⟩
theorem kExt_t {N : Nat} {d0 h0 d1 h1 d2 h2 : kF} {i j : Int32} (a : kExt N d0 h0 d1 h1 i) (b : kExt N d1 h1 d2 h2 j) : kExt N d0 h0 d2 h2 (i ||| j) := by
  refine ⟨fun w c k q => b.1 w c k (a.1 w c k q), fun w hw => ?_, fun w hw q => ?_⟩
  · rw [b_or]
    rcases a.2.1 w hw with g | g
    · rcases b.2.1 w hw with g2 | g2
      · exact Or.inl ⟨g2.1.trans g.1, g2.2.trans g.2⟩
      · exact Or.inr (by rw [g2, Bool.or_true])
    · exact Or.inr (by rw [g, Bool.true_or])
  · rw [b_or] at q
    cases e : bt j w with
    | true => exact b.2.2 w hw e
    | false =>
      rw [e, Bool.or_false] at q
      exact (b.1 w _ _ (kDm_self (a.2.2 w hw q))).1
theorem kJ_mono {G : Nat → Nat → Option Int} {s N B B' : Nat} {d h : kF} (a : kJ G s N B d h) (hB : B ≤ B') : kJ G s N B' d h := fun v hv => by
  rcases a v hv with g | ⟨k, g1, g2, g3⟩
  · exact Or.inl g
  · exact Or.inr ⟨k, by omega, g2, g3⟩
/-- one arc looked at -/
theorem kFol_ok {N s B u v ku : Nat} {len d0 h0 d h : kF} {imp : Int32} (hL : kLen N len) (hu : u < N) (hv : v < N) (hB : B ≤ 900) (hJ : kJ (kG N len) s N (B + 1) d h) (hE : kExt N d0 h0 d h imp) (hku : ku ≤ B) (hhu : h u = nI ku) (hw : kWk (kG N len) s ku u (d u).toInt) :
    kJ (kG N len) s N (B + 1) (kFol len u v (d, h, imp)).1 (kFol len u v (d, h, imp)).2.1 ∧ kExt N d0 h0 (kFol len u v (d, h, imp)).1 (kFol len u v (d, h, imp)).2.1 (kFol len u v (d, h, imp)).2.2 ∧ (kFol len u v (d, h, imp)).1 u = d u ∧ (kFol len u v (d, h, imp)).2.1 u = h u ∧ (∀ w c k, kDm d h w c k → kDm (kFol len u v (d, h, imp)).1 (kFol len u v (d, h, imp)).2.1 w c k) ∧ (∀ x, kG N len u v = some x → kDm (kFol len u v (d, h, imp)).1 (kFol len u v (d, h, imp)).2.1 v ((d u).toInt + x) (ku + 1)) := by
  by_cases q : len (u * 24 + v) = (-1000000)
  · have e : kFol len u v (d, h, imp) = (d, h, imp) := by unfold kFol; exact kIf_t q
    rw [e]
    exact ⟨hJ, hE, rfl, rfl, fun _ _ _ a => a, fun x hx => absurd q (kG_some.mp hx).1.2.2⟩
  · have hN24 := hL.1
    have hg : kG N len u v = some (len (u * 24 + v)).toInt := kG_some.mpr ⟨⟨hu, hv, q⟩, rfl⟩
    have hx := kLen_abs hL u v _ hg
    have huv : ¬ u = v := by
      rcases hL.2 u v (by omega) (by omega) with g | g
      · exact absurd g q
      · exact g.2.2.1
    have hab := kWk_abs (M := 1000) (kLen_abs hL) ku u _ hw
    have hsum : (d u + len (u * 24 + v)).toInt = (d u).toInt + (len (u * 24 + v)).toInt := kadd (by omega) (by omega)
    have hk1 : h u + 1 = nI (ku + 1) := by rw [hhu]; exact nI_1 ku
    have hkt : (h u + 1).toInt = ((ku + 1 : Nat) : Int) := by rw [hk1]; exact nI_toInt (by omega)
    have hwv := kWk_s hw hg
    by_cases b : kBet d h v (d u + len (u * 24 + v)) (h u + 1)
    · have e : kFol len u v (d, h, imp) = (upd d v (d u + len (u * 24 + v)), upd h v (h u + 1), imp ||| ((1 : Int32) <<< (nI v &&& 31))) := by
        unfold kFol
        rw [kIf_f q]
        exact kIf_t b
      rw [e]
      dsimp only
      generalize hX : d u + len (u * 24 + v) = X at hsum b ⊢
      generalize hY : h u + 1 = Y at hk1 hkt b ⊢
      have hXn : ¬ X = (-1000000) := by
        intro z
        rw [z, kno_int] at hsum
        omega
      have hm : ∀ w c k, kDm d h w c k → kDm (upd d v X) (upd h v Y) w c k := by
        intro w c k a
        by_cases z : w = v
        · subst z
          obtain ⟨a1, a2⟩ := a
          unfold kDm
          rw [pk_us, pk_us]
          refine ⟨hXn, ?_⟩
          rcases b with b | b | ⟨b1, b2⟩
          · exact absurd b a1
          · have := Int32.lt_iff_toInt_lt.mp b
            omega
          · have := Int32.lt_iff_toInt_lt.mp b2
            rw [b1]
            omega
        · unfold kDm at a ⊢
          rw [pk_un z, pk_un z]
          exact a
      refine ⟨fun w hw' => ?_, ⟨fun w c k a => hm w c k (hE.1 w c k a), fun w hw' => ?_, fun w hw' a => ?_⟩, pk_un huv, pk_un huv, hm, fun x hx' => ?_⟩
      · by_cases z : w = v
        · subst z
          refine Or.inr ⟨ku + 1, by omega, ?_, ?_⟩
          · rw [pk_us]; exact hk1
          · rw [pk_us, hsum]; exact hwv
        · rw [pk_un z, pk_un z]
          exact hJ w hw'
      · by_cases z : w = v
        · subst z
          refine Or.inr ?_
          rw [b_or, kbit1 (by omega) (by omega)]
          simp
        · rw [pk_un z, pk_un z, b_or]
          rcases hE.2.1 w hw' with g | g
          · exact Or.inl g
          · exact Or.inr (by rw [g, Bool.true_or])
      · by_cases z : w = v
        · subst z
          rw [pk_us]; exact hXn
        · rw [b_or, kbit1 (by omega) (by omega)] at a
          rw [pk_un z]
          exact hE.2.2 w hw' (by simpa [z] using a)
      · have ex : (len (u * 24 + v)).toInt = x := Option.some.inj (hg.symm.trans hx')
        unfold kDm
        rw [pk_us, pk_us]
        exact ⟨hXn, Or.inr ⟨by rw [hsum, ex], by omega⟩⟩
    · have e : kFol len u v (d, h, imp) = (d, h, imp) := by
        unfold kFol
        rw [kIf_f q]
        exact kIf_f b
      rw [e]
      dsimp only
      refine ⟨hJ, hE, rfl, rfl, fun _ _ _ a => a, fun x hx' => ?_⟩
      have ex : (len (u * 24 + v)).toInt = x := Option.some.inj (hg.symm.trans hx')
      refine ⟨fun z => b (Or.inl z), ?_⟩
      have h1 : ¬ (d u + len (u * 24 + v)).toInt < (d v).toInt := fun z => b (Or.inr (Or.inl (Int32.lt_iff_toInt_lt.mpr z)))
      rcases Int.lt_or_le (d v).toInt ((d u).toInt + x) with g | g
      · exact Or.inl g
      · have h2 : d u + len (u * 24 + v) = d v := Int32.toInt_inj.mp (by omega)
        have h3 : ¬ (h u + 1).toInt < (h v).toInt := fun z => b (Or.inr (Or.inr ⟨h2, Int32.lt_iff_toInt_lt.mpr z⟩))
        exact Or.inr ⟨by omega, by omega⟩
/-- all arcs of a node looked at -/
theorem kFolA_ok {N s B u ku : Nat} {len d h : kF} (hL : kLen N len) (hu : u < N) (hB : B ≤ 900) (hJ : kJ (kG N len) s N B d h) (hku : ku ≤ B) (hhu : h u = nI ku) (hw : kWk (kG N len) s ku u (d u).toInt) :
    kJ (kG N len) s N (B + 1) (kFolA N len u d h).1 (kFolA N len u d h).2.1 ∧ kExt N d h (kFolA N len u d h).1 (kFolA N len u d h).2.1 (kFolA N len u d h).2.2 ∧ (∀ v x, kG N len u v = some x → kDm (kFolA N len u d h).1 (kFolA N len u d h).2.1 v ((d u).toInt + x) (ku + 1)) := by
  have key : ∀ n, n ≤ N → kJ (kG N len) s N (B + 1) (kItr (kFol len u) n (d, h, 0)).1 (kItr (kFol len u) n (d, h, 0)).2.1 ∧ kExt N d h (kItr (kFol len u) n (d, h, 0)).1 (kItr (kFol len u) n (d, h, 0)).2.1 (kItr (kFol len u) n (d, h, 0)).2.2 ∧ (kItr (kFol len u) n (d, h, 0)).1 u = d u ∧ (kItr (kFol len u) n (d, h, 0)).2.1 u = h u ∧ (∀ v x, v < n → kG N len u v = some x → kDm (kItr (kFol len u) n (d, h, 0)).1 (kItr (kFol len u) n (d, h, 0)).2.1 v ((d u).toInt + x) (ku + 1)) := by
    intro n
    induction n with
    | zero => intro _; exact ⟨kJ_mono hJ (by omega), kExt_0 N d h, rfl, rfl, fun v x hv => absurd hv (Nat.not_lt_zero _)⟩
    | succ n ih =>
      intro hn
      obtain ⟨i1, i2, i3, i4, i5⟩ := ih (by omega)
      rw [kItr_s]
      revert i1 i2 i3 i4 i5
      generalize kItr (kFol len u) n (d, h, 0) = st
      obtain ⟨d1, h1, imp⟩ := st
      intro i1 i2 i3 i4 i5
      have i3 : d1 u = d u := i3
      have i4 : h1 u = h u := i4
      have hw' : kWk (kG N len) s ku u (d1 u).toInt := by rw [i3]; exact hw
      obtain ⟨g1, g2, g3, g4, g5, g6⟩ := kFol_ok (v := n) hL hu (by omega) hB i1 i2 hku (i4.trans hhu) hw'
      refine ⟨g1, g2, g3.trans i3, g4.trans i4, fun v x hv hx => ?_⟩
      by_cases z : v = n
      · subst z
        have := g6 x hx
        dsimp only at this
        rw [i3] at this
        exact this
      · exact g5 _ _ _ (i5 v x (by omega) hx)
  obtain ⟨k1, k2, -, -, k5⟩ := key N (Nat.le_refl N)
  exact ⟨k1, k2, fun v x hx => k5 v x (kLen_in u v x hx).2 hx⟩
/-- a round -/
theorem kRnd1_ok {N s B : Nat} {len d0 h0 : kF} {go : Int32} (hL : kLen N len) (hB : B + N ≤ 900) (hJ : kJ (kG N len) s N B d0 h0) (hgo : ∀ w, w < N → bt go w = true → ¬ d0 w = (-1000000)) :
    ∀ n, n ≤ N → kJ (kG N len) s N (B + n) (kItr (kRnd1 N len go) n (d0, h0, 0)).1 (kItr (kRnd1 N len go) n (d0, h0, 0)).2.1 ∧ kExt N d0 h0 (kItr (kRnd1 N len go) n (d0, h0, 0)).1 (kItr (kRnd1 N len go) n (d0, h0, 0)).2.1 (kItr (kRnd1 N len go) n (d0, h0, 0)).2.2 ∧ (∀ w v x, w < n → bt go w = true → kG N len w v = some x → kDm (kItr (kRnd1 N len go) n (d0, h0, 0)).1 (kItr (kRnd1 N len go) n (d0, h0, 0)).2.1 v ((d0 w).toInt + x) ((h0 w).toInt.toNat + 1)) := by
  intro n
  induction n with
  | zero => intro _; exact ⟨hJ, kExt_0 N d0 h0, fun w v x hw => absurd hw (Nat.not_lt_zero _)⟩
  | succ n ih =>
    intro hn
    have hN24 := hL.1
    obtain ⟨i1, i2, i3⟩ := ih (by omega)
    rw [kItr_s]
    revert i1 i2 i3
    generalize kItr (kRnd1 N len go) n (d0, h0, 0) = st
    obtain ⟨d1, h1, imp⟩ := st
    intro i1 i2 i3
    by_cases q : (go >>> (nI n &&& 31)) &&& 1 = 0
    · have e : kRnd1 N len go n (d1, h1, imp) = (d1, h1, imp) := by unfold kRnd1; exact kIf_t q
      rw [e]
      refine ⟨kJ_mono i1 (by omega), i2, fun w v x hw hb hx => ?_⟩
      by_cases z : w = n
      · subst z
        rw [(kbit (by omega)).mp q] at hb
        cases hb
      · exact i3 w v x (by omega) hb hx
    · have e : kRnd1 N len go n (d1, h1, imp) = ((kFolA N len n d1 h1).1, (kFolA N len n d1 h1).2.1, imp ||| (kFolA N len n d1 h1).2.2) := by unfold kRnd1; exact kIf_f q
      rw [e]
      have hbn : bt go n = true := by
        cases z : bt go n with
        | true => rfl
        | false => exact absurd ((kbit (by omega)).mpr z) q
      have hd0 := hgo n (by omega) hbn
      have hdm := i2.1 n _ _ (kDm_self (h := h0) hd0)
      rcases i1 n (by omega) with g | ⟨ku, g1, g2, g3⟩
      · exact absurd g hdm.1
      · obtain ⟨f1, f2, f3⟩ := kFolA_ok (u := n) hL (by omega) (by omega) i1 g1 g2 g3
        refine ⟨f1, kExt_t i2 f2, fun w v x hw hb hx => ?_⟩
        by_cases z : w = n
        · subst z
          refine kDm_le (f3 v x hx) ?_
          have h2 := hdm.2
          have h3 : (h1 w).toInt = (ku : Int) := by
            have g2 : h1 w = nI ku := g2
            rw [g2]; exact nI_toInt (by omega)
          have h2 : (d1 w).toInt < (d0 w).toInt ∨ ((d1 w).toInt = (d0 w).toInt ∧ (h1 w).toInt ≤ (((h0 w).toInt.toNat : Nat) : Int)) := h2
          show (d1 w).toInt + x < (d0 w).toInt + x ∨ ((d1 w).toInt + x = (d0 w).toInt + x ∧ ku + 1 ≤ (h0 w).toInt.toNat + 1)
          omega
        · exact f2.1 _ _ _ (i3 w v x (by omega) hb hx)
def kInv (N : Nat) (len : kF) (s r : Nat) (st : kF × kF × Int32) : Prop := kJ (kG N len) s N (r * N) st.1 st.2.1 ∧ (∀ w, w < N → bt st.2.2 w = true → ¬ st.1 w = (-1000000)) ∧ (∀ u v x, kG N len u v = some x → bt st.2.2 u = false → ¬ st.1 u = (-1000000) → kDm st.1 st.2.1 v ((st.1 u).toInt + x) ((st.2.1 u).toInt.toNat + 1)) ∧ (∀ v k c, kWk (kG N len) s k v c → k ≤ r → kDm st.1 st.2.1 v c k)
theorem kInv_0 {N s : Nat} {len : kF} (hL : kLen N len) (hs : s < N) : kInv N len s 0 (upd kNo s 0, upd kNo s 0, (1 : Int32) <<< (nI s &&& 31)) := by
  have hN24 := hL.1
  refine ⟨fun v hv => ?_, fun w hw a => ?_, fun u v x hx a b => ?_, fun v k c w hk => ?_⟩
  · by_cases z : v = s
    · subst z
      refine Or.inr ⟨0, by omega, ?_, ?_⟩
      · show upd kNo v 0 v = nI 0
        rw [pk_us]; rfl
      · show kWk _ _ 0 v (upd kNo v 0 v).toInt
        rw [pk_us]
        exact ⟨rfl, rfl⟩
    · refine Or.inl ?_
      show upd kNo s 0 v = _
      rw [pk_un z]; rfl
  · rw [show (upd kNo s 0, upd kNo s 0, (1 : Int32) <<< (nI s &&& 31)).2.2 = (1 : Int32) <<< (nI s &&& 31) from rfl, kbit1 (by omega) (by omega)] at a
    have z : w = s := by simpa using a
    subst z
    show ¬ upd kNo w 0 w = _
    rw [pk_us]; decide
  · exfalso
    have hu := (kLen_in u v x hx).1
    rw [show (upd kNo s 0, upd kNo s 0, (1 : Int32) <<< (nI s &&& 31)).2.2 = (1 : Int32) <<< (nI s &&& 31) from rfl, kbit1 (by omega) (by omega)] at a
    have z : ¬ u = s := by simpa using a
    apply b
    show upd kNo s 0 u = _
    rw [pk_un z]; rfl
  · have hk0 : k = 0 := by omega
    subst hk0
    obtain ⟨rfl, rfl⟩ := w
    refine ⟨?_, Or.inr ⟨?_, ?_⟩⟩
    · show ¬ upd kNo v 0 v = _
      rw [pk_us]; decide
    · show (upd kNo v 0 v).toInt = 0
      rw [pk_us]; rfl
    · show (upd kNo v 0 v).toInt ≤ 0
      rw [pk_us]; decide
/-- where nothing is left to look at, no walk is better -/
theorem kAll {N s : Nat} {len d h : kF} (hL : kLen N len) (hJ : ∀ v, v < N → ¬ d v = (-1000000) → ∃ k, k < 1000000 ∧ h v = nI k) (h0 : kDm d h s 0 0) (hr : ∀ u v x, kG N len u v = some x → ¬ d u = (-1000000) → kDm d h v ((d u).toInt + x) ((h u).toInt.toNat + 1)) : ∀ k v c, kWk (kG N len) s k v c → kDm d h v c k := by
  intro k
  induction k with
  | zero =>
    intro v c w
    obtain ⟨rfl, rfl⟩ := w
    exact h0
  | succ k ih =>
    intro v c w
    obtain ⟨u, x, a, w2⟩ := w
    have h1 := ih u _ w2
    have hu := (kLen_in u v x a).1
    obtain ⟨k2, hk2, e⟩ := hJ u hu h1.1
    refine kDm_le (hr u v x a h1.1) ?_
    have h2 := h1.2
    have e2 : (h u).toInt = (k2 : Int) := by rw [e]; exact nI_toInt (by omega)
    omega
theorem kRnd_ok {N s r : Nat} {len : kF} {st : kF × kF × Int32} (hL : kLen N len) (hs : s < N) (hr : r < 24) (hI : kInv N len s r st) (j : Nat) : kInv N len s (r + 1) (kRnd N len j st) := by
  have hN24 := hL.1
  have hrN : r * N ≤ 23 * 24 := Nat.mul_le_mul (by omega) hN24
  have hrN2 : (r + 1) * N = r * N + N := by rw [Nat.add_mul, Nat.one_mul]
  obtain ⟨d0, h0, go⟩ := st
  obtain ⟨i1, i2, i3, i4⟩ := hI
  by_cases q : go = 0
  · have e : kRnd N len j (d0, h0, go) = (d0, h0, go) := by unfold kRnd; exact kIf_t q
    rw [e]
    refine ⟨kJ_mono i1 (by omega), i2, i3, fun v k c w hk => ?_⟩
    refine kAll (s := s) hL (fun v hv hd => ?_) (i4 s 0 0 (kWk_0 _ _) (by omega)) (fun u v x hx hd => i3 u v x hx (by show bt go u = false; rw [q, b_0]) hd) k v c w
    rcases i1 v hv with g | ⟨k, g1, g2, -⟩
    · exact absurd g hd
    · exact ⟨k, by omega, g2⟩
  · have e : kRnd N len j (d0, h0, go) = kItr (kRnd1 N len go) N (d0, h0, 0) := by unfold kRnd; exact kIf_f q
    rw [e]
    obtain ⟨g1, g2, g3⟩ := kRnd1_ok (B := r * N) hL (by omega) i1 i2 N (Nat.le_refl N)
    revert g1 g2 g3
    generalize kItr (kRnd1 N len go) N (d0, h0, 0) = st
    obtain ⟨d, h, imp⟩ := st
    intro g1 g2 g3
    refine ⟨by rw [hrN2]; exact g1, g2.2.2, fun u v x hx hb hd => ?_, fun v k c w hk => ?_⟩
    · have hu := (kLen_in u v x hx).1
      rcases g2.2.1 u hu with ⟨z1, z2⟩ | z
      · have z1 : d u = d0 u := z1
        have z2 : h u = h0 u := z2
        show kDm d h v ((d u).toInt + x) ((h u).toInt.toNat + 1)
        rw [z1, z2]
        cases hg : bt go u with
        | true => exact g3 u v x hu hg hx
        | false => exact g2.1 _ _ _ (i3 u v x hx hg (by show ¬ d0 u = _; rw [← z1]; exact hd))
      · rw [show bt (d, h, imp).2.2 u = bt imp u from rfl] at hb
        rw [show bt (d, h, imp).2.2 u = bt imp u from rfl, hb] at z
        cases z
    · cases k with
      | zero => exact g2.1 _ _ _ (i4 v 0 c w (by omega))
      | succ k =>
        obtain ⟨u, x, hx, w2⟩ := w
        have hu := (kLen_in u v x hx).1
        have h1 := i4 u k _ w2 (by omega)
        have h2 := h1.2
        rcases i1 u hu with g | ⟨k2, a1, a2, -⟩
        · exact absurd g h1.1
        · have a2 : h0 u = nI k2 := a2
          have e2 : (h0 u).toInt = (k2 : Int) := by rw [a2]; exact nI_toInt (by omega)
          have h2 : (d0 u).toInt < c - x ∨ ((d0 u).toInt = c - x ∧ (h0 u).toInt ≤ (k : Int)) := h2
          have key : kDm d h v ((d0 u).toInt + x) ((h0 u).toInt.toNat + 1) := by
            cases hg : bt go u with
            | true => exact g3 u v x hu hg hx
            | false => exact g2.1 _ _ _ (i3 u v x hx hg h1.1)
          refine kDm_le key ?_
          omega
/-- what the rounds leave: of each node the least way, or that there is none -/
theorem kRel_ok {N s : Nat} {len : kF} (hL : kLen N len) (hs : s < N) (hR : kNR (kG N len)) : ∀ v, v < N → ((kRel N len s).1 v = (-1000000) ∧ ∀ k c, ¬ kWk (kG N len) s k v c) ∨ (¬ (kRel N len s).1 v = (-1000000) ∧ ∃ k, k < N ∧ (kRel N len s).2.1 v = nI k ∧ kLst (kG N len) s v ((kRel N len s).1 v).toInt k) := by
  have hN24 := hL.1
  have key : ∀ n, n ≤ N → kInv N len s n (kItr (kRnd N len) n (upd kNo s 0, upd kNo s 0, (1 : Int32) <<< (nI s &&& 31))) := by
    intro n
    induction n with
    | zero => intro _; exact kInv_0 hL hs
    | succ n ih => intro hn; rw [kItr_s]; exact kRnd_ok hL hs (by omega) (ih (by omega)) n
  obtain ⟨i1, -, -, i4⟩ := key N (Nat.le_refl N)
  have e : kItr (kRnd N len) N (upd kNo s 0, upd kNo s 0, (1 : Int32) <<< (nI s &&& 31)) = kRel N len s := rfl
  rw [e] at i1 i4
  have hNN : N * N ≤ 24 * 24 := Nat.mul_le_mul hN24 hN24
  have dom : ∀ v k c, kWk (kG N len) s k v c → kDm (kRel N len s).1 (kRel N len s).2.1 v c k := by
    intro v k c w
    obtain ⟨k2, x, b1, b2, b3, b4⟩ := kShort kLen_in hs hR k k v c (Nat.le_refl _) w
    refine kDm_le (i4 v k2 x b4 (by omega)) ?_
    omega
  intro v hv
  rcases i1 v hv with g | ⟨k, g1, g2, g3⟩
  · refine Or.inl ⟨g, fun k c w => (dom v k c w).1 g⟩
  · have hd : ¬ (kRel N len s).1 v = (-1000000) := by
      have := (dom v k _ g3).1
      exact this
    have hk : ((kRel N len s).2.1 v).toInt = (k : Int) := by rw [g2]; exact nI_toInt (by omega)
    have hl : kLst (kG N len) s v ((kRel N len s).1 v).toInt k := ⟨g3, fun h x w => by
      have := (dom v h x w).2
      rw [hk] at this
      omega⟩
    exact Or.inr ⟨hd, k, kLst_lt kLen_in hs hR hl, g2, hl⟩
end
section
set_option maxHeartbeats 4000000 in
set_option maxRecDepth 100000 in
/-- isNode -/
theorem cn_isNode (l : Launch) (D : va_G) (τ : Nat → ClassId) (n0 : Nat) (n1 : Nat) (N : Nat) (ar : Int32) (v : Int32)  : kMi l D τ yN_isNode (kWs yN_isNode cN_isNode 2 (some .boolean)) { frames := 0, cells := 0, slots := 0, locals := 0 } [.ref n0, .int v] [(n0, .inr (2, [.int (nI N), .int ar, .ref n1]))] (kB (kNode N v)) [(n0, .inr (2, [.int (nI N), .int ar, .ref n1]))] := by
  intro sz
  refine Met.ofW (cc := cN_isNode) (maxL := 2) (ret := (some .boolean)) (by decide) rfl ?_
  intro p e s m args below meth c s₁ B hml hv
  obtain ⟨rfl, hsz, hP, hK, hD0⟩ := hv
  have hx := B.exec
  have hb := B.bytes
  have hr := B.returns
  have hts := fun w (hw : w ∈ kTbl) => atoms_spec (ws := (kWs yN_isNode cN_isNode 2 (some .boolean))) B.pre w (List.mem_cons_of_mem _ hw)
  have hown : s.vm.findClass RN = some m.cls := findClass_of_methodNamed B.named
  have hlocks := B.notSynchronized
  subst hsz
  have hD := hD0.self (sz := s.heap.size)
  generalize hAe : va_A [(n0, .inr (2, [.int (nI N), .int ar, .ref n1]))] s.heap.size = A at hD ⊢
  have hA : ∀ q : Nat, s.heap.size ≤ q → A q := fun q h => by rw [← hAe]; exact Or.inr h
  have hS : va_S A s.heap s.heap [] := va_S.rf
  have hP : va_P D vwCl [(n0, .inr (2, [.int (nI N), .int ar, .ref n1]))] s.heap := hP
  have hl := lv_entry ([.ref n0, .int v]) (n := 2) (Nat.le_of_ble_eq_true rfl)
  rw [lg_entry_eq]
  generalize (lg_sl ([.ref n0, .int v]) ++ List.replicate (2 - (lg_sl ([.ref n0, .int v])).length) Slot.unset).toArray = ls at hl ⊢
  have hl : lv_has ls 2 [(0, .ref n0), (1, .int v)] := hl
  skip
  refine lv_iload_n hx hb dN_isNode_0 rfl (lv_at hl 1 rfl) ?_
  refine lv_if_lt (tgt := 16) hx hb dN_isNode_1 (by decide) (fun c_1 => ?_) (fun c_1 => ?_)
  · skip
    refine lv_iconst (v := 0) hx hb dN_isNode_16 (by decide) ?_
    exact k_zret hx hb hr hlocks hK hS rfl ((kB_f (by simp [kNode, c_1, Int32.not_le.mpr c_1])).symm) hP hD dN_isNode_17
  · skip
    refine lv_iload_n hx hb dN_isNode_4 rfl (lv_at hl 1 rfl) ?_
    refine lv_aload_n hx hb dN_isNode_5 rfl (lv_at hl 0 rfl) ?_
    refine va_get (D := D) (ci := 2) (v := .int (nI N)) (C := RN) (T := TN) (N := 3) hx hb hts iN hown hK hP 0 rfl rfl 0 (by decide) (hts _ w_26) (fun _ h9 => h9) rfl dN_isNode_6 ?_
    refine lv_icmp_ge (tgt := 16) hx hb dN_isNode_9 (by decide) (fun c_9 => ?_) (fun c_9 => ?_)
    · skip
      refine lv_iconst (v := 0) hx hb dN_isNode_16 (by decide) ?_
      exact k_zret hx hb hr hlocks hK hS rfl ((kB_f (by simp [kNode, c_1, Int32.not_lt.mp c_1, c_9, Int32.not_lt.mpr c_9])).symm) hP hD dN_isNode_17
    · skip
      refine lv_iconst (v := 1) hx hb dN_isNode_12 (by decide) ?_
      refine lv_goto (tgt := 17) hx hb dN_isNode_13 (by decide) ?_
      exact k_zret hx hb hr hlocks hK hS rfl ((kB_t (by simp [kNode, c_1, Int32.not_lt.mp c_1, c_9, Int32.not_le.mp c_9])).symm) hP hD dN_isNode_17
set_option maxHeartbeats 4000000 in
set_option maxRecDepth 100000 in
theorem cn_two (l : Launch) (D : va_G) (τ : Nat → ClassId) (n0 : Nat) (n1 : Nat) (N : Nat) (ar : Int32) (a : Int32) (b : Int32)  : kMi l D τ yN_areTwoNodes (kWs yN_areTwoNodes cN_areTwoNodes 3 (some .boolean)) { frames := 1, cells := 0, slots := 0, locals := 21 } [.ref n0, .int a, .int b] [(n0, .inr (2, [.int (nI N), .int ar, .ref n1]))] (kB (kTwo N a b)) [(n0, .inr (2, [.int (nI N), .int ar, .ref n1]))] := by
  intro sz
  refine Met.ofW (cc := cN_areTwoNodes) (maxL := 3) (ret := (some .boolean)) (by decide) rfl ?_
  intro p e s m args below meth c s₁ B hml hv
  obtain ⟨rfl, hsz, hP, hK, hD0⟩ := hv
  have hx := B.exec
  have hb := B.bytes
  have hr := B.returns
  have hts := fun w (hw : w ∈ kTbl) => atoms_spec (ws := (kWs yN_areTwoNodes cN_areTwoNodes 3 (some .boolean))) B.pre w (List.mem_cons_of_mem _ hw)
  have hown : s.vm.findClass RN = some m.cls := findClass_of_methodNamed B.named
  have hlocks := B.notSynchronized
  subst hsz
  have hD := hD0.self (sz := s.heap.size)
  generalize hAe : va_A [(n0, .inr (2, [.int (nI N), .int ar, .ref n1]))] s.heap.size = A at hD ⊢
  have hA : ∀ q : Nat, s.heap.size ≤ q → A q := fun q h => by rw [← hAe]; exact Or.inr h
  have hS : va_S A s.heap s.heap [] := va_S.rf
  have hP : va_P D vwCl [(n0, .inr (2, [.int (nI N), .int ar, .ref n1]))] s.heap := hP
  have hl := lv_entry ([.ref n0, .int a, .int b]) (n := 3) (Nat.le_of_ble_eq_true rfl)
  rw [lg_entry_eq]
  generalize (lg_sl ([.ref n0, .int a, .int b]) ++ List.replicate (3 - (lg_sl ([.ref n0, .int a, .int b])).length) Slot.unset).toArray = ls at hl ⊢
  have hl : lv_has ls 3 [(0, .ref n0), (1, .int a), (2, .int b)] := hl
  skip
  refine lv_aload_n hx hb dN_areTwoNodes_0 rfl (lv_at hl 0 rfl) ?_
  refine lv_iload_n hx hb dN_areTwoNodes_1 rfl (lv_at hl 1 rfl) ?_
  refine kc_Vi (As := [.int a]) (rest := []) (wr := []) (W1 := [(n0, .inr (2, [.int (nI N), .int ar, .ref n1]))]) ⟨hx, hb, hml, hown, hts⟩ (cn_isNode l D τ n0 n1 N ar a ) (kcwV hts qN_isNode w_204 rfl rfl ⟨Nat.le_of_ble_eq_true rfl, Nat.le_of_ble_eq_true rfl⟩) hK hP hD hS hA [0] [] [0] rfl rfl (by decide) (by decide) (by decide) rfl rfl rfl (by decide) hl.1 rfl rfl (Nat.le_of_ble_eq_true rfl) ⟨Nat.zero_le _, Nat.zero_le _⟩ dN_areTwoNodes_2 (fun H locs hP hD hS => ?_)
  refine lv_if_eq (tgt := 25) hx hb dN_areTwoNodes_5 (by decide) (fun c_5 => ?_) (fun c_5 => ?_)
  · skip
    have c_5 := kB_0.mp c_5
    refine lv_iconst (v := 0) hx hb dN_areTwoNodes_25 (by decide) ?_
    exact k_zret hx hb hr hlocks hK hS rfl ((kB_f (by simp [kTwo, c_5])).symm) hP hD dN_areTwoNodes_26
  · skip
    have c_5 := kB_1.mp c_5
    refine lv_aload_n hx hb dN_areTwoNodes_8 rfl (lv_at hl 0 rfl) ?_
    refine lv_iload_n hx hb dN_areTwoNodes_9 rfl (lv_at hl 2 rfl) ?_
    refine kc_Vi (As := [.int b]) (rest := []) (wr := []) (W1 := [(n0, .inr (2, [.int (nI N), .int ar, .ref n1]))]) ⟨hx, hb, hml, hown, hts⟩ (cn_isNode l D τ n0 n1 N ar b ) (kcwV hts qN_isNode w_204 rfl rfl ⟨Nat.le_of_ble_eq_true rfl, Nat.le_of_ble_eq_true rfl⟩) hK hP hD hS hA [0] [] [0] rfl rfl (by decide) (by decide) (by decide) rfl rfl rfl (by decide) hl.1 rfl rfl (Nat.le_of_ble_eq_true rfl) ⟨Nat.zero_le _, Nat.zero_le _⟩ dN_areTwoNodes_10 (fun H locs hP hD hS => ?_)
    refine lv_if_eq (tgt := 25) hx hb dN_areTwoNodes_13 (by decide) (fun c_13 => ?_) (fun c_13 => ?_)
    · skip
      have c_13 := kB_0.mp c_13
      refine lv_iconst (v := 0) hx hb dN_areTwoNodes_25 (by decide) ?_
      exact k_zret hx hb hr hlocks hK hS rfl ((kB_f (by simp [kTwo, c_5, c_13])).symm) hP hD dN_areTwoNodes_26
    · skip
      have c_13 := kB_1.mp c_13
      refine lv_iload_n hx hb dN_areTwoNodes_16 rfl (lv_at hl 1 rfl) ?_
      refine lv_iload_n hx hb dN_areTwoNodes_17 rfl (lv_at hl 2 rfl) ?_
      refine lv_icmp_eq (tgt := 25) hx hb dN_areTwoNodes_18 (by decide) (fun c_18 => ?_) (fun c_18 => ?_)
      · skip
        refine lv_iconst (v := 0) hx hb dN_areTwoNodes_25 (by decide) ?_
        exact k_zret hx hb hr hlocks hK hS rfl ((kB_f (by simp [kTwo, c_5, c_13, c_18])).symm) hP hD dN_areTwoNodes_26
      · skip
        refine lv_iconst (v := 1) hx hb dN_areTwoNodes_21 (by decide) ?_
        refine lv_goto (tgt := 26) hx hb dN_areTwoNodes_22 (by decide) ?_
        exact k_zret hx hb hr hlocks hK hS rfl ((kB_t (by simp [kTwo, c_5, c_13, c_18])).symm) hP hD dN_areTwoNodes_26
set_option maxHeartbeats 4000000 in
set_option maxRecDepth 100000 in
theorem cn_add (l : Launch) (D : va_G) (τ : Nat → ClassId) (n0 : Nat) (n1 : Nat) (N : Nat) (ar : Int32)  : kMi l D τ yN_addNode (kWs yN_addNode cN_addNode 1 (some .int)) { frames := 0, cells := 0, slots := 0, locals := 0 } [.ref n0] [(n0, .inr (2, [.int (nI N), .int ar, .ref n1]))] (nI N) [(n0, .inr (2, [.int (nI (N + 1)), .int ar, .ref n1]))] := by
  intro sz
  refine Met.ofW (cc := cN_addNode) (maxL := 1) (ret := (some .int)) (by decide) rfl ?_
  intro p e s m args below meth c s₁ B hml hv
  obtain ⟨rfl, hsz, hP, hK, hD0⟩ := hv
  have hx := B.exec
  have hb := B.bytes
  have hr := B.returns
  have hts := fun w (hw : w ∈ kTbl) => atoms_spec (ws := (kWs yN_addNode cN_addNode 1 (some .int))) B.pre w (List.mem_cons_of_mem _ hw)
  have hown : s.vm.findClass RN = some m.cls := findClass_of_methodNamed B.named
  have hlocks := B.notSynchronized
  subst hsz
  have hD := hD0.self (sz := s.heap.size)
  generalize hAe : va_A [(n0, .inr (2, [.int (nI N), .int ar, .ref n1]))] s.heap.size = A at hD ⊢
  have hA : ∀ q : Nat, s.heap.size ≤ q → A q := fun q h => by rw [← hAe]; exact Or.inr h
  have hS : va_S A s.heap s.heap [] := va_S.rf
  have hP : va_P D vwCl [(n0, .inr (2, [.int (nI N), .int ar, .ref n1]))] s.heap := hP
  have hl := lv_entry ([.ref n0]) (n := 1) (Nat.le_of_ble_eq_true rfl)
  rw [lg_entry_eq]
  generalize (lg_sl ([.ref n0]) ++ List.replicate (1 - (lg_sl ([.ref n0])).length) Slot.unset).toArray = ls at hl ⊢
  have hl : lv_has ls 1 [(0, .ref n0)] := hl
  skip
  refine lv_aload_n hx hb dN_addNode_0 rfl (lv_at hl 0 rfl) ?_
  refine lv_dup hx hb dN_addNode_1 rfl ?_
  refine va_get (D := D) (ci := 2) (v := .int (nI N)) (C := RN) (T := TN) (N := 3) hx hb hts iN hown hK hP 0 rfl rfl 0 (by decide) (hts _ w_26) (fun _ h9 => h9) rfl dN_addNode_2 ?_
  refine lv_dup_x1 hx hb dN_addNode_5 rfl rfl ?_
  refine lv_iconst (v := 1) hx hb dN_addNode_6 (by decide) ?_
  refine lv_iadd hx hb dN_addNode_7 ?_
  refine lv_topi (fun y_ ey_ => ?_)
  obtain rfl : y_ = nI (N + 1) := ey_.trans (nI_1 N)
  refine va_put (D := D) (ci := 2) (v := .int (nI (N + 1))) (ty := .int) (C := RN) (T := TN) (N := 3) hx hb hts iN tyN tyN_ok nmN hown hK hP hD hS 0 rfl rfl 0 (by decide) (hts _ w_26) (fun _ h9 => h9) rfl (by decide +kernel) rfl rfl (Nat.le_of_ble_eq_true rfl) dN_addNode_8 (fun H locs hP hD hS => ?_)
  have hP : va_P D vwCl [(n0, .inr (2, [.int (nI (N + 1)), .int ar, .ref n1]))] H := hP
  have hD : va_D A [(n0, .inr (2, [.int (nI (N + 1)), .int ar, .ref n1]))] := hD
  exact k_iret hx hb hr hlocks hK hS rfl hP hD dN_addNode_11
set_option maxHeartbeats 4000000 in
set_option maxRecDepth 100000 in
theorem cn_len (l : Launch) (D : va_G) (τ : Nat → ClassId) (n0 : Nat) (n1 : Nat) (N : Nat) (i : Nat) (j : Nat) (ar : Int32) (len : Nat → Int32) (hi : i < 24) (hj : j < 24) : kMi l D τ yN_lengthOf (kWs yN_lengthOf cN_lengthOf 3 (some .int)) { frames := 0, cells := 0, slots := 0, locals := 0 } [.ref n0, .int (nI i), .int (nI j)] [(n0, .inr (2, [.int (nI N), .int ar, .ref n1])), (n1, .inl (τ 0, 576, .inl len))] (len (i * 24 + j)) [(n0, .inr (2, [.int (nI N), .int ar, .ref n1])), (n1, .inl (τ 0, 576, .inl len))] := by
  intro sz
  refine Met.ofW (cc := cN_lengthOf) (maxL := 3) (ret := (some .int)) (by decide) rfl ?_
  intro p e s m args below meth c s₁ B hml hv
  obtain ⟨rfl, hsz, hP, hK, hD0⟩ := hv
  have hx := B.exec
  have hb := B.bytes
  have hr := B.returns
  have hts := fun w (hw : w ∈ kTbl) => atoms_spec (ws := (kWs yN_lengthOf cN_lengthOf 3 (some .int))) B.pre w (List.mem_cons_of_mem _ hw)
  have hown : s.vm.findClass RN = some m.cls := findClass_of_methodNamed B.named
  have hlocks := B.notSynchronized
  subst hsz
  have hD := hD0.self (sz := s.heap.size)
  generalize hAe : va_A [(n0, .inr (2, [.int (nI N), .int ar, .ref n1])), (n1, .inl (τ 0, 576, .inl len))] s.heap.size = A at hD ⊢
  have hA : ∀ q : Nat, s.heap.size ≤ q → A q := fun q h => by rw [← hAe]; exact Or.inr h
  have hS : va_S A s.heap s.heap [] := va_S.rf
  have hP : va_P D vwCl [(n0, .inr (2, [.int (nI N), .int ar, .ref n1])), (n1, .inl (τ 0, 576, .inl len))] s.heap := hP
  have hl := lv_entry ([.ref n0, .int (nI i), .int (nI j)]) (n := 3) (Nat.le_of_ble_eq_true rfl)
  rw [lg_entry_eq]
  generalize (lg_sl ([.ref n0, .int (nI i), .int (nI j)]) ++ List.replicate (3 - (lg_sl ([.ref n0, .int (nI i), .int (nI j)])).length) Slot.unset).toArray = ls at hl ⊢
  have hl : lv_has ls 3 [(0, .ref n0), (1, .int (nI i)), (2, .int (nI j))] := hl
  skip
  refine lv_aload_n hx hb dN_lengthOf_0 rfl (lv_at hl 0 rfl) ?_
  refine va_get (D := D) (ci := 2) (v := .ref n1) (C := RN) (T := TN) (N := 3) hx hb hts iN hown hK hP 0 rfl rfl 2 (by decide) (hts _ w_31) (fun _ h9 => h9) rfl dN_lengthOf_1 ?_
  refine lv_iload_n hx hb dN_lengthOf_4 rfl (lv_at hl 1 rfl) ?_
  refine lv_bipush (v := 24) hx hb dN_lengthOf_5 (by decide) ?_
  refine lv_imul hx hb dN_lengthOf_7 ?_
  refine lv_iload_n hx hb dN_lengthOf_8 rfl (lv_at hl 2 rfl) ?_
  refine lv_iadd hx hb dN_lengthOf_9 ?_
  refine lv_topi (fun y_ ey_ => ?_)
  obtain rfl : y_ = nI (i * 24 + j) := ey_.trans (k_ix _ _)
  refine ka_iald (k := i * 24 + j) hx hb hK hP 1 0 rfl rfl (by omega) (by omega) rfl dN_lengthOf_10 ?_
  exact k_iret hx hb hr hlocks hK hS rfl hP hD dN_lengthOf_11
set_option maxHeartbeats 4000000 in
set_option maxRecDepth 100000 in
theorem cn_set (l : Launch) (D : va_G) (τ : Nat → ClassId) (n0 : Nat) (n1 : Nat) (N : Nat) (i : Nat) (j : Nat) (ar : Int32) (x : Int32) (len : Nat → Int32) (hi : i < 24) (hj : j < 24) : kMv l D τ yN_setLength (kWs yN_setLength cN_setLength 5 none) { frames := 1, cells := 0, slots := 0, locals := 22 } [.ref n0, .int (nI i), .int (nI j), .int x] [(n0, .inr (2, [.int (nI N), .int ar, .ref n1])), (n1, .inl (τ 0, 576, .inl len))] [(n0, .inr (2, [.int (nI N), .int (kArcs ar (len (i * 24 + j)) x), .ref n1])), (n1, .inl (τ 0, 576, .inl (upd len (i * 24 + j) x)))] := by
  intro sz
  refine Met.ofW (cc := cN_setLength) (maxL := 5) (ret := none) (by decide) rfl ?_
  intro p e s m args below meth c s₁ B hml hv
  obtain ⟨rfl, hsz, hP, hK, hD0⟩ := hv
  have hx := B.exec
  have hb := B.bytes
  have hr := B.returns
  have hts := fun w (hw : w ∈ kTbl) => atoms_spec (ws := (kWs yN_setLength cN_setLength 5 none)) B.pre w (List.mem_cons_of_mem _ hw)
  have hown : s.vm.findClass RN = some m.cls := findClass_of_methodNamed B.named
  have hlocks := B.notSynchronized
  subst hsz
  have hD := hD0.self (sz := s.heap.size)
  generalize hAe : va_A [(n0, .inr (2, [.int (nI N), .int ar, .ref n1])), (n1, .inl (τ 0, 576, .inl len))] s.heap.size = A at hD ⊢
  have hA : ∀ q : Nat, s.heap.size ≤ q → A q := fun q h => by rw [← hAe]; exact Or.inr h
  have hS : va_S A s.heap s.heap [] := va_S.rf
  have hP : va_P D vwCl [(n0, .inr (2, [.int (nI N), .int ar, .ref n1])), (n1, .inl (τ 0, 576, .inl len))] s.heap := hP
  have hl := lv_entry ([.ref n0, .int (nI i), .int (nI j), .int x]) (n := 5) (Nat.le_of_ble_eq_true rfl)
  rw [lg_entry_eq]
  generalize (lg_sl ([.ref n0, .int (nI i), .int (nI j), .int x]) ++ List.replicate (5 - (lg_sl ([.ref n0, .int (nI i), .int (nI j), .int x])).length) Slot.unset).toArray = ls at hl ⊢
  have hl : lv_has ls 5 [(0, .ref n0), (1, .int (nI i)), (2, .int (nI j)), (3, .int x)] := hl
  skip
  refine lv_aload_n hx hb dN_setLength_0 rfl (lv_at hl 0 rfl) ?_
  refine lv_iload_n hx hb dN_setLength_1 rfl (lv_at hl 1 rfl) ?_
  refine lv_iload_n hx hb dN_setLength_2 rfl (lv_at hl 2 rfl) ?_
  refine kc_Vi (As := [.int (nI i), .int (nI j)]) (rest := []) (wr := []) (W1 := [(n0, .inr (2, [.int (nI N), .int ar, .ref n1])), (n1, .inl (τ 0, 576, .inl len))]) ⟨hx, hb, hml, hown, hts⟩ (cn_len l D τ n0 n1 N i j ar len (by first | assumption | omega) (by first | assumption | omega)) (kcwV hts qN_lengthOf w_249 rfl rfl ⟨Nat.le_of_ble_eq_true rfl, Nat.le_of_ble_eq_true rfl⟩) hK hP hD hS hA [0, 1] [] [0, 1] rfl rfl (by decide) (by decide) (by decide) rfl rfl rfl (by decide) hl.1 rfl rfl (Nat.le_of_ble_eq_true rfl) ⟨Nat.zero_le _, Nat.zero_le _⟩ dN_setLength_3 (fun H locs hP hD hS => ?_)
  refine lv_istore (lv' := [(4, .int (len (i * 24 + j))), (0, .ref n0), (1, .int (nI i)), (2, .int (nI j)), (3, .int x)]) hx hb dN_setLength_6 hl (by decide) rfl (fun ls hl => ?_)
  refine lv_iload hx hb dN_setLength_8 (lv_at hl 0 rfl) ?_
  refine lv_ldc (v := (-1000000)) hx hb hown (hts _ w_22) dN_setLength_10 ?_
  refine lv_icmp_ne (tgt := 31) hx hb dN_setLength_12 (by decide) (fun c_12 => ?_) (fun c_12 => ?_)
  · skip
    refine lv_iload hx hb dN_setLength_31 (lv_at hl 0 rfl) ?_
    refine lv_ldc (v := (-1000000)) hx hb hown (hts _ w_22) dN_setLength_33 ?_
    refine lv_icmp_eq (tgt := 54) hx hb dN_setLength_35 (by decide) (fun c_35 => absurd c_35 c_12) (fun c_35 => ?_)
    refine lv_iload_n hx hb dN_setLength_38 rfl (lv_at hl 4 rfl) ?_
    refine lv_ldc (v := (-1000000)) hx hb hown (hts _ w_22) dN_setLength_39 ?_
    refine lv_icmp_ne (tgt := 54) hx hb dN_setLength_41 (by decide) (fun c_41 => ?_) (fun c_41 => ?_)
    · skip
      refine lv_aload_n hx hb dN_setLength_54 rfl (lv_at hl 1 rfl) ?_
      refine va_get (D := D) (ci := 2) (v := .ref n1) (C := RN) (T := TN) (N := 3) hx hb hts iN hown hK hP 0 rfl rfl 2 (by decide) (hts _ w_31) (fun _ h9 => h9) rfl dN_setLength_55 ?_
      refine lv_iload_n hx hb dN_setLength_58 rfl (lv_at hl 2 rfl) ?_
      refine lv_bipush (v := 24) hx hb dN_setLength_59 (by decide) ?_
      refine lv_imul hx hb dN_setLength_61 ?_
      refine lv_iload_n hx hb dN_setLength_62 rfl (lv_at hl 3 rfl) ?_
      refine lv_iadd hx hb dN_setLength_63 ?_
      refine lv_topi (fun y_ ey_ => ?_)
      obtain rfl : y_ = nI (i * 24 + j) := ey_.trans (k_ix _ _)
      refine lv_iload_n hx hb dN_setLength_64 rfl (lv_at hl 4 rfl) ?_
      refine ka_iast (k := i * 24 + j) hx hb hK hP hD hS 1 0 rfl rfl (by omega) (by omega) rfl dN_setLength_65 (fun H locs hP hD hS => ?_)
      have hP : va_P D vwCl [(n0, .inr (2, [.int (nI N), .int ar, .ref n1])), (n1, .inl (τ 0, 576, .inl (upd len (i * 24 + j) x)))] H := hP
      have hD : va_D A [(n0, .inr (2, [.int (nI N), .int ar, .ref n1])), (n1, .inl (τ 0, 576, .inl (upd len (i * 24 + j) x)))] := hD
      have e_ : kArcs ar (len (i * 24 + j)) x = ar := by simp [kArcs, kIf, c_12, c_35, c_41]
      exact k_vret hx hb hr hlocks hK hS (by rw [e_]; exact hP) (by rw [e_]; exact hD) dN_setLength_66
    · skip
      refine lv_aload_n hx hb dN_setLength_44 rfl (lv_at hl 1 rfl) ?_
      refine lv_dup hx hb dN_setLength_45 rfl ?_
      refine va_get (D := D) (ci := 2) (v := .int ar) (C := RN) (T := TN) (N := 3) hx hb hts iN hown hK hP 0 rfl rfl 1 (by decide) (hts _ w_29) (fun _ h9 => h9) rfl dN_setLength_46 ?_
      refine lv_iconst (v := 1) hx hb dN_setLength_49 (by decide) ?_
      refine lv_isub hx hb dN_setLength_50 ?_
      refine va_put (D := D) (ci := 2) (v := .int (ar - 1)) (ty := .int) (C := RN) (T := TN) (N := 3) hx hb hts iN tyN tyN_ok nmN hown hK hP hD hS 0 rfl rfl 1 (by decide) (hts _ w_29) (fun _ h9 => h9) rfl (by decide +kernel) rfl rfl (Nat.le_of_ble_eq_true rfl) dN_setLength_51 (fun H locs hP hD hS => ?_)
      have hP : va_P D vwCl [(n0, .inr (2, [.int (nI N), .int (ar - 1), .ref n1])), (n1, .inl (τ 0, 576, .inl len))] H := hP
      have hD : va_D A [(n0, .inr (2, [.int (nI N), .int (ar - 1), .ref n1])), (n1, .inl (τ 0, 576, .inl len))] := hD
      refine lv_aload_n hx hb dN_setLength_54 rfl (lv_at hl 1 rfl) ?_
      refine va_get (D := D) (ci := 2) (v := .ref n1) (C := RN) (T := TN) (N := 3) hx hb hts iN hown hK hP 0 rfl rfl 2 (by decide) (hts _ w_31) (fun _ h9 => h9) rfl dN_setLength_55 ?_
      refine lv_iload_n hx hb dN_setLength_58 rfl (lv_at hl 2 rfl) ?_
      refine lv_bipush (v := 24) hx hb dN_setLength_59 (by decide) ?_
      refine lv_imul hx hb dN_setLength_61 ?_
      refine lv_iload_n hx hb dN_setLength_62 rfl (lv_at hl 3 rfl) ?_
      refine lv_iadd hx hb dN_setLength_63 ?_
      refine lv_topi (fun y_ ey_ => ?_)
      obtain rfl : y_ = nI (i * 24 + j) := ey_.trans (k_ix _ _)
      refine lv_iload_n hx hb dN_setLength_64 rfl (lv_at hl 4 rfl) ?_
      refine ka_iast (k := i * 24 + j) hx hb hK hP hD hS 1 0 rfl rfl (by omega) (by omega) rfl dN_setLength_65 (fun H locs hP hD hS => ?_)
      have hP : va_P D vwCl [(n0, .inr (2, [.int (nI N), .int (ar - 1), .ref n1])), (n1, .inl (τ 0, 576, .inl (upd len (i * 24 + j) x)))] H := hP
      have hD : va_D A [(n0, .inr (2, [.int (nI N), .int (ar - 1), .ref n1])), (n1, .inl (τ 0, 576, .inl (upd len (i * 24 + j) x)))] := hD
      have e_ : kArcs ar (len (i * 24 + j)) x = ar - 1 := by simp [kArcs, kIf, c_12, c_35, c_41]
      exact k_vret hx hb hr hlocks hK hS (by rw [e_]; exact hP) (by rw [e_]; exact hD) dN_setLength_66
  · skip
    refine lv_iload_n hx hb dN_setLength_15 rfl (lv_at hl 4 rfl) ?_
    refine lv_ldc (v := (-1000000)) hx hb hown (hts _ w_22) dN_setLength_16 ?_
    refine lv_icmp_eq (tgt := 31) hx hb dN_setLength_18 (by decide) (fun c_18 => ?_) (fun c_18 => ?_)
    · skip
      refine lv_iload hx hb dN_setLength_31 (lv_at hl 0 rfl) ?_
      refine lv_ldc (v := (-1000000)) hx hb hown (hts _ w_22) dN_setLength_33 ?_
      refine lv_icmp_eq (tgt := 54) hx hb dN_setLength_35 (by decide) (fun c_35 => ?_) (fun c_35 => absurd c_12 c_35)
      refine lv_aload_n hx hb dN_setLength_54 rfl (lv_at hl 1 rfl) ?_
      refine va_get (D := D) (ci := 2) (v := .ref n1) (C := RN) (T := TN) (N := 3) hx hb hts iN hown hK hP 0 rfl rfl 2 (by decide) (hts _ w_31) (fun _ h9 => h9) rfl dN_setLength_55 ?_
      refine lv_iload_n hx hb dN_setLength_58 rfl (lv_at hl 2 rfl) ?_
      refine lv_bipush (v := 24) hx hb dN_setLength_59 (by decide) ?_
      refine lv_imul hx hb dN_setLength_61 ?_
      refine lv_iload_n hx hb dN_setLength_62 rfl (lv_at hl 3 rfl) ?_
      refine lv_iadd hx hb dN_setLength_63 ?_
      refine lv_topi (fun y_ ey_ => ?_)
      obtain rfl : y_ = nI (i * 24 + j) := ey_.trans (k_ix _ _)
      refine lv_iload_n hx hb dN_setLength_64 rfl (lv_at hl 4 rfl) ?_
      refine ka_iast (k := i * 24 + j) hx hb hK hP hD hS 1 0 rfl rfl (by omega) (by omega) rfl dN_setLength_65 (fun H locs hP hD hS => ?_)
      have hP : va_P D vwCl [(n0, .inr (2, [.int (nI N), .int ar, .ref n1])), (n1, .inl (τ 0, 576, .inl (upd len (i * 24 + j) x)))] H := hP
      have hD : va_D A [(n0, .inr (2, [.int (nI N), .int ar, .ref n1])), (n1, .inl (τ 0, 576, .inl (upd len (i * 24 + j) x)))] := hD
      have e_ : kArcs ar (len (i * 24 + j)) x = ar := by simp [kArcs, kIf, c_12, c_18, c_35]
      exact k_vret hx hb hr hlocks hK hS (by rw [e_]; exact hP) (by rw [e_]; exact hD) dN_setLength_66
    · skip
      refine lv_aload_n hx hb dN_setLength_21 rfl (lv_at hl 1 rfl) ?_
      refine lv_dup hx hb dN_setLength_22 rfl ?_
      refine va_get (D := D) (ci := 2) (v := .int ar) (C := RN) (T := TN) (N := 3) hx hb hts iN hown hK hP 0 rfl rfl 1 (by decide) (hts _ w_29) (fun _ h9 => h9) rfl dN_setLength_23 ?_
      refine lv_iconst (v := 1) hx hb dN_setLength_26 (by decide) ?_
      refine lv_iadd hx hb dN_setLength_27 ?_
      refine va_put (D := D) (ci := 2) (v := .int (ar + 1)) (ty := .int) (C := RN) (T := TN) (N := 3) hx hb hts iN tyN tyN_ok nmN hown hK hP hD hS 0 rfl rfl 1 (by decide) (hts _ w_29) (fun _ h9 => h9) rfl (by decide +kernel) rfl rfl (Nat.le_of_ble_eq_true rfl) dN_setLength_28 (fun H locs hP hD hS => ?_)
      have hP : va_P D vwCl [(n0, .inr (2, [.int (nI N), .int (ar + 1), .ref n1])), (n1, .inl (τ 0, 576, .inl len))] H := hP
      have hD : va_D A [(n0, .inr (2, [.int (nI N), .int (ar + 1), .ref n1])), (n1, .inl (τ 0, 576, .inl len))] := hD
      refine lv_iload hx hb dN_setLength_31 (lv_at hl 0 rfl) ?_
      refine lv_ldc (v := (-1000000)) hx hb hown (hts _ w_22) dN_setLength_33 ?_
      refine lv_icmp_eq (tgt := 54) hx hb dN_setLength_35 (by decide) (fun c_35 => ?_) (fun c_35 => absurd c_12 c_35)
      refine lv_aload_n hx hb dN_setLength_54 rfl (lv_at hl 1 rfl) ?_
      refine va_get (D := D) (ci := 2) (v := .ref n1) (C := RN) (T := TN) (N := 3) hx hb hts iN hown hK hP 0 rfl rfl 2 (by decide) (hts _ w_31) (fun _ h9 => h9) rfl dN_setLength_55 ?_
      refine lv_iload_n hx hb dN_setLength_58 rfl (lv_at hl 2 rfl) ?_
      refine lv_bipush (v := 24) hx hb dN_setLength_59 (by decide) ?_
      refine lv_imul hx hb dN_setLength_61 ?_
      refine lv_iload_n hx hb dN_setLength_62 rfl (lv_at hl 3 rfl) ?_
      refine lv_iadd hx hb dN_setLength_63 ?_
      refine lv_topi (fun y_ ey_ => ?_)
      obtain rfl : y_ = nI (i * 24 + j) := ey_.trans (k_ix _ _)
      refine lv_iload_n hx hb dN_setLength_64 rfl (lv_at hl 4 rfl) ?_
      refine ka_iast (k := i * 24 + j) hx hb hK hP hD hS 1 0 rfl rfl (by omega) (by omega) rfl dN_setLength_65 (fun H locs hP hD hS => ?_)
      have hP : va_P D vwCl [(n0, .inr (2, [.int (nI N), .int (ar + 1), .ref n1])), (n1, .inl (τ 0, 576, .inl (upd len (i * 24 + j) x)))] H := hP
      have hD : va_D A [(n0, .inr (2, [.int (nI N), .int (ar + 1), .ref n1])), (n1, .inl (τ 0, 576, .inl (upd len (i * 24 + j) x)))] := hD
      have e_ : kArcs ar (len (i * 24 + j)) x = ar + 1 := by simp [kArcs, kIf, c_12, c_18, c_35]
      exact k_vret hx hb hr hlocks hK hS (by rw [e_]; exact hP) (by rw [e_]; exact hD) dN_setLength_66
end
section
set_option maxHeartbeats 4000000 in
set_option maxRecDepth 100000 in
theorem cl_reaches (l : Launch) (D : va_G) (τ : Nat → ClassId) (a0 : Nat) (a1 : Nat) (a2 : Nat) (a3 : Nat) (j : Nat) (fd : Nat → Int32) (fh : Nat → Int32) (fp : Nat → Int32) (ti : Int32) (hj : j < 24) : kMi l D τ yL_reaches (kWs yL_reaches cL_reaches 2 (some .boolean)) { frames := 0, cells := 0, slots := 0, locals := 0 } [.ref a0, .int (nI j)] [(a0, .inr (1, [.ref a1, .ref a2, .ref a3, .int ti])), (a1, .inl (τ 0, 24, .inl fd)), (a2, .inl (τ 0, 24, .inl fh)), (a3, .inl (τ 0, 24, .inl fp))] (kB (¬ fd j = (-1000000))) [(a0, .inr (1, [.ref a1, .ref a2, .ref a3, .int ti])), (a1, .inl (τ 0, 24, .inl fd)), (a2, .inl (τ 0, 24, .inl fh)), (a3, .inl (τ 0, 24, .inl fp))] := by
  intro sz
  refine Met.ofW (cc := cL_reaches) (maxL := 2) (ret := (some .boolean)) (by decide) rfl ?_
  intro p e s m args below meth c s₁ B hml hv
  obtain ⟨rfl, hsz, hP, hK, hD0⟩ := hv
  have hx := B.exec
  have hb := B.bytes
  have hr := B.returns
  have hts := fun w (hw : w ∈ kTbl) => atoms_spec (ws := (kWs yL_reaches cL_reaches 2 (some .boolean))) B.pre w (List.mem_cons_of_mem _ hw)
  have hown : s.vm.findClass RL = some m.cls := findClass_of_methodNamed B.named
  have hlocks := B.notSynchronized
  subst hsz
  have hD := hD0.self (sz := s.heap.size)
  generalize hAe : va_A [(a0, .inr (1, [.ref a1, .ref a2, .ref a3, .int ti])), (a1, .inl (τ 0, 24, .inl fd)), (a2, .inl (τ 0, 24, .inl fh)), (a3, .inl (τ 0, 24, .inl fp))] s.heap.size = A at hD ⊢
  have hA : ∀ q : Nat, s.heap.size ≤ q → A q := fun q h => by rw [← hAe]; exact Or.inr h
  have hS : va_S A s.heap s.heap [] := va_S.rf
  have hP : va_P D vwCl [(a0, .inr (1, [.ref a1, .ref a2, .ref a3, .int ti])), (a1, .inl (τ 0, 24, .inl fd)), (a2, .inl (τ 0, 24, .inl fh)), (a3, .inl (τ 0, 24, .inl fp))] s.heap := hP
  have hl := lv_entry ([.ref a0, .int (nI j)]) (n := 2) (Nat.le_of_ble_eq_true rfl)
  rw [lg_entry_eq]
  generalize (lg_sl ([.ref a0, .int (nI j)]) ++ List.replicate (2 - (lg_sl ([.ref a0, .int (nI j)])).length) Slot.unset).toArray = ls at hl ⊢
  have hl : lv_has ls 2 [(0, .ref a0), (1, .int (nI j))] := hl
  skip
  refine lv_aload_n hx hb dL_reaches_0 rfl (lv_at hl 0 rfl) ?_
  refine va_get (D := D) (ci := 1) (v := .ref a1) (C := RL) (T := TL) (N := 4) hx hb hts iL hown hK hP 0 rfl rfl 0 (by decide) (hts _ w_80) (fun _ h9 => h9) rfl dL_reaches_1 ?_
  refine lv_iload_n hx hb dL_reaches_4 rfl (lv_at hl 1 rfl) ?_
  refine ka_iald (k := j) hx hb hK hP 1 0 rfl rfl (by omega) (by omega) rfl dL_reaches_5 ?_
  refine lv_ldc (v := (-1000000)) hx hb hown (hts _ w_78) dL_reaches_6 ?_
  refine lv_icmp_eq (tgt := 15) hx hb dL_reaches_8 (by decide) (fun c_8 => ?_) (fun c_8 => ?_)
  · skip
    refine lv_iconst (v := 0) hx hb dL_reaches_15 (by decide) ?_
    exact k_zret hx hb hr hlocks hK hS rfl ((kB_f (by simp [c_8])).symm) hP hD dL_reaches_16
  · skip
    refine lv_iconst (v := 1) hx hb dL_reaches_11 (by decide) ?_
    refine lv_goto (tgt := 16) hx hb dL_reaches_12 (by decide) ?_
    exact k_zret hx hb hr hlocks hK hS rfl ((kB_t (by simp [c_8])).symm) hP hD dL_reaches_16
set_option maxHeartbeats 4000000 in
set_option maxRecDepth 100000 in
theorem cl_size (l : Launch) (D : va_G) (τ : Nat → ClassId) (a0 : Nat) (a1 : Nat) (a2 : Nat) (a3 : Nat) (j : Nat) (fd : Nat → Int32) (fh : Nat → Int32) (fp : Nat → Int32) (ti : Int32) (hj : j < 24) : kMi l D τ yL_sizeOfWay (kWs yL_sizeOfWay cL_sizeOfWay 2 (some .int)) { frames := 0, cells := 0, slots := 0, locals := 0 } [.ref a0, .int (nI j)] [(a0, .inr (1, [.ref a1, .ref a2, .ref a3, .int ti])), (a1, .inl (τ 0, 24, .inl fd)), (a2, .inl (τ 0, 24, .inl fh)), (a3, .inl (τ 0, 24, .inl fp))] (fh j + 1) [(a0, .inr (1, [.ref a1, .ref a2, .ref a3, .int ti])), (a1, .inl (τ 0, 24, .inl fd)), (a2, .inl (τ 0, 24, .inl fh)), (a3, .inl (τ 0, 24, .inl fp))] := by
  intro sz
  refine Met.ofW (cc := cL_sizeOfWay) (maxL := 2) (ret := (some .int)) (by decide) rfl ?_
  intro p e s m args below meth c s₁ B hml hv
  obtain ⟨rfl, hsz, hP, hK, hD0⟩ := hv
  have hx := B.exec
  have hb := B.bytes
  have hr := B.returns
  have hts := fun w (hw : w ∈ kTbl) => atoms_spec (ws := (kWs yL_sizeOfWay cL_sizeOfWay 2 (some .int))) B.pre w (List.mem_cons_of_mem _ hw)
  have hown : s.vm.findClass RL = some m.cls := findClass_of_methodNamed B.named
  have hlocks := B.notSynchronized
  subst hsz
  have hD := hD0.self (sz := s.heap.size)
  generalize hAe : va_A [(a0, .inr (1, [.ref a1, .ref a2, .ref a3, .int ti])), (a1, .inl (τ 0, 24, .inl fd)), (a2, .inl (τ 0, 24, .inl fh)), (a3, .inl (τ 0, 24, .inl fp))] s.heap.size = A at hD ⊢
  have hA : ∀ q : Nat, s.heap.size ≤ q → A q := fun q h => by rw [← hAe]; exact Or.inr h
  have hS : va_S A s.heap s.heap [] := va_S.rf
  have hP : va_P D vwCl [(a0, .inr (1, [.ref a1, .ref a2, .ref a3, .int ti])), (a1, .inl (τ 0, 24, .inl fd)), (a2, .inl (τ 0, 24, .inl fh)), (a3, .inl (τ 0, 24, .inl fp))] s.heap := hP
  have hl := lv_entry ([.ref a0, .int (nI j)]) (n := 2) (Nat.le_of_ble_eq_true rfl)
  rw [lg_entry_eq]
  generalize (lg_sl ([.ref a0, .int (nI j)]) ++ List.replicate (2 - (lg_sl ([.ref a0, .int (nI j)])).length) Slot.unset).toArray = ls at hl ⊢
  have hl : lv_has ls 2 [(0, .ref a0), (1, .int (nI j))] := hl
  skip
  refine lv_aload_n hx hb dL_sizeOfWay_0 rfl (lv_at hl 0 rfl) ?_
  refine va_get (D := D) (ci := 1) (v := .ref a2) (C := RL) (T := TL) (N := 4) hx hb hts iL hown hK hP 0 rfl rfl 1 (by decide) (hts _ w_82) (fun _ h9 => h9) rfl dL_sizeOfWay_1 ?_
  refine lv_iload_n hx hb dL_sizeOfWay_4 rfl (lv_at hl 1 rfl) ?_
  refine ka_iald (k := j) hx hb hK hP 2 0 rfl rfl (by omega) (by omega) rfl dL_sizeOfWay_5 ?_
  refine lv_iconst (v := 1) hx hb dL_sizeOfWay_6 (by decide) ?_
  refine lv_iadd hx hb dL_sizeOfWay_7 ?_
  exact k_iret hx hb hr hlocks hK hS rfl hP hD dL_sizeOfWay_8
set_option maxHeartbeats 4000000 in
set_option maxRecDepth 100000 in
theorem cl_better (l : Launch) (D : va_G) (τ : Nat → ClassId) (a0 : Nat) (a1 : Nat) (a2 : Nat) (a3 : Nat) (j : Nat) (fd : Nat → Int32) (fh : Nat → Int32) (fp : Nat → Int32) (ti : Int32) (x : Int32) (y : Int32) (hj : j < 24) : kMi l D τ yL_isBetter (kWs yL_isBetter cL_isBetter 4 (some .boolean)) { frames := 0, cells := 0, slots := 0, locals := 0 } [.ref a0, .int (nI j), .int x, .int y] [(a0, .inr (1, [.ref a1, .ref a2, .ref a3, .int ti])), (a1, .inl (τ 0, 24, .inl fd)), (a2, .inl (τ 0, 24, .inl fh)), (a3, .inl (τ 0, 24, .inl fp))] (kB (kBet fd fh j x y)) [(a0, .inr (1, [.ref a1, .ref a2, .ref a3, .int ti])), (a1, .inl (τ 0, 24, .inl fd)), (a2, .inl (τ 0, 24, .inl fh)), (a3, .inl (τ 0, 24, .inl fp))] := by
  intro sz
  refine Met.ofW (cc := cL_isBetter) (maxL := 4) (ret := (some .boolean)) (by decide) rfl ?_
  intro p e s m args below meth c s₁ B hml hv
  obtain ⟨rfl, hsz, hP, hK, hD0⟩ := hv
  have hx := B.exec
  have hb := B.bytes
  have hr := B.returns
  have hts := fun w (hw : w ∈ kTbl) => atoms_spec (ws := (kWs yL_isBetter cL_isBetter 4 (some .boolean))) B.pre w (List.mem_cons_of_mem _ hw)
  have hown : s.vm.findClass RL = some m.cls := findClass_of_methodNamed B.named
  have hlocks := B.notSynchronized
  subst hsz
  have hD := hD0.self (sz := s.heap.size)
  generalize hAe : va_A [(a0, .inr (1, [.ref a1, .ref a2, .ref a3, .int ti])), (a1, .inl (τ 0, 24, .inl fd)), (a2, .inl (τ 0, 24, .inl fh)), (a3, .inl (τ 0, 24, .inl fp))] s.heap.size = A at hD ⊢
  have hA : ∀ q : Nat, s.heap.size ≤ q → A q := fun q h => by rw [← hAe]; exact Or.inr h
  have hS : va_S A s.heap s.heap [] := va_S.rf
  have hP : va_P D vwCl [(a0, .inr (1, [.ref a1, .ref a2, .ref a3, .int ti])), (a1, .inl (τ 0, 24, .inl fd)), (a2, .inl (τ 0, 24, .inl fh)), (a3, .inl (τ 0, 24, .inl fp))] s.heap := hP
  have hl := lv_entry ([.ref a0, .int (nI j), .int x, .int y]) (n := 4) (Nat.le_of_ble_eq_true rfl)
  rw [lg_entry_eq]
  generalize (lg_sl ([.ref a0, .int (nI j), .int x, .int y]) ++ List.replicate (4 - (lg_sl ([.ref a0, .int (nI j), .int x, .int y])).length) Slot.unset).toArray = ls at hl ⊢
  have hl : lv_has ls 4 [(0, .ref a0), (1, .int (nI j)), (2, .int x), (3, .int y)] := hl
  skip
  refine lv_aload_n hx hb dL_isBetter_0 rfl (lv_at hl 0 rfl) ?_
  refine va_get (D := D) (ci := 1) (v := .ref a1) (C := RL) (T := TL) (N := 4) hx hb hts iL hown hK hP 0 rfl rfl 0 (by decide) (hts _ w_80) (fun _ h9 => h9) rfl dL_isBetter_1 ?_
  refine lv_iload_n hx hb dL_isBetter_4 rfl (lv_at hl 1 rfl) ?_
  refine ka_iald (k := j) hx hb hK hP 1 0 rfl rfl (by omega) (by omega) rfl dL_isBetter_5 ?_
  refine lv_ldc (v := (-1000000)) hx hb hown (hts _ w_78) dL_isBetter_6 ?_
  refine lv_icmp_eq (tgt := 41) hx hb dL_isBetter_8 (by decide) (fun c_8 => ?_) (fun c_8 => ?_)
  · skip
    refine lv_iconst (v := 1) hx hb dL_isBetter_41 (by decide) ?_
    refine lv_goto (tgt := 46) hx hb dL_isBetter_42 (by decide) ?_
    exact k_zret hx hb hr hlocks hK hS rfl ((kB_t (by simp [kBet, c_8])).symm) hP hD dL_isBetter_46
  · skip
    refine lv_iload_n hx hb dL_isBetter_11 rfl (lv_at hl 2 rfl) ?_
    refine lv_aload_n hx hb dL_isBetter_12 rfl (lv_at hl 0 rfl) ?_
    refine va_get (D := D) (ci := 1) (v := .ref a1) (C := RL) (T := TL) (N := 4) hx hb hts iL hown hK hP 0 rfl rfl 0 (by decide) (hts _ w_80) (fun _ h9 => h9) rfl dL_isBetter_13 ?_
    refine lv_iload_n hx hb dL_isBetter_16 rfl (lv_at hl 1 rfl) ?_
    refine ka_iald (k := j) hx hb hK hP 1 0 rfl rfl (by omega) (by omega) rfl dL_isBetter_17 ?_
    refine lv_icmp_lt (tgt := 41) hx hb dL_isBetter_18 (by decide) (fun c_18 => ?_) (fun c_18 => ?_)
    · skip
      refine lv_iconst (v := 1) hx hb dL_isBetter_41 (by decide) ?_
      refine lv_goto (tgt := 46) hx hb dL_isBetter_42 (by decide) ?_
      exact k_zret hx hb hr hlocks hK hS rfl ((kB_t (by simp [kBet, c_8, c_18, Int32.not_le.mpr c_18])).symm) hP hD dL_isBetter_46
    · skip
      refine lv_iload_n hx hb dL_isBetter_21 rfl (lv_at hl 2 rfl) ?_
      refine lv_aload_n hx hb dL_isBetter_22 rfl (lv_at hl 0 rfl) ?_
      refine va_get (D := D) (ci := 1) (v := .ref a1) (C := RL) (T := TL) (N := 4) hx hb hts iL hown hK hP 0 rfl rfl 0 (by decide) (hts _ w_80) (fun _ h9 => h9) rfl dL_isBetter_23 ?_
      refine lv_iload_n hx hb dL_isBetter_26 rfl (lv_at hl 1 rfl) ?_
      refine ka_iald (k := j) hx hb hK hP 1 0 rfl rfl (by omega) (by omega) rfl dL_isBetter_27 ?_
      refine lv_icmp_ne (tgt := 45) hx hb dL_isBetter_28 (by decide) (fun c_28 => ?_) (fun c_28 => ?_)
      · skip
        refine lv_iconst (v := 0) hx hb dL_isBetter_45 (by decide) ?_
        exact k_zret hx hb hr hlocks hK hS rfl ((kB_f (by simp [kBet, c_8, c_18, Int32.not_lt.mp c_18, c_28])).symm) hP hD dL_isBetter_46
      · skip
        refine lv_iload_n hx hb dL_isBetter_31 rfl (lv_at hl 3 rfl) ?_
        refine lv_aload_n hx hb dL_isBetter_32 rfl (lv_at hl 0 rfl) ?_
        refine va_get (D := D) (ci := 1) (v := .ref a2) (C := RL) (T := TL) (N := 4) hx hb hts iL hown hK hP 0 rfl rfl 1 (by decide) (hts _ w_82) (fun _ h9 => h9) rfl dL_isBetter_33 ?_
        refine lv_iload_n hx hb dL_isBetter_36 rfl (lv_at hl 1 rfl) ?_
        refine ka_iald (k := j) hx hb hK hP 2 0 rfl rfl (by omega) (by omega) rfl dL_isBetter_37 ?_
        refine lv_icmp_ge (tgt := 45) hx hb dL_isBetter_38 (by decide) (fun c_38 => ?_) (fun c_38 => ?_)
        · skip
          refine lv_iconst (v := 0) hx hb dL_isBetter_45 (by decide) ?_
          exact k_zret hx hb hr hlocks hK hS rfl ((kB_f (by simp [kBet, c_8, c_18, Int32.not_lt.mp c_18, c_28, c_38, Int32.not_lt.mpr c_38])).symm) hP hD dL_isBetter_46
        · skip
          refine lv_iconst (v := 1) hx hb dL_isBetter_41 (by decide) ?_
          refine lv_goto (tgt := 46) hx hb dL_isBetter_42 (by decide) ?_
          exact k_zret hx hb hr hlocks hK hS rfl ((kB_t (by simp [kBet, c_8, c_18, Int32.not_lt.mp c_18, c_28, c_38, Int32.not_le.mp c_38])).symm) hP hD dL_isBetter_46
set_option maxHeartbeats 4000000 in
set_option maxRecDepth 100000 in
theorem ll_follow {p : Program} {l : Launch} {e : Env} {s : State} {m : MethodId} {args : Array Value} {below : List Frame} {meth : Method} {c : Code} {Q : State → Prop} {D : va_G} {τ : Nat → ClassId} {A : Nat → Prop} (hx : p.tables.exec = Jvm.exec) (hb : c.code = cL_followArcs) (hml : c.maxLocals = 6) (hown : s.vm.findClass RL = some m.cls) (hts : ∀ w ∈ kTbl, w.before args s = true) (hK : va_K D vwCl (kTys τ) s) (hA : ∀ q : Nat, s.heap.size ≤ q → A q) (a0 : Nat) (a1 : Nat) (a2 : Nat) (a3 : Nat) (n0 : Nat) (n1 : Nat) (N : Nat) (ar : Int32) (len : Nat → Int32) (u : Nat) (gd : Nat → Int32) (gh : Nat → Int32) (fp : Nat → Int32) (ti : Int32) (hu : u < 24) (hN : N ≤ 24)
    (kx : ∀ (H : Heap) (locs : List Loc) (ls : Array Slot), va_P D vwCl [(a0, .inr (1, [.ref a1, .ref a2, .ref a3, .int ti])), (a1, .inl (τ 0, 24, .inl ((kItr (kFol len u) N (gd, gh, 0)).1))), (a2, .inl (τ 0, 24, .inl ((kItr (kFol len u) N (gd, gh, 0)).2.1))), (a3, .inl (τ 0, 24, .inl fp)), (n0, .inr (2, [.int (nI N), .int ar, .ref n1])), (n1, .inl (τ 0, 576, .inl len))] H → va_D A [(a0, .inr (1, [.ref a1, .ref a2, .ref a3, .int ti])), (a1, .inl (τ 0, 24, .inl ((kItr (kFol len u) N (gd, gh, 0)).1))), (a2, .inl (τ 0, 24, .inl ((kItr (kFol len u) N (gd, gh, 0)).2.1))), (a3, .inl (τ 0, 24, .inl fp)), (n0, .inr (2, [.int (nI N), .int ar, .ref n1])), (n1, .inl (τ 0, 576, .inl len))] → va_S A s.heap H locs → lv_has ls 6 [(0, .ref a0), (3, .int ((kItr (kFol len u) N (gd, gh, 0)).2.2))] → W p l e (headSpec (kWs yL_followArcs cL_followArcs 6 (some .int)) { frames := 1, cells := 0, slots := 0, locals := 23 }).room s m args below meth c H locs 0 0 Q (F0 m 100 ls [])) :
    ∀ (n k : Nat), k + n = N → ∀ (H : Heap) (locs : List Loc) (ls : Array Slot), va_P D vwCl [(a0, .inr (1, [.ref a1, .ref a2, .ref a3, .int ti])), (a1, .inl (τ 0, 24, .inl ((kItr (kFol len u) k (gd, gh, 0)).1))), (a2, .inl (τ 0, 24, .inl ((kItr (kFol len u) k (gd, gh, 0)).2.1))), (a3, .inl (τ 0, 24, .inl fp)), (n0, .inr (2, [.int (nI N), .int ar, .ref n1])), (n1, .inl (τ 0, 576, .inl len))] H → va_D A [(a0, .inr (1, [.ref a1, .ref a2, .ref a3, .int ti])), (a1, .inl (τ 0, 24, .inl ((kItr (kFol len u) k (gd, gh, 0)).1))), (a2, .inl (τ 0, 24, .inl ((kItr (kFol len u) k (gd, gh, 0)).2.1))), (a3, .inl (τ 0, 24, .inl fp)), (n0, .inr (2, [.int (nI N), .int ar, .ref n1])), (n1, .inl (τ 0, 576, .inl len))] → va_S A s.heap H locs → lv_has ls 6 [(0, .ref a0), (1, .int (nI u)), (2, .ref n0), (3, .int ((kItr (kFol len u) k (gd, gh, 0)).2.2)), (4, .int (nI k))] → W p l e (headSpec (kWs yL_followArcs cL_followArcs 6 (some .int)) { frames := 1, cells := 0, slots := 0, locals := 23 }).room s m args below meth c H locs 0 0 Q (F0 m 5 ls []) := by
  intro n
  induction n with
  | zero =>
    intro k hk H locs ls hP hD hS hl
    have hkN : N = k := by omega
    subst hkN
    revert hP hD hl
    generalize hst : (kItr (kFol len u) N (gd, gh, 0)) = st
    intro hP hD hl
    obtain ⟨fd, fh, imp⟩ := st
    have hP : va_P D vwCl [(a0, .inr (1, [.ref a1, .ref a2, .ref a3, .int ti])), (a1, .inl (τ 0, 24, .inl fd)), (a2, .inl (τ 0, 24, .inl fh)), (a3, .inl (τ 0, 24, .inl fp)), (n0, .inr (2, [.int (nI N), .int ar, .ref n1])), (n1, .inl (τ 0, 576, .inl len))] H := hP
    have hD : va_D A [(a0, .inr (1, [.ref a1, .ref a2, .ref a3, .int ti])), (a1, .inl (τ 0, 24, .inl fd)), (a2, .inl (τ 0, 24, .inl fh)), (a3, .inl (τ 0, 24, .inl fp)), (n0, .inr (2, [.int (nI N), .int ar, .ref n1])), (n1, .inl (τ 0, 576, .inl len))] := hD
    have hl : lv_has ls 6 [(0, .ref a0), (1, .int (nI u)), (2, .ref n0), (3, .int imp), (4, .int (nI N))] := hl
    refine lv_iload hx hb dL_followArcs_5 (lv_at hl 4 rfl) ?_
    refine lv_aload_n hx hb dL_followArcs_7 rfl (lv_at hl 2 rfl) ?_
    refine va_get (D := D) (ci := 2) (v := .int (nI N)) (C := RN) (T := TN) (N := 3) hx hb hts iN hown hK hP 4 rfl rfl 0 (by decide) (hts _ w_28) (fun _ h9 => h9) rfl dL_followArcs_8 ?_
    refine lv_icmp_ge (tgt := 100) hx hb dL_followArcs_11 (by decide) (fun c_11 => ?_) (fun c_11 => absurd (nI_le (Nat.le_refl _) (by omega)) c_11)
    exact kx H locs ls (by (try rw [hst]); exact hP) (by (try rw [hst]); exact hD) hS (by (try rw [hst]); exact lv_sub hl [0, 3] rfl)
  | succ n ih =>
    intro k hk H locs ls hP hD hS hl
    have hkN : k < N := by omega
    have ih := ih (k + 1) (by omega)
    rw [kItr_s] at ih
    revert hP hD hl ih
    generalize hst : (kItr (kFol len u) k (gd, gh, 0)) = st
    intro hP hD hl ih
    obtain ⟨fd, fh, imp⟩ := st
    have hP : va_P D vwCl [(a0, .inr (1, [.ref a1, .ref a2, .ref a3, .int ti])), (a1, .inl (τ 0, 24, .inl fd)), (a2, .inl (τ 0, 24, .inl fh)), (a3, .inl (τ 0, 24, .inl fp)), (n0, .inr (2, [.int (nI N), .int ar, .ref n1])), (n1, .inl (τ 0, 576, .inl len))] H := hP
    have hD : va_D A [(a0, .inr (1, [.ref a1, .ref a2, .ref a3, .int ti])), (a1, .inl (τ 0, 24, .inl fd)), (a2, .inl (τ 0, 24, .inl fh)), (a3, .inl (τ 0, 24, .inl fp)), (n0, .inr (2, [.int (nI N), .int ar, .ref n1])), (n1, .inl (τ 0, 576, .inl len))] := hD
    have hl : lv_has ls 6 [(0, .ref a0), (1, .int (nI u)), (2, .ref n0), (3, .int imp), (4, .int (nI k))] := hl
    refine lv_iload hx hb dL_followArcs_5 (lv_at hl 4 rfl) ?_
    refine lv_aload_n hx hb dL_followArcs_7 rfl (lv_at hl 2 rfl) ?_
    refine va_get (D := D) (ci := 2) (v := .int (nI N)) (C := RN) (T := TN) (N := 3) hx hb hts iN hown hK hP 4 rfl rfl 0 (by decide) (hts _ w_28) (fun _ h9 => h9) rfl dL_followArcs_8 ?_
    refine lv_icmp_ge (tgt := 100) hx hb dL_followArcs_11 (by decide) (fun c_11 => absurd c_11 (nI_ge hkN (by omega))) (fun c_11 => ?_)
    refine lv_aload_n hx hb dL_followArcs_14 rfl (lv_at hl 2 rfl) ?_
    refine lv_iload_n hx hb dL_followArcs_15 rfl (lv_at hl 1 rfl) ?_
    refine lv_iload hx hb dL_followArcs_16 (lv_at hl 4 rfl) ?_
    refine kc_Vi (As := [.int (nI u), .int (nI k)]) (rest := []) (wr := [(a0, .inr (1, [.ref a1, .ref a2, .ref a3, .int ti])), (a1, .inl (τ 0, 24, .inl fd)), (a2, .inl (τ 0, 24, .inl fh)), (a3, .inl (τ 0, 24, .inl fp))]) (W1 := [(a0, .inr (1, [.ref a1, .ref a2, .ref a3, .int ti])), (a1, .inl (τ 0, 24, .inl fd)), (a2, .inl (τ 0, 24, .inl fh)), (a3, .inl (τ 0, 24, .inl fp)), (n0, .inr (2, [.int (nI N), .int ar, .ref n1])), (n1, .inl (τ 0, 576, .inl len))]) ⟨hx, hb, hml, hown, hts⟩ (cn_len l D τ n0 n1 N u k ar len (by first | assumption | omega) (by first | assumption | omega)) (kcwV hts qN_lengthOf w_180 rfl rfl ⟨Nat.le_of_ble_eq_true rfl, Nat.le_of_ble_eq_true rfl⟩) hK hP hD hS hA [4, 5] [0, 1, 2, 3] [0, 1, 2, 3, 4, 5] rfl rfl (by decide) (by decide) (by decide) rfl rfl rfl (by decide) hl.1 rfl rfl (Nat.le_of_ble_eq_true rfl) ⟨Nat.zero_le _, Nat.zero_le _⟩ dL_followArcs_18 (fun H locs hP hD hS => ?_)
    refine lv_istore (lv' := [(5, .int (len (u * 24 + k))), (0, .ref a0), (1, .int (nI u)), (2, .ref n0), (3, .int imp), (4, .int (nI k))]) hx hb dL_followArcs_21 hl (by decide) rfl (fun ls hl => ?_)
    refine lv_iload hx hb dL_followArcs_23 (lv_at hl 0 rfl) ?_
    refine lv_ldc (v := (-1000000)) hx hb hown (hts _ w_78) dL_followArcs_25 ?_
    refine lv_icmp_eq (tgt := 94) hx hb dL_followArcs_27 (by decide) (fun c_27 => ?_) (fun c_27 => ?_)
    · skip
      refine lv_iinc (v := nI (k + 1)) (lv' := [(4, .int (nI (k + 1))), (5, .int (len (u * 24 + k))), (0, .ref a0), (1, .int (nI u)), (2, .ref n0), (3, .int imp)]) hx hb dL_followArcs_94 hl (k := 5) rfl (nI_1 _) (by decide) rfl (fun ls hl => ?_)
      refine lv_goto (tgt := 5) hx hb dL_followArcs_97 (by decide) ?_
      have e_ : (kFol len u) k (fd, fh, imp) = (fd, fh, imp) := by unfold kFol; exact kIf_t c_27
      (try rw [e_] at ih)
      exact ih H locs ls hP hD hS (lv_sub hl [2, 3, 4, 5, 0] rfl)
    · skip
      refine lv_aload_n hx hb dL_followArcs_30 rfl (lv_at hl 1 rfl) ?_
      refine lv_iload hx hb dL_followArcs_31 (lv_at hl 5 rfl) ?_
      refine lv_aload_n hx hb dL_followArcs_33 rfl (lv_at hl 1 rfl) ?_
      refine va_get (D := D) (ci := 1) (v := .ref a1) (C := RL) (T := TL) (N := 4) hx hb hts iL hown hK hP 0 rfl rfl 0 (by decide) (hts _ w_80) (fun _ h9 => h9) rfl dL_followArcs_34 ?_
      refine lv_iload_n hx hb dL_followArcs_37 rfl (lv_at hl 2 rfl) ?_
      refine ka_iald (k := u) hx hb hK hP 1 0 rfl rfl (by omega) (by omega) rfl dL_followArcs_38 ?_
      refine lv_iload hx hb dL_followArcs_39 (lv_at hl 0 rfl) ?_
      refine lv_iadd hx hb dL_followArcs_41 ?_
      refine lv_aload_n hx hb dL_followArcs_42 rfl (lv_at hl 1 rfl) ?_
      refine va_get (D := D) (ci := 1) (v := .ref a2) (C := RL) (T := TL) (N := 4) hx hb hts iL hown hK hP 0 rfl rfl 1 (by decide) (hts _ w_82) (fun _ h9 => h9) rfl dL_followArcs_43 ?_
      refine lv_iload_n hx hb dL_followArcs_46 rfl (lv_at hl 2 rfl) ?_
      refine ka_iald (k := u) hx hb hK hP 2 0 rfl rfl (by omega) (by omega) rfl dL_followArcs_47 ?_
      refine lv_iconst (v := 1) hx hb dL_followArcs_48 (by decide) ?_
      refine lv_iadd hx hb dL_followArcs_49 ?_
      refine kc_Vi (As := [.int (nI k), .int ((fd u) + (len (u * 24 + k))), .int ((fh u) + 1)]) (rest := []) (wr := [(n0, .inr (2, [.int (nI N), .int ar, .ref n1])), (n1, .inl (τ 0, 576, .inl len))]) (W1 := [(a0, .inr (1, [.ref a1, .ref a2, .ref a3, .int ti])), (a1, .inl (τ 0, 24, .inl fd)), (a2, .inl (τ 0, 24, .inl fh)), (a3, .inl (τ 0, 24, .inl fp)), (n0, .inr (2, [.int (nI N), .int ar, .ref n1])), (n1, .inl (τ 0, 576, .inl len))]) ⟨hx, hb, hml, hown, hts⟩ (cl_better l D τ a0 a1 a2 a3 k fd fh fp ti ((fd u) + (len (u * 24 + k))) ((fh u) + 1) (by first | assumption | omega)) (kcwV hts qL_isBetter w_184 rfl rfl ⟨Nat.le_of_ble_eq_true rfl, Nat.le_of_ble_eq_true rfl⟩) hK hP hD hS hA [0, 1, 2, 3] [4, 5] [2, 3, 4, 5, 0, 1] rfl rfl (by decide) (by decide) (by decide) rfl rfl rfl (by decide) hl.1 rfl rfl (Nat.le_of_ble_eq_true rfl) ⟨Nat.zero_le _, Nat.zero_le _⟩ dL_followArcs_50 (fun H locs hP hD hS => ?_)
      refine lv_if_eq (tgt := 94) hx hb dL_followArcs_53 (by decide) (fun c_53 => ?_) (fun c_53 => ?_)
      · skip
        have c_53 := kB_0.mp c_53
        refine lv_iinc (v := nI (k + 1)) (lv' := [(4, .int (nI (k + 1))), (5, .int (len (u * 24 + k))), (0, .ref a0), (1, .int (nI u)), (2, .ref n0), (3, .int imp)]) hx hb dL_followArcs_94 hl (k := 5) rfl (nI_1 _) (by decide) rfl (fun ls hl => ?_)
        refine lv_goto (tgt := 5) hx hb dL_followArcs_97 (by decide) ?_
        have e_ : (kFol len u) k (fd, fh, imp) = (fd, fh, imp) := by unfold kFol; rw [kIf_f c_27]; exact kIf_f c_53
        (try rw [e_] at ih)
        exact ih H locs ls hP hD hS (lv_sub hl [2, 3, 4, 5, 0] rfl)
      · skip
        have c_53 := kB_1.mp c_53
        refine lv_aload_n hx hb dL_followArcs_56 rfl (lv_at hl 1 rfl) ?_
        refine va_get (D := D) (ci := 1) (v := .ref a1) (C := RL) (T := TL) (N := 4) hx hb hts iL hown hK hP 0 rfl rfl 0 (by decide) (hts _ w_80) (fun _ h9 => h9) rfl dL_followArcs_57 ?_
        refine lv_iload hx hb dL_followArcs_60 (lv_at hl 5 rfl) ?_
        refine lv_aload_n hx hb dL_followArcs_62 rfl (lv_at hl 1 rfl) ?_
        refine va_get (D := D) (ci := 1) (v := .ref a1) (C := RL) (T := TL) (N := 4) hx hb hts iL hown hK hP 0 rfl rfl 0 (by decide) (hts _ w_80) (fun _ h9 => h9) rfl dL_followArcs_63 ?_
        refine lv_iload_n hx hb dL_followArcs_66 rfl (lv_at hl 2 rfl) ?_
        refine ka_iald (k := u) hx hb hK hP 1 0 rfl rfl (by omega) (by omega) rfl dL_followArcs_67 ?_
        refine lv_iload hx hb dL_followArcs_68 (lv_at hl 0 rfl) ?_
        refine lv_iadd hx hb dL_followArcs_70 ?_
        refine ka_iast (k := k) hx hb hK hP hD hS 1 0 rfl rfl (by omega) (by omega) rfl dL_followArcs_71 (fun H locs hP hD hS => ?_)
        have hP : va_P D vwCl [(a0, .inr (1, [.ref a1, .ref a2, .ref a3, .int ti])), (a1, .inl (τ 0, 24, .inl (upd fd k ((fd u) + (len (u * 24 + k)))))), (a2, .inl (τ 0, 24, .inl fh)), (a3, .inl (τ 0, 24, .inl fp)), (n0, .inr (2, [.int (nI N), .int ar, .ref n1])), (n1, .inl (τ 0, 576, .inl len))] H := hP
        have hD : va_D A [(a0, .inr (1, [.ref a1, .ref a2, .ref a3, .int ti])), (a1, .inl (τ 0, 24, .inl (upd fd k ((fd u) + (len (u * 24 + k)))))), (a2, .inl (τ 0, 24, .inl fh)), (a3, .inl (τ 0, 24, .inl fp)), (n0, .inr (2, [.int (nI N), .int ar, .ref n1])), (n1, .inl (τ 0, 576, .inl len))] := hD
        refine lv_aload_n hx hb dL_followArcs_72 rfl (lv_at hl 1 rfl) ?_
        refine va_get (D := D) (ci := 1) (v := .ref a2) (C := RL) (T := TL) (N := 4) hx hb hts iL hown hK hP 0 rfl rfl 1 (by decide) (hts _ w_82) (fun _ h9 => h9) rfl dL_followArcs_73 ?_
        refine lv_iload hx hb dL_followArcs_76 (lv_at hl 5 rfl) ?_
        refine lv_aload_n hx hb dL_followArcs_78 rfl (lv_at hl 1 rfl) ?_
        refine va_get (D := D) (ci := 1) (v := .ref a2) (C := RL) (T := TL) (N := 4) hx hb hts iL hown hK hP 0 rfl rfl 1 (by decide) (hts _ w_82) (fun _ h9 => h9) rfl dL_followArcs_79 ?_
        refine lv_iload_n hx hb dL_followArcs_82 rfl (lv_at hl 2 rfl) ?_
        refine ka_iald (k := u) hx hb hK hP 2 0 rfl rfl (by omega) (by omega) rfl dL_followArcs_83 ?_
        refine lv_iconst (v := 1) hx hb dL_followArcs_84 (by decide) ?_
        refine lv_iadd hx hb dL_followArcs_85 ?_
        refine ka_iast (k := k) hx hb hK hP hD hS 2 0 rfl rfl (by omega) (by omega) rfl dL_followArcs_86 (fun H locs hP hD hS => ?_)
        have hP : va_P D vwCl [(a0, .inr (1, [.ref a1, .ref a2, .ref a3, .int ti])), (a1, .inl (τ 0, 24, .inl (upd fd k ((fd u) + (len (u * 24 + k)))))), (a2, .inl (τ 0, 24, .inl (upd fh k ((fh u) + 1)))), (a3, .inl (τ 0, 24, .inl fp)), (n0, .inr (2, [.int (nI N), .int ar, .ref n1])), (n1, .inl (τ 0, 576, .inl len))] H := hP
        have hD : va_D A [(a0, .inr (1, [.ref a1, .ref a2, .ref a3, .int ti])), (a1, .inl (τ 0, 24, .inl (upd fd k ((fd u) + (len (u * 24 + k)))))), (a2, .inl (τ 0, 24, .inl (upd fh k ((fh u) + 1)))), (a3, .inl (τ 0, 24, .inl fp)), (n0, .inr (2, [.int (nI N), .int ar, .ref n1])), (n1, .inl (τ 0, 576, .inl len))] := hD
        refine lv_iload_n hx hb dL_followArcs_87 rfl (lv_at hl 4 rfl) ?_
        refine lv_iconst (v := 1) hx hb dL_followArcs_88 (by decide) ?_
        refine lv_iload hx hb dL_followArcs_89 (lv_at hl 5 rfl) ?_
        refine lv_ishl hx hb dL_followArcs_91 ?_
        refine lv_ior hx hb dL_followArcs_92 ?_
        refine lv_istore_n (lv' := [(3, .int (imp ||| (1 <<< ((nI k) &&& 31)))), (5, .int (len (u * 24 + k))), (0, .ref a0), (1, .int (nI u)), (2, .ref n0), (4, .int (nI k))]) hx hb dL_followArcs_93 rfl hl (by decide) rfl (fun ls hl => ?_)
        refine lv_iinc (v := nI (k + 1)) (lv' := [(4, .int (nI (k + 1))), (3, .int (imp ||| (1 <<< ((nI k) &&& 31)))), (5, .int (len (u * 24 + k))), (0, .ref a0), (1, .int (nI u)), (2, .ref n0)]) hx hb dL_followArcs_94 hl (k := 5) rfl (nI_1 _) (by decide) rfl (fun ls hl => ?_)
        refine lv_goto (tgt := 5) hx hb dL_followArcs_97 (by decide) ?_
        have e_ : (kFol len u) k (fd, fh, imp) = (upd fd k ((fd u) + (len (u * 24 + k))), upd fh k ((fh u) + 1), imp ||| (1 <<< ((nI k) &&& 31))) := by unfold kFol; rw [kIf_f c_27]; exact kIf_t c_53
        (try rw [e_] at ih)
        exact ih H locs ls hP hD hS (lv_sub hl [3, 4, 5, 1, 0] rfl)
set_option maxHeartbeats 4000000 in
set_option maxRecDepth 100000 in
theorem cl_follow (l : Launch) (D : va_G) (τ : Nat → ClassId) (a0 : Nat) (a1 : Nat) (a2 : Nat) (a3 : Nat) (n0 : Nat) (n1 : Nat) (N : Nat) (ar : Int32) (len : Nat → Int32) (u : Nat) (fd : Nat → Int32) (fh : Nat → Int32) (fp : Nat → Int32) (ti : Int32) (hu : u < 24) (hN : N ≤ 24) : kMi l D τ yL_followArcs (kWs yL_followArcs cL_followArcs 6 (some .int)) { frames := 1, cells := 0, slots := 0, locals := 23 } [.ref a0, .int (nI u), .ref n0] [(a0, .inr (1, [.ref a1, .ref a2, .ref a3, .int ti])), (a1, .inl (τ 0, 24, .inl fd)), (a2, .inl (τ 0, 24, .inl fh)), (a3, .inl (τ 0, 24, .inl fp)), (n0, .inr (2, [.int (nI N), .int ar, .ref n1])), (n1, .inl (τ 0, 576, .inl len))] ((kFolA N len u fd fh).2.2) [(a0, .inr (1, [.ref a1, .ref a2, .ref a3, .int ti])), (a1, .inl (τ 0, 24, .inl ((kFolA N len u fd fh).1))), (a2, .inl (τ 0, 24, .inl ((kFolA N len u fd fh).2.1))), (a3, .inl (τ 0, 24, .inl fp)), (n0, .inr (2, [.int (nI N), .int ar, .ref n1])), (n1, .inl (τ 0, 576, .inl len))] := by
  intro sz
  refine Met.ofW (cc := cL_followArcs) (maxL := 6) (ret := (some .int)) (by decide) rfl ?_
  intro p e s m args below meth c s₁ B hml hv
  obtain ⟨rfl, hsz, hP, hK, hD0⟩ := hv
  have hx := B.exec
  have hb := B.bytes
  have hr := B.returns
  have hts := fun w (hw : w ∈ kTbl) => atoms_spec (ws := (kWs yL_followArcs cL_followArcs 6 (some .int))) B.pre w (List.mem_cons_of_mem _ hw)
  have hown : s.vm.findClass RL = some m.cls := findClass_of_methodNamed B.named
  have hlocks := B.notSynchronized
  subst hsz
  have hD := hD0.self (sz := s.heap.size)
  generalize hAe : va_A [(a0, .inr (1, [.ref a1, .ref a2, .ref a3, .int ti])), (a1, .inl (τ 0, 24, .inl fd)), (a2, .inl (τ 0, 24, .inl fh)), (a3, .inl (τ 0, 24, .inl fp)), (n0, .inr (2, [.int (nI N), .int ar, .ref n1])), (n1, .inl (τ 0, 576, .inl len))] s.heap.size = A at hD ⊢
  have hA : ∀ q : Nat, s.heap.size ≤ q → A q := fun q h => by rw [← hAe]; exact Or.inr h
  have hS : va_S A s.heap s.heap [] := va_S.rf
  have hP : va_P D vwCl [(a0, .inr (1, [.ref a1, .ref a2, .ref a3, .int ti])), (a1, .inl (τ 0, 24, .inl fd)), (a2, .inl (τ 0, 24, .inl fh)), (a3, .inl (τ 0, 24, .inl fp)), (n0, .inr (2, [.int (nI N), .int ar, .ref n1])), (n1, .inl (τ 0, 576, .inl len))] s.heap := hP
  have hl := lv_entry ([.ref a0, .int (nI u), .ref n0]) (n := 6) (Nat.le_of_ble_eq_true rfl)
  rw [lg_entry_eq]
  generalize (lg_sl ([.ref a0, .int (nI u), .ref n0]) ++ List.replicate (6 - (lg_sl ([.ref a0, .int (nI u), .ref n0])).length) Slot.unset).toArray = ls at hl ⊢
  have hl : lv_has ls 6 [(0, .ref a0), (1, .int (nI u)), (2, .ref n0)] := hl
  skip
  refine lv_iconst (v := 0) hx hb dL_followArcs_0 (by decide) ?_
  refine lv_istore_n (lv' := [(3, .int 0), (0, .ref a0), (1, .int (nI u)), (2, .ref n0)]) hx hb dL_followArcs_1 rfl hl (by decide) rfl (fun ls hl => ?_)
  refine lv_iconst (v := 0) hx hb dL_followArcs_2 (by decide) ?_
  refine lv_istore (lv' := [(4, .int 0), (3, .int 0), (0, .ref a0), (1, .int (nI u)), (2, .ref n0)]) hx hb dL_followArcs_3 hl (by decide) rfl (fun ls hl => ?_)
  refine ll_follow hx hb hml hown hts hK hA a0 a1 a2 a3 n0 n1 N ar len u fd fh fp ti (by first | assumption | omega) (by first | assumption | omega) (fun H locs ls hP hD hS hl => ?_) N 0 (by omega) _ _ ls hP hD hS (lv_sub hl [2, 3, 4, 1, 0] rfl)
  refine lv_iload_n hx hb dL_followArcs_100 rfl (lv_at hl 1 rfl) ?_
  exact k_iret hx hb hr hlocks hK hS rfl hP hD dL_followArcs_101
set_option maxHeartbeats 4000000 in
set_option maxRecDepth 100000 in
theorem ll_tight {p : Program} {l : Launch} {e : Env} {s : State} {m : MethodId} {args : Array Value} {below : List Frame} {meth : Method} {c : Code} {Q : State → Prop} {D : va_G} {τ : Nat → ClassId} {A : Nat → Prop} (hx : p.tables.exec = Jvm.exec) (hb : c.code = cL_findTightArcs) (hml : c.maxLocals = 5) (hown : s.vm.findClass RL = some m.cls) (hts : ∀ w ∈ kTbl, w.before args s = true) (hK : va_K D vwCl (kTys τ) s) (hA : ∀ q : Nat, s.heap.size ≤ q → A q) (a0 : Nat) (a1 : Nat) (a2 : Nat) (a3 : Nat) (n0 : Nat) (n1 : Nat) (N : Nat) (ar : Int32) (len : Nat → Int32) (u : Nat) (fd : Nat → Int32) (fh : Nat → Int32) (gp : Nat → Int32) (gt : Int32) (hu : u < 24) (hN : N ≤ 24)
    (kx : ∀ (H : Heap) (locs : List Loc) (ls : Array Slot), va_P D vwCl [(a0, .inr (1, [.ref a1, .ref a2, .ref a3, .int ((kItr (kTg len fd fh u) N (gp, gt)).2)])), (a1, .inl (τ 0, 24, .inl fd)), (a2, .inl (τ 0, 24, .inl fh)), (a3, .inl (τ 0, 24, .inl ((kItr (kTg len fd fh u) N (gp, gt)).1))), (n0, .inr (2, [.int (nI N), .int ar, .ref n1])), (n1, .inl (τ 0, 576, .inl len))] H → va_D A [(a0, .inr (1, [.ref a1, .ref a2, .ref a3, .int ((kItr (kTg len fd fh u) N (gp, gt)).2)])), (a1, .inl (τ 0, 24, .inl fd)), (a2, .inl (τ 0, 24, .inl fh)), (a3, .inl (τ 0, 24, .inl ((kItr (kTg len fd fh u) N (gp, gt)).1))), (n0, .inr (2, [.int (nI N), .int ar, .ref n1])), (n1, .inl (τ 0, 576, .inl len))] → va_S A s.heap H locs → lv_has ls 5 [(0, .ref a0)] → W p l e (headSpec (kWs yL_findTightArcs cL_findTightArcs 5 none) { frames := 1, cells := 0, slots := 0, locals := 22 }).room s m args below meth c H locs 0 0 Q (F0 m 94 ls [])) :
    ∀ (n k : Nat), k + n = N → ∀ (H : Heap) (locs : List Loc) (ls : Array Slot), va_P D vwCl [(a0, .inr (1, [.ref a1, .ref a2, .ref a3, .int ((kItr (kTg len fd fh u) k (gp, gt)).2)])), (a1, .inl (τ 0, 24, .inl fd)), (a2, .inl (τ 0, 24, .inl fh)), (a3, .inl (τ 0, 24, .inl ((kItr (kTg len fd fh u) k (gp, gt)).1))), (n0, .inr (2, [.int (nI N), .int ar, .ref n1])), (n1, .inl (τ 0, 576, .inl len))] H → va_D A [(a0, .inr (1, [.ref a1, .ref a2, .ref a3, .int ((kItr (kTg len fd fh u) k (gp, gt)).2)])), (a1, .inl (τ 0, 24, .inl fd)), (a2, .inl (τ 0, 24, .inl fh)), (a3, .inl (τ 0, 24, .inl ((kItr (kTg len fd fh u) k (gp, gt)).1))), (n0, .inr (2, [.int (nI N), .int ar, .ref n1])), (n1, .inl (τ 0, 576, .inl len))] → va_S A s.heap H locs → lv_has ls 5 [(0, .ref a0), (1, .int (nI u)), (2, .ref n0), (3, .int (nI k))] → W p l e (headSpec (kWs yL_findTightArcs cL_findTightArcs 5 none) { frames := 1, cells := 0, slots := 0, locals := 22 }).room s m args below meth c H locs 0 0 Q (F0 m 2 ls []) := by
  intro n
  induction n with
  | zero =>
    intro k hk H locs ls hP hD hS hl
    have hkN : N = k := by omega
    subst hkN
    revert hP hD hl
    generalize hst : (kItr (kTg len fd fh u) N (gp, gt)) = st
    intro hP hD hl
    obtain ⟨fp, ti⟩ := st
    have hP : va_P D vwCl [(a0, .inr (1, [.ref a1, .ref a2, .ref a3, .int ti])), (a1, .inl (τ 0, 24, .inl fd)), (a2, .inl (τ 0, 24, .inl fh)), (a3, .inl (τ 0, 24, .inl fp)), (n0, .inr (2, [.int (nI N), .int ar, .ref n1])), (n1, .inl (τ 0, 576, .inl len))] H := hP
    have hD : va_D A [(a0, .inr (1, [.ref a1, .ref a2, .ref a3, .int ti])), (a1, .inl (τ 0, 24, .inl fd)), (a2, .inl (τ 0, 24, .inl fh)), (a3, .inl (τ 0, 24, .inl fp)), (n0, .inr (2, [.int (nI N), .int ar, .ref n1])), (n1, .inl (τ 0, 576, .inl len))] := hD
    have hl : lv_has ls 5 [(0, .ref a0), (1, .int (nI u)), (2, .ref n0), (3, .int (nI N))] := hl
    refine lv_iload_n hx hb dL_findTightArcs_2 rfl (lv_at hl 3 rfl) ?_
    refine lv_aload_n hx hb dL_findTightArcs_3 rfl (lv_at hl 2 rfl) ?_
    refine va_get (D := D) (ci := 2) (v := .int (nI N)) (C := RN) (T := TN) (N := 3) hx hb hts iN hown hK hP 4 rfl rfl 0 (by decide) (hts _ w_28) (fun _ h9 => h9) rfl dL_findTightArcs_4 ?_
    refine lv_icmp_ge (tgt := 94) hx hb dL_findTightArcs_7 (by decide) (fun c_7 => ?_) (fun c_7 => absurd (nI_le (Nat.le_refl _) (by omega)) c_7)
    exact kx H locs ls (by (try rw [hst]); exact hP) (by (try rw [hst]); exact hD) hS (by (try rw [hst]); exact lv_sub hl [0] rfl)
  | succ n ih =>
    intro k hk H locs ls hP hD hS hl
    have hkN : k < N := by omega
    have ih := ih (k + 1) (by omega)
    rw [kItr_s] at ih
    revert hP hD hl ih
    generalize hst : (kItr (kTg len fd fh u) k (gp, gt)) = st
    intro hP hD hl ih
    obtain ⟨fp, ti⟩ := st
    have hP : va_P D vwCl [(a0, .inr (1, [.ref a1, .ref a2, .ref a3, .int ti])), (a1, .inl (τ 0, 24, .inl fd)), (a2, .inl (τ 0, 24, .inl fh)), (a3, .inl (τ 0, 24, .inl fp)), (n0, .inr (2, [.int (nI N), .int ar, .ref n1])), (n1, .inl (τ 0, 576, .inl len))] H := hP
    have hD : va_D A [(a0, .inr (1, [.ref a1, .ref a2, .ref a3, .int ti])), (a1, .inl (τ 0, 24, .inl fd)), (a2, .inl (τ 0, 24, .inl fh)), (a3, .inl (τ 0, 24, .inl fp)), (n0, .inr (2, [.int (nI N), .int ar, .ref n1])), (n1, .inl (τ 0, 576, .inl len))] := hD
    have hl : lv_has ls 5 [(0, .ref a0), (1, .int (nI u)), (2, .ref n0), (3, .int (nI k))] := hl
    refine lv_iload_n hx hb dL_findTightArcs_2 rfl (lv_at hl 3 rfl) ?_
    refine lv_aload_n hx hb dL_findTightArcs_3 rfl (lv_at hl 2 rfl) ?_
    refine va_get (D := D) (ci := 2) (v := .int (nI N)) (C := RN) (T := TN) (N := 3) hx hb hts iN hown hK hP 4 rfl rfl 0 (by decide) (hts _ w_28) (fun _ h9 => h9) rfl dL_findTightArcs_4 ?_
    refine lv_icmp_ge (tgt := 94) hx hb dL_findTightArcs_7 (by decide) (fun c_7 => absurd c_7 (nI_ge hkN (by omega))) (fun c_7 => ?_)
    refine lv_aload_n hx hb dL_findTightArcs_10 rfl (lv_at hl 2 rfl) ?_
    refine lv_iload_n hx hb dL_findTightArcs_11 rfl (lv_at hl 1 rfl) ?_
    refine lv_iload_n hx hb dL_findTightArcs_12 rfl (lv_at hl 3 rfl) ?_
    refine kc_Vi (As := [.int (nI u), .int (nI k)]) (rest := []) (wr := [(a0, .inr (1, [.ref a1, .ref a2, .ref a3, .int ti])), (a1, .inl (τ 0, 24, .inl fd)), (a2, .inl (τ 0, 24, .inl fh)), (a3, .inl (τ 0, 24, .inl fp))]) (W1 := [(a0, .inr (1, [.ref a1, .ref a2, .ref a3, .int ti])), (a1, .inl (τ 0, 24, .inl fd)), (a2, .inl (τ 0, 24, .inl fh)), (a3, .inl (τ 0, 24, .inl fp)), (n0, .inr (2, [.int (nI N), .int ar, .ref n1])), (n1, .inl (τ 0, 576, .inl len))]) ⟨hx, hb, hml, hown, hts⟩ (cn_len l D τ n0 n1 N u k ar len (by first | assumption | omega) (by first | assumption | omega)) (kcwV hts qN_lengthOf w_180 rfl rfl ⟨Nat.le_of_ble_eq_true rfl, Nat.le_of_ble_eq_true rfl⟩) hK hP hD hS hA [4, 5] [0, 1, 2, 3] [0, 1, 2, 3, 4, 5] rfl rfl (by decide) (by decide) (by decide) rfl rfl rfl (by decide) hl.1 rfl rfl (Nat.le_of_ble_eq_true rfl) ⟨Nat.zero_le _, Nat.zero_le _⟩ dL_findTightArcs_13 (fun H locs hP hD hS => ?_)
    refine lv_istore (lv' := [(4, .int (len (u * 24 + k))), (0, .ref a0), (1, .int (nI u)), (2, .ref n0), (3, .int (nI k))]) hx hb dL_findTightArcs_16 hl (by decide) rfl (fun ls hl => ?_)
    refine lv_iload hx hb dL_findTightArcs_18 (lv_at hl 0 rfl) ?_
    refine lv_ldc (v := (-1000000)) hx hb hown (hts _ w_78) dL_findTightArcs_20 ?_
    refine lv_icmp_eq (tgt := 88) hx hb dL_findTightArcs_22 (by decide) (fun c_22 => ?_) (fun c_22 => ?_)
    · skip
      refine lv_iinc (v := nI (k + 1)) (lv' := [(3, .int (nI (k + 1))), (4, .int (len (u * 24 + k))), (0, .ref a0), (1, .int (nI u)), (2, .ref n0)]) hx hb dL_findTightArcs_88 hl (k := 4) rfl (nI_1 _) (by decide) rfl (fun ls hl => ?_)
      refine lv_goto (tgt := 2) hx hb dL_findTightArcs_91 (by decide) ?_
      have e_ : (kTg len fd fh u) k (fp, ti) = (fp, ti) := by unfold kTg; exact kIf_t c_22
      (try rw [e_] at ih)
      exact ih H locs ls hP hD hS (lv_sub hl [2, 3, 4, 0] rfl)
    · skip
      refine lv_aload_n hx hb dL_findTightArcs_25 rfl (lv_at hl 1 rfl) ?_
      refine va_get (D := D) (ci := 1) (v := .ref a1) (C := RL) (T := TL) (N := 4) hx hb hts iL hown hK hP 0 rfl rfl 0 (by decide) (hts _ w_80) (fun _ h9 => h9) rfl dL_findTightArcs_26 ?_
      refine lv_iload_n hx hb dL_findTightArcs_29 rfl (lv_at hl 2 rfl) ?_
      refine ka_iald (k := u) hx hb hK hP 1 0 rfl rfl (by omega) (by omega) rfl dL_findTightArcs_30 ?_
      refine lv_iload hx hb dL_findTightArcs_31 (lv_at hl 0 rfl) ?_
      refine lv_iadd hx hb dL_findTightArcs_33 ?_
      refine lv_aload_n hx hb dL_findTightArcs_34 rfl (lv_at hl 1 rfl) ?_
      refine va_get (D := D) (ci := 1) (v := .ref a1) (C := RL) (T := TL) (N := 4) hx hb hts iL hown hK hP 0 rfl rfl 0 (by decide) (hts _ w_80) (fun _ h9 => h9) rfl dL_findTightArcs_35 ?_
      refine lv_iload_n hx hb dL_findTightArcs_38 rfl (lv_at hl 4 rfl) ?_
      refine ka_iald (k := k) hx hb hK hP 1 0 rfl rfl (by omega) (by omega) rfl dL_findTightArcs_39 ?_
      refine lv_icmp_ne (tgt := 88) hx hb dL_findTightArcs_40 (by decide) (fun c_40 => ?_) (fun c_40 => ?_)
      · skip
        refine lv_iinc (v := nI (k + 1)) (lv' := [(3, .int (nI (k + 1))), (4, .int (len (u * 24 + k))), (0, .ref a0), (1, .int (nI u)), (2, .ref n0)]) hx hb dL_findTightArcs_88 hl (k := 4) rfl (nI_1 _) (by decide) rfl (fun ls hl => ?_)
        refine lv_goto (tgt := 2) hx hb dL_findTightArcs_91 (by decide) ?_
        have e_ : (kTg len fd fh u) k (fp, ti) = (fp, ti) := by unfold kTg; rw [kIf_f c_22]; exact kIf_f c_40
        (try rw [e_] at ih)
        exact ih H locs ls hP hD hS (lv_sub hl [2, 3, 4, 0] rfl)
      · skip
        refine lv_aload_n hx hb dL_findTightArcs_43 rfl (lv_at hl 1 rfl) ?_
        refine lv_dup hx hb dL_findTightArcs_44 rfl ?_
        refine va_get (D := D) (ci := 1) (v := .int ti) (C := RL) (T := TL) (N := 4) hx hb hts iL hown hK hP 0 rfl rfl 3 (by decide) (hts _ w_86) (fun _ h9 => h9) rfl dL_findTightArcs_45 ?_
        refine lv_iconst (v := 1) hx hb dL_findTightArcs_48 (by decide) ?_
        refine lv_iadd hx hb dL_findTightArcs_49 ?_
        refine va_put (D := D) (ci := 1) (v := .int (ti + 1)) (ty := .int) (C := RL) (T := TL) (N := 4) hx hb hts iL tyL tyL_ok nmL hown hK hP hD hS 0 rfl rfl 3 (by decide) (hts _ w_86) (fun _ h9 => h9) rfl (by decide +kernel) rfl rfl (Nat.le_of_ble_eq_true rfl) dL_findTightArcs_50 (fun H locs hP hD hS => ?_)
        have hP : va_P D vwCl [(a0, .inr (1, [.ref a1, .ref a2, .ref a3, .int (ti + 1)])), (a1, .inl (τ 0, 24, .inl fd)), (a2, .inl (τ 0, 24, .inl fh)), (a3, .inl (τ 0, 24, .inl fp)), (n0, .inr (2, [.int (nI N), .int ar, .ref n1])), (n1, .inl (τ 0, 576, .inl len))] H := hP
        have hD : va_D A [(a0, .inr (1, [.ref a1, .ref a2, .ref a3, .int (ti + 1)])), (a1, .inl (τ 0, 24, .inl fd)), (a2, .inl (τ 0, 24, .inl fh)), (a3, .inl (τ 0, 24, .inl fp)), (n0, .inr (2, [.int (nI N), .int ar, .ref n1])), (n1, .inl (τ 0, 576, .inl len))] := hD
        refine lv_aload_n hx hb dL_findTightArcs_53 rfl (lv_at hl 1 rfl) ?_
        refine va_get (D := D) (ci := 1) (v := .ref a3) (C := RL) (T := TL) (N := 4) hx hb hts iL hown hK hP 0 rfl rfl 2 (by decide) (hts _ w_84) (fun _ h9 => h9) rfl dL_findTightArcs_54 ?_
        refine lv_iload_n hx hb dL_findTightArcs_57 rfl (lv_at hl 4 rfl) ?_
        refine ka_iald (k := k) hx hb hK hP 3 0 rfl rfl (by omega) (by omega) rfl dL_findTightArcs_58 ?_
        refine lv_ldc (v := (-1000000)) hx hb hown (hts _ w_78) dL_findTightArcs_59 ?_
        refine lv_icmp_ne (tgt := 88) hx hb dL_findTightArcs_61 (by decide) (fun c_61 => ?_) (fun c_61 => ?_)
        · skip
          refine lv_iinc (v := nI (k + 1)) (lv' := [(3, .int (nI (k + 1))), (4, .int (len (u * 24 + k))), (0, .ref a0), (1, .int (nI u)), (2, .ref n0)]) hx hb dL_findTightArcs_88 hl (k := 4) rfl (nI_1 _) (by decide) rfl (fun ls hl => ?_)
          refine lv_goto (tgt := 2) hx hb dL_findTightArcs_91 (by decide) ?_
          have e_ : (kTg len fd fh u) k (fp, ti) = (fp, ti + 1) := by unfold kTg; rw [kIf_f c_22]; rw [kIf_t c_40]; exact kIf_f (fun z => c_61 z.1)
          (try rw [e_] at ih)
          exact ih H locs ls hP hD hS (lv_sub hl [2, 3, 4, 0] rfl)
        · skip
          refine lv_aload_n hx hb dL_findTightArcs_64 rfl (lv_at hl 1 rfl) ?_
          refine va_get (D := D) (ci := 1) (v := .ref a2) (C := RL) (T := TL) (N := 4) hx hb hts iL hown hK hP 0 rfl rfl 1 (by decide) (hts _ w_82) (fun _ h9 => h9) rfl dL_findTightArcs_65 ?_
          refine lv_iload_n hx hb dL_findTightArcs_68 rfl (lv_at hl 2 rfl) ?_
          refine ka_iald (k := u) hx hb hK hP 2 0 rfl rfl (by omega) (by omega) rfl dL_findTightArcs_69 ?_
          refine lv_iconst (v := 1) hx hb dL_findTightArcs_70 (by decide) ?_
          refine lv_iadd hx hb dL_findTightArcs_71 ?_
          refine lv_aload_n hx hb dL_findTightArcs_72 rfl (lv_at hl 1 rfl) ?_
          refine va_get (D := D) (ci := 1) (v := .ref a2) (C := RL) (T := TL) (N := 4) hx hb hts iL hown hK hP 0 rfl rfl 1 (by decide) (hts _ w_82) (fun _ h9 => h9) rfl dL_findTightArcs_73 ?_
          refine lv_iload_n hx hb dL_findTightArcs_76 rfl (lv_at hl 4 rfl) ?_
          refine ka_iald (k := k) hx hb hK hP 2 0 rfl rfl (by omega) (by omega) rfl dL_findTightArcs_77 ?_
          refine lv_icmp_ne (tgt := 88) hx hb dL_findTightArcs_78 (by decide) (fun c_78 => ?_) (fun c_78 => ?_)
          · skip
            refine lv_iinc (v := nI (k + 1)) (lv' := [(3, .int (nI (k + 1))), (4, .int (len (u * 24 + k))), (0, .ref a0), (1, .int (nI u)), (2, .ref n0)]) hx hb dL_findTightArcs_88 hl (k := 4) rfl (nI_1 _) (by decide) rfl (fun ls hl => ?_)
            refine lv_goto (tgt := 2) hx hb dL_findTightArcs_91 (by decide) ?_
            have e_ : (kTg len fd fh u) k (fp, ti) = (fp, ti + 1) := by unfold kTg; rw [kIf_f c_22]; rw [kIf_t c_40]; exact kIf_f (fun z => c_78 z.2)
            (try rw [e_] at ih)
            exact ih H locs ls hP hD hS (lv_sub hl [2, 3, 4, 0] rfl)
          · skip
            refine lv_aload_n hx hb dL_findTightArcs_81 rfl (lv_at hl 1 rfl) ?_
            refine va_get (D := D) (ci := 1) (v := .ref a3) (C := RL) (T := TL) (N := 4) hx hb hts iL hown hK hP 0 rfl rfl 2 (by decide) (hts _ w_84) (fun _ h9 => h9) rfl dL_findTightArcs_82 ?_
            refine lv_iload_n hx hb dL_findTightArcs_85 rfl (lv_at hl 4 rfl) ?_
            refine lv_iload_n hx hb dL_findTightArcs_86 rfl (lv_at hl 2 rfl) ?_
            refine ka_iast (k := k) hx hb hK hP hD hS 3 0 rfl rfl (by omega) (by omega) rfl dL_findTightArcs_87 (fun H locs hP hD hS => ?_)
            have hP : va_P D vwCl [(a0, .inr (1, [.ref a1, .ref a2, .ref a3, .int (ti + 1)])), (a1, .inl (τ 0, 24, .inl fd)), (a2, .inl (τ 0, 24, .inl fh)), (a3, .inl (τ 0, 24, .inl (upd fp k (nI u)))), (n0, .inr (2, [.int (nI N), .int ar, .ref n1])), (n1, .inl (τ 0, 576, .inl len))] H := hP
            have hD : va_D A [(a0, .inr (1, [.ref a1, .ref a2, .ref a3, .int (ti + 1)])), (a1, .inl (τ 0, 24, .inl fd)), (a2, .inl (τ 0, 24, .inl fh)), (a3, .inl (τ 0, 24, .inl (upd fp k (nI u)))), (n0, .inr (2, [.int (nI N), .int ar, .ref n1])), (n1, .inl (τ 0, 576, .inl len))] := hD
            refine lv_iinc (v := nI (k + 1)) (lv' := [(3, .int (nI (k + 1))), (4, .int (len (u * 24 + k))), (0, .ref a0), (1, .int (nI u)), (2, .ref n0)]) hx hb dL_findTightArcs_88 hl (k := 4) rfl (nI_1 _) (by decide) rfl (fun ls hl => ?_)
            refine lv_goto (tgt := 2) hx hb dL_findTightArcs_91 (by decide) ?_
            have e_ : (kTg len fd fh u) k (fp, ti) = (upd fp k (nI u), ti + 1) := by unfold kTg; rw [kIf_f c_22]; rw [kIf_t c_40]; exact kIf_t ⟨c_61, c_78⟩
            (try rw [e_] at ih)
            exact ih H locs ls hP hD hS (lv_sub hl [2, 3, 4, 0] rfl)
set_option maxHeartbeats 4000000 in
set_option maxRecDepth 100000 in
theorem cl_tight (l : Launch) (D : va_G) (τ : Nat → ClassId) (a0 : Nat) (a1 : Nat) (a2 : Nat) (a3 : Nat) (n0 : Nat) (n1 : Nat) (N : Nat) (ar : Int32) (len : Nat → Int32) (u : Nat) (fd : Nat → Int32) (fh : Nat → Int32) (fp : Nat → Int32) (ti : Int32) (hu : u < 24) (hN : N ≤ 24) : kMv l D τ yL_findTightArcs (kWs yL_findTightArcs cL_findTightArcs 5 none) { frames := 1, cells := 0, slots := 0, locals := 22 } [.ref a0, .int (nI u), .ref n0] [(a0, .inr (1, [.ref a1, .ref a2, .ref a3, .int ti])), (a1, .inl (τ 0, 24, .inl fd)), (a2, .inl (τ 0, 24, .inl fh)), (a3, .inl (τ 0, 24, .inl fp)), (n0, .inr (2, [.int (nI N), .int ar, .ref n1])), (n1, .inl (τ 0, 576, .inl len))] [(a0, .inr (1, [.ref a1, .ref a2, .ref a3, .int ((kItr (kTg len fd fh u) N (fp, ti)).2)])), (a1, .inl (τ 0, 24, .inl fd)), (a2, .inl (τ 0, 24, .inl fh)), (a3, .inl (τ 0, 24, .inl ((kItr (kTg len fd fh u) N (fp, ti)).1))), (n0, .inr (2, [.int (nI N), .int ar, .ref n1])), (n1, .inl (τ 0, 576, .inl len))] := by
  intro sz
  refine Met.ofW (cc := cL_findTightArcs) (maxL := 5) (ret := none) (by decide) rfl ?_
  intro p e s m args below meth c s₁ B hml hv
  obtain ⟨rfl, hsz, hP, hK, hD0⟩ := hv
  have hx := B.exec
  have hb := B.bytes
  have hr := B.returns
  have hts := fun w (hw : w ∈ kTbl) => atoms_spec (ws := (kWs yL_findTightArcs cL_findTightArcs 5 none)) B.pre w (List.mem_cons_of_mem _ hw)
  have hown : s.vm.findClass RL = some m.cls := findClass_of_methodNamed B.named
  have hlocks := B.notSynchronized
  subst hsz
  have hD := hD0.self (sz := s.heap.size)
  generalize hAe : va_A [(a0, .inr (1, [.ref a1, .ref a2, .ref a3, .int ti])), (a1, .inl (τ 0, 24, .inl fd)), (a2, .inl (τ 0, 24, .inl fh)), (a3, .inl (τ 0, 24, .inl fp)), (n0, .inr (2, [.int (nI N), .int ar, .ref n1])), (n1, .inl (τ 0, 576, .inl len))] s.heap.size = A at hD ⊢
  have hA : ∀ q : Nat, s.heap.size ≤ q → A q := fun q h => by rw [← hAe]; exact Or.inr h
  have hS : va_S A s.heap s.heap [] := va_S.rf
  have hP : va_P D vwCl [(a0, .inr (1, [.ref a1, .ref a2, .ref a3, .int ti])), (a1, .inl (τ 0, 24, .inl fd)), (a2, .inl (τ 0, 24, .inl fh)), (a3, .inl (τ 0, 24, .inl fp)), (n0, .inr (2, [.int (nI N), .int ar, .ref n1])), (n1, .inl (τ 0, 576, .inl len))] s.heap := hP
  have hl := lv_entry ([.ref a0, .int (nI u), .ref n0]) (n := 5) (Nat.le_of_ble_eq_true rfl)
  rw [lg_entry_eq]
  generalize (lg_sl ([.ref a0, .int (nI u), .ref n0]) ++ List.replicate (5 - (lg_sl ([.ref a0, .int (nI u), .ref n0])).length) Slot.unset).toArray = ls at hl ⊢
  have hl : lv_has ls 5 [(0, .ref a0), (1, .int (nI u)), (2, .ref n0)] := hl
  skip
  refine lv_iconst (v := 0) hx hb dL_findTightArcs_0 (by decide) ?_
  refine lv_istore_n (lv' := [(3, .int 0), (0, .ref a0), (1, .int (nI u)), (2, .ref n0)]) hx hb dL_findTightArcs_1 rfl hl (by decide) rfl (fun ls hl => ?_)
  refine ll_tight hx hb hml hown hts hK hA a0 a1 a2 a3 n0 n1 N ar len u fd fh fp ti (by first | assumption | omega) (by first | assumption | omega) (fun H locs ls hP hD hS hl => ?_) N 0 (by omega) _ _ ls hP hD hS (lv_sub hl [1, 2, 3, 0] rfl)
  exact k_vret hx hb hr hlocks hK hS hP hD dL_findTightArcs_94
end
section
set_option maxHeartbeats 4000000 in
set_option maxRecDepth 100000 in
theorem la_fill {p : Program} {l : Launch} {e : Env} {s : State} {m : MethodId} {args : Array Value} {below : List Frame} {meth : Method} {c : Code} {Q : State → Prop} {D : va_G} {τ : Nat → ClassId} {A : Nat → Prop} (hx : p.tables.exec = Jvm.exec) (hb : c.code = cA_fill) (hml : c.maxLocals = 4) (hown : s.vm.findClass RA = some m.cls) (hts : ∀ w ∈ kTbl, w.before args s = true) (hK : va_K D vwCl (kTys τ) s) (hA : ∀ q : Nat, s.heap.size ≤ q → A q) (a : Nat) (nn : Nat) (x : Int32) (g : Nat → Int32) (hn : nn < 2 ^ 31)
    (kx : ∀ (H : Heap) (locs : List Loc) (ls : Array Slot), va_P D vwCl [(a, .inl (τ 0, nn, .inl (kItr (fun k f => upd f k x) nn (g))))] H → va_D A [(a, .inl (τ 0, nn, .inl (kItr (fun k f => upd f k x) nn (g))))] → va_S A s.heap H locs → lv_has ls 4 [(0, .ref a)] → W p l e (headSpec (kWs yA_fill cA_fill 4 none) { frames := 0, cells := 0, slots := 0, locals := 0 }).room s m args below meth c H locs 0 0 Q (F0 m 20 ls [])) :
    ∀ (n k : Nat), k + n = nn → ∀ (H : Heap) (locs : List Loc) (ls : Array Slot), va_P D vwCl [(a, .inl (τ 0, nn, .inl (kItr (fun k f => upd f k x) k (g))))] H → va_D A [(a, .inl (τ 0, nn, .inl (kItr (fun k f => upd f k x) k (g))))] → va_S A s.heap H locs → lv_has ls 4 [(0, .ref a), (1, .int x), (2, .int (nI k)), (3, .int (nI nn))] → W p l e (headSpec (kWs yA_fill cA_fill 4 none) { frames := 0, cells := 0, slots := 0, locals := 0 }).room s m args below meth c H locs 0 0 Q (F0 m 5 ls []) := by
  intro n
  induction n with
  | zero =>
    intro k hk H locs ls hP hD hS hl
    have hkN : nn = k := by omega
    subst hkN
    revert hP hD hl
    generalize hst : (kItr (fun k f => upd f k x) nn (g)) = f
    intro hP hD hl
    have hP : va_P D vwCl [(a, .inl (τ 0, nn, .inl f))] H := hP
    have hD : va_D A [(a, .inl (τ 0, nn, .inl f))] := hD
    have hl : lv_has ls 4 [(0, .ref a), (1, .int x), (2, .int (nI nn)), (3, .int (nI nn))] := hl
    refine lv_iload_n hx hb dA_fill_5 rfl (lv_at hl 2 rfl) ?_
    refine lv_iload_n hx hb dA_fill_6 rfl (lv_at hl 3 rfl) ?_
    refine lv_icmp_ge (tgt := 20) hx hb dA_fill_7 (by decide) (fun c_7 => ?_) (fun c_7 => absurd (nI_le (Nat.le_refl _) (by omega)) c_7)
    exact kx H locs ls (by (try rw [hst]); exact hP) (by (try rw [hst]); exact hD) hS (by (try rw [hst]); exact lv_sub hl [0] rfl)
  | succ n ih =>
    intro k hk H locs ls hP hD hS hl
    have hkN : k < nn := by omega
    have ih := ih (k + 1) (by omega)
    rw [kItr_s] at ih
    revert hP hD hl ih
    generalize hst : (kItr (fun k f => upd f k x) k (g)) = f
    intro hP hD hl ih
    have hP : va_P D vwCl [(a, .inl (τ 0, nn, .inl f))] H := hP
    have hD : va_D A [(a, .inl (τ 0, nn, .inl f))] := hD
    have hl : lv_has ls 4 [(0, .ref a), (1, .int x), (2, .int (nI k)), (3, .int (nI nn))] := hl
    refine lv_iload_n hx hb dA_fill_5 rfl (lv_at hl 2 rfl) ?_
    refine lv_iload_n hx hb dA_fill_6 rfl (lv_at hl 3 rfl) ?_
    refine lv_icmp_ge (tgt := 20) hx hb dA_fill_7 (by decide) (fun c_7 => absurd c_7 (nI_ge hkN (by omega))) (fun c_7 => ?_)
    refine lv_aload_n hx hb dA_fill_10 rfl (lv_at hl 0 rfl) ?_
    refine lv_iload_n hx hb dA_fill_11 rfl (lv_at hl 2 rfl) ?_
    refine lv_iload_n hx hb dA_fill_12 rfl (lv_at hl 1 rfl) ?_
    refine ka_iast (k := k) hx hb hK hP hD hS 0 0 rfl rfl (by omega) (by omega) rfl dA_fill_13 (fun H locs hP hD hS => ?_)
    have hP : va_P D vwCl [(a, .inl (τ 0, nn, .inl (upd f k x)))] H := hP
    have hD : va_D A [(a, .inl (τ 0, nn, .inl (upd f k x)))] := hD
    refine lv_iinc (v := nI (k + 1)) (lv' := [(2, .int (nI (k + 1))), (0, .ref a), (1, .int x), (3, .int (nI nn))]) hx hb dA_fill_14 hl (k := 2) rfl (nI_1 _) (by decide) rfl (fun ls hl => ?_)
    refine lv_goto (tgt := 5) hx hb dA_fill_17 (by decide) ?_
    have e_ : (fun k f => upd f k x) k (f) = (upd f k x) := by rfl
    (try rw [e_] at ih)
    exact ih H locs ls hP hD hS (lv_sub hl [1, 2, 0, 3] rfl)
set_option maxHeartbeats 4000000 in
set_option maxRecDepth 100000 in
theorem ca_fill (l : Launch) (D : va_G) (τ : Nat → ClassId) (a : Nat) (nn : Nat) (x : Int32) (g : Nat → Int32) (hn : nn < 2 ^ 31) : kMv l D τ yA_fill (kWs yA_fill cA_fill 4 none) { frames := 0, cells := 0, slots := 0, locals := 0 } [.ref a, .int x] [(a, .inl (τ 0, nn, .inl g))] [(a, .inl (τ 0, nn, .inl (fun _ => x)))] := by
  intro sz
  refine Met.ofW (cc := cA_fill) (maxL := 4) (ret := none) (by decide) rfl ?_
  intro p e s m args below meth c s₁ B hml hv
  obtain ⟨rfl, hsz, hP, hK, hD0⟩ := hv
  have hx := B.exec
  have hb := B.bytes
  have hr := B.returns
  have hts := fun w (hw : w ∈ kTbl) => atoms_spec (ws := (kWs yA_fill cA_fill 4 none)) B.pre w (List.mem_cons_of_mem _ hw)
  have hown : s.vm.findClass RA = some m.cls := findClass_of_methodNamed B.named
  have hlocks := B.notSynchronized
  subst hsz
  have hD := hD0.self (sz := s.heap.size)
  generalize hAe : va_A [(a, .inl (τ 0, nn, .inl g))] s.heap.size = A at hD ⊢
  have hA : ∀ q : Nat, s.heap.size ≤ q → A q := fun q h => by rw [← hAe]; exact Or.inr h
  have hS : va_S A s.heap s.heap [] := va_S.rf
  have hP : va_P D vwCl [(a, .inl (τ 0, nn, .inl g))] s.heap := hP
  have hl := lv_entry ([.ref a, .int x]) (n := 4) (Nat.le_of_ble_eq_true rfl)
  rw [lg_entry_eq]
  generalize (lg_sl ([.ref a, .int x]) ++ List.replicate (4 - (lg_sl ([.ref a, .int x])).length) Slot.unset).toArray = ls at hl ⊢
  have hl : lv_has ls 4 [(0, .ref a), (1, .int x)] := hl
  skip
  refine lv_iconst (v := 0) hx hb dA_fill_0 (by decide) ?_
  refine lv_istore_n (lv' := [(2, .int 0), (0, .ref a), (1, .int x)]) hx hb dA_fill_1 rfl hl (by decide) rfl (fun ls hl => ?_)
  refine lv_aload_n hx hb dA_fill_2 rfl (lv_at hl 1 rfl) ?_
  refine va_alen (v := nI nn) hx hb hK hP 0 0 rfl rfl rfl dA_fill_3 ?_
  refine lv_istore_n (lv' := [(3, .int (nI nn)), (2, .int 0), (0, .ref a), (1, .int x)]) hx hb dA_fill_4 rfl hl (by decide) rfl (fun ls hl => ?_)
  refine la_fill hx hb hml hown hts hK hA a nn x g (by first | assumption | omega) (fun H locs ls hP hD hS hl => ?_) nn 0 (by omega) _ _ ls hP hD hS (lv_sub hl [2, 3, 1, 0] rfl)
  exact k_vret hx hb hr hlocks hK hS (kP_re hP 0 rfl (kFill x g nn)) (hD.set (p := 0) rfl) dA_fill_20
set_option maxHeartbeats 4000000 in
set_option maxRecDepth 100000 in
theorem cl_clear (l : Launch) (D : va_G) (τ : Nat → ClassId) (a0 : Nat) (a1 : Nat) (a2 : Nat) (a3 : Nat) (fd : Nat → Int32) (fh : Nat → Int32) (fp : Nat → Int32) (ti : Int32)  : kMv l D τ yL_clear (kWs yL_clear cL_clear 1 none) { frames := 1, cells := 0, slots := 0, locals := 23 } [.ref a0] [(a0, .inr (1, [.ref a1, .ref a2, .ref a3, .int ti])), (a1, .inl (τ 0, 24, .inl fd)), (a2, .inl (τ 0, 24, .inl fh)), (a3, .inl (τ 0, 24, .inl fp))] [(a0, .inr (1, [.ref a1, .ref a2, .ref a3, .int 0])), (a1, .inl (τ 0, 24, .inl kNo)), (a2, .inl (τ 0, 24, .inl kNo)), (a3, .inl (τ 0, 24, .inl kNo))] := by
  intro sz
  refine Met.ofW (cc := cL_clear) (maxL := 1) (ret := none) (by decide) rfl ?_
  intro p e s m args below meth c s₁ B hml hv
  obtain ⟨rfl, hsz, hP, hK, hD0⟩ := hv
  have hx := B.exec
  have hb := B.bytes
  have hr := B.returns
  have hts := fun w (hw : w ∈ kTbl) => atoms_spec (ws := (kWs yL_clear cL_clear 1 none)) B.pre w (List.mem_cons_of_mem _ hw)
  have hown : s.vm.findClass RL = some m.cls := findClass_of_methodNamed B.named
  have hlocks := B.notSynchronized
  subst hsz
  have hD := hD0.self (sz := s.heap.size)
  generalize hAe : va_A [(a0, .inr (1, [.ref a1, .ref a2, .ref a3, .int ti])), (a1, .inl (τ 0, 24, .inl fd)), (a2, .inl (τ 0, 24, .inl fh)), (a3, .inl (τ 0, 24, .inl fp))] s.heap.size = A at hD ⊢
  have hA : ∀ q : Nat, s.heap.size ≤ q → A q := fun q h => by rw [← hAe]; exact Or.inr h
  have hS : va_S A s.heap s.heap [] := va_S.rf
  have hP : va_P D vwCl [(a0, .inr (1, [.ref a1, .ref a2, .ref a3, .int ti])), (a1, .inl (τ 0, 24, .inl fd)), (a2, .inl (τ 0, 24, .inl fh)), (a3, .inl (τ 0, 24, .inl fp))] s.heap := hP
  have hl := lv_entry ([.ref a0]) (n := 1) (Nat.le_of_ble_eq_true rfl)
  rw [lg_entry_eq]
  generalize (lg_sl ([.ref a0]) ++ List.replicate (1 - (lg_sl ([.ref a0])).length) Slot.unset).toArray = ls at hl ⊢
  have hl : lv_has ls 1 [(0, .ref a0)] := hl
  skip
  refine lv_aload_n hx hb dL_clear_0 rfl (lv_at hl 0 rfl) ?_
  refine va_get (D := D) (ci := 1) (v := .ref a1) (C := RL) (T := TL) (N := 4) hx hb hts iL hown hK hP 0 rfl rfl 0 (by decide) (hts _ w_80) (fun _ h9 => h9) rfl dL_clear_1 ?_
  refine lv_ldc (v := (-1000000)) hx hb hown (hts _ w_78) dL_clear_4 ?_
  refine kc_Sv (As := [.ref a1, .int (-1000000)]) (rest := []) (wr := [(a0, .inr (1, [.ref a1, .ref a2, .ref a3, .int ti])), (a2, .inl (τ 0, 24, .inl fh)), (a3, .inl (τ 0, 24, .inl fp))]) (W1 := [(a0, .inr (1, [.ref a1, .ref a2, .ref a3, .int ti])), (a1, .inl (τ 0, 24, .inl (fun _ => (-1000000)))), (a2, .inl (τ 0, 24, .inl fh)), (a3, .inl (τ 0, 24, .inl fp))]) ⟨hx, hb, hml, hown, hts⟩ (ca_fill l D τ a1 24 (-1000000) fd (by decide)) (kcwS hts qA_fill w_79 rfl rfl ⟨Nat.le_of_ble_eq_true rfl, Nat.le_of_ble_eq_true rfl⟩) hK hP hD hS hA [1] [0, 2, 3] [0, 3, 1, 2] rfl rfl (by decide) (by decide) (by decide) rfl (by decide) hl.1 rfl rfl (Nat.le_of_ble_eq_true rfl) ⟨Nat.zero_le _, Nat.zero_le _⟩ dL_clear_6 (fun H locs hP hD hS => ?_)
  refine lv_aload_n hx hb dL_clear_9 rfl (lv_at hl 0 rfl) ?_
  refine va_get (D := D) (ci := 1) (v := .ref a2) (C := RL) (T := TL) (N := 4) hx hb hts iL hown hK hP 0 rfl rfl 1 (by decide) (hts _ w_82) (fun _ h9 => h9) rfl dL_clear_10 ?_
  refine lv_ldc (v := (-1000000)) hx hb hown (hts _ w_78) dL_clear_13 ?_
  refine kc_Sv (As := [.ref a2, .int (-1000000)]) (rest := []) (wr := [(a0, .inr (1, [.ref a1, .ref a2, .ref a3, .int ti])), (a1, .inl (τ 0, 24, .inl (fun _ => (-1000000)))), (a3, .inl (τ 0, 24, .inl fp))]) (W1 := [(a0, .inr (1, [.ref a1, .ref a2, .ref a3, .int ti])), (a1, .inl (τ 0, 24, .inl (fun _ => (-1000000)))), (a2, .inl (τ 0, 24, .inl (fun _ => (-1000000)))), (a3, .inl (τ 0, 24, .inl fp))]) ⟨hx, hb, hml, hown, hts⟩ (ca_fill l D τ a2 24 (-1000000) fh (by decide)) (kcwS hts qA_fill w_79 rfl rfl ⟨Nat.le_of_ble_eq_true rfl, Nat.le_of_ble_eq_true rfl⟩) hK hP hD hS hA [2] [0, 1, 3] [0, 1, 3, 2] rfl rfl (by decide) (by decide) (by decide) rfl (by decide) hl.1 rfl rfl (Nat.le_of_ble_eq_true rfl) ⟨Nat.zero_le _, Nat.zero_le _⟩ dL_clear_15 (fun H locs hP hD hS => ?_)
  refine lv_aload_n hx hb dL_clear_18 rfl (lv_at hl 0 rfl) ?_
  refine va_get (D := D) (ci := 1) (v := .ref a3) (C := RL) (T := TL) (N := 4) hx hb hts iL hown hK hP 0 rfl rfl 2 (by decide) (hts _ w_84) (fun _ h9 => h9) rfl dL_clear_19 ?_
  refine lv_ldc (v := (-1000000)) hx hb hown (hts _ w_78) dL_clear_22 ?_
  refine kc_Sv (As := [.ref a3, .int (-1000000)]) (rest := []) (wr := [(a0, .inr (1, [.ref a1, .ref a2, .ref a3, .int ti])), (a1, .inl (τ 0, 24, .inl (fun _ => (-1000000)))), (a2, .inl (τ 0, 24, .inl (fun _ => (-1000000))))]) (W1 := [(a0, .inr (1, [.ref a1, .ref a2, .ref a3, .int ti])), (a1, .inl (τ 0, 24, .inl (fun _ => (-1000000)))), (a2, .inl (τ 0, 24, .inl (fun _ => (-1000000)))), (a3, .inl (τ 0, 24, .inl (fun _ => (-1000000))))]) ⟨hx, hb, hml, hown, hts⟩ (ca_fill l D τ a3 24 (-1000000) fp (by decide)) (kcwS hts qA_fill w_79 rfl rfl ⟨Nat.le_of_ble_eq_true rfl, Nat.le_of_ble_eq_true rfl⟩) hK hP hD hS hA [3] [0, 1, 2] [0, 1, 2, 3] rfl rfl (by decide) (by decide) (by decide) rfl (by decide) hl.1 rfl rfl (Nat.le_of_ble_eq_true rfl) ⟨Nat.zero_le _, Nat.zero_le _⟩ dL_clear_24 (fun H locs hP hD hS => ?_)
  refine lv_aload_n hx hb dL_clear_27 rfl (lv_at hl 0 rfl) ?_
  refine lv_iconst (v := 0) hx hb dL_clear_28 (by decide) ?_
  refine va_put (D := D) (ci := 1) (v := .int 0) (ty := .int) (C := RL) (T := TL) (N := 4) hx hb hts iL tyL tyL_ok nmL hown hK hP hD hS 0 rfl rfl 3 (by decide) (hts _ w_86) (fun _ h9 => h9) rfl (by decide +kernel) rfl rfl (Nat.le_of_ble_eq_true rfl) dL_clear_29 (fun H locs hP hD hS => ?_)
  have hP : va_P D vwCl [(a0, .inr (1, [.ref a1, .ref a2, .ref a3, .int 0])), (a1, .inl (τ 0, 24, .inl (fun _ => (-1000000)))), (a2, .inl (τ 0, 24, .inl (fun _ => (-1000000)))), (a3, .inl (τ 0, 24, .inl (fun _ => (-1000000))))] H := hP
  have hD : va_D A [(a0, .inr (1, [.ref a1, .ref a2, .ref a3, .int 0])), (a1, .inl (τ 0, 24, .inl (fun _ => (-1000000)))), (a2, .inl (τ 0, 24, .inl (fun _ => (-1000000)))), (a3, .inl (τ 0, 24, .inl (fun _ => (-1000000))))] := hD
  exact k_vret hx hb hr hlocks hK hS hP hD dL_clear_32
set_option maxHeartbeats 4000000 in
set_option maxRecDepth 100000 in
theorem ll_inner {p : Program} {l : Launch} {e : Env} {s : State} {m : MethodId} {args : Array Value} {below : List Frame} {meth : Method} {c : Code} {Q : State → Prop} {D : va_G} {τ : Nat → ClassId} {A : Nat → Prop} (hx : p.tables.exec = Jvm.exec) (hb : c.code = cL_settle) (hml : c.maxLocals = 7) (hown : s.vm.findClass RL = some m.cls) (hts : ∀ w ∈ kTbl, w.before args s = true) (hK : va_K D vwCl (kTys τ) s) (hA : ∀ q : Nat, s.heap.size ≤ q → A q) (a0 : Nat) (a1 : Nat) (a2 : Nat) (a3 : Nat) (n0 : Nat) (n1 : Nat) (N : Nat) (ar : Int32) (len : Nat → Int32) (rd : Nat) (go : Int32) (gd : Nat → Int32) (gh : Nat → Int32) (fp : Nat → Int32) (ti : Int32) (hN : N ≤ 24)
    (kx : ∀ (H : Heap) (locs : List Loc) (ls : Array Slot), va_P D vwCl [(a0, .inr (1, [.ref a1, .ref a2, .ref a3, .int ti])), (a1, .inl (τ 0, 24, .inl ((kItr (kRnd1 N len go) N (gd, gh, 0)).1))), (a2, .inl (τ 0, 24, .inl ((kItr (kRnd1 N len go) N (gd, gh, 0)).2.1))), (a3, .inl (τ 0, 24, .inl fp)), (n0, .inr (2, [.int (nI N), .int ar, .ref n1])), (n1, .inl (τ 0, 576, .inl len))] H → va_D A [(a0, .inr (1, [.ref a1, .ref a2, .ref a3, .int ti])), (a1, .inl (τ 0, 24, .inl ((kItr (kRnd1 N len go) N (gd, gh, 0)).1))), (a2, .inl (τ 0, 24, .inl ((kItr (kRnd1 N len go) N (gd, gh, 0)).2.1))), (a3, .inl (τ 0, 24, .inl fp)), (n0, .inr (2, [.int (nI N), .int ar, .ref n1])), (n1, .inl (τ 0, 576, .inl len))] → va_S A s.heap H locs → lv_has ls 7 [(0, .ref a0), (1, .ref n0), (3, .int ((kItr (kRnd1 N len go) N (gd, gh, 0)).2.2)), (4, .int (nI rd))] → W p l e (headSpec (kWs yL_settle cL_settle 7 none) { frames := 2, cells := 0, slots := 0, locals := 48 }).room s m args below meth c H locs 0 0 Q (F0 m 90 ls [])) :
    ∀ (n k : Nat), k + n = N → ∀ (H : Heap) (locs : List Loc) (ls : Array Slot), va_P D vwCl [(a0, .inr (1, [.ref a1, .ref a2, .ref a3, .int ti])), (a1, .inl (τ 0, 24, .inl ((kItr (kRnd1 N len go) k (gd, gh, 0)).1))), (a2, .inl (τ 0, 24, .inl ((kItr (kRnd1 N len go) k (gd, gh, 0)).2.1))), (a3, .inl (τ 0, 24, .inl fp)), (n0, .inr (2, [.int (nI N), .int ar, .ref n1])), (n1, .inl (τ 0, 576, .inl len))] H → va_D A [(a0, .inr (1, [.ref a1, .ref a2, .ref a3, .int ti])), (a1, .inl (τ 0, 24, .inl ((kItr (kRnd1 N len go) k (gd, gh, 0)).1))), (a2, .inl (τ 0, 24, .inl ((kItr (kRnd1 N len go) k (gd, gh, 0)).2.1))), (a3, .inl (τ 0, 24, .inl fp)), (n0, .inr (2, [.int (nI N), .int ar, .ref n1])), (n1, .inl (τ 0, 576, .inl len))] → va_S A s.heap H locs → lv_has ls 7 [(0, .ref a0), (1, .ref n0), (3, .int ((kItr (kRnd1 N len go) k (gd, gh, 0)).2.2)), (4, .int (nI rd)), (5, .int go), (6, .int (nI k))] → W p l e (headSpec (kWs yL_settle cL_settle 7 none) { frames := 2, cells := 0, slots := 0, locals := 48 }).room s m args below meth c H locs 0 0 Q (F0 m 55 ls []) := by
  intro n
  induction n with
  | zero =>
    intro k hk H locs ls hP hD hS hl
    have hkN : N = k := by omega
    subst hkN
    revert hP hD hl
    generalize hst : (kItr (kRnd1 N len go) N (gd, gh, 0)) = st
    intro hP hD hl
    obtain ⟨fd, fh, imp⟩ := st
    have hP : va_P D vwCl [(a0, .inr (1, [.ref a1, .ref a2, .ref a3, .int ti])), (a1, .inl (τ 0, 24, .inl fd)), (a2, .inl (τ 0, 24, .inl fh)), (a3, .inl (τ 0, 24, .inl fp)), (n0, .inr (2, [.int (nI N), .int ar, .ref n1])), (n1, .inl (τ 0, 576, .inl len))] H := hP
    have hD : va_D A [(a0, .inr (1, [.ref a1, .ref a2, .ref a3, .int ti])), (a1, .inl (τ 0, 24, .inl fd)), (a2, .inl (τ 0, 24, .inl fh)), (a3, .inl (τ 0, 24, .inl fp)), (n0, .inr (2, [.int (nI N), .int ar, .ref n1])), (n1, .inl (τ 0, 576, .inl len))] := hD
    have hl : lv_has ls 7 [(0, .ref a0), (1, .ref n0), (3, .int imp), (4, .int (nI rd)), (5, .int go), (6, .int (nI N))] := hl
    refine lv_iload hx hb dL_settle_55 (lv_at hl 5 rfl) ?_
    refine lv_aload_n hx hb dL_settle_57 rfl (lv_at hl 1 rfl) ?_
    refine va_get (D := D) (ci := 2) (v := .int (nI N)) (C := RN) (T := TN) (N := 3) hx hb hts iN hown hK hP 4 rfl rfl 0 (by decide) (hts _ w_28) (fun _ h9 => h9) rfl dL_settle_58 ?_
    refine lv_icmp_ge (tgt := 90) hx hb dL_settle_61 (by decide) (fun c_61 => ?_) (fun c_61 => absurd (nI_le (Nat.le_refl _) (by omega)) c_61)
    exact kx H locs ls (by (try rw [hst]); exact hP) (by (try rw [hst]); exact hD) hS (by (try rw [hst]); exact lv_sub hl [0, 1, 2, 3] rfl)
  | succ n ih =>
    intro k hk H locs ls hP hD hS hl
    have hkN : k < N := by omega
    have ih := ih (k + 1) (by omega)
    rw [kItr_s] at ih
    revert hP hD hl ih
    generalize hst : (kItr (kRnd1 N len go) k (gd, gh, 0)) = st
    intro hP hD hl ih
    obtain ⟨fd, fh, imp⟩ := st
    have hP : va_P D vwCl [(a0, .inr (1, [.ref a1, .ref a2, .ref a3, .int ti])), (a1, .inl (τ 0, 24, .inl fd)), (a2, .inl (τ 0, 24, .inl fh)), (a3, .inl (τ 0, 24, .inl fp)), (n0, .inr (2, [.int (nI N), .int ar, .ref n1])), (n1, .inl (τ 0, 576, .inl len))] H := hP
    have hD : va_D A [(a0, .inr (1, [.ref a1, .ref a2, .ref a3, .int ti])), (a1, .inl (τ 0, 24, .inl fd)), (a2, .inl (τ 0, 24, .inl fh)), (a3, .inl (τ 0, 24, .inl fp)), (n0, .inr (2, [.int (nI N), .int ar, .ref n1])), (n1, .inl (τ 0, 576, .inl len))] := hD
    have hl : lv_has ls 7 [(0, .ref a0), (1, .ref n0), (3, .int imp), (4, .int (nI rd)), (5, .int go), (6, .int (nI k))] := hl
    refine lv_iload hx hb dL_settle_55 (lv_at hl 5 rfl) ?_
    refine lv_aload_n hx hb dL_settle_57 rfl (lv_at hl 1 rfl) ?_
    refine va_get (D := D) (ci := 2) (v := .int (nI N)) (C := RN) (T := TN) (N := 3) hx hb hts iN hown hK hP 4 rfl rfl 0 (by decide) (hts _ w_28) (fun _ h9 => h9) rfl dL_settle_58 ?_
    refine lv_icmp_ge (tgt := 90) hx hb dL_settle_61 (by decide) (fun c_61 => absurd c_61 (nI_ge hkN (by omega))) (fun c_61 => ?_)
    refine lv_iload hx hb dL_settle_64 (lv_at hl 4 rfl) ?_
    refine lv_iload hx hb dL_settle_66 (lv_at hl 5 rfl) ?_
    refine lv_ishr hx hb dL_settle_68 ?_
    refine lv_iconst (v := 1) hx hb dL_settle_69 (by decide) ?_
    refine lv_iand hx hb dL_settle_70 ?_
    refine lv_if_eq (tgt := 84) hx hb dL_settle_71 (by decide) (fun c_71 => ?_) (fun c_71 => ?_)
    · skip
      refine lv_iinc (v := nI (k + 1)) (lv' := [(6, .int (nI (k + 1))), (0, .ref a0), (1, .ref n0), (3, .int imp), (4, .int (nI rd)), (5, .int go)]) hx hb dL_settle_84 hl (k := 5) rfl (nI_1 _) (by decide) rfl (fun ls hl => ?_)
      refine lv_goto (tgt := 55) hx hb dL_settle_87 (by decide) ?_
      have e_ : (kRnd1 N len go) k (fd, fh, imp) = (fd, fh, imp) := by unfold kRnd1; exact kIf_t c_71
      (try rw [e_] at ih)
      exact ih H locs ls hP hD hS (lv_sub hl [1, 2, 3, 4, 5, 0] rfl)
    · skip
      refine lv_iload_n hx hb dL_settle_74 rfl (lv_at hl 2 rfl) ?_
      refine lv_aload_n hx hb dL_settle_75 rfl (lv_at hl 0 rfl) ?_
      refine lv_iload hx hb dL_settle_76 (lv_at hl 5 rfl) ?_
      refine lv_aload_n hx hb dL_settle_78 rfl (lv_at hl 1 rfl) ?_
      refine kc_Vi (As := [.int (nI k), .ref n0]) (rest := [.int imp]) (wr := []) (W1 := [(a0, .inr (1, [.ref a1, .ref a2, .ref a3, .int ti])), (a1, .inl (τ 0, 24, .inl ((kFolA N len k fd fh).1))), (a2, .inl (τ 0, 24, .inl ((kFolA N len k fd fh).2.1))), (a3, .inl (τ 0, 24, .inl fp)), (n0, .inr (2, [.int (nI N), .int ar, .ref n1])), (n1, .inl (τ 0, 576, .inl len))]) ⟨hx, hb, hml, hown, hts⟩ (cl_follow l D τ a0 a1 a2 a3 n0 n1 N ar len k fd fh fp ti (by first | assumption | omega) (by first | assumption | omega)) (kcwV hts qL_followArcs w_176 rfl rfl ⟨Nat.le_of_ble_eq_true rfl, Nat.le_of_ble_eq_true rfl⟩) hK hP hD hS hA [0, 1, 2, 3, 4, 5] [] [0, 1, 2, 3, 4, 5] rfl rfl (by decide) (by decide) (by decide) rfl rfl rfl (by decide) hl.1 rfl rfl (Nat.le_of_ble_eq_true rfl) ⟨Nat.zero_le _, Nat.zero_le _⟩ dL_settle_79 (fun H locs hP hD hS => ?_)
      refine lv_ior hx hb dL_settle_82 ?_
      refine lv_istore_n (lv' := [(3, .int (imp ||| ((kFolA N len k fd fh).2.2))), (0, .ref a0), (1, .ref n0), (4, .int (nI rd)), (5, .int go), (6, .int (nI k))]) hx hb dL_settle_83 rfl hl (by decide) rfl (fun ls hl => ?_)
      refine lv_iinc (v := nI (k + 1)) (lv' := [(6, .int (nI (k + 1))), (3, .int (imp ||| ((kFolA N len k fd fh).2.2))), (0, .ref a0), (1, .ref n0), (4, .int (nI rd)), (5, .int go)]) hx hb dL_settle_84 hl (k := 5) rfl (nI_1 _) (by decide) rfl (fun ls hl => ?_)
      refine lv_goto (tgt := 55) hx hb dL_settle_87 (by decide) ?_
      have e_ : (kRnd1 N len go) k (fd, fh, imp) = ((kFolA N len k fd fh).1, (kFolA N len k fd fh).2.1, imp ||| ((kFolA N len k fd fh).2.2)) := by unfold kRnd1; exact kIf_f c_71
      (try rw [e_] at ih)
      exact ih H locs ls hP hD hS (lv_sub hl [2, 3, 1, 4, 5, 0] rfl)
set_option maxHeartbeats 4000000 in
set_option maxRecDepth 100000 in
theorem ll_outer {p : Program} {l : Launch} {e : Env} {s : State} {m : MethodId} {args : Array Value} {below : List Frame} {meth : Method} {c : Code} {Q : State → Prop} {D : va_G} {τ : Nat → ClassId} {A : Nat → Prop} (hx : p.tables.exec = Jvm.exec) (hb : c.code = cL_settle) (hml : c.maxLocals = 7) (hown : s.vm.findClass RL = some m.cls) (hts : ∀ w ∈ kTbl, w.before args s = true) (hK : va_K D vwCl (kTys τ) s) (hA : ∀ q : Nat, s.heap.size ≤ q → A q) (a0 : Nat) (a1 : Nat) (a2 : Nat) (a3 : Nat) (n0 : Nat) (n1 : Nat) (N : Nat) (ar : Int32) (len : Nat → Int32) (gd : Nat → Int32) (gh : Nat → Int32) (fp : Nat → Int32) (ti : Int32) (ig : Int32) (hN : N ≤ 24)
    (kx : ∀ (H : Heap) (locs : List Loc) (ls : Array Slot), va_P D vwCl [(a0, .inr (1, [.ref a1, .ref a2, .ref a3, .int ti])), (a1, .inl (τ 0, 24, .inl ((kItr (kRnd N len) N (gd, gh, ig)).1))), (a2, .inl (τ 0, 24, .inl ((kItr (kRnd N len) N (gd, gh, ig)).2.1))), (a3, .inl (τ 0, 24, .inl fp)), (n0, .inr (2, [.int (nI N), .int ar, .ref n1])), (n1, .inl (τ 0, 576, .inl len))] H → va_D A [(a0, .inr (1, [.ref a1, .ref a2, .ref a3, .int ti])), (a1, .inl (τ 0, 24, .inl ((kItr (kRnd N len) N (gd, gh, ig)).1))), (a2, .inl (τ 0, 24, .inl ((kItr (kRnd N len) N (gd, gh, ig)).2.1))), (a3, .inl (τ 0, 24, .inl fp)), (n0, .inr (2, [.int (nI N), .int ar, .ref n1])), (n1, .inl (τ 0, 576, .inl len))] → va_S A s.heap H locs → lv_has ls 7 [(0, .ref a0), (1, .ref n0)] → W p l e (headSpec (kWs yL_settle cL_settle 7 none) { frames := 2, cells := 0, slots := 0, locals := 48 }).room s m args below meth c H locs 0 0 Q (F0 m 96 ls [])) :
    ∀ (n k : Nat), k + n = N → ∀ (H : Heap) (locs : List Loc) (ls : Array Slot), va_P D vwCl [(a0, .inr (1, [.ref a1, .ref a2, .ref a3, .int ti])), (a1, .inl (τ 0, 24, .inl ((kItr (kRnd N len) k (gd, gh, ig)).1))), (a2, .inl (τ 0, 24, .inl ((kItr (kRnd N len) k (gd, gh, ig)).2.1))), (a3, .inl (τ 0, 24, .inl fp)), (n0, .inr (2, [.int (nI N), .int ar, .ref n1])), (n1, .inl (τ 0, 576, .inl len))] H → va_D A [(a0, .inr (1, [.ref a1, .ref a2, .ref a3, .int ti])), (a1, .inl (τ 0, 24, .inl ((kItr (kRnd N len) k (gd, gh, ig)).1))), (a2, .inl (τ 0, 24, .inl ((kItr (kRnd N len) k (gd, gh, ig)).2.1))), (a3, .inl (τ 0, 24, .inl fp)), (n0, .inr (2, [.int (nI N), .int ar, .ref n1])), (n1, .inl (τ 0, 576, .inl len))] → va_S A s.heap H locs → lv_has ls 7 [(0, .ref a0), (1, .ref n0), (3, .int ((kItr (kRnd N len) k (gd, gh, ig)).2.2)), (4, .int (nI k))] → W p l e (headSpec (kWs yL_settle cL_settle 7 none) { frames := 2, cells := 0, slots := 0, locals := 48 }).room s m args below meth c H locs 0 0 Q (F0 m 34 ls []) := by
  intro n
  induction n with
  | zero =>
    intro k hk H locs ls hP hD hS hl
    have hkN : N = k := by omega
    subst hkN
    revert hP hD hl
    generalize hst : (kItr (kRnd N len) N (gd, gh, ig)) = st
    intro hP hD hl
    obtain ⟨fd, fh, imp⟩ := st
    have hP : va_P D vwCl [(a0, .inr (1, [.ref a1, .ref a2, .ref a3, .int ti])), (a1, .inl (τ 0, 24, .inl fd)), (a2, .inl (τ 0, 24, .inl fh)), (a3, .inl (τ 0, 24, .inl fp)), (n0, .inr (2, [.int (nI N), .int ar, .ref n1])), (n1, .inl (τ 0, 576, .inl len))] H := hP
    have hD : va_D A [(a0, .inr (1, [.ref a1, .ref a2, .ref a3, .int ti])), (a1, .inl (τ 0, 24, .inl fd)), (a2, .inl (τ 0, 24, .inl fh)), (a3, .inl (τ 0, 24, .inl fp)), (n0, .inr (2, [.int (nI N), .int ar, .ref n1])), (n1, .inl (τ 0, 576, .inl len))] := hD
    have hl : lv_has ls 7 [(0, .ref a0), (1, .ref n0), (3, .int imp), (4, .int (nI N))] := hl
    refine lv_iload hx hb dL_settle_34 (lv_at hl 3 rfl) ?_
    refine lv_aload_n hx hb dL_settle_36 rfl (lv_at hl 1 rfl) ?_
    refine va_get (D := D) (ci := 2) (v := .int (nI N)) (C := RN) (T := TN) (N := 3) hx hb hts iN hown hK hP 4 rfl rfl 0 (by decide) (hts _ w_28) (fun _ h9 => h9) rfl dL_settle_37 ?_
    refine lv_icmp_ge (tgt := 96) hx hb dL_settle_40 (by decide) (fun c_40 => ?_) (fun c_40 => absurd (nI_le (Nat.le_refl _) (by omega)) c_40)
    exact kx H locs ls (by (try rw [hst]); exact hP) (by (try rw [hst]); exact hD) hS (by (try rw [hst]); exact lv_sub hl [0, 1] rfl)
  | succ n ih =>
    intro k hk H locs ls hP hD hS hl
    have hkN : k < N := by omega
    have ih := ih (k + 1) (by omega)
    rw [kItr_s] at ih
    revert hP hD hl ih
    generalize hst : (kItr (kRnd N len) k (gd, gh, ig)) = st
    intro hP hD hl ih
    obtain ⟨fd, fh, imp⟩ := st
    have hP : va_P D vwCl [(a0, .inr (1, [.ref a1, .ref a2, .ref a3, .int ti])), (a1, .inl (τ 0, 24, .inl fd)), (a2, .inl (τ 0, 24, .inl fh)), (a3, .inl (τ 0, 24, .inl fp)), (n0, .inr (2, [.int (nI N), .int ar, .ref n1])), (n1, .inl (τ 0, 576, .inl len))] H := hP
    have hD : va_D A [(a0, .inr (1, [.ref a1, .ref a2, .ref a3, .int ti])), (a1, .inl (τ 0, 24, .inl fd)), (a2, .inl (τ 0, 24, .inl fh)), (a3, .inl (τ 0, 24, .inl fp)), (n0, .inr (2, [.int (nI N), .int ar, .ref n1])), (n1, .inl (τ 0, 576, .inl len))] := hD
    have hl : lv_has ls 7 [(0, .ref a0), (1, .ref n0), (3, .int imp), (4, .int (nI k))] := hl
    refine lv_iload hx hb dL_settle_34 (lv_at hl 3 rfl) ?_
    refine lv_aload_n hx hb dL_settle_36 rfl (lv_at hl 1 rfl) ?_
    refine va_get (D := D) (ci := 2) (v := .int (nI N)) (C := RN) (T := TN) (N := 3) hx hb hts iN hown hK hP 4 rfl rfl 0 (by decide) (hts _ w_28) (fun _ h9 => h9) rfl dL_settle_37 ?_
    refine lv_icmp_ge (tgt := 96) hx hb dL_settle_40 (by decide) (fun c_40 => absurd c_40 (nI_ge hkN (by omega))) (fun c_40 => ?_)
    refine lv_iload_n hx hb dL_settle_43 rfl (lv_at hl 2 rfl) ?_
    refine lv_if_eq (tgt := 96) hx hb dL_settle_44 (by decide) (fun c_44 => ?_) (fun c_44 => ?_)
    · skip
      have e_ := kRnd_stop hst c_44 (n + 1)
      rw [hk] at e_
      exact kx H locs ls (by rw [e_]; exact hP) (by rw [e_]; exact hD) hS (lv_sub hl [0, 1] rfl)
    · skip
      refine lv_iload_n hx hb dL_settle_47 rfl (lv_at hl 2 rfl) ?_
      refine lv_istore (lv' := [(5, .int imp), (0, .ref a0), (1, .ref n0), (3, .int imp), (4, .int (nI k))]) hx hb dL_settle_48 hl (by decide) rfl (fun ls hl => ?_)
      refine lv_iconst (v := 0) hx hb dL_settle_50 (by decide) ?_
      refine lv_istore_n (lv' := [(3, .int 0), (5, .int imp), (0, .ref a0), (1, .ref n0), (4, .int (nI k))]) hx hb dL_settle_51 rfl hl (by decide) rfl (fun ls hl => ?_)
      refine lv_iconst (v := 0) hx hb dL_settle_52 (by decide) ?_
      refine lv_istore (lv' := [(6, .int 0), (3, .int 0), (5, .int imp), (0, .ref a0), (1, .ref n0), (4, .int (nI k))]) hx hb dL_settle_53 hl (by decide) rfl (fun ls hl => ?_)
      refine ll_inner hx hb hml hown hts hK hA a0 a1 a2 a3 n0 n1 N ar len k imp fd fh fp ti (by first | assumption | omega) (fun H locs ls hP hD hS hl => ?_) N 0 (by omega) _ _ ls hP hD hS (lv_sub hl [3, 4, 1, 5, 2, 0] rfl)
      refine lv_iinc (v := nI (k + 1)) (lv' := [(4, .int (nI (k + 1))), (0, .ref a0), (1, .ref n0), (3, .int ((kItr (kRnd1 N len imp) (N) (fd, fh, 0)).2.2))]) hx hb dL_settle_90 hl (k := 3) rfl (nI_1 _) (by decide) rfl (fun ls hl => ?_)
      refine lv_goto (tgt := 34) hx hb dL_settle_93 (by decide) ?_
      have e_ : (kRnd N len) k (fd, fh, imp) = ((kItr (kRnd1 N len imp) (N) (fd, fh, 0)).1, (kItr (kRnd1 N len imp) (N) (fd, fh, 0)).2.1, (kItr (kRnd1 N len imp) (N) (fd, fh, 0)).2.2) := by unfold kRnd; exact kIf_f c_44
      (try rw [e_] at ih)
      exact ih H locs ls hP hD hS (lv_sub hl [1, 2, 3, 0] rfl)
set_option maxHeartbeats 4000000 in
set_option maxRecDepth 100000 in
theorem ll_tights {p : Program} {l : Launch} {e : Env} {s : State} {m : MethodId} {args : Array Value} {below : List Frame} {meth : Method} {c : Code} {Q : State → Prop} {D : va_G} {τ : Nat → ClassId} {A : Nat → Prop} (hx : p.tables.exec = Jvm.exec) (hb : c.code = cL_settle) (hml : c.maxLocals = 7) (hown : s.vm.findClass RL = some m.cls) (hts : ∀ w ∈ kTbl, w.before args s = true) (hK : va_K D vwCl (kTys τ) s) (hA : ∀ q : Nat, s.heap.size ≤ q → A q) (a0 : Nat) (a1 : Nat) (a2 : Nat) (a3 : Nat) (n0 : Nat) (n1 : Nat) (N : Nat) (ar : Int32) (len : Nat → Int32) (fd : Nat → Int32) (fh : Nat → Int32) (gp : Nat → Int32) (gt : Int32) (hN : N ≤ 24)
    (kx : ∀ (H : Heap) (locs : List Loc) (ls : Array Slot), va_P D vwCl [(a0, .inr (1, [.ref a1, .ref a2, .ref a3, .int ((kItr (kTgU N len fd fh) N (gp, gt)).2)])), (a1, .inl (τ 0, 24, .inl fd)), (a2, .inl (τ 0, 24, .inl fh)), (a3, .inl (τ 0, 24, .inl ((kItr (kTgU N len fd fh) N (gp, gt)).1))), (n0, .inr (2, [.int (nI N), .int ar, .ref n1])), (n1, .inl (τ 0, 576, .inl len))] H → va_D A [(a0, .inr (1, [.ref a1, .ref a2, .ref a3, .int ((kItr (kTgU N len fd fh) N (gp, gt)).2)])), (a1, .inl (τ 0, 24, .inl fd)), (a2, .inl (τ 0, 24, .inl fh)), (a3, .inl (τ 0, 24, .inl ((kItr (kTgU N len fd fh) N (gp, gt)).1))), (n0, .inr (2, [.int (nI N), .int ar, .ref n1])), (n1, .inl (τ 0, 576, .inl len))] → va_S A s.heap H locs → lv_has ls 7 [(0, .ref a0)] → W p l e (headSpec (kWs yL_settle cL_settle 7 none) { frames := 2, cells := 0, slots := 0, locals := 48 }).room s m args below meth c H locs 0 0 Q (F0 m 130 ls [])) :
    ∀ (n k : Nat), k + n = N → ∀ (H : Heap) (locs : List Loc) (ls : Array Slot), va_P D vwCl [(a0, .inr (1, [.ref a1, .ref a2, .ref a3, .int ((kItr (kTgU N len fd fh) k (gp, gt)).2)])), (a1, .inl (τ 0, 24, .inl fd)), (a2, .inl (τ 0, 24, .inl fh)), (a3, .inl (τ 0, 24, .inl ((kItr (kTgU N len fd fh) k (gp, gt)).1))), (n0, .inr (2, [.int (nI N), .int ar, .ref n1])), (n1, .inl (τ 0, 576, .inl len))] H → va_D A [(a0, .inr (1, [.ref a1, .ref a2, .ref a3, .int ((kItr (kTgU N len fd fh) k (gp, gt)).2)])), (a1, .inl (τ 0, 24, .inl fd)), (a2, .inl (τ 0, 24, .inl fh)), (a3, .inl (τ 0, 24, .inl ((kItr (kTgU N len fd fh) k (gp, gt)).1))), (n0, .inr (2, [.int (nI N), .int ar, .ref n1])), (n1, .inl (τ 0, 576, .inl len))] → va_S A s.heap H locs → lv_has ls 7 [(0, .ref a0), (1, .ref n0), (4, .int (nI k))] → W p l e (headSpec (kWs yL_settle cL_settle 7 none) { frames := 2, cells := 0, slots := 0, locals := 48 }).room s m args below meth c H locs 0 0 Q (F0 m 99 ls []) := by
  intro n
  induction n with
  | zero =>
    intro k hk H locs ls hP hD hS hl
    have hkN : N = k := by omega
    subst hkN
    revert hP hD hl
    generalize hst : (kItr (kTgU N len fd fh) N (gp, gt)) = st
    intro hP hD hl
    obtain ⟨fp, ti⟩ := st
    have hP : va_P D vwCl [(a0, .inr (1, [.ref a1, .ref a2, .ref a3, .int ti])), (a1, .inl (τ 0, 24, .inl fd)), (a2, .inl (τ 0, 24, .inl fh)), (a3, .inl (τ 0, 24, .inl fp)), (n0, .inr (2, [.int (nI N), .int ar, .ref n1])), (n1, .inl (τ 0, 576, .inl len))] H := hP
    have hD : va_D A [(a0, .inr (1, [.ref a1, .ref a2, .ref a3, .int ti])), (a1, .inl (τ 0, 24, .inl fd)), (a2, .inl (τ 0, 24, .inl fh)), (a3, .inl (τ 0, 24, .inl fp)), (n0, .inr (2, [.int (nI N), .int ar, .ref n1])), (n1, .inl (τ 0, 576, .inl len))] := hD
    have hl : lv_has ls 7 [(0, .ref a0), (1, .ref n0), (4, .int (nI N))] := hl
    refine lv_iload hx hb dL_settle_99 (lv_at hl 2 rfl) ?_
    refine lv_aload_n hx hb dL_settle_101 rfl (lv_at hl 1 rfl) ?_
    refine va_get (D := D) (ci := 2) (v := .int (nI N)) (C := RN) (T := TN) (N := 3) hx hb hts iN hown hK hP 4 rfl rfl 0 (by decide) (hts _ w_28) (fun _ h9 => h9) rfl dL_settle_102 ?_
    refine lv_icmp_ge (tgt := 130) hx hb dL_settle_105 (by decide) (fun c_105 => ?_) (fun c_105 => absurd (nI_le (Nat.le_refl _) (by omega)) c_105)
    exact kx H locs ls (by (try rw [hst]); exact hP) (by (try rw [hst]); exact hD) hS (by (try rw [hst]); exact lv_sub hl [0] rfl)
  | succ n ih =>
    intro k hk H locs ls hP hD hS hl
    have hkN : k < N := by omega
    have ih := ih (k + 1) (by omega)
    rw [kItr_s] at ih
    revert hP hD hl ih
    generalize hst : (kItr (kTgU N len fd fh) k (gp, gt)) = st
    intro hP hD hl ih
    obtain ⟨fp, ti⟩ := st
    have hP : va_P D vwCl [(a0, .inr (1, [.ref a1, .ref a2, .ref a3, .int ti])), (a1, .inl (τ 0, 24, .inl fd)), (a2, .inl (τ 0, 24, .inl fh)), (a3, .inl (τ 0, 24, .inl fp)), (n0, .inr (2, [.int (nI N), .int ar, .ref n1])), (n1, .inl (τ 0, 576, .inl len))] H := hP
    have hD : va_D A [(a0, .inr (1, [.ref a1, .ref a2, .ref a3, .int ti])), (a1, .inl (τ 0, 24, .inl fd)), (a2, .inl (τ 0, 24, .inl fh)), (a3, .inl (τ 0, 24, .inl fp)), (n0, .inr (2, [.int (nI N), .int ar, .ref n1])), (n1, .inl (τ 0, 576, .inl len))] := hD
    have hl : lv_has ls 7 [(0, .ref a0), (1, .ref n0), (4, .int (nI k))] := hl
    refine lv_iload hx hb dL_settle_99 (lv_at hl 2 rfl) ?_
    refine lv_aload_n hx hb dL_settle_101 rfl (lv_at hl 1 rfl) ?_
    refine va_get (D := D) (ci := 2) (v := .int (nI N)) (C := RN) (T := TN) (N := 3) hx hb hts iN hown hK hP 4 rfl rfl 0 (by decide) (hts _ w_28) (fun _ h9 => h9) rfl dL_settle_102 ?_
    refine lv_icmp_ge (tgt := 130) hx hb dL_settle_105 (by decide) (fun c_105 => absurd c_105 (nI_ge hkN (by omega))) (fun c_105 => ?_)
    refine lv_aload_n hx hb dL_settle_108 rfl (lv_at hl 0 rfl) ?_
    refine lv_iload hx hb dL_settle_109 (lv_at hl 2 rfl) ?_
    refine kc_Vi (As := [.int (nI k)]) (rest := []) (wr := [(n0, .inr (2, [.int (nI N), .int ar, .ref n1])), (n1, .inl (τ 0, 576, .inl len))]) (W1 := [(a0, .inr (1, [.ref a1, .ref a2, .ref a3, .int ti])), (a1, .inl (τ 0, 24, .inl fd)), (a2, .inl (τ 0, 24, .inl fh)), (a3, .inl (τ 0, 24, .inl fp)), (n0, .inr (2, [.int (nI N), .int ar, .ref n1])), (n1, .inl (τ 0, 576, .inl len))]) ⟨hx, hb, hml, hown, hts⟩ (cl_reaches l D τ a0 a1 a2 a3 k fd fh fp ti (by first | assumption | omega)) (kcwV hts qL_reaches w_188 rfl rfl ⟨Nat.le_of_ble_eq_true rfl, Nat.le_of_ble_eq_true rfl⟩) hK hP hD hS hA [0, 1, 2, 3] [4, 5] [2, 3, 4, 5, 0, 1] rfl rfl (by decide) (by decide) (by decide) rfl rfl rfl (by decide) hl.1 rfl rfl (Nat.le_of_ble_eq_true rfl) ⟨Nat.zero_le _, Nat.zero_le _⟩ dL_settle_111 (fun H locs hP hD hS => ?_)
    refine lv_if_eq (tgt := 124) hx hb dL_settle_114 (by decide) (fun c_114 => ?_) (fun c_114 => ?_)
    · skip
      have c_114 := kB_0.mp c_114
      refine lv_iinc (v := nI (k + 1)) (lv' := [(4, .int (nI (k + 1))), (0, .ref a0), (1, .ref n0)]) hx hb dL_settle_124 hl (k := 2) rfl (nI_1 _) (by decide) rfl (fun ls hl => ?_)
      refine lv_goto (tgt := 99) hx hb dL_settle_127 (by decide) ?_
      have e_ : (kTgU N len fd fh) k (fp, ti) = (fp, ti) := by unfold kTgU; exact kIf_t (Classical.not_not.mp c_114)
      (try rw [e_] at ih)
      exact ih H locs ls hP hD hS (lv_sub hl [1, 2, 0] rfl)
    · skip
      have c_114 := kB_1.mp c_114
      refine lv_aload_n hx hb dL_settle_117 rfl (lv_at hl 0 rfl) ?_
      refine lv_iload hx hb dL_settle_118 (lv_at hl 2 rfl) ?_
      refine lv_aload_n hx hb dL_settle_120 rfl (lv_at hl 1 rfl) ?_
      refine kc_Vv (As := [.int (nI k), .ref n0]) (rest := []) (wr := []) (W1 := [(a0, .inr (1, [.ref a1, .ref a2, .ref a3, .int ((kItr (kTg len fd fh k) N (fp, ti)).2)])), (a1, .inl (τ 0, 24, .inl fd)), (a2, .inl (τ 0, 24, .inl fh)), (a3, .inl (τ 0, 24, .inl ((kItr (kTg len fd fh k) N (fp, ti)).1))), (n0, .inr (2, [.int (nI N), .int ar, .ref n1])), (n1, .inl (τ 0, 576, .inl len))]) ⟨hx, hb, hml, hown, hts⟩ (cl_tight l D τ a0 a1 a2 a3 n0 n1 N ar len k fd fh fp ti (by first | assumption | omega) (by first | assumption | omega)) (kcwV hts qL_findTightArcs w_192 rfl rfl ⟨Nat.le_of_ble_eq_true rfl, Nat.le_of_ble_eq_true rfl⟩) hK hP hD hS hA [0, 1, 2, 3, 4, 5] [] [0, 1, 2, 3, 4, 5] rfl rfl (by decide) (by decide) (by decide) rfl rfl rfl (by decide) hl.1 rfl rfl (Nat.le_of_ble_eq_true rfl) ⟨Nat.zero_le _, Nat.zero_le _⟩ dL_settle_121 (fun H locs hP hD hS => ?_)
      refine lv_iinc (v := nI (k + 1)) (lv' := [(4, .int (nI (k + 1))), (0, .ref a0), (1, .ref n0)]) hx hb dL_settle_124 hl (k := 2) rfl (nI_1 _) (by decide) rfl (fun ls hl => ?_)
      refine lv_goto (tgt := 99) hx hb dL_settle_127 (by decide) ?_
      have e_ : (kTgU N len fd fh) k (fp, ti) = ((kItr (kTg len fd fh k) N (fp, ti)).1, (kItr (kTg len fd fh k) N (fp, ti)).2) := by unfold kTgU; exact kIf_f c_114
      (try rw [e_] at ih)
      exact ih H locs ls hP hD hS (lv_sub hl [1, 2, 0] rfl)
set_option maxHeartbeats 4000000 in
set_option maxRecDepth 100000 in
theorem cl_settle (l : Launch) (D : va_G) (τ : Nat → ClassId) (a0 : Nat) (a1 : Nat) (a2 : Nat) (a3 : Nat) (n0 : Nat) (n1 : Nat) (N : Nat) (ar : Int32) (len : Nat → Int32) (x : Int32) (fd : Nat → Int32) (fh : Nat → Int32) (fp : Nat → Int32) (ti : Int32) (hN : N ≤ 24) : kMv l D τ yL_settle (kWs yL_settle cL_settle 7 none) { frames := 2, cells := 0, slots := 0, locals := 48 } [.ref a0, .ref n0, .int x] [(a0, .inr (1, [.ref a1, .ref a2, .ref a3, .int ti])), (a1, .inl (τ 0, 24, .inl fd)), (a2, .inl (τ 0, 24, .inl fh)), (a3, .inl (τ 0, 24, .inl fp)), (n0, .inr (2, [.int (nI N), .int ar, .ref n1])), (n1, .inl (τ 0, 576, .inl len))] [(a0, .inr (1, [.ref a1, .ref a2, .ref a3, .int ((kSettle N len x).2.2.2)])), (a1, .inl (τ 0, 24, .inl ((kSettle N len x).1))), (a2, .inl (τ 0, 24, .inl ((kSettle N len x).2.1))), (a3, .inl (τ 0, 24, .inl ((kSettle N len x).2.2.1))), (n0, .inr (2, [.int (nI N), .int ar, .ref n1])), (n1, .inl (τ 0, 576, .inl len))] := by
  intro sz
  refine Met.ofW (cc := cL_settle) (maxL := 7) (ret := none) (by decide) rfl ?_
  intro p e s m args below meth c s₁ B hml hv
  obtain ⟨rfl, hsz, hP, hK, hD0⟩ := hv
  have hx := B.exec
  have hb := B.bytes
  have hr := B.returns
  have hts := fun w (hw : w ∈ kTbl) => atoms_spec (ws := (kWs yL_settle cL_settle 7 none)) B.pre w (List.mem_cons_of_mem _ hw)
  have hown : s.vm.findClass RL = some m.cls := findClass_of_methodNamed B.named
  have hlocks := B.notSynchronized
  subst hsz
  have hD := hD0.self (sz := s.heap.size)
  generalize hAe : va_A [(a0, .inr (1, [.ref a1, .ref a2, .ref a3, .int ti])), (a1, .inl (τ 0, 24, .inl fd)), (a2, .inl (τ 0, 24, .inl fh)), (a3, .inl (τ 0, 24, .inl fp)), (n0, .inr (2, [.int (nI N), .int ar, .ref n1])), (n1, .inl (τ 0, 576, .inl len))] s.heap.size = A at hD ⊢
  have hA : ∀ q : Nat, s.heap.size ≤ q → A q := fun q h => by rw [← hAe]; exact Or.inr h
  have hS : va_S A s.heap s.heap [] := va_S.rf
  have hP : va_P D vwCl [(a0, .inr (1, [.ref a1, .ref a2, .ref a3, .int ti])), (a1, .inl (τ 0, 24, .inl fd)), (a2, .inl (τ 0, 24, .inl fh)), (a3, .inl (τ 0, 24, .inl fp)), (n0, .inr (2, [.int (nI N), .int ar, .ref n1])), (n1, .inl (τ 0, 576, .inl len))] s.heap := hP
  have hl := lv_entry ([.ref a0, .ref n0, .int x]) (n := 7) (Nat.le_of_ble_eq_true rfl)
  rw [lg_entry_eq]
  generalize (lg_sl ([.ref a0, .ref n0, .int x]) ++ List.replicate (7 - (lg_sl ([.ref a0, .ref n0, .int x])).length) Slot.unset).toArray = ls at hl ⊢
  have hl : lv_has ls 7 [(0, .ref a0), (1, .ref n0), (2, .int x)] := hl
  skip
  refine lv_aload_n hx hb dL_settle_0 rfl (lv_at hl 0 rfl) ?_
  refine kc_Vv (As := []) (rest := []) (wr := [(n0, .inr (2, [.int (nI N), .int ar, .ref n1])), (n1, .inl (τ 0, 576, .inl len))]) (W1 := [(a0, .inr (1, [.ref a1, .ref a2, .ref a3, .int 0])), (a1, .inl (τ 0, 24, .inl kNo)), (a2, .inl (τ 0, 24, .inl kNo)), (a3, .inl (τ 0, 24, .inl kNo)), (n0, .inr (2, [.int (nI N), .int ar, .ref n1])), (n1, .inl (τ 0, 576, .inl len))]) ⟨hx, hb, hml, hown, hts⟩ (cl_clear l D τ a0 a1 a2 a3 fd fh fp ti ) (kcwV hts qL_clear w_74 rfl rfl ⟨Nat.le_of_ble_eq_true rfl, Nat.le_of_ble_eq_true rfl⟩) hK hP hD hS hA [0, 1, 2, 3] [4, 5] [2, 3, 4, 5, 0, 1] rfl rfl (by decide) (by decide) (by decide) rfl rfl rfl (by decide) hl.1 rfl rfl (Nat.le_of_ble_eq_true rfl) ⟨Nat.zero_le _, Nat.zero_le _⟩ dL_settle_1 (fun H locs hP hD hS => ?_)
  refine lv_aload_n hx hb dL_settle_4 rfl (lv_at hl 1 rfl) ?_
  refine lv_iload_n hx hb dL_settle_5 rfl (lv_at hl 2 rfl) ?_
  refine kc_Vi (As := [.int x]) (rest := []) (wr := [(a0, .inr (1, [.ref a1, .ref a2, .ref a3, .int 0])), (a1, .inl (τ 0, 24, .inl kNo)), (a2, .inl (τ 0, 24, .inl kNo)), (a3, .inl (τ 0, 24, .inl kNo)), (n1, .inl (τ 0, 576, .inl len))]) (W1 := [(a0, .inr (1, [.ref a1, .ref a2, .ref a3, .int 0])), (a1, .inl (τ 0, 24, .inl kNo)), (a2, .inl (τ 0, 24, .inl kNo)), (a3, .inl (τ 0, 24, .inl kNo)), (n0, .inr (2, [.int (nI N), .int ar, .ref n1])), (n1, .inl (τ 0, 576, .inl len))]) ⟨hx, hb, hml, hown, hts⟩ (cn_isNode l D τ n0 n1 N ar x ) (kcwV hts qN_isNode w_175 rfl rfl ⟨Nat.le_of_ble_eq_true rfl, Nat.le_of_ble_eq_true rfl⟩) hK hP hD hS hA [4] [0, 1, 2, 3, 5] [0, 1, 2, 3, 5, 4] rfl rfl (by decide) (by decide) (by decide) rfl rfl rfl (by decide) hl.1 rfl rfl (Nat.le_of_ble_eq_true rfl) ⟨Nat.zero_le _, Nat.zero_le _⟩ dL_settle_6 (fun H locs hP hD hS => ?_)
  refine lv_if_ne (tgt := 13) hx hb dL_settle_9 (by decide) (fun c_9 => ?_) (fun c_9 => ?_)
  · skip
    have c_9 := kB_1.mp c_9
    obtain ⟨j, hj, rfl⟩ := kNode_n hN c_9
    refine lv_aload_n hx hb dL_settle_13 rfl (lv_at hl 0 rfl) ?_
    refine va_get (D := D) (ci := 1) (v := .ref a1) (C := RL) (T := TL) (N := 4) hx hb hts iL hown hK hP 0 rfl rfl 0 (by decide) (hts _ w_80) (fun _ h9 => h9) rfl dL_settle_14 ?_
    refine lv_iload_n hx hb dL_settle_17 rfl (lv_at hl 2 rfl) ?_
    refine lv_iconst (v := 0) hx hb dL_settle_18 (by decide) ?_
    refine ka_iast (k := j) hx hb hK hP hD hS 1 0 rfl rfl (by omega) (by omega) rfl dL_settle_19 (fun H locs hP hD hS => ?_)
    have hP : va_P D vwCl [(a0, .inr (1, [.ref a1, .ref a2, .ref a3, .int 0])), (a1, .inl (τ 0, 24, .inl (upd kNo j 0))), (a2, .inl (τ 0, 24, .inl kNo)), (a3, .inl (τ 0, 24, .inl kNo)), (n0, .inr (2, [.int (nI N), .int ar, .ref n1])), (n1, .inl (τ 0, 576, .inl len))] H := hP
    have hD : va_D A [(a0, .inr (1, [.ref a1, .ref a2, .ref a3, .int 0])), (a1, .inl (τ 0, 24, .inl (upd kNo j 0))), (a2, .inl (τ 0, 24, .inl kNo)), (a3, .inl (τ 0, 24, .inl kNo)), (n0, .inr (2, [.int (nI N), .int ar, .ref n1])), (n1, .inl (τ 0, 576, .inl len))] := hD
    refine lv_aload_n hx hb dL_settle_20 rfl (lv_at hl 0 rfl) ?_
    refine va_get (D := D) (ci := 1) (v := .ref a2) (C := RL) (T := TL) (N := 4) hx hb hts iL hown hK hP 0 rfl rfl 1 (by decide) (hts _ w_82) (fun _ h9 => h9) rfl dL_settle_21 ?_
    refine lv_iload_n hx hb dL_settle_24 rfl (lv_at hl 2 rfl) ?_
    refine lv_iconst (v := 0) hx hb dL_settle_25 (by decide) ?_
    refine ka_iast (k := j) hx hb hK hP hD hS 2 0 rfl rfl (by omega) (by omega) rfl dL_settle_26 (fun H locs hP hD hS => ?_)
    have hP : va_P D vwCl [(a0, .inr (1, [.ref a1, .ref a2, .ref a3, .int 0])), (a1, .inl (τ 0, 24, .inl (upd kNo j 0))), (a2, .inl (τ 0, 24, .inl (upd kNo j 0))), (a3, .inl (τ 0, 24, .inl kNo)), (n0, .inr (2, [.int (nI N), .int ar, .ref n1])), (n1, .inl (τ 0, 576, .inl len))] H := hP
    have hD : va_D A [(a0, .inr (1, [.ref a1, .ref a2, .ref a3, .int 0])), (a1, .inl (τ 0, 24, .inl (upd kNo j 0))), (a2, .inl (τ 0, 24, .inl (upd kNo j 0))), (a3, .inl (τ 0, 24, .inl kNo)), (n0, .inr (2, [.int (nI N), .int ar, .ref n1])), (n1, .inl (τ 0, 576, .inl len))] := hD
    refine lv_iconst (v := 1) hx hb dL_settle_27 (by decide) ?_
    refine lv_iload_n hx hb dL_settle_28 rfl (lv_at hl 2 rfl) ?_
    refine lv_ishl hx hb dL_settle_29 ?_
    refine lv_istore_n (lv' := [(3, .int (1 <<< ((nI j) &&& 31))), (0, .ref a0), (1, .ref n0), (2, .int (nI j))]) hx hb dL_settle_30 rfl hl (by decide) rfl (fun ls hl => ?_)
    refine lv_iconst (v := 0) hx hb dL_settle_31 (by decide) ?_
    refine lv_istore (lv' := [(4, .int 0), (3, .int (1 <<< ((nI j) &&& 31))), (0, .ref a0), (1, .ref n0), (2, .int (nI j))]) hx hb dL_settle_32 hl (by decide) rfl (fun ls hl => ?_)
    refine ll_outer hx hb hml hown hts hK hA a0 a1 a2 a3 n0 n1 N ar len (upd kNo j 0) (upd kNo j 0) kNo 0 (1 <<< ((nI j) &&& 31)) (by first | assumption | omega) (fun H locs ls hP hD hS hl => ?_) N 0 (by omega) _ _ ls hP hD hS (lv_sub hl [2, 3, 1, 0] rfl)
    refine lv_iconst (v := 0) hx hb dL_settle_96 (by decide) ?_
    refine lv_istore (lv' := [(4, .int 0), (0, .ref a0), (1, .ref n0)]) hx hb dL_settle_97 hl (by decide) rfl (fun ls hl => ?_)
    refine ll_tights hx hb hml hown hts hK hA a0 a1 a2 a3 n0 n1 N ar len ((kItr (kRnd N len) (N) ((upd kNo j 0), (upd kNo j 0), (1 <<< ((nI j) &&& 31)))).1) ((kItr (kRnd N len) (N) ((upd kNo j 0), (upd kNo j 0), (1 <<< ((nI j) &&& 31)))).2.1) kNo 0 (by first | assumption | omega) (fun H locs ls hP hD hS hl => ?_) N 0 (by omega) _ _ ls hP hD hS (lv_sub hl [1, 2, 0] rfl)
    have e_ : kSettle N len (nI j) = kSet N len j := by unfold kSettle; rw [kIf_t c_9, nI_clamp (by omega)]
    exact k_vret hx hb hr hlocks hK hS (by rw [e_]; exact hP) (by rw [e_]; exact hD) dL_settle_130
  · skip
    have c_9 := kB_0.mp c_9
    have e_ : kSettle N len x = (kNo, kNo, kNo, 0) := by unfold kSettle; exact kIf_f c_9
    exact k_vret hx hb hr hlocks hK hS (by rw [e_]; exact hP) (by rw [e_]; exact hD) dL_settle_12
set_option maxHeartbeats 4000000 in
set_option maxRecDepth 100000 in
theorem ll_back {p : Program} {l : Launch} {e : Env} {s : State} {m : MethodId} {args : Array Value} {below : List Frame} {meth : Method} {c : Code} {Q : State → Prop} {D : va_G} {τ : Nat → ClassId} {A : Nat → Prop} (hx : p.tables.exec = Jvm.exec) (hb : c.code = cL_nodeOnWay) (hml : c.maxLocals = 5) (hown : s.vm.findClass RL = some m.cls) (hts : ∀ w ∈ kTbl, w.before args s = true) (hK : va_K D vwCl (kTys τ) s) (hA : ∀ q : Nat, s.heap.size ≤ q → A q) (a0 : Nat) (a1 : Nat) (a2 : Nat) (a3 : Nat) (fd : Nat → Int32) (fh : Nat → Int32) (fp : Nat → Int32) (ti : Int32) (v : Nat) (i : Nat) (K : Nat) (hv : v < 24) (hi : i ≤ K) (hK24 : K < 24) (hp : kPar fp)
    (kx : ∀ (H : Heap) (locs : List Loc) (ls : Array Slot), va_P D vwCl [(a0, .inr (1, [.ref a1, .ref a2, .ref a3, .int ti])), (a1, .inl (τ 0, 24, .inl fd)), (a2, .inl (τ 0, 24, .inl fh)), (a3, .inl (τ 0, 24, .inl fp))] H → va_D A [(a0, .inr (1, [.ref a1, .ref a2, .ref a3, .int ti])), (a1, .inl (τ 0, 24, .inl fd)), (a2, .inl (τ 0, 24, .inl fh)), (a3, .inl (τ 0, 24, .inl fp))] → va_S A s.heap H locs → lv_has ls 5 [(3, .int (kItr (kBack fp) (K - i) (nI v)))] → W p l e (headSpec (kWs yL_nodeOnWay cL_nodeOnWay 5 (some .int)) { frames := 0, cells := 0, slots := 0, locals := 0 }).room s m args below meth c H locs 0 0 Q (F0 m 33 ls [])) :
    ∀ (n k : Nat), k + n = K - i → ∀ (H : Heap) (locs : List Loc) (ls : Array Slot), va_P D vwCl [(a0, .inr (1, [.ref a1, .ref a2, .ref a3, .int ti])), (a1, .inl (τ 0, 24, .inl fd)), (a2, .inl (τ 0, 24, .inl fh)), (a3, .inl (τ 0, 24, .inl fp))] H → va_D A [(a0, .inr (1, [.ref a1, .ref a2, .ref a3, .int ti])), (a1, .inl (τ 0, 24, .inl fd)), (a2, .inl (τ 0, 24, .inl fh)), (a3, .inl (τ 0, 24, .inl fp))] → va_S A s.heap H locs → lv_has ls 5 [(0, .ref a0), (2, .int (nI i)), (3, .int (kItr (kBack fp) k (nI v))), (4, .int (nI (K - k)))] → W p l e (headSpec (kWs yL_nodeOnWay cL_nodeOnWay 5 (some .int)) { frames := 0, cells := 0, slots := 0, locals := 0 }).room s m args below meth c H locs 0 0 Q (F0 m 10 ls []) := by
  intro n
  induction n with
  | zero =>
    intro k hk H locs ls hP hD hS hl
    have hkN : K - i = k := by omega
    subst hkN
    revert hP hD hl
    generalize hst : (kItr (kBack fp) (K - i) (nI v)) = x
    intro hP hD hl
    have hP : va_P D vwCl [(a0, .inr (1, [.ref a1, .ref a2, .ref a3, .int ti])), (a1, .inl (τ 0, 24, .inl fd)), (a2, .inl (τ 0, 24, .inl fh)), (a3, .inl (τ 0, 24, .inl fp))] H := hP
    have hD : va_D A [(a0, .inr (1, [.ref a1, .ref a2, .ref a3, .int ti])), (a1, .inl (τ 0, 24, .inl fd)), (a2, .inl (τ 0, 24, .inl fh)), (a3, .inl (τ 0, 24, .inl fp))] := hD
    have hl : lv_has ls 5 [(0, .ref a0), (2, .int (nI i)), (3, .int x), (4, .int (nI (K - (K - i))))] := hl
    refine lv_iload hx hb dL_nodeOnWay_10 (lv_at hl 3 rfl) ?_
    refine lv_iload_n hx hb dL_nodeOnWay_12 rfl (lv_at hl 1 rfl) ?_
    refine lv_icmp_le (tgt := 33) hx hb dL_nodeOnWay_13 (by decide) (fun c_13 => ?_) (fun c_13 => absurd (nI_le (by omega) (by omega)) c_13)
    exact kx H locs ls (by (try rw [hst]); exact hP) (by (try rw [hst]); exact hD) hS (by (try rw [hst]); exact lv_sub hl [2] rfl)
  | succ n ih =>
    intro k hk H locs ls hP hD hS hl
    have hkN : k < K - i := by omega
    have ih := ih (k + 1) (by omega)
    rw [kItr_s] at ih
    revert hP hD hl ih
    generalize hst : (kItr (kBack fp) k (nI v)) = x
    intro hP hD hl ih
    have hP : va_P D vwCl [(a0, .inr (1, [.ref a1, .ref a2, .ref a3, .int ti])), (a1, .inl (τ 0, 24, .inl fd)), (a2, .inl (τ 0, 24, .inl fh)), (a3, .inl (τ 0, 24, .inl fp))] H := hP
    have hD : va_D A [(a0, .inr (1, [.ref a1, .ref a2, .ref a3, .int ti])), (a1, .inl (τ 0, 24, .inl fd)), (a2, .inl (τ 0, 24, .inl fh)), (a3, .inl (τ 0, 24, .inl fp))] := hD
    have hl : lv_has ls 5 [(0, .ref a0), (2, .int (nI i)), (3, .int x), (4, .int (nI (K - k)))] := hl
    refine lv_iload hx hb dL_nodeOnWay_10 (lv_at hl 3 rfl) ?_
    refine lv_iload_n hx hb dL_nodeOnWay_12 rfl (lv_at hl 1 rfl) ?_
    refine lv_icmp_le (tgt := 33) hx hb dL_nodeOnWay_13 (by decide) (fun c_13 => absurd c_13 (nI_ge (by omega) (by omega))) (fun c_13 => ?_)
    refine lv_iload_n hx hb dL_nodeOnWay_16 rfl (lv_at hl 2 rfl) ?_
    refine lv_if_lt (tgt := 33) hx hb dL_nodeOnWay_17 (by decide) (fun c_17 => ?_) (fun c_17 => ?_)
    · skip
      have e_ := kBack_stop hst c_17 (n + 1)
      rw [hk] at e_
      exact kx H locs ls hP hD hS (by rw [e_]; exact lv_sub hl [2] rfl)
    · skip
      obtain ⟨u, hu, rfl⟩ : ∃ u, u < 24 ∧ x = nI u := by
        rcases kBack_in hp hv k with g | g
        · rw [hst] at g; exact absurd g c_17
        · rw [hst] at g; exact g
      refine lv_aload_n hx hb dL_nodeOnWay_20 rfl (lv_at hl 0 rfl) ?_
      refine va_get (D := D) (ci := 1) (v := .ref a3) (C := RL) (T := TL) (N := 4) hx hb hts iL hown hK hP 0 rfl rfl 2 (by decide) (hts _ w_84) (fun _ h9 => h9) rfl dL_nodeOnWay_21 ?_
      refine lv_iload_n hx hb dL_nodeOnWay_24 rfl (lv_at hl 2 rfl) ?_
      refine ka_iald (k := u) hx hb hK hP 3 0 rfl rfl (by omega) (by omega) rfl dL_nodeOnWay_25 ?_
      refine lv_istore_n (lv' := [(3, .int (fp u)), (0, .ref a0), (2, .int (nI i)), (4, .int (nI (K - k)))]) hx hb dL_nodeOnWay_26 rfl hl (by decide) rfl (fun ls hl => ?_)
      refine lv_iinc (v := nI (K - (k + 1))) (lv' := [(4, .int (nI (K - (k + 1)))), (3, .int (fp u)), (0, .ref a0), (2, .int (nI i))]) hx hb dL_nodeOnWay_27 hl (k := 3) rfl (by rw [show K - (k + 1) = K - k - 1 by omega]; exact sb_m1 (by omega)) (by decide) rfl (fun ls hl => ?_)
      refine lv_goto (tgt := 10) hx hb dL_nodeOnWay_30 (by decide) ?_
      have e_ : (kBack fp) k (nI u) = (fp u) := by unfold kBack; rw [kIf_f c_17, nI_clamp (by omega)]
      (try rw [e_] at ih)
      exact ih H locs ls hP hD hS (lv_sub hl [2, 3, 1, 0] rfl)
set_option maxHeartbeats 4000000 in
set_option maxRecDepth 100000 in
theorem cl_node (l : Launch) (D : va_G) (τ : Nat → ClassId) (a0 : Nat) (a1 : Nat) (a2 : Nat) (a3 : Nat) (fd : Nat → Int32) (fh : Nat → Int32) (fp : Nat → Int32) (ti : Int32) (v : Nat) (i : Nat) (K : Nat) (hv : v < 24) (hi : i ≤ K) (hK24 : K < 24) (hp : kPar fp) (hKv : fh v = nI K) : kMi l D τ yL_nodeOnWay (kWs yL_nodeOnWay cL_nodeOnWay 5 (some .int)) { frames := 0, cells := 0, slots := 0, locals := 0 } [.ref a0, .int (nI v), .int (nI i)] [(a0, .inr (1, [.ref a1, .ref a2, .ref a3, .int ti])), (a1, .inl (τ 0, 24, .inl fd)), (a2, .inl (τ 0, 24, .inl fh)), (a3, .inl (τ 0, 24, .inl fp))] (kItr (kBack fp) (K - i) (nI v)) [(a0, .inr (1, [.ref a1, .ref a2, .ref a3, .int ti])), (a1, .inl (τ 0, 24, .inl fd)), (a2, .inl (τ 0, 24, .inl fh)), (a3, .inl (τ 0, 24, .inl fp))] := by
  intro sz
  refine Met.ofW (cc := cL_nodeOnWay) (maxL := 5) (ret := (some .int)) (by decide) rfl ?_
  intro p e s m args below meth c s₁ B hml hv
  obtain ⟨rfl, hsz, hP, hK, hD0⟩ := hv
  have hx := B.exec
  have hb := B.bytes
  have hr := B.returns
  have hts := fun w (hw : w ∈ kTbl) => atoms_spec (ws := (kWs yL_nodeOnWay cL_nodeOnWay 5 (some .int))) B.pre w (List.mem_cons_of_mem _ hw)
  have hown : s.vm.findClass RL = some m.cls := findClass_of_methodNamed B.named
  have hlocks := B.notSynchronized
  subst hsz
  have hD := hD0.self (sz := s.heap.size)
  generalize hAe : va_A [(a0, .inr (1, [.ref a1, .ref a2, .ref a3, .int ti])), (a1, .inl (τ 0, 24, .inl fd)), (a2, .inl (τ 0, 24, .inl fh)), (a3, .inl (τ 0, 24, .inl fp))] s.heap.size = A at hD ⊢
  have hA : ∀ q : Nat, s.heap.size ≤ q → A q := fun q h => by rw [← hAe]; exact Or.inr h
  have hS : va_S A s.heap s.heap [] := va_S.rf
  have hP : va_P D vwCl [(a0, .inr (1, [.ref a1, .ref a2, .ref a3, .int ti])), (a1, .inl (τ 0, 24, .inl fd)), (a2, .inl (τ 0, 24, .inl fh)), (a3, .inl (τ 0, 24, .inl fp))] s.heap := hP
  have hl := lv_entry ([.ref a0, .int (nI v), .int (nI i)]) (n := 5) (Nat.le_of_ble_eq_true rfl)
  rw [lg_entry_eq]
  generalize (lg_sl ([.ref a0, .int (nI v), .int (nI i)]) ++ List.replicate (5 - (lg_sl ([.ref a0, .int (nI v), .int (nI i)])).length) Slot.unset).toArray = ls at hl ⊢
  have hl : lv_has ls 5 [(0, .ref a0), (1, .int (nI v)), (2, .int (nI i))] := hl
  skip
  refine lv_iload_n hx hb dL_nodeOnWay_0 rfl (lv_at hl 1 rfl) ?_
  refine lv_istore_n (lv' := [(3, .int (nI v)), (0, .ref a0), (1, .int (nI v)), (2, .int (nI i))]) hx hb dL_nodeOnWay_1 rfl hl (by decide) rfl (fun ls hl => ?_)
  refine lv_aload_n hx hb dL_nodeOnWay_2 rfl (lv_at hl 1 rfl) ?_
  refine va_get (D := D) (ci := 1) (v := .ref a2) (C := RL) (T := TL) (N := 4) hx hb hts iL hown hK hP 0 rfl rfl 1 (by decide) (hts _ w_82) (fun _ h9 => h9) rfl dL_nodeOnWay_3 ?_
  refine lv_iload_n hx hb dL_nodeOnWay_6 rfl (lv_at hl 2 rfl) ?_
  refine ka_iald (k := v) hx hb hK hP 2 0 rfl rfl (by omega) (by omega) rfl dL_nodeOnWay_7 ?_
  refine lv_topi (fun y_ ey_ => ?_)
  obtain rfl : y_ = nI K := ey_.trans hKv
  refine lv_istore (lv' := [(4, .int (nI K)), (3, .int (nI v)), (0, .ref a0), (1, .int (nI v)), (2, .int (nI i))]) hx hb dL_nodeOnWay_8 hl (by decide) rfl (fun ls hl => ?_)
  refine ll_back hx hb hml hown hts hK hA a0 a1 a2 a3 fd fh fp ti v i K (by first | assumption | omega) (by first | assumption | omega) (by first | assumption | omega) (by first | assumption | omega) (fun H locs ls hP hD hS hl => ?_) (K - i) 0 (by omega) _ _ ls hP hD hS (lv_sub hl [2, 4, 1, 0] rfl)
  refine lv_iload_n hx hb dL_nodeOnWay_33 rfl (lv_at hl 0 rfl) ?_
  exact k_iret hx hb hr hlocks hK hS rfl hP hD dL_nodeOnWay_34
set_option maxHeartbeats 4000000 in
set_option maxRecDepth 100000 in
theorem ll_diff {p : Program} {l : Launch} {e : Env} {s : State} {m : MethodId} {args : Array Value} {below : List Frame} {meth : Method} {c : Code} {Q : State → Prop} {D : va_G} {τ : Nat → ClassId} {A : Nat → Prop} (hx : p.tables.exec = Jvm.exec) (hb : c.code = cL_differingNodes) (hml : c.maxLocals = 4) (hown : s.vm.findClass RL = some m.cls) (hts : ∀ w ∈ kTbl, w.before args s = true) (hK : va_K D vwCl (kTys τ) s) (hA : ∀ q : Nat, s.heap.size ≤ q → A q) (a0 : Nat) (a1 : Nat) (a2 : Nat) (a3 : Nat) (fd : Nat → Int32) (fh : Nat → Int32) (fp : Nat → Int32) (ti : Int32) (b0 : Nat) (b1 : Nat) (b2 : Nat) (b3 : Nat) (ed : Nat → Int32) (eh : Nat → Int32) (ep : Nat → Int32) (te : Int32) 
    (kx : ∀ (H : Heap) (locs : List Loc) (ls : Array Slot), va_P D vwCl [(a0, .inr (1, [.ref a1, .ref a2, .ref a3, .int ti])), (a1, .inl (τ 0, 24, .inl fd)), (a2, .inl (τ 0, 24, .inl fh)), (a3, .inl (τ 0, 24, .inl fp)), (b0, .inr (1, [.ref b1, .ref b2, .ref b3, .int te])), (b1, .inl (τ 0, 24, .inl ed)), (b2, .inl (τ 0, 24, .inl eh)), (b3, .inl (τ 0, 24, .inl ep))] H → va_D A [(a0, .inr (1, [.ref a1, .ref a2, .ref a3, .int ti])), (a1, .inl (τ 0, 24, .inl fd)), (a2, .inl (τ 0, 24, .inl fh)), (a3, .inl (τ 0, 24, .inl fp)), (b0, .inr (1, [.ref b1, .ref b2, .ref b3, .int te])), (b1, .inl (τ 0, 24, .inl ed)), (b2, .inl (τ 0, 24, .inl eh)), (b3, .inl (τ 0, 24, .inl ep))] → va_S A s.heap H locs → lv_has ls 4 [(2, .int (kItr (kDif fd fh fp ed eh ep) 24 (0)))] → W p l e (headSpec (kWs yL_differingNodes cL_differingNodes 4 (some .int)) { frames := 0, cells := 0, slots := 0, locals := 0 }).room s m args below meth c H locs 0 0 Q (F0 m 67 ls [])) :
    ∀ (n k : Nat), k + n = 24 → ∀ (H : Heap) (locs : List Loc) (ls : Array Slot), va_P D vwCl [(a0, .inr (1, [.ref a1, .ref a2, .ref a3, .int ti])), (a1, .inl (τ 0, 24, .inl fd)), (a2, .inl (τ 0, 24, .inl fh)), (a3, .inl (τ 0, 24, .inl fp)), (b0, .inr (1, [.ref b1, .ref b2, .ref b3, .int te])), (b1, .inl (τ 0, 24, .inl ed)), (b2, .inl (τ 0, 24, .inl eh)), (b3, .inl (τ 0, 24, .inl ep))] H → va_D A [(a0, .inr (1, [.ref a1, .ref a2, .ref a3, .int ti])), (a1, .inl (τ 0, 24, .inl fd)), (a2, .inl (τ 0, 24, .inl fh)), (a3, .inl (τ 0, 24, .inl fp)), (b0, .inr (1, [.ref b1, .ref b2, .ref b3, .int te])), (b1, .inl (τ 0, 24, .inl ed)), (b2, .inl (τ 0, 24, .inl eh)), (b3, .inl (τ 0, 24, .inl ep))] → va_S A s.heap H locs → lv_has ls 4 [(0, .ref a0), (1, .ref b0), (2, .int (kItr (kDif fd fh fp ed eh ep) k (0))), (3, .int (nI k))] → W p l e (headSpec (kWs yL_differingNodes cL_differingNodes 4 (some .int)) { frames := 0, cells := 0, slots := 0, locals := 0 }).room s m args below meth c H locs 0 0 Q (F0 m 4 ls []) := by
  intro n
  induction n with
  | zero =>
    intro k hk H locs ls hP hD hS hl
    have hkN : 24 = k := by omega
    subst hkN
    revert hP hD hl
    generalize hst : (kItr (kDif fd fh fp ed eh ep) 24 (0)) = x
    intro hP hD hl
    have hP : va_P D vwCl [(a0, .inr (1, [.ref a1, .ref a2, .ref a3, .int ti])), (a1, .inl (τ 0, 24, .inl fd)), (a2, .inl (τ 0, 24, .inl fh)), (a3, .inl (τ 0, 24, .inl fp)), (b0, .inr (1, [.ref b1, .ref b2, .ref b3, .int te])), (b1, .inl (τ 0, 24, .inl ed)), (b2, .inl (τ 0, 24, .inl eh)), (b3, .inl (τ 0, 24, .inl ep))] H := hP
    have hD : va_D A [(a0, .inr (1, [.ref a1, .ref a2, .ref a3, .int ti])), (a1, .inl (τ 0, 24, .inl fd)), (a2, .inl (τ 0, 24, .inl fh)), (a3, .inl (τ 0, 24, .inl fp)), (b0, .inr (1, [.ref b1, .ref b2, .ref b3, .int te])), (b1, .inl (τ 0, 24, .inl ed)), (b2, .inl (τ 0, 24, .inl eh)), (b3, .inl (τ 0, 24, .inl ep))] := hD
    have hl : lv_has ls 4 [(0, .ref a0), (1, .ref b0), (2, .int x), (3, .int (nI 24))] := hl
    refine lv_iload_n hx hb dL_differingNodes_4 rfl (lv_at hl 3 rfl) ?_
    refine lv_bipush (v := 24) hx hb dL_differingNodes_5 (by decide) ?_
    refine lv_icmp_ge (tgt := 67) hx hb dL_differingNodes_7 (by decide) (fun c_7 => ?_) (fun c_7 => absurd (by decide) c_7)
    exact kx H locs ls (by (try rw [hst]); exact hP) (by (try rw [hst]); exact hD) hS (by (try rw [hst]); exact lv_sub hl [2] rfl)
  | succ n ih =>
    intro k hk H locs ls hP hD hS hl
    have hkN : k < 24 := by omega
    have ih := ih (k + 1) (by omega)
    rw [kItr_s] at ih
    revert hP hD hl ih
    generalize hst : (kItr (kDif fd fh fp ed eh ep) k (0)) = x
    intro hP hD hl ih
    have hP : va_P D vwCl [(a0, .inr (1, [.ref a1, .ref a2, .ref a3, .int ti])), (a1, .inl (τ 0, 24, .inl fd)), (a2, .inl (τ 0, 24, .inl fh)), (a3, .inl (τ 0, 24, .inl fp)), (b0, .inr (1, [.ref b1, .ref b2, .ref b3, .int te])), (b1, .inl (τ 0, 24, .inl ed)), (b2, .inl (τ 0, 24, .inl eh)), (b3, .inl (τ 0, 24, .inl ep))] H := hP
    have hD : va_D A [(a0, .inr (1, [.ref a1, .ref a2, .ref a3, .int ti])), (a1, .inl (τ 0, 24, .inl fd)), (a2, .inl (τ 0, 24, .inl fh)), (a3, .inl (τ 0, 24, .inl fp)), (b0, .inr (1, [.ref b1, .ref b2, .ref b3, .int te])), (b1, .inl (τ 0, 24, .inl ed)), (b2, .inl (τ 0, 24, .inl eh)), (b3, .inl (τ 0, 24, .inl ep))] := hD
    have hl : lv_has ls 4 [(0, .ref a0), (1, .ref b0), (2, .int x), (3, .int (nI k))] := hl
    refine lv_iload_n hx hb dL_differingNodes_4 rfl (lv_at hl 3 rfl) ?_
    refine lv_bipush (v := 24) hx hb dL_differingNodes_5 (by decide) ?_
    refine lv_icmp_ge (tgt := 67) hx hb dL_differingNodes_7 (by decide) (fun c_7 => absurd c_7 (nI_ge (b := 24) hkN (by decide))) (fun c_7 => ?_)
    refine lv_aload_n hx hb dL_differingNodes_10 rfl (lv_at hl 0 rfl) ?_
    refine va_get (D := D) (ci := 1) (v := .ref a1) (C := RL) (T := TL) (N := 4) hx hb hts iL hown hK hP 0 rfl rfl 0 (by decide) (hts _ w_80) (fun _ h9 => h9) rfl dL_differingNodes_11 ?_
    refine lv_iload_n hx hb dL_differingNodes_14 rfl (lv_at hl 3 rfl) ?_
    refine ka_iald (k := k) hx hb hK hP 1 0 rfl rfl (by omega) (by omega) rfl dL_differingNodes_15 ?_
    refine lv_aload_n hx hb dL_differingNodes_16 rfl (lv_at hl 1 rfl) ?_
    refine va_get (D := D) (ci := 1) (v := .ref b1) (C := RL) (T := TL) (N := 4) hx hb hts iL hown hK hP 4 rfl rfl 0 (by decide) (hts _ w_80) (fun _ h9 => h9) rfl dL_differingNodes_17 ?_
    refine lv_iload_n hx hb dL_differingNodes_20 rfl (lv_at hl 3 rfl) ?_
    refine ka_iald (k := k) hx hb hK hP 5 0 rfl rfl (by omega) (by omega) rfl dL_differingNodes_21 ?_
    refine lv_icmp_ne (tgt := 55) hx hb dL_differingNodes_22 (by decide) (fun c_22 => ?_) (fun c_22 => ?_)
    · skip
      refine lv_iload_n hx hb dL_differingNodes_55 rfl (lv_at hl 2 rfl) ?_
      refine lv_iconst (v := 1) hx hb dL_differingNodes_56 (by decide) ?_
      refine lv_iload_n hx hb dL_differingNodes_57 rfl (lv_at hl 3 rfl) ?_
      refine lv_ishl hx hb dL_differingNodes_58 ?_
      refine lv_ior hx hb dL_differingNodes_59 ?_
      refine lv_istore_n (lv' := [(2, .int (x ||| (1 <<< ((nI k) &&& 31)))), (0, .ref a0), (1, .ref b0), (3, .int (nI k))]) hx hb dL_differingNodes_60 rfl hl (by decide) rfl (fun ls hl => ?_)
      refine lv_iinc (v := nI (k + 1)) (lv' := [(3, .int (nI (k + 1))), (2, .int (x ||| (1 <<< ((nI k) &&& 31)))), (0, .ref a0), (1, .ref b0)]) hx hb dL_differingNodes_61 hl (k := 3) rfl (nI_1 _) (by decide) rfl (fun ls hl => ?_)
      refine lv_goto (tgt := 4) hx hb dL_differingNodes_64 (by decide) ?_
      have e_ : (kDif fd fh fp ed eh ep) k (x) = (x ||| (1 <<< ((nI k) &&& 31))) := by unfold kDif; exact kIf_f (fun z => c_22 z.1)
      (try rw [e_] at ih)
      exact ih H locs ls hP hD hS (lv_sub hl [2, 3, 1, 0] rfl)
    · skip
      refine lv_aload_n hx hb dL_differingNodes_25 rfl (lv_at hl 0 rfl) ?_
      refine va_get (D := D) (ci := 1) (v := .ref a2) (C := RL) (T := TL) (N := 4) hx hb hts iL hown hK hP 0 rfl rfl 1 (by decide) (hts _ w_82) (fun _ h9 => h9) rfl dL_differingNodes_26 ?_
      refine lv_iload_n hx hb dL_differingNodes_29 rfl (lv_at hl 3 rfl) ?_
      refine ka_iald (k := k) hx hb hK hP 2 0 rfl rfl (by omega) (by omega) rfl dL_differingNodes_30 ?_
      refine lv_aload_n hx hb dL_differingNodes_31 rfl (lv_at hl 1 rfl) ?_
      refine va_get (D := D) (ci := 1) (v := .ref b2) (C := RL) (T := TL) (N := 4) hx hb hts iL hown hK hP 4 rfl rfl 1 (by decide) (hts _ w_82) (fun _ h9 => h9) rfl dL_differingNodes_32 ?_
      refine lv_iload_n hx hb dL_differingNodes_35 rfl (lv_at hl 3 rfl) ?_
      refine ka_iald (k := k) hx hb hK hP 6 0 rfl rfl (by omega) (by omega) rfl dL_differingNodes_36 ?_
      refine lv_icmp_ne (tgt := 55) hx hb dL_differingNodes_37 (by decide) (fun c_37 => ?_) (fun c_37 => ?_)
      · skip
        refine lv_iload_n hx hb dL_differingNodes_55 rfl (lv_at hl 2 rfl) ?_
        refine lv_iconst (v := 1) hx hb dL_differingNodes_56 (by decide) ?_
        refine lv_iload_n hx hb dL_differingNodes_57 rfl (lv_at hl 3 rfl) ?_
        refine lv_ishl hx hb dL_differingNodes_58 ?_
        refine lv_ior hx hb dL_differingNodes_59 ?_
        refine lv_istore_n (lv' := [(2, .int (x ||| (1 <<< ((nI k) &&& 31)))), (0, .ref a0), (1, .ref b0), (3, .int (nI k))]) hx hb dL_differingNodes_60 rfl hl (by decide) rfl (fun ls hl => ?_)
        refine lv_iinc (v := nI (k + 1)) (lv' := [(3, .int (nI (k + 1))), (2, .int (x ||| (1 <<< ((nI k) &&& 31)))), (0, .ref a0), (1, .ref b0)]) hx hb dL_differingNodes_61 hl (k := 3) rfl (nI_1 _) (by decide) rfl (fun ls hl => ?_)
        refine lv_goto (tgt := 4) hx hb dL_differingNodes_64 (by decide) ?_
        have e_ : (kDif fd fh fp ed eh ep) k (x) = (x ||| (1 <<< ((nI k) &&& 31))) := by unfold kDif; exact kIf_f (fun z => c_37 z.2.1)
        (try rw [e_] at ih)
        exact ih H locs ls hP hD hS (lv_sub hl [2, 3, 1, 0] rfl)
      · skip
        refine lv_aload_n hx hb dL_differingNodes_40 rfl (lv_at hl 0 rfl) ?_
        refine va_get (D := D) (ci := 1) (v := .ref a3) (C := RL) (T := TL) (N := 4) hx hb hts iL hown hK hP 0 rfl rfl 2 (by decide) (hts _ w_84) (fun _ h9 => h9) rfl dL_differingNodes_41 ?_
        refine lv_iload_n hx hb dL_differingNodes_44 rfl (lv_at hl 3 rfl) ?_
        refine ka_iald (k := k) hx hb hK hP 3 0 rfl rfl (by omega) (by omega) rfl dL_differingNodes_45 ?_
        refine lv_aload_n hx hb dL_differingNodes_46 rfl (lv_at hl 1 rfl) ?_
        refine va_get (D := D) (ci := 1) (v := .ref b3) (C := RL) (T := TL) (N := 4) hx hb hts iL hown hK hP 4 rfl rfl 2 (by decide) (hts _ w_84) (fun _ h9 => h9) rfl dL_differingNodes_47 ?_
        refine lv_iload_n hx hb dL_differingNodes_50 rfl (lv_at hl 3 rfl) ?_
        refine ka_iald (k := k) hx hb hK hP 7 0 rfl rfl (by omega) (by omega) rfl dL_differingNodes_51 ?_
        refine lv_icmp_eq (tgt := 61) hx hb dL_differingNodes_52 (by decide) (fun c_52 => ?_) (fun c_52 => ?_)
        · skip
          refine lv_iinc (v := nI (k + 1)) (lv' := [(3, .int (nI (k + 1))), (0, .ref a0), (1, .ref b0), (2, .int x)]) hx hb dL_differingNodes_61 hl (k := 3) rfl (nI_1 _) (by decide) rfl (fun ls hl => ?_)
          refine lv_goto (tgt := 4) hx hb dL_differingNodes_64 (by decide) ?_
          have e_ : (kDif fd fh fp ed eh ep) k (x) = (x) := by unfold kDif; exact kIf_t ⟨c_22, c_37, c_52⟩
          (try rw [e_] at ih)
          exact ih H locs ls hP hD hS (lv_sub hl [1, 2, 3, 0] rfl)
        · skip
          refine lv_iload_n hx hb dL_differingNodes_55 rfl (lv_at hl 2 rfl) ?_
          refine lv_iconst (v := 1) hx hb dL_differingNodes_56 (by decide) ?_
          refine lv_iload_n hx hb dL_differingNodes_57 rfl (lv_at hl 3 rfl) ?_
          refine lv_ishl hx hb dL_differingNodes_58 ?_
          refine lv_ior hx hb dL_differingNodes_59 ?_
          refine lv_istore_n (lv' := [(2, .int (x ||| (1 <<< ((nI k) &&& 31)))), (0, .ref a0), (1, .ref b0), (3, .int (nI k))]) hx hb dL_differingNodes_60 rfl hl (by decide) rfl (fun ls hl => ?_)
          refine lv_iinc (v := nI (k + 1)) (lv' := [(3, .int (nI (k + 1))), (2, .int (x ||| (1 <<< ((nI k) &&& 31)))), (0, .ref a0), (1, .ref b0)]) hx hb dL_differingNodes_61 hl (k := 3) rfl (nI_1 _) (by decide) rfl (fun ls hl => ?_)
          refine lv_goto (tgt := 4) hx hb dL_differingNodes_64 (by decide) ?_
          have e_ : (kDif fd fh fp ed eh ep) k (x) = (x ||| (1 <<< ((nI k) &&& 31))) := by unfold kDif; exact kIf_f (fun z => c_52 z.2.2)
          (try rw [e_] at ih)
          exact ih H locs ls hP hD hS (lv_sub hl [2, 3, 1, 0] rfl)
set_option maxHeartbeats 4000000 in
set_option maxRecDepth 100000 in
theorem cl_diff (l : Launch) (D : va_G) (τ : Nat → ClassId) (a0 : Nat) (a1 : Nat) (a2 : Nat) (a3 : Nat) (fd : Nat → Int32) (fh : Nat → Int32) (fp : Nat → Int32) (ti : Int32) (b0 : Nat) (b1 : Nat) (b2 : Nat) (b3 : Nat) (ed : Nat → Int32) (eh : Nat → Int32) (ep : Nat → Int32) (te : Int32)  : kMi l D τ yL_differingNodes (kWs yL_differingNodes cL_differingNodes 4 (some .int)) { frames := 0, cells := 0, slots := 0, locals := 0 } [.ref a0, .ref b0] [(a0, .inr (1, [.ref a1, .ref a2, .ref a3, .int ti])), (a1, .inl (τ 0, 24, .inl fd)), (a2, .inl (τ 0, 24, .inl fh)), (a3, .inl (τ 0, 24, .inl fp)), (b0, .inr (1, [.ref b1, .ref b2, .ref b3, .int te])), (b1, .inl (τ 0, 24, .inl ed)), (b2, .inl (τ 0, 24, .inl eh)), (b3, .inl (τ 0, 24, .inl ep))] (kDiff (fd, fh, fp, ti) (ed, eh, ep, te)) [(a0, .inr (1, [.ref a1, .ref a2, .ref a3, .int ti])), (a1, .inl (τ 0, 24, .inl fd)), (a2, .inl (τ 0, 24, .inl fh)), (a3, .inl (τ 0, 24, .inl fp)), (b0, .inr (1, [.ref b1, .ref b2, .ref b3, .int te])), (b1, .inl (τ 0, 24, .inl ed)), (b2, .inl (τ 0, 24, .inl eh)), (b3, .inl (τ 0, 24, .inl ep))] := by
  intro sz
  refine Met.ofW (cc := cL_differingNodes) (maxL := 4) (ret := (some .int)) (by decide) rfl ?_
  intro p e s m args below meth c s₁ B hml hv
  obtain ⟨rfl, hsz, hP, hK, hD0⟩ := hv
  have hx := B.exec
  have hb := B.bytes
  have hr := B.returns
  have hts := fun w (hw : w ∈ kTbl) => atoms_spec (ws := (kWs yL_differingNodes cL_differingNodes 4 (some .int))) B.pre w (List.mem_cons_of_mem _ hw)
  have hown : s.vm.findClass RL = some m.cls := findClass_of_methodNamed B.named
  have hlocks := B.notSynchronized
  subst hsz
  have hD := hD0.self (sz := s.heap.size)
  generalize hAe : va_A [(a0, .inr (1, [.ref a1, .ref a2, .ref a3, .int ti])), (a1, .inl (τ 0, 24, .inl fd)), (a2, .inl (τ 0, 24, .inl fh)), (a3, .inl (τ 0, 24, .inl fp)), (b0, .inr (1, [.ref b1, .ref b2, .ref b3, .int te])), (b1, .inl (τ 0, 24, .inl ed)), (b2, .inl (τ 0, 24, .inl eh)), (b3, .inl (τ 0, 24, .inl ep))] s.heap.size = A at hD ⊢
  have hA : ∀ q : Nat, s.heap.size ≤ q → A q := fun q h => by rw [← hAe]; exact Or.inr h
  have hS : va_S A s.heap s.heap [] := va_S.rf
  have hP : va_P D vwCl [(a0, .inr (1, [.ref a1, .ref a2, .ref a3, .int ti])), (a1, .inl (τ 0, 24, .inl fd)), (a2, .inl (τ 0, 24, .inl fh)), (a3, .inl (τ 0, 24, .inl fp)), (b0, .inr (1, [.ref b1, .ref b2, .ref b3, .int te])), (b1, .inl (τ 0, 24, .inl ed)), (b2, .inl (τ 0, 24, .inl eh)), (b3, .inl (τ 0, 24, .inl ep))] s.heap := hP
  have hl := lv_entry ([.ref a0, .ref b0]) (n := 4) (Nat.le_of_ble_eq_true rfl)
  rw [lg_entry_eq]
  generalize (lg_sl ([.ref a0, .ref b0]) ++ List.replicate (4 - (lg_sl ([.ref a0, .ref b0])).length) Slot.unset).toArray = ls at hl ⊢
  have hl : lv_has ls 4 [(0, .ref a0), (1, .ref b0)] := hl
  skip
  refine lv_iconst (v := 0) hx hb dL_differingNodes_0 (by decide) ?_
  refine lv_istore_n (lv' := [(2, .int 0), (0, .ref a0), (1, .ref b0)]) hx hb dL_differingNodes_1 rfl hl (by decide) rfl (fun ls hl => ?_)
  refine lv_iconst (v := 0) hx hb dL_differingNodes_2 (by decide) ?_
  refine lv_istore_n (lv' := [(3, .int 0), (2, .int 0), (0, .ref a0), (1, .ref b0)]) hx hb dL_differingNodes_3 rfl hl (by decide) rfl (fun ls hl => ?_)
  refine ll_diff hx hb hml hown hts hK hA a0 a1 a2 a3 fd fh fp ti b0 b1 b2 b3 ed eh ep te  (fun H locs ls hP hD hS hl => ?_) 24 0 (by omega) _ _ ls hP hD hS (lv_sub hl [2, 3, 1, 0] rfl)
  refine lv_iload_n hx hb dL_differingNodes_67 rfl (lv_at hl 0 rfl) ?_
  exact k_iret hx hb hr hlocks hK hS rfl hP hD dL_differingNodes_68
end
section
set_option maxHeartbeats 4000000 in
set_option maxRecDepth 100000 in
theorem cs_move (l : Launch) (D : va_G) (τ : Nat → ClassId) (q0 : Nat) (pl : Int32) (af : Int32) (a0 : Nat) (a1 : Nat) (a2 : Nat) (a3 : Nat) (b0 : Nat) (n0 : Nat) (n1 : Nat) (N : Nat) (ar : Int32) (len : Nat → Int32) (x : Int32) (fd : Nat → Int32) (fh : Nat → Int32) (fp : Nat → Int32) (ti : Int32) (hN : N ≤ 24) : kMv l D τ yS_moveTo (kWs yS_moveTo cS_moveTo 3 none) { frames := 3, cells := 0, slots := 0, locals := 74 } [.ref q0, .int x, .ref n0] [(q0, .inr (3, [.int pl, .int af, .ref a0, .ref b0])), (a0, .inr (1, [.ref a1, .ref a2, .ref a3, .int ti])), (a1, .inl (τ 0, 24, .inl fd)), (a2, .inl (τ 0, 24, .inl fh)), (a3, .inl (τ 0, 24, .inl fp)), (n0, .inr (2, [.int (nI N), .int ar, .ref n1])), (n1, .inl (τ 0, 576, .inl len))] [(q0, .inr (3, [.int x, .int 0, .ref a0, .ref b0])), (a0, .inr (1, [.ref a1, .ref a2, .ref a3, .int ((kSettle N len x).2.2.2)])), (a1, .inl (τ 0, 24, .inl ((kSettle N len x).1))), (a2, .inl (τ 0, 24, .inl ((kSettle N len x).2.1))), (a3, .inl (τ 0, 24, .inl ((kSettle N len x).2.2.1))), (n0, .inr (2, [.int (nI N), .int ar, .ref n1])), (n1, .inl (τ 0, 576, .inl len))] := by
  intro sz
  refine Met.ofW (cc := cS_moveTo) (maxL := 3) (ret := none) (by decide) rfl ?_
  intro p e s m args below meth c s₁ B hml hv
  obtain ⟨rfl, hsz, hP, hK, hD0⟩ := hv
  have hx := B.exec
  have hb := B.bytes
  have hr := B.returns
  have hts := fun w (hw : w ∈ kTbl) => atoms_spec (ws := (kWs yS_moveTo cS_moveTo 3 none)) B.pre w (List.mem_cons_of_mem _ hw)
  have hown : s.vm.findClass RS = some m.cls := findClass_of_methodNamed B.named
  have hlocks := B.notSynchronized
  subst hsz
  have hD := hD0.self (sz := s.heap.size)
  generalize hAe : va_A [(q0, .inr (3, [.int pl, .int af, .ref a0, .ref b0])), (a0, .inr (1, [.ref a1, .ref a2, .ref a3, .int ti])), (a1, .inl (τ 0, 24, .inl fd)), (a2, .inl (τ 0, 24, .inl fh)), (a3, .inl (τ 0, 24, .inl fp)), (n0, .inr (2, [.int (nI N), .int ar, .ref n1])), (n1, .inl (τ 0, 576, .inl len))] s.heap.size = A at hD ⊢
  have hA : ∀ q : Nat, s.heap.size ≤ q → A q := fun q h => by rw [← hAe]; exact Or.inr h
  have hS : va_S A s.heap s.heap [] := va_S.rf
  have hP : va_P D vwCl [(q0, .inr (3, [.int pl, .int af, .ref a0, .ref b0])), (a0, .inr (1, [.ref a1, .ref a2, .ref a3, .int ti])), (a1, .inl (τ 0, 24, .inl fd)), (a2, .inl (τ 0, 24, .inl fh)), (a3, .inl (τ 0, 24, .inl fp)), (n0, .inr (2, [.int (nI N), .int ar, .ref n1])), (n1, .inl (τ 0, 576, .inl len))] s.heap := hP
  have hl := lv_entry ([.ref q0, .int x, .ref n0]) (n := 3) (Nat.le_of_ble_eq_true rfl)
  rw [lg_entry_eq]
  generalize (lg_sl ([.ref q0, .int x, .ref n0]) ++ List.replicate (3 - (lg_sl ([.ref q0, .int x, .ref n0])).length) Slot.unset).toArray = ls at hl ⊢
  have hl : lv_has ls 3 [(0, .ref q0), (1, .int x), (2, .ref n0)] := hl
  skip
  refine lv_aload_n hx hb dS_moveTo_0 rfl (lv_at hl 0 rfl) ?_
  refine lv_iload_n hx hb dS_moveTo_1 rfl (lv_at hl 1 rfl) ?_
  refine va_put (D := D) (ci := 3) (v := .int x) (ty := .int) (C := RS) (T := TS) (N := 4) hx hb hts iS tyS tyS_ok nmS hown hK hP hD hS 0 rfl rfl 0 (by decide) (hts _ w_104) (fun _ h9 => h9) rfl (by decide +kernel) rfl rfl (Nat.le_of_ble_eq_true rfl) dS_moveTo_2 (fun H locs hP hD hS => ?_)
  have hP : va_P D vwCl [(q0, .inr (3, [.int x, .int af, .ref a0, .ref b0])), (a0, .inr (1, [.ref a1, .ref a2, .ref a3, .int ti])), (a1, .inl (τ 0, 24, .inl fd)), (a2, .inl (τ 0, 24, .inl fh)), (a3, .inl (τ 0, 24, .inl fp)), (n0, .inr (2, [.int (nI N), .int ar, .ref n1])), (n1, .inl (τ 0, 576, .inl len))] H := hP
  have hD : va_D A [(q0, .inr (3, [.int x, .int af, .ref a0, .ref b0])), (a0, .inr (1, [.ref a1, .ref a2, .ref a3, .int ti])), (a1, .inl (τ 0, 24, .inl fd)), (a2, .inl (τ 0, 24, .inl fh)), (a3, .inl (τ 0, 24, .inl fp)), (n0, .inr (2, [.int (nI N), .int ar, .ref n1])), (n1, .inl (τ 0, 576, .inl len))] := hD
  refine lv_aload_n hx hb dS_moveTo_5 rfl (lv_at hl 0 rfl) ?_
  refine va_get (D := D) (ci := 3) (v := .ref a0) (C := RS) (T := TS) (N := 4) hx hb hts iS hown hK hP 0 rfl rfl 2 (by decide) (hts _ w_108) (fun _ h9 => h9) rfl dS_moveTo_6 ?_
  refine lv_aload_n hx hb dS_moveTo_9 rfl (lv_at hl 2 rfl) ?_
  refine lv_iload_n hx hb dS_moveTo_10 rfl (lv_at hl 1 rfl) ?_
  refine kc_Vv (As := [.ref n0, .int x]) (rest := []) (wr := [(q0, .inr (3, [.int x, .int af, .ref a0, .ref b0]))]) (W1 := [(q0, .inr (3, [.int x, .int af, .ref a0, .ref b0])), (a0, .inr (1, [.ref a1, .ref a2, .ref a3, .int ((kSettle N len x).2.2.2)])), (a1, .inl (τ 0, 24, .inl ((kSettle N len x).1))), (a2, .inl (τ 0, 24, .inl ((kSettle N len x).2.1))), (a3, .inl (τ 0, 24, .inl ((kSettle N len x).2.2.1))), (n0, .inr (2, [.int (nI N), .int ar, .ref n1])), (n1, .inl (τ 0, 576, .inl len))]) ⟨hx, hb, hml, hown, hts⟩ (cl_settle l D τ a0 a1 a2 a3 n0 n1 N ar len x fd fh fp ti (by first | assumption | omega)) (kcwV hts qL_settle w_171 rfl rfl ⟨Nat.le_of_ble_eq_true rfl, Nat.le_of_ble_eq_true rfl⟩) hK hP hD hS hA [1, 2, 3, 4, 5, 6] [0] [0, 1, 2, 3, 4, 5, 6] rfl rfl (by decide) (by decide) (by decide) rfl rfl rfl (by decide) hl.1 rfl rfl (Nat.le_of_ble_eq_true rfl) ⟨Nat.zero_le _, Nat.zero_le _⟩ dS_moveTo_11 (fun H locs hP hD hS => ?_)
  refine lv_aload_n hx hb dS_moveTo_14 rfl (lv_at hl 0 rfl) ?_
  refine lv_iconst (v := 0) hx hb dS_moveTo_15 (by decide) ?_
  refine va_put (D := D) (ci := 3) (v := .int 0) (ty := .int) (C := RS) (T := TS) (N := 4) hx hb hts iS tyS tyS_ok nmS hown hK hP hD hS 0 rfl rfl 1 (by decide) (hts _ w_106) (fun _ h9 => h9) rfl (by decide +kernel) rfl rfl (Nat.le_of_ble_eq_true rfl) dS_moveTo_16 (fun H locs hP hD hS => ?_)
  have hP : va_P D vwCl [(q0, .inr (3, [.int x, .int 0, .ref a0, .ref b0])), (a0, .inr (1, [.ref a1, .ref a2, .ref a3, .int ((kSettle N len x).2.2.2)])), (a1, .inl (τ 0, 24, .inl ((kSettle N len x).1))), (a2, .inl (τ 0, 24, .inl ((kSettle N len x).2.1))), (a3, .inl (τ 0, 24, .inl ((kSettle N len x).2.2.1))), (n0, .inr (2, [.int (nI N), .int ar, .ref n1])), (n1, .inl (τ 0, 576, .inl len))] H := hP
  have hD : va_D A [(q0, .inr (3, [.int x, .int 0, .ref a0, .ref b0])), (a0, .inr (1, [.ref a1, .ref a2, .ref a3, .int ((kSettle N len x).2.2.2)])), (a1, .inl (τ 0, 24, .inl ((kSettle N len x).1))), (a2, .inl (τ 0, 24, .inl ((kSettle N len x).2.1))), (a3, .inl (τ 0, 24, .inl ((kSettle N len x).2.2.1))), (n0, .inr (2, [.int (nI N), .int ar, .ref n1])), (n1, .inl (τ 0, 576, .inl len))] := hD
  exact k_vret hx hb hr hlocks hK hS hP hD dS_moveTo_19
set_option maxHeartbeats 4000000 in
set_option maxRecDepth 100000 in
theorem cs_recount (l : Launch) (D : va_G) (τ : Nat → ClassId) (q0 : Nat) (pl : Int32) (af : Int32) (a0 : Nat) (a1 : Nat) (a2 : Nat) (a3 : Nat) (b0 : Nat) (b1 : Nat) (b2 : Nat) (b3 : Nat) (n0 : Nat) (n1 : Nat) (N : Nat) (ar : Int32) (len : Nat → Int32) (fd : Nat → Int32) (fh : Nat → Int32) (fp : Nat → Int32) (ti : Int32) (ed : Nat → Int32) (eh : Nat → Int32) (ep : Nat → Int32) (te : Int32) (hN : N ≤ 24) : kMv l D τ yS_recount (kWs yS_recount cS_recount 3 none) { frames := 3, cells := 0, slots := 0, locals := 74 } [.ref q0, .ref n0] [(q0, .inr (3, [.int pl, .int af, .ref a0, .ref b0])), (a0, .inr (1, [.ref a1, .ref a2, .ref a3, .int ti])), (a1, .inl (τ 0, 24, .inl fd)), (a2, .inl (τ 0, 24, .inl fh)), (a3, .inl (τ 0, 24, .inl fp)), (b0, .inr (1, [.ref b1, .ref b2, .ref b3, .int te])), (b1, .inl (τ 0, 24, .inl ed)), (b2, .inl (τ 0, 24, .inl eh)), (b3, .inl (τ 0, 24, .inl ep)), (n0, .inr (2, [.int (nI N), .int ar, .ref n1])), (n1, .inl (τ 0, 576, .inl len))] [(q0, .inr (3, [.int pl, .int (kDiff (kSettle N len pl) (fd, fh, fp, ti)), .ref b0, .ref a0])), (a0, .inr (1, [.ref a1, .ref a2, .ref a3, .int ti])), (a1, .inl (τ 0, 24, .inl fd)), (a2, .inl (τ 0, 24, .inl fh)), (a3, .inl (τ 0, 24, .inl fp)), (b0, .inr (1, [.ref b1, .ref b2, .ref b3, .int ((kSettle N len pl).2.2.2)])), (b1, .inl (τ 0, 24, .inl ((kSettle N len pl).1))), (b2, .inl (τ 0, 24, .inl ((kSettle N len pl).2.1))), (b3, .inl (τ 0, 24, .inl ((kSettle N len pl).2.2.1))), (n0, .inr (2, [.int (nI N), .int ar, .ref n1])), (n1, .inl (τ 0, 576, .inl len))] := by
  intro sz
  refine Met.ofW (cc := cS_recount) (maxL := 3) (ret := none) (by decide) rfl ?_
  intro p e s m args below meth c s₁ B hml hv
  obtain ⟨rfl, hsz, hP, hK, hD0⟩ := hv
  have hx := B.exec
  have hb := B.bytes
  have hr := B.returns
  have hts := fun w (hw : w ∈ kTbl) => atoms_spec (ws := (kWs yS_recount cS_recount 3 none)) B.pre w (List.mem_cons_of_mem _ hw)
  have hown : s.vm.findClass RS = some m.cls := findClass_of_methodNamed B.named
  have hlocks := B.notSynchronized
  subst hsz
  have hD := hD0.self (sz := s.heap.size)
  generalize hAe : va_A [(q0, .inr (3, [.int pl, .int af, .ref a0, .ref b0])), (a0, .inr (1, [.ref a1, .ref a2, .ref a3, .int ti])), (a1, .inl (τ 0, 24, .inl fd)), (a2, .inl (τ 0, 24, .inl fh)), (a3, .inl (τ 0, 24, .inl fp)), (b0, .inr (1, [.ref b1, .ref b2, .ref b3, .int te])), (b1, .inl (τ 0, 24, .inl ed)), (b2, .inl (τ 0, 24, .inl eh)), (b3, .inl (τ 0, 24, .inl ep)), (n0, .inr (2, [.int (nI N), .int ar, .ref n1])), (n1, .inl (τ 0, 576, .inl len))] s.heap.size = A at hD ⊢
  have hA : ∀ q : Nat, s.heap.size ≤ q → A q := fun q h => by rw [← hAe]; exact Or.inr h
  have hS : va_S A s.heap s.heap [] := va_S.rf
  have hP : va_P D vwCl [(q0, .inr (3, [.int pl, .int af, .ref a0, .ref b0])), (a0, .inr (1, [.ref a1, .ref a2, .ref a3, .int ti])), (a1, .inl (τ 0, 24, .inl fd)), (a2, .inl (τ 0, 24, .inl fh)), (a3, .inl (τ 0, 24, .inl fp)), (b0, .inr (1, [.ref b1, .ref b2, .ref b3, .int te])), (b1, .inl (τ 0, 24, .inl ed)), (b2, .inl (τ 0, 24, .inl eh)), (b3, .inl (τ 0, 24, .inl ep)), (n0, .inr (2, [.int (nI N), .int ar, .ref n1])), (n1, .inl (τ 0, 576, .inl len))] s.heap := hP
  have hl := lv_entry ([.ref q0, .ref n0]) (n := 3) (Nat.le_of_ble_eq_true rfl)
  rw [lg_entry_eq]
  generalize (lg_sl ([.ref q0, .ref n0]) ++ List.replicate (3 - (lg_sl ([.ref q0, .ref n0])).length) Slot.unset).toArray = ls at hl ⊢
  have hl : lv_has ls 3 [(0, .ref q0), (1, .ref n0)] := hl
  skip
  refine lv_aload_n hx hb dS_recount_0 rfl (lv_at hl 0 rfl) ?_
  refine va_get (D := D) (ci := 3) (v := .ref a0) (C := RS) (T := TS) (N := 4) hx hb hts iS hown hK hP 0 rfl rfl 2 (by decide) (hts _ w_108) (fun _ h9 => h9) rfl dS_recount_1 ?_
  refine lv_astore_n (lv' := [(2, .ref a0), (0, .ref q0), (1, .ref n0)]) hx hb dS_recount_4 rfl hl (by decide) rfl (fun ls hl => ?_)
  refine lv_aload_n hx hb dS_recount_5 rfl (lv_at hl 1 rfl) ?_
  refine va_get (D := D) (ci := 3) (v := .ref b0) (C := RS) (T := TS) (N := 4) hx hb hts iS hown hK hP 0 rfl rfl 3 (by decide) (hts _ w_110) (fun _ h9 => h9) rfl dS_recount_6 ?_
  refine lv_aload_n hx hb dS_recount_9 rfl (lv_at hl 2 rfl) ?_
  refine lv_aload_n hx hb dS_recount_10 rfl (lv_at hl 1 rfl) ?_
  refine va_get (D := D) (ci := 3) (v := .int pl) (C := RS) (T := TS) (N := 4) hx hb hts iS hown hK hP 0 rfl rfl 0 (by decide) (hts _ w_104) (fun _ h9 => h9) rfl dS_recount_11 ?_
  refine kc_Vv (As := [.ref n0, .int pl]) (rest := []) (wr := [(q0, .inr (3, [.int pl, .int af, .ref a0, .ref b0])), (a0, .inr (1, [.ref a1, .ref a2, .ref a3, .int ti])), (a1, .inl (τ 0, 24, .inl fd)), (a2, .inl (τ 0, 24, .inl fh)), (a3, .inl (τ 0, 24, .inl fp))]) (W1 := [(q0, .inr (3, [.int pl, .int af, .ref a0, .ref b0])), (a0, .inr (1, [.ref a1, .ref a2, .ref a3, .int ti])), (a1, .inl (τ 0, 24, .inl fd)), (a2, .inl (τ 0, 24, .inl fh)), (a3, .inl (τ 0, 24, .inl fp)), (b0, .inr (1, [.ref b1, .ref b2, .ref b3, .int ((kSettle N len pl).2.2.2)])), (b1, .inl (τ 0, 24, .inl ((kSettle N len pl).1))), (b2, .inl (τ 0, 24, .inl ((kSettle N len pl).2.1))), (b3, .inl (τ 0, 24, .inl ((kSettle N len pl).2.2.1))), (n0, .inr (2, [.int (nI N), .int ar, .ref n1])), (n1, .inl (τ 0, 576, .inl len))]) ⟨hx, hb, hml, hown, hts⟩ (cl_settle l D τ b0 b1 b2 b3 n0 n1 N ar len pl ed eh ep te (by first | assumption | omega)) (kcwV hts qL_settle w_171 rfl rfl ⟨Nat.le_of_ble_eq_true rfl, Nat.le_of_ble_eq_true rfl⟩) hK hP hD hS hA [5, 6, 7, 8, 9, 10] [0, 1, 2, 3, 4] [0, 1, 2, 3, 4, 5, 6, 7, 8, 9, 10] rfl rfl (by decide) (by decide) (by decide) rfl rfl rfl (by decide) hl.1 rfl rfl (Nat.le_of_ble_eq_true rfl) ⟨Nat.zero_le _, Nat.zero_le _⟩ dS_recount_14 (fun H locs hP hD hS => ?_)
  refine lv_aload_n hx hb dS_recount_17 rfl (lv_at hl 1 rfl) ?_
  refine lv_aload_n hx hb dS_recount_18 rfl (lv_at hl 1 rfl) ?_
  refine va_get (D := D) (ci := 3) (v := .ref b0) (C := RS) (T := TS) (N := 4) hx hb hts iS hown hK hP 0 rfl rfl 3 (by decide) (hts _ w_110) (fun _ h9 => h9) rfl dS_recount_19 ?_
  refine lv_aload_n hx hb dS_recount_22 rfl (lv_at hl 0 rfl) ?_
  refine kc_Vi (As := [.ref a0]) (rest := [.ref q0]) (wr := [(q0, .inr (3, [.int pl, .int af, .ref a0, .ref b0])), (n0, .inr (2, [.int (nI N), .int ar, .ref n1])), (n1, .inl (τ 0, 576, .inl len))]) (W1 := [(q0, .inr (3, [.int pl, .int af, .ref a0, .ref b0])), (a0, .inr (1, [.ref a1, .ref a2, .ref a3, .int ti])), (a1, .inl (τ 0, 24, .inl fd)), (a2, .inl (τ 0, 24, .inl fh)), (a3, .inl (τ 0, 24, .inl fp)), (b0, .inr (1, [.ref b1, .ref b2, .ref b3, .int ((kSettle N len pl).2.2.2)])), (b1, .inl (τ 0, 24, .inl ((kSettle N len pl).1))), (b2, .inl (τ 0, 24, .inl ((kSettle N len pl).2.1))), (b3, .inl (τ 0, 24, .inl ((kSettle N len pl).2.2.1))), (n0, .inr (2, [.int (nI N), .int ar, .ref n1])), (n1, .inl (τ 0, 576, .inl len))]) ⟨hx, hb, hml, hown, hts⟩ (cl_diff l D τ b0 b1 b2 b3 ((kSettle N len pl).1) ((kSettle N len pl).2.1) ((kSettle N len pl).2.2.1) ((kSettle N len pl).2.2.2) a0 a1 a2 a3 fd fh fp ti ) (kcwV hts qL_differingNodes w_262 rfl rfl ⟨Nat.le_of_ble_eq_true rfl, Nat.le_of_ble_eq_true rfl⟩) hK hP hD hS hA [5, 6, 7, 8, 1, 2, 3, 4] [0, 9, 10] [0, 7, 8, 9, 10, 3, 4, 5, 6, 1, 2] rfl rfl (by decide) (by decide) (by decide) rfl rfl rfl (by decide) hl.1 rfl rfl (Nat.le_of_ble_eq_true rfl) ⟨Nat.zero_le _, Nat.zero_le _⟩ dS_recount_23 (fun H locs hP hD hS => ?_)
  refine va_put (D := D) (ci := 3) (v := .int (kDiff (((kSettle N len pl).1), ((kSettle N len pl).2.1), ((kSettle N len pl).2.2.1), ((kSettle N len pl).2.2.2)) (fd, fh, fp, ti))) (ty := .int) (C := RS) (T := TS) (N := 4) hx hb hts iS tyS tyS_ok nmS hown hK hP hD hS 0 rfl rfl 1 (by decide) (hts _ w_106) (fun _ h9 => h9) rfl (by decide +kernel) rfl rfl (Nat.le_of_ble_eq_true rfl) dS_recount_26 (fun H locs hP hD hS => ?_)
  have hP : va_P D vwCl [(q0, .inr (3, [.int pl, .int (kDiff (((kSettle N len pl).1), ((kSettle N len pl).2.1), ((kSettle N len pl).2.2.1), ((kSettle N len pl).2.2.2)) (fd, fh, fp, ti)), .ref a0, .ref b0])), (a0, .inr (1, [.ref a1, .ref a2, .ref a3, .int ti])), (a1, .inl (τ 0, 24, .inl fd)), (a2, .inl (τ 0, 24, .inl fh)), (a3, .inl (τ 0, 24, .inl fp)), (b0, .inr (1, [.ref b1, .ref b2, .ref b3, .int ((kSettle N len pl).2.2.2)])), (b1, .inl (τ 0, 24, .inl ((kSettle N len pl).1))), (b2, .inl (τ 0, 24, .inl ((kSettle N len pl).2.1))), (b3, .inl (τ 0, 24, .inl ((kSettle N len pl).2.2.1))), (n0, .inr (2, [.int (nI N), .int ar, .ref n1])), (n1, .inl (τ 0, 576, .inl len))] H := hP
  have hD : va_D A [(q0, .inr (3, [.int pl, .int (kDiff (((kSettle N len pl).1), ((kSettle N len pl).2.1), ((kSettle N len pl).2.2.1), ((kSettle N len pl).2.2.2)) (fd, fh, fp, ti)), .ref a0, .ref b0])), (a0, .inr (1, [.ref a1, .ref a2, .ref a3, .int ti])), (a1, .inl (τ 0, 24, .inl fd)), (a2, .inl (τ 0, 24, .inl fh)), (a3, .inl (τ 0, 24, .inl fp)), (b0, .inr (1, [.ref b1, .ref b2, .ref b3, .int ((kSettle N len pl).2.2.2)])), (b1, .inl (τ 0, 24, .inl ((kSettle N len pl).1))), (b2, .inl (τ 0, 24, .inl ((kSettle N len pl).2.1))), (b3, .inl (τ 0, 24, .inl ((kSettle N len pl).2.2.1))), (n0, .inr (2, [.int (nI N), .int ar, .ref n1])), (n1, .inl (τ 0, 576, .inl len))] := hD
  refine lv_aload_n hx hb dS_recount_29 rfl (lv_at hl 1 rfl) ?_
  refine lv_aload_n hx hb dS_recount_30 rfl (lv_at hl 1 rfl) ?_
  refine va_get (D := D) (ci := 3) (v := .ref b0) (C := RS) (T := TS) (N := 4) hx hb hts iS hown hK hP 0 rfl rfl 3 (by decide) (hts _ w_110) (fun _ h9 => h9) rfl dS_recount_31 ?_
  refine va_put (D := D) (ci := 3) (v := .ref b0) (ty := (.object "KeptPaths$LeastWays")) (C := RS) (T := TS) (N := 4) hx hb hts iS tyS tyS_ok nmS hown hK hP hD hS 0 rfl rfl 2 (by decide) (hts _ w_108) (fun _ h9 => h9) rfl (by decide +kernel) rfl rfl (Nat.le_of_ble_eq_true rfl) dS_recount_34 (fun H locs hP hD hS => ?_)
  have hP : va_P D vwCl [(q0, .inr (3, [.int pl, .int (kDiff (((kSettle N len pl).1), ((kSettle N len pl).2.1), ((kSettle N len pl).2.2.1), ((kSettle N len pl).2.2.2)) (fd, fh, fp, ti)), .ref b0, .ref b0])), (a0, .inr (1, [.ref a1, .ref a2, .ref a3, .int ti])), (a1, .inl (τ 0, 24, .inl fd)), (a2, .inl (τ 0, 24, .inl fh)), (a3, .inl (τ 0, 24, .inl fp)), (b0, .inr (1, [.ref b1, .ref b2, .ref b3, .int ((kSettle N len pl).2.2.2)])), (b1, .inl (τ 0, 24, .inl ((kSettle N len pl).1))), (b2, .inl (τ 0, 24, .inl ((kSettle N len pl).2.1))), (b3, .inl (τ 0, 24, .inl ((kSettle N len pl).2.2.1))), (n0, .inr (2, [.int (nI N), .int ar, .ref n1])), (n1, .inl (τ 0, 576, .inl len))] H := hP
  have hD : va_D A [(q0, .inr (3, [.int pl, .int (kDiff (((kSettle N len pl).1), ((kSettle N len pl).2.1), ((kSettle N len pl).2.2.1), ((kSettle N len pl).2.2.2)) (fd, fh, fp, ti)), .ref b0, .ref b0])), (a0, .inr (1, [.ref a1, .ref a2, .ref a3, .int ti])), (a1, .inl (τ 0, 24, .inl fd)), (a2, .inl (τ 0, 24, .inl fh)), (a3, .inl (τ 0, 24, .inl fp)), (b0, .inr (1, [.ref b1, .ref b2, .ref b3, .int ((kSettle N len pl).2.2.2)])), (b1, .inl (τ 0, 24, .inl ((kSettle N len pl).1))), (b2, .inl (τ 0, 24, .inl ((kSettle N len pl).2.1))), (b3, .inl (τ 0, 24, .inl ((kSettle N len pl).2.2.1))), (n0, .inr (2, [.int (nI N), .int ar, .ref n1])), (n1, .inl (τ 0, 576, .inl len))] := hD
  refine lv_aload_n hx hb dS_recount_37 rfl (lv_at hl 1 rfl) ?_
  refine lv_aload_n hx hb dS_recount_38 rfl (lv_at hl 0 rfl) ?_
  refine va_put (D := D) (ci := 3) (v := .ref a0) (ty := (.object "KeptPaths$LeastWays")) (C := RS) (T := TS) (N := 4) hx hb hts iS tyS tyS_ok nmS hown hK hP hD hS 0 rfl rfl 3 (by decide) (hts _ w_110) (fun _ h9 => h9) rfl (by decide +kernel) rfl rfl (Nat.le_of_ble_eq_true rfl) dS_recount_39 (fun H locs hP hD hS => ?_)
  have hP : va_P D vwCl [(q0, .inr (3, [.int pl, .int (kDiff (((kSettle N len pl).1), ((kSettle N len pl).2.1), ((kSettle N len pl).2.2.1), ((kSettle N len pl).2.2.2)) (fd, fh, fp, ti)), .ref b0, .ref a0])), (a0, .inr (1, [.ref a1, .ref a2, .ref a3, .int ti])), (a1, .inl (τ 0, 24, .inl fd)), (a2, .inl (τ 0, 24, .inl fh)), (a3, .inl (τ 0, 24, .inl fp)), (b0, .inr (1, [.ref b1, .ref b2, .ref b3, .int ((kSettle N len pl).2.2.2)])), (b1, .inl (τ 0, 24, .inl ((kSettle N len pl).1))), (b2, .inl (τ 0, 24, .inl ((kSettle N len pl).2.1))), (b3, .inl (τ 0, 24, .inl ((kSettle N len pl).2.2.1))), (n0, .inr (2, [.int (nI N), .int ar, .ref n1])), (n1, .inl (τ 0, 576, .inl len))] H := hP
  have hD : va_D A [(q0, .inr (3, [.int pl, .int (kDiff (((kSettle N len pl).1), ((kSettle N len pl).2.1), ((kSettle N len pl).2.2.1), ((kSettle N len pl).2.2.2)) (fd, fh, fp, ti)), .ref b0, .ref a0])), (a0, .inr (1, [.ref a1, .ref a2, .ref a3, .int ti])), (a1, .inl (τ 0, 24, .inl fd)), (a2, .inl (τ 0, 24, .inl fh)), (a3, .inl (τ 0, 24, .inl fp)), (b0, .inr (1, [.ref b1, .ref b2, .ref b3, .int ((kSettle N len pl).2.2.2)])), (b1, .inl (τ 0, 24, .inl ((kSettle N len pl).1))), (b2, .inl (τ 0, 24, .inl ((kSettle N len pl).2.1))), (b3, .inl (τ 0, 24, .inl ((kSettle N len pl).2.2.1))), (n0, .inr (2, [.int (nI N), .int ar, .ref n1])), (n1, .inl (τ 0, 576, .inl len))] := hD
  exact k_vret hx hb hr hlocks hK hS hP hD dS_recount_42
end
section
set_option maxHeartbeats 4000000 in
set_option maxRecDepth 100000 in
theorem ch_slot (l : Launch) (D : va_G) (τ : Nat → ClassId) (g0 : Nat) (g1 : Nat) (g2 : Nat) (g3 : Nat) (g4 : Nat) (K : Nat) (O : Nat) (hKk : K ≤ 40) (hOo : O < 41) : kMi l D τ yH_openSlot (kWs yH_openSlot cH_openSlot 1 (some .int)) { frames := 0, cells := 0, slots := 0, locals := 0 } [.ref g0] [(g0, .inr (0, [.int (nI K), .int (nI O), .ref g1, .ref g2, .ref g3, .ref g4]))] (nI ((O + K) % 41)) [(g0, .inr (0, [.int (nI K), .int (nI O), .ref g1, .ref g2, .ref g3, .ref g4]))] := by
  intro sz
  refine Met.ofW (cc := cH_openSlot) (maxL := 1) (ret := (some .int)) (by decide) rfl ?_
  intro p e s m args below meth c s₁ B hml hv
  obtain ⟨rfl, hsz, hP, hK, hD0⟩ := hv
  have hx := B.exec
  have hb := B.bytes
  have hr := B.returns
  have hts := fun w (hw : w ∈ kTbl) => atoms_spec (ws := (kWs yH_openSlot cH_openSlot 1 (some .int))) B.pre w (List.mem_cons_of_mem _ hw)
  have hown : s.vm.findClass RH = some m.cls := findClass_of_methodNamed B.named
  have hlocks := B.notSynchronized
  subst hsz
  have hD := hD0.self (sz := s.heap.size)
  generalize hAe : va_A [(g0, .inr (0, [.int (nI K), .int (nI O), .ref g1, .ref g2, .ref g3, .ref g4]))] s.heap.size = A at hD ⊢
  have hA : ∀ q : Nat, s.heap.size ≤ q → A q := fun q h => by rw [← hAe]; exact Or.inr h
  have hS : va_S A s.heap s.heap [] := va_S.rf
  have hP : va_P D vwCl [(g0, .inr (0, [.int (nI K), .int (nI O), .ref g1, .ref g2, .ref g3, .ref g4]))] s.heap := hP
  have hl := lv_entry ([.ref g0]) (n := 1) (Nat.le_of_ble_eq_true rfl)
  rw [lg_entry_eq]
  generalize (lg_sl ([.ref g0]) ++ List.replicate (1 - (lg_sl ([.ref g0])).length) Slot.unset).toArray = ls at hl ⊢
  have hl : lv_has ls 1 [(0, .ref g0)] := hl
  skip
  refine lv_aload_n hx hb dH_openSlot_0 rfl (lv_at hl 0 rfl) ?_
  refine va_get (D := D) (ci := 0) (v := .int (nI O)) (C := RH) (T := TH) (N := 6) hx hb hts iH hown hK hP 0 rfl rfl 1 (by decide) (hts _ w_48) (fun _ h9 => h9) rfl dH_openSlot_1 ?_
  refine lv_aload_n hx hb dH_openSlot_4 rfl (lv_at hl 0 rfl) ?_
  refine va_get (D := D) (ci := 0) (v := .int (nI K)) (C := RH) (T := TH) (N := 6) hx hb hts iH hown hK hP 0 rfl rfl 0 (by decide) (hts _ w_46) (fun _ h9 => h9) rfl dH_openSlot_5 ?_
  refine lv_iadd hx hb dH_openSlot_8 ?_
  refine lv_topi (fun y_ ey_ => ?_)
  obtain rfl : y_ = nI (O + K) := ey_.trans (nI_add O K)
  refine lv_bipush (v := 41) hx hb dH_openSlot_9 (by decide) ?_
  refine lv_irem hx hb dH_openSlot_11 (by decide) ?_
  refine lv_topi (fun y_ ey_ => ?_)
  obtain rfl : y_ = nI ((O + K) % 41) := ey_.trans (pk_rem (a := O + K) (d := 41) (by omega) (by omega) (by omega))
  exact k_iret hx hb hr hlocks hK hS rfl hP hD dH_openSlot_12
set_option maxHeartbeats 4000000 in
set_option maxRecDepth 100000 in
theorem ch_open (l : Launch) (D : va_G) (τ : Nat → ClassId) (g0 : Nat) (g1 : Nat) (g2 : Nat) (g3 : Nat) (g4 : Nat) (K : Nat) (O : Nat) (sz : Nat → Int32) (hKk : K ≤ 40) (hOo : O < 41) : kMi l D τ yH_openChanges (kWs yH_openChanges cH_openChanges 1 (some .int)) { frames := 1, cells := 0, slots := 0, locals := 20 } [.ref g0] [(g0, .inr (0, [.int (nI K), .int (nI O), .ref g1, .ref g2, .ref g3, .ref g4])), (g1, .inl (τ 0, 41, .inl sz))] (sz ((O + K) % 41)) [(g0, .inr (0, [.int (nI K), .int (nI O), .ref g1, .ref g2, .ref g3, .ref g4])), (g1, .inl (τ 0, 41, .inl sz))] := by
  intro sz
  refine Met.ofW (cc := cH_openChanges) (maxL := 1) (ret := (some .int)) (by decide) rfl ?_
  intro p e s m args below meth c s₁ B hml hv
  obtain ⟨rfl, hsz, hP, hK, hD0⟩ := hv
  have hx := B.exec
  have hb := B.bytes
  have hr := B.returns
  have hts := fun w (hw : w ∈ kTbl) => atoms_spec (ws := (kWs yH_openChanges cH_openChanges 1 (some .int))) B.pre w (List.mem_cons_of_mem _ hw)
  have hown : s.vm.findClass RH = some m.cls := findClass_of_methodNamed B.named
  have hlocks := B.notSynchronized
  subst hsz
  have hD := hD0.self (sz := s.heap.size)
  generalize hAe : va_A [(g0, .inr (0, [.int (nI K), .int (nI O), .ref g1, .ref g2, .ref g3, .ref g4])), (g1, .inl (τ 0, 41, .inl sz))] s.heap.size = A at hD ⊢
  have hA : ∀ q : Nat, s.heap.size ≤ q → A q := fun q h => by rw [← hAe]; exact Or.inr h
  have hS : va_S A s.heap s.heap [] := va_S.rf
  have hP : va_P D vwCl [(g0, .inr (0, [.int (nI K), .int (nI O), .ref g1, .ref g2, .ref g3, .ref g4])), (g1, .inl (τ 0, 41, .inl sz))] s.heap := hP
  have hl := lv_entry ([.ref g0]) (n := 1) (Nat.le_of_ble_eq_true rfl)
  rw [lg_entry_eq]
  generalize (lg_sl ([.ref g0]) ++ List.replicate (1 - (lg_sl ([.ref g0])).length) Slot.unset).toArray = ls at hl ⊢
  have hl : lv_has ls 1 [(0, .ref g0)] := hl
  skip
  refine lv_aload_n hx hb dH_openChanges_0 rfl (lv_at hl 0 rfl) ?_
  refine va_get (D := D) (ci := 0) (v := .ref g1) (C := RH) (T := TH) (N := 6) hx hb hts iH hown hK hP 0 rfl rfl 2 (by decide) (hts _ w_49) (fun _ h9 => h9) rfl dH_openChanges_1 ?_
  refine lv_aload_n hx hb dH_openChanges_4 rfl (lv_at hl 0 rfl) ?_
  refine kc_Vi (As := []) (rest := [.ref g1]) (wr := [(g1, .inl (τ 0, 41, .inl sz))]) (W1 := [(g0, .inr (0, [.int (nI K), .int (nI O), .ref g1, .ref g2, .ref g3, .ref g4])), (g1, .inl (τ 0, 41, .inl sz))]) ⟨hx, hb, hml, hown, hts⟩ (ch_slot l D τ g0 g1 g2 g3 g4 K O (by first | assumption | omega) (by first | assumption | omega)) (kcwV hts qH_openSlot w_213 rfl rfl ⟨Nat.le_of_ble_eq_true rfl, Nat.le_of_ble_eq_true rfl⟩) hK hP hD hS hA [0] [1] [1, 0] rfl rfl (by decide) (by decide) (by decide) rfl rfl rfl (by decide) hl.1 rfl rfl (Nat.le_of_ble_eq_true rfl) ⟨Nat.zero_le _, Nat.zero_le _⟩ dH_openChanges_5 (fun H locs hP hD hS => ?_)
  refine ka_iald (k := (O + K) % 41) hx hb hK hP 1 0 rfl rfl (by omega) (by omega) rfl dH_openChanges_8 ?_
  exact k_iret hx hb hr hlocks hK hS rfl hP hD dH_openChanges_9
set_option maxHeartbeats 4000000 in
set_option maxRecDepth 100000 in
theorem ch_note (l : Launch) (D : va_G) (τ : Nat → ClassId) (g0 : Nat) (g1 : Nat) (g2 : Nat) (g3 : Nat) (g4 : Nat) (K : Nat) (O : Nat) (sz : Nat → Int32) (bg : Nat → Int32) (en : Nat → Int32) (ln : Nat → Int32) (i : Nat) (j : Nat) (S : Nat) (x : Int32) (hKk : K ≤ 40) (hOo : O < 41) (hS30 : S < 30) (hSs : sz ((O + K) % 41) = nI S) : kMv l D τ yH_note (kWs yH_note cH_note 6 none) { frames := 1, cells := 0, slots := 0, locals := 20 } [.ref g0, .int (nI i), .int (nI j), .int x] [(g0, .inr (0, [.int (nI K), .int (nI O), .ref g1, .ref g2, .ref g3, .ref g4])), (g1, .inl (τ 0, 41, .inl sz)), (g2, .inl (τ 0, 1230, .inl bg)), (g3, .inl (τ 0, 1230, .inl en)), (g4, .inl (τ 0, 1230, .inl ln))] [(g0, .inr (0, [.int (nI K), .int (nI O), .ref g1, .ref g2, .ref g3, .ref g4])), (g1, .inl (τ 0, 41, .inl (upd sz ((O + K) % 41) (nI (S + 1))))), (g2, .inl (τ 0, 1230, .inl (upd bg ((O + K) % 41 * 30 + S) (nI i)))), (g3, .inl (τ 0, 1230, .inl (upd en ((O + K) % 41 * 30 + S) (nI j)))), (g4, .inl (τ 0, 1230, .inl (upd ln ((O + K) % 41 * 30 + S) x)))] := by
  intro sz
  refine Met.ofW (cc := cH_note) (maxL := 6) (ret := none) (by decide) rfl ?_
  intro p e s m args below meth c s₁ B hml hv
  obtain ⟨rfl, hsz, hP, hK, hD0⟩ := hv
  have hx := B.exec
  have hb := B.bytes
  have hr := B.returns
  have hts := fun w (hw : w ∈ kTbl) => atoms_spec (ws := (kWs yH_note cH_note 6 none)) B.pre w (List.mem_cons_of_mem _ hw)
  have hown : s.vm.findClass RH = some m.cls := findClass_of_methodNamed B.named
  have hlocks := B.notSynchronized
  subst hsz
  have hD := hD0.self (sz := s.heap.size)
  generalize hAe : va_A [(g0, .inr (0, [.int (nI K), .int (nI O), .ref g1, .ref g2, .ref g3, .ref g4])), (g1, .inl (τ 0, 41, .inl sz)), (g2, .inl (τ 0, 1230, .inl bg)), (g3, .inl (τ 0, 1230, .inl en)), (g4, .inl (τ 0, 1230, .inl ln))] s.heap.size = A at hD ⊢
  have hA : ∀ q : Nat, s.heap.size ≤ q → A q := fun q h => by rw [← hAe]; exact Or.inr h
  have hS : va_S A s.heap s.heap [] := va_S.rf
  have hP : va_P D vwCl [(g0, .inr (0, [.int (nI K), .int (nI O), .ref g1, .ref g2, .ref g3, .ref g4])), (g1, .inl (τ 0, 41, .inl sz)), (g2, .inl (τ 0, 1230, .inl bg)), (g3, .inl (τ 0, 1230, .inl en)), (g4, .inl (τ 0, 1230, .inl ln))] s.heap := hP
  have hl := lv_entry ([.ref g0, .int (nI i), .int (nI j), .int x]) (n := 6) (Nat.le_of_ble_eq_true rfl)
  rw [lg_entry_eq]
  generalize (lg_sl ([.ref g0, .int (nI i), .int (nI j), .int x]) ++ List.replicate (6 - (lg_sl ([.ref g0, .int (nI i), .int (nI j), .int x])).length) Slot.unset).toArray = ls at hl ⊢
  have hl : lv_has ls 6 [(0, .ref g0), (1, .int (nI i)), (2, .int (nI j)), (3, .int x)] := hl
  skip
  refine lv_aload_n hx hb dH_note_0 rfl (lv_at hl 0 rfl) ?_
  refine kc_Vi (As := []) (rest := []) (wr := [(g1, .inl (τ 0, 41, .inl sz)), (g2, .inl (τ 0, 1230, .inl bg)), (g3, .inl (τ 0, 1230, .inl en)), (g4, .inl (τ 0, 1230, .inl ln))]) (W1 := [(g0, .inr (0, [.int (nI K), .int (nI O), .ref g1, .ref g2, .ref g3, .ref g4])), (g1, .inl (τ 0, 41, .inl sz)), (g2, .inl (τ 0, 1230, .inl bg)), (g3, .inl (τ 0, 1230, .inl en)), (g4, .inl (τ 0, 1230, .inl ln))]) ⟨hx, hb, hml, hown, hts⟩ (ch_slot l D τ g0 g1 g2 g3 g4 K O (by first | assumption | omega) (by first | assumption | omega)) (kcwV hts qH_openSlot w_213 rfl rfl ⟨Nat.le_of_ble_eq_true rfl, Nat.le_of_ble_eq_true rfl⟩) hK hP hD hS hA [0] [1, 2, 3, 4] [4, 0, 1, 2, 3] rfl rfl (by decide) (by decide) (by decide) rfl rfl rfl (by decide) hl.1 rfl rfl (Nat.le_of_ble_eq_true rfl) ⟨Nat.zero_le _, Nat.zero_le _⟩ dH_note_1 (fun H locs hP hD hS => ?_)
  refine lv_istore (lv' := [(4, .int (nI ((O + K) % 41))), (0, .ref g0), (1, .int (nI i)), (2, .int (nI j)), (3, .int x)]) hx hb dH_note_4 hl (by decide) rfl (fun ls hl => ?_)
  refine lv_aload_n hx hb dH_note_6 rfl (lv_at hl 1 rfl) ?_
  refine va_get (D := D) (ci := 0) (v := .ref g1) (C := RH) (T := TH) (N := 6) hx hb hts iH hown hK hP 0 rfl rfl 2 (by decide) (hts _ w_49) (fun _ h9 => h9) rfl dH_note_7 ?_
  refine lv_iload hx hb dH_note_10 (lv_at hl 0 rfl) ?_
  refine ka_iald (k := (O + K) % 41) hx hb hK hP 1 0 rfl rfl (by omega) (by omega) rfl dH_note_12 ?_
  refine lv_topi (fun y_ ey_ => ?_)
  obtain rfl : y_ = nI S := ey_.trans hSs
  refine lv_bipush (v := 30) hx hb dH_note_13 (by decide) ?_
  refine lv_icmp_lt (tgt := 19) hx hb dH_note_15 (by decide) (fun c_15 => ?_) (fun c_15 => absurd (nI_lt (b := 30) hS30 (by decide)) c_15)
  refine lv_iload hx hb dH_note_19 (lv_at hl 0 rfl) ?_
  refine lv_bipush (v := 30) hx hb dH_note_21 (by decide) ?_
  refine lv_imul hx hb dH_note_23 ?_
  refine lv_topi (fun y_ ey_ => ?_)
  obtain rfl : y_ = nI (((O + K) % 41) * 30) := ey_.trans (pk_mul _ 30)
  refine lv_aload_n hx hb dH_note_24 rfl (lv_at hl 1 rfl) ?_
  refine va_get (D := D) (ci := 0) (v := .ref g1) (C := RH) (T := TH) (N := 6) hx hb hts iH hown hK hP 0 rfl rfl 2 (by decide) (hts _ w_49) (fun _ h9 => h9) rfl dH_note_25 ?_
  refine lv_iload hx hb dH_note_28 (lv_at hl 0 rfl) ?_
  refine ka_iald (k := (O + K) % 41) hx hb hK hP 1 0 rfl rfl (by omega) (by omega) rfl dH_note_30 ?_
  refine lv_topi (fun y_ ey_ => ?_)
  obtain rfl : y_ = nI S := ey_.trans hSs
  refine lv_iadd hx hb dH_note_31 ?_
  refine lv_topi (fun y_ ey_ => ?_)
  obtain rfl : y_ = nI ((O + K) % 41 * 30 + S) := ey_.trans (nI_add _ _)
  refine lv_istore (lv' := [(5, .int (nI ((O + K) % 41 * 30 + S))), (4, .int (nI ((O + K) % 41))), (0, .ref g0), (1, .int (nI i)), (2, .int (nI j)), (3, .int x)]) hx hb dH_note_32 hl (by decide) rfl (fun ls hl => ?_)
  refine lv_aload_n hx hb dH_note_34 rfl (lv_at hl 2 rfl) ?_
  refine va_get (D := D) (ci := 0) (v := .ref g2) (C := RH) (T := TH) (N := 6) hx hb hts iH hown hK hP 0 rfl rfl 3 (by decide) (hts _ w_50) (fun _ h9 => h9) rfl dH_note_35 ?_
  refine lv_iload hx hb dH_note_38 (lv_at hl 0 rfl) ?_
  refine lv_iload_n hx hb dH_note_40 rfl (lv_at hl 3 rfl) ?_
  refine ka_iast (k := (O + K) % 41 * 30 + S) hx hb hK hP hD hS 2 0 rfl rfl (by omega) (by omega) rfl dH_note_41 (fun H locs hP hD hS => ?_)
  have hP : va_P D vwCl [(g0, .inr (0, [.int (nI K), .int (nI O), .ref g1, .ref g2, .ref g3, .ref g4])), (g1, .inl (τ 0, 41, .inl sz)), (g2, .inl (τ 0, 1230, .inl (upd bg ((O + K) % 41 * 30 + S) (nI i)))), (g3, .inl (τ 0, 1230, .inl en)), (g4, .inl (τ 0, 1230, .inl ln))] H := hP
  have hD : va_D A [(g0, .inr (0, [.int (nI K), .int (nI O), .ref g1, .ref g2, .ref g3, .ref g4])), (g1, .inl (τ 0, 41, .inl sz)), (g2, .inl (τ 0, 1230, .inl (upd bg ((O + K) % 41 * 30 + S) (nI i)))), (g3, .inl (τ 0, 1230, .inl en)), (g4, .inl (τ 0, 1230, .inl ln))] := hD
  refine lv_aload_n hx hb dH_note_42 rfl (lv_at hl 2 rfl) ?_
  refine va_get (D := D) (ci := 0) (v := .ref g3) (C := RH) (T := TH) (N := 6) hx hb hts iH hown hK hP 0 rfl rfl 4 (by decide) (hts _ w_51) (fun _ h9 => h9) rfl dH_note_43 ?_
  refine lv_iload hx hb dH_note_46 (lv_at hl 0 rfl) ?_
  refine lv_iload_n hx hb dH_note_48 rfl (lv_at hl 4 rfl) ?_
  refine ka_iast (k := (O + K) % 41 * 30 + S) hx hb hK hP hD hS 3 0 rfl rfl (by omega) (by omega) rfl dH_note_49 (fun H locs hP hD hS => ?_)
  have hP : va_P D vwCl [(g0, .inr (0, [.int (nI K), .int (nI O), .ref g1, .ref g2, .ref g3, .ref g4])), (g1, .inl (τ 0, 41, .inl sz)), (g2, .inl (τ 0, 1230, .inl (upd bg ((O + K) % 41 * 30 + S) (nI i)))), (g3, .inl (τ 0, 1230, .inl (upd en ((O + K) % 41 * 30 + S) (nI j)))), (g4, .inl (τ 0, 1230, .inl ln))] H := hP
  have hD : va_D A [(g0, .inr (0, [.int (nI K), .int (nI O), .ref g1, .ref g2, .ref g3, .ref g4])), (g1, .inl (τ 0, 41, .inl sz)), (g2, .inl (τ 0, 1230, .inl (upd bg ((O + K) % 41 * 30 + S) (nI i)))), (g3, .inl (τ 0, 1230, .inl (upd en ((O + K) % 41 * 30 + S) (nI j)))), (g4, .inl (τ 0, 1230, .inl ln))] := hD
  refine lv_aload_n hx hb dH_note_50 rfl (lv_at hl 2 rfl) ?_
  refine va_get (D := D) (ci := 0) (v := .ref g4) (C := RH) (T := TH) (N := 6) hx hb hts iH hown hK hP 0 rfl rfl 5 (by decide) (hts _ w_52) (fun _ h9 => h9) rfl dH_note_51 ?_
  refine lv_iload hx hb dH_note_54 (lv_at hl 0 rfl) ?_
  refine lv_iload_n hx hb dH_note_56 rfl (lv_at hl 5 rfl) ?_
  refine ka_iast (k := (O + K) % 41 * 30 + S) hx hb hK hP hD hS 4 0 rfl rfl (by omega) (by omega) rfl dH_note_57 (fun H locs hP hD hS => ?_)
  have hP : va_P D vwCl [(g0, .inr (0, [.int (nI K), .int (nI O), .ref g1, .ref g2, .ref g3, .ref g4])), (g1, .inl (τ 0, 41, .inl sz)), (g2, .inl (τ 0, 1230, .inl (upd bg ((O + K) % 41 * 30 + S) (nI i)))), (g3, .inl (τ 0, 1230, .inl (upd en ((O + K) % 41 * 30 + S) (nI j)))), (g4, .inl (τ 0, 1230, .inl (upd ln ((O + K) % 41 * 30 + S) x)))] H := hP
  have hD : va_D A [(g0, .inr (0, [.int (nI K), .int (nI O), .ref g1, .ref g2, .ref g3, .ref g4])), (g1, .inl (τ 0, 41, .inl sz)), (g2, .inl (τ 0, 1230, .inl (upd bg ((O + K) % 41 * 30 + S) (nI i)))), (g3, .inl (τ 0, 1230, .inl (upd en ((O + K) % 41 * 30 + S) (nI j)))), (g4, .inl (τ 0, 1230, .inl (upd ln ((O + K) % 41 * 30 + S) x)))] := hD
  refine lv_aload_n hx hb dH_note_58 rfl (lv_at hl 2 rfl) ?_
  refine va_get (D := D) (ci := 0) (v := .ref g1) (C := RH) (T := TH) (N := 6) hx hb hts iH hown hK hP 0 rfl rfl 2 (by decide) (hts _ w_49) (fun _ h9 => h9) rfl dH_note_59 ?_
  refine lv_iload hx hb dH_note_62 (lv_at hl 1 rfl) ?_
  refine lv_dup2_11 hx hb dH_note_64 rfl rfl ?_
  refine ka_iald (k := (O + K) % 41) hx hb hK hP 1 0 rfl rfl (by omega) (by omega) rfl dH_note_65 ?_
  refine lv_topi (fun y_ ey_ => ?_)
  obtain rfl : y_ = nI S := ey_.trans hSs
  refine lv_iconst (v := 1) hx hb dH_note_66 (by decide) ?_
  refine lv_iadd hx hb dH_note_67 ?_
  refine lv_topi (fun y_ ey_ => ?_)
  obtain rfl : y_ = nI (S + 1) := ey_.trans (nI_1 S)
  refine ka_iast (k := (O + K) % 41) hx hb hK hP hD hS 1 0 rfl rfl (by omega) (by omega) rfl dH_note_68 (fun H locs hP hD hS => ?_)
  have hP : va_P D vwCl [(g0, .inr (0, [.int (nI K), .int (nI O), .ref g1, .ref g2, .ref g3, .ref g4])), (g1, .inl (τ 0, 41, .inl (upd sz ((O + K) % 41) (nI (S + 1))))), (g2, .inl (τ 0, 1230, .inl (upd bg ((O + K) % 41 * 30 + S) (nI i)))), (g3, .inl (τ 0, 1230, .inl (upd en ((O + K) % 41 * 30 + S) (nI j)))), (g4, .inl (τ 0, 1230, .inl (upd ln ((O + K) % 41 * 30 + S) x)))] H := hP
  have hD : va_D A [(g0, .inr (0, [.int (nI K), .int (nI O), .ref g1, .ref g2, .ref g3, .ref g4])), (g1, .inl (τ 0, 41, .inl (upd sz ((O + K) % 41) (nI (S + 1))))), (g2, .inl (τ 0, 1230, .inl (upd bg ((O + K) % 41 * 30 + S) (nI i)))), (g3, .inl (τ 0, 1230, .inl (upd en ((O + K) % 41 * 30 + S) (nI j)))), (g4, .inl (τ 0, 1230, .inl (upd ln ((O + K) % 41 * 30 + S) x)))] := hD
  exact k_vret hx hb hr hlocks hK hS hP hD dH_note_69
set_option maxHeartbeats 4000000 in
set_option maxRecDepth 100000 in
theorem ch_keep (l : Launch) (D : va_G) (τ : Nat → ClassId) (g0 : Nat) (g1 : Nat) (g2 : Nat) (g3 : Nat) (g4 : Nat) (K : Nat) (O : Nat) (sz : Nat → Int32) (bg : Nat → Int32) (en : Nat → Int32) (ln : Nat → Int32) (hKk : K ≤ 40) (hOo : O < 41) : kMv l D τ yH_keepOpen (kWs yH_keepOpen cH_keepOpen 1 none) { frames := 1, cells := 0, slots := 0, locals := 20 } [.ref g0] [(g0, .inr (0, [.int (nI K), .int (nI O), .ref g1, .ref g2, .ref g3, .ref g4])), (g1, .inl (τ 0, 41, .inl sz)), (g2, .inl (τ 0, 1230, .inl bg)), (g3, .inl (τ 0, 1230, .inl en)), (g4, .inl (τ 0, 1230, .inl ln))] [(g0, .inr (0, [.int (nI (kKk K)), .int (nI (kKo K O)), .ref g1, .ref g2, .ref g3, .ref g4])), (g1, .inl (τ 0, 41, .inl (upd sz ((kKo K O + kKk K) % 41) 0))), (g2, .inl (τ 0, 1230, .inl bg)), (g3, .inl (τ 0, 1230, .inl en)), (g4, .inl (τ 0, 1230, .inl ln))] := by
  intro sz
  refine Met.ofW (cc := cH_keepOpen) (maxL := 1) (ret := none) (by decide) rfl ?_
  intro p e s m args below meth c s₁ B hml hv
  obtain ⟨rfl, hsz, hP, hK, hD0⟩ := hv
  have hx := B.exec
  have hb := B.bytes
  have hr := B.returns
  have hts := fun w (hw : w ∈ kTbl) => atoms_spec (ws := (kWs yH_keepOpen cH_keepOpen 1 none)) B.pre w (List.mem_cons_of_mem _ hw)
  have hown : s.vm.findClass RH = some m.cls := findClass_of_methodNamed B.named
  have hlocks := B.notSynchronized
  subst hsz
  have hD := hD0.self (sz := s.heap.size)
  generalize hAe : va_A [(g0, .inr (0, [.int (nI K), .int (nI O), .ref g1, .ref g2, .ref g3, .ref g4])), (g1, .inl (τ 0, 41, .inl sz)), (g2, .inl (τ 0, 1230, .inl bg)), (g3, .inl (τ 0, 1230, .inl en)), (g4, .inl (τ 0, 1230, .inl ln))] s.heap.size = A at hD ⊢
  have hA : ∀ q : Nat, s.heap.size ≤ q → A q := fun q h => by rw [← hAe]; exact Or.inr h
  have hS : va_S A s.heap s.heap [] := va_S.rf
  have hP : va_P D vwCl [(g0, .inr (0, [.int (nI K), .int (nI O), .ref g1, .ref g2, .ref g3, .ref g4])), (g1, .inl (τ 0, 41, .inl sz)), (g2, .inl (τ 0, 1230, .inl bg)), (g3, .inl (τ 0, 1230, .inl en)), (g4, .inl (τ 0, 1230, .inl ln))] s.heap := hP
  have hl := lv_entry ([.ref g0]) (n := 1) (Nat.le_of_ble_eq_true rfl)
  rw [lg_entry_eq]
  generalize (lg_sl ([.ref g0]) ++ List.replicate (1 - (lg_sl ([.ref g0])).length) Slot.unset).toArray = ls at hl ⊢
  have hl : lv_has ls 1 [(0, .ref g0)] := hl
  skip
  refine lv_aload_n hx hb dH_keepOpen_0 rfl (lv_at hl 0 rfl) ?_
  refine va_get (D := D) (ci := 0) (v := .int (nI K)) (C := RH) (T := TH) (N := 6) hx hb hts iH hown hK hP 0 rfl rfl 0 (by decide) (hts _ w_46) (fun _ h9 => h9) rfl dH_keepOpen_1 ?_
  refine lv_bipush (v := 40) hx hb dH_keepOpen_4 (by decide) ?_
  refine lv_icmp_ge (tgt := 22) hx hb dH_keepOpen_6 (by decide) (fun c_6 => ?_) (fun c_6 => ?_)
  · skip
    have hK40 : 40 ≤ K := (nI_leI (a := 40) (b := K) (by decide) (by omega)).mp c_6
    refine lv_aload_n hx hb dH_keepOpen_22 rfl (lv_at hl 0 rfl) ?_
    refine lv_aload_n hx hb dH_keepOpen_23 rfl (lv_at hl 0 rfl) ?_
    refine va_get (D := D) (ci := 0) (v := .int (nI O)) (C := RH) (T := TH) (N := 6) hx hb hts iH hown hK hP 0 rfl rfl 1 (by decide) (hts _ w_48) (fun _ h9 => h9) rfl dH_keepOpen_24 ?_
    refine lv_iconst (v := 1) hx hb dH_keepOpen_27 (by decide) ?_
    refine lv_iadd hx hb dH_keepOpen_28 ?_
    refine lv_topi (fun y_ ey_ => ?_)
    obtain rfl : y_ = nI (O + 1) := ey_.trans (nI_1 O)
    refine lv_bipush (v := 41) hx hb dH_keepOpen_29 (by decide) ?_
    refine lv_irem hx hb dH_keepOpen_31 (by decide) ?_
    refine lv_topi (fun y_ ey_ => ?_)
    obtain rfl : y_ = nI ((O + 1) % 41) := ey_.trans (pk_rem (a := O + 1) (d := 41) (by omega) (by omega) (by omega))
    refine va_put (D := D) (ci := 0) (v := .int (nI ((O + 1) % 41))) (ty := .int) (C := RH) (T := TH) (N := 6) hx hb hts iH tyH tyH_ok nmH hown hK hP hD hS 0 rfl rfl 1 (by decide) (hts _ w_48) (fun _ h9 => h9) rfl (by decide +kernel) rfl rfl (Nat.le_of_ble_eq_true rfl) dH_keepOpen_32 (fun H locs hP hD hS => ?_)
    have hP : va_P D vwCl [(g0, .inr (0, [.int (nI K), .int (nI ((O + 1) % 41)), .ref g1, .ref g2, .ref g3, .ref g4])), (g1, .inl (τ 0, 41, .inl sz)), (g2, .inl (τ 0, 1230, .inl bg)), (g3, .inl (τ 0, 1230, .inl en)), (g4, .inl (τ 0, 1230, .inl ln))] H := hP
    have hD : va_D A [(g0, .inr (0, [.int (nI K), .int (nI ((O + 1) % 41)), .ref g1, .ref g2, .ref g3, .ref g4])), (g1, .inl (τ 0, 41, .inl sz)), (g2, .inl (τ 0, 1230, .inl bg)), (g3, .inl (τ 0, 1230, .inl en)), (g4, .inl (τ 0, 1230, .inl ln))] := hD
    refine lv_aload_n hx hb dH_keepOpen_35 rfl (lv_at hl 0 rfl) ?_
    refine va_get (D := D) (ci := 0) (v := .ref g1) (C := RH) (T := TH) (N := 6) hx hb hts iH hown hK hP 0 rfl rfl 2 (by decide) (hts _ w_49) (fun _ h9 => h9) rfl dH_keepOpen_36 ?_
    refine lv_aload_n hx hb dH_keepOpen_39 rfl (lv_at hl 0 rfl) ?_
    refine kc_Vi (As := []) (rest := [.ref g1]) (wr := [(g1, .inl (τ 0, 41, .inl sz)), (g2, .inl (τ 0, 1230, .inl bg)), (g3, .inl (τ 0, 1230, .inl en)), (g4, .inl (τ 0, 1230, .inl ln))]) (W1 := [(g0, .inr (0, [.int (nI K), .int (nI ((O + 1) % 41)), .ref g1, .ref g2, .ref g3, .ref g4])), (g1, .inl (τ 0, 41, .inl sz)), (g2, .inl (τ 0, 1230, .inl bg)), (g3, .inl (τ 0, 1230, .inl en)), (g4, .inl (τ 0, 1230, .inl ln))]) ⟨hx, hb, hml, hown, hts⟩ (ch_slot l D τ g0 g1 g2 g3 g4 K ((O + 1) % 41) (by first | assumption | omega) (by first | assumption | omega)) (kcwV hts qH_openSlot w_213 rfl rfl ⟨Nat.le_of_ble_eq_true rfl, Nat.le_of_ble_eq_true rfl⟩) hK hP hD hS hA [0] [1, 2, 3, 4] [4, 0, 1, 2, 3] rfl rfl (by decide) (by decide) (by decide) rfl rfl rfl (by decide) hl.1 rfl rfl (Nat.le_of_ble_eq_true rfl) ⟨Nat.zero_le _, Nat.zero_le _⟩ dH_keepOpen_40 (fun H locs hP hD hS => ?_)
    refine lv_iconst (v := 0) hx hb dH_keepOpen_43 (by decide) ?_
    refine ka_iast (k := (((O + 1) % 41) + K) % 41) hx hb hK hP hD hS 1 0 rfl rfl (by omega) (by omega) rfl dH_keepOpen_44 (fun H locs hP hD hS => ?_)
    have hP : va_P D vwCl [(g0, .inr (0, [.int (nI K), .int (nI ((O + 1) % 41)), .ref g1, .ref g2, .ref g3, .ref g4])), (g1, .inl (τ 0, 41, .inl (upd sz ((((O + 1) % 41) + K) % 41) 0))), (g2, .inl (τ 0, 1230, .inl bg)), (g3, .inl (τ 0, 1230, .inl en)), (g4, .inl (τ 0, 1230, .inl ln))] H := hP
    have hD : va_D A [(g0, .inr (0, [.int (nI K), .int (nI ((O + 1) % 41)), .ref g1, .ref g2, .ref g3, .ref g4])), (g1, .inl (τ 0, 41, .inl (upd sz ((((O + 1) % 41) + K) % 41) 0))), (g2, .inl (τ 0, 1230, .inl bg)), (g3, .inl (τ 0, 1230, .inl en)), (g4, .inl (τ 0, 1230, .inl ln))] := hD
    have e1_ : kKk K = K := if_neg (by omega)
    have e2_ : kKo K O = (O + 1) % 41 := if_neg (by omega)
    exact k_vret hx hb hr hlocks hK hS (by rw [e1_, e2_]; exact hP) (by rw [e1_, e2_]; exact hD) dH_keepOpen_45
  · skip
    have hK40 : K < 40 := Nat.lt_of_not_le (fun z => c_6 (nI_le (a := 40) z (by omega)))
    refine lv_aload_n hx hb dH_keepOpen_9 rfl (lv_at hl 0 rfl) ?_
    refine lv_dup hx hb dH_keepOpen_10 rfl ?_
    refine va_get (D := D) (ci := 0) (v := .int (nI K)) (C := RH) (T := TH) (N := 6) hx hb hts iH hown hK hP 0 rfl rfl 0 (by decide) (hts _ w_46) (fun _ h9 => h9) rfl dH_keepOpen_11 ?_
    refine lv_iconst (v := 1) hx hb dH_keepOpen_14 (by decide) ?_
    refine lv_iadd hx hb dH_keepOpen_15 ?_
    refine lv_topi (fun y_ ey_ => ?_)
    obtain rfl : y_ = nI (K + 1) := ey_.trans (nI_1 K)
    refine va_put (D := D) (ci := 0) (v := .int (nI (K + 1))) (ty := .int) (C := RH) (T := TH) (N := 6) hx hb hts iH tyH tyH_ok nmH hown hK hP hD hS 0 rfl rfl 0 (by decide) (hts _ w_46) (fun _ h9 => h9) rfl (by decide +kernel) rfl rfl (Nat.le_of_ble_eq_true rfl) dH_keepOpen_16 (fun H locs hP hD hS => ?_)
    have hP : va_P D vwCl [(g0, .inr (0, [.int (nI (K + 1)), .int (nI O), .ref g1, .ref g2, .ref g3, .ref g4])), (g1, .inl (τ 0, 41, .inl sz)), (g2, .inl (τ 0, 1230, .inl bg)), (g3, .inl (τ 0, 1230, .inl en)), (g4, .inl (τ 0, 1230, .inl ln))] H := hP
    have hD : va_D A [(g0, .inr (0, [.int (nI (K + 1)), .int (nI O), .ref g1, .ref g2, .ref g3, .ref g4])), (g1, .inl (τ 0, 41, .inl sz)), (g2, .inl (τ 0, 1230, .inl bg)), (g3, .inl (τ 0, 1230, .inl en)), (g4, .inl (τ 0, 1230, .inl ln))] := hD
    refine lv_goto (tgt := 35) hx hb dH_keepOpen_19 (by decide) ?_
    refine lv_aload_n hx hb dH_keepOpen_35 rfl (lv_at hl 0 rfl) ?_
    refine va_get (D := D) (ci := 0) (v := .ref g1) (C := RH) (T := TH) (N := 6) hx hb hts iH hown hK hP 0 rfl rfl 2 (by decide) (hts _ w_49) (fun _ h9 => h9) rfl dH_keepOpen_36 ?_
    refine lv_aload_n hx hb dH_keepOpen_39 rfl (lv_at hl 0 rfl) ?_
    refine kc_Vi (As := []) (rest := [.ref g1]) (wr := [(g1, .inl (τ 0, 41, .inl sz)), (g2, .inl (τ 0, 1230, .inl bg)), (g3, .inl (τ 0, 1230, .inl en)), (g4, .inl (τ 0, 1230, .inl ln))]) (W1 := [(g0, .inr (0, [.int (nI (K + 1)), .int (nI O), .ref g1, .ref g2, .ref g3, .ref g4])), (g1, .inl (τ 0, 41, .inl sz)), (g2, .inl (τ 0, 1230, .inl bg)), (g3, .inl (τ 0, 1230, .inl en)), (g4, .inl (τ 0, 1230, .inl ln))]) ⟨hx, hb, hml, hown, hts⟩ (ch_slot l D τ g0 g1 g2 g3 g4 (K + 1) O (by first | assumption | omega) (by first | assumption | omega)) (kcwV hts qH_openSlot w_213 rfl rfl ⟨Nat.le_of_ble_eq_true rfl, Nat.le_of_ble_eq_true rfl⟩) hK hP hD hS hA [0] [1, 2, 3, 4] [4, 0, 1, 2, 3] rfl rfl (by decide) (by decide) (by decide) rfl rfl rfl (by decide) hl.1 rfl rfl (Nat.le_of_ble_eq_true rfl) ⟨Nat.zero_le _, Nat.zero_le _⟩ dH_keepOpen_40 (fun H locs hP hD hS => ?_)
    refine lv_iconst (v := 0) hx hb dH_keepOpen_43 (by decide) ?_
    refine ka_iast (k := (O + (K + 1)) % 41) hx hb hK hP hD hS 1 0 rfl rfl (by omega) (by omega) rfl dH_keepOpen_44 (fun H locs hP hD hS => ?_)
    have hP : va_P D vwCl [(g0, .inr (0, [.int (nI (K + 1)), .int (nI O), .ref g1, .ref g2, .ref g3, .ref g4])), (g1, .inl (τ 0, 41, .inl (upd sz ((O + (K + 1)) % 41) 0))), (g2, .inl (τ 0, 1230, .inl bg)), (g3, .inl (τ 0, 1230, .inl en)), (g4, .inl (τ 0, 1230, .inl ln))] H := hP
    have hD : va_D A [(g0, .inr (0, [.int (nI (K + 1)), .int (nI O), .ref g1, .ref g2, .ref g3, .ref g4])), (g1, .inl (τ 0, 41, .inl (upd sz ((O + (K + 1)) % 41) 0))), (g2, .inl (τ 0, 1230, .inl bg)), (g3, .inl (τ 0, 1230, .inl en)), (g4, .inl (τ 0, 1230, .inl ln))] := hD
    have e1_ : kKk K = K + 1 := if_pos hK40
    have e2_ : kKo K O = O := if_pos hK40
    exact k_vret hx hb hr hlocks hK hS (by rw [e1_, e2_]; exact hP) (by rw [e1_, e2_]; exact hD) dH_keepOpen_45
set_option maxHeartbeats 4000000 in
set_option maxRecDepth 100000 in
theorem lh_back {p : Program} {l : Launch} {e : Env} {s : State} {m : MethodId} {args : Array Value} {below : List Frame} {meth : Method} {c : Code} {Q : State → Prop} {D : va_G} {τ : Nat → ClassId} {A : Nat → Prop} (hx : p.tables.exec = Jvm.exec) (hb : c.code = cH_takeBackLatest) (hml : c.maxLocals = 5) (hown : s.vm.findClass RH = some m.cls) (hts : ∀ w ∈ kTbl, w.before args s = true) (hK : va_K D vwCl (kTys τ) s) (hA : ∀ q : Nat, s.heap.size ≤ q → A q) (g0 : Nat) (g1 : Nat) (g2 : Nat) (g3 : Nat) (g4 : Nat) (K : Nat) (O : Nat) (sz : Nat → Int32) (bg : Nat → Int32) (en : Nat → Int32) (ln : Nat → Int32) (n0 : Nat) (n1 : Nat) (N : Nat) (sl : Nat) (S : Nat) (gr : Int32) (gl : Nat → Int32) (hsl : sl < 41) (hS30 : S ≤ 30) (hBb : ∀ q, q < S → ∃ a b, a < 24 ∧ b < 24 ∧ bg (sl * 30 + q) = nI a ∧ en (sl * 30 + q) = nI b)
    (kx : ∀ (H : Heap) (locs : List Loc) (ls : Array Slot), va_P D vwCl [(g0, .inr (0, [.int (nI K), .int (nI O), .ref g1, .ref g2, .ref g3, .ref g4])), (g1, .inl (τ 0, 41, .inl sz)), (g2, .inl (τ 0, 1230, .inl bg)), (g3, .inl (τ 0, 1230, .inl en)), (g4, .inl (τ 0, 1230, .inl ln)), (n0, .inr (2, [.int (nI N), .int ((kItr (kTb bg en ln sl S) S (gr, gl)).1), .ref n1])), (n1, .inl (τ 0, 576, .inl ((kItr (kTb bg en ln sl S) S (gr, gl)).2)))] H → va_D A [(g0, .inr (0, [.int (nI K), .int (nI O), .ref g1, .ref g2, .ref g3, .ref g4])), (g1, .inl (τ 0, 41, .inl sz)), (g2, .inl (τ 0, 1230, .inl bg)), (g3, .inl (τ 0, 1230, .inl en)), (g4, .inl (τ 0, 1230, .inl ln)), (n0, .inr (2, [.int (nI N), .int ((kItr (kTb bg en ln sl S) S (gr, gl)).1), .ref n1])), (n1, .inl (τ 0, 576, .inl ((kItr (kTb bg en ln sl S) S (gr, gl)).2)))] → va_S A s.heap H locs → lv_has ls 5 [(0, .ref g0), (1, .ref n0), (2, .int (nI sl))] → W p l e (headSpec (kWs yH_takeBackLatest cH_takeBackLatest 5 none) { frames := 2, cells := 0, slots := 0, locals := 46 }).room s m args below meth c H locs 0 0 Q (F0 m 75 ls [])) :
    ∀ (n k : Nat), k + n = S → ∀ (H : Heap) (locs : List Loc) (ls : Array Slot), va_P D vwCl [(g0, .inr (0, [.int (nI K), .int (nI O), .ref g1, .ref g2, .ref g3, .ref g4])), (g1, .inl (τ 0, 41, .inl sz)), (g2, .inl (τ 0, 1230, .inl bg)), (g3, .inl (τ 0, 1230, .inl en)), (g4, .inl (τ 0, 1230, .inl ln)), (n0, .inr (2, [.int (nI N), .int ((kItr (kTb bg en ln sl S) k (gr, gl)).1), .ref n1])), (n1, .inl (τ 0, 576, .inl ((kItr (kTb bg en ln sl S) k (gr, gl)).2)))] H → va_D A [(g0, .inr (0, [.int (nI K), .int (nI O), .ref g1, .ref g2, .ref g3, .ref g4])), (g1, .inl (τ 0, 41, .inl sz)), (g2, .inl (τ 0, 1230, .inl bg)), (g3, .inl (τ 0, 1230, .inl en)), (g4, .inl (τ 0, 1230, .inl ln)), (n0, .inr (2, [.int (nI N), .int ((kItr (kTb bg en ln sl S) k (gr, gl)).1), .ref n1])), (n1, .inl (τ 0, 576, .inl ((kItr (kTb bg en ln sl S) k (gr, gl)).2)))] → va_S A s.heap H locs → lv_has ls 5 [(0, .ref g0), (1, .ref n0), (2, .int (nI sl)), (3, .int (nI (S - k) - 1))] → W p l e (headSpec (kWs yH_takeBackLatest cH_takeBackLatest 5 none) { frames := 2, cells := 0, slots := 0, locals := 46 }).room s m args below meth c H locs 0 0 Q (F0 m 32 ls []) := by
  intro n
  induction n with
  | zero =>
    intro k hk H locs ls hP hD hS hl
    have hkN : S = k := by omega
    subst hkN
    revert hP hD hl
    generalize hst : (kItr (kTb bg en ln sl S) S (gr, gl)) = st
    intro hP hD hl
    obtain ⟨ar, len⟩ := st
    have hP : va_P D vwCl [(g0, .inr (0, [.int (nI K), .int (nI O), .ref g1, .ref g2, .ref g3, .ref g4])), (g1, .inl (τ 0, 41, .inl sz)), (g2, .inl (τ 0, 1230, .inl bg)), (g3, .inl (τ 0, 1230, .inl en)), (g4, .inl (τ 0, 1230, .inl ln)), (n0, .inr (2, [.int (nI N), .int ar, .ref n1])), (n1, .inl (τ 0, 576, .inl len))] H := hP
    have hD : va_D A [(g0, .inr (0, [.int (nI K), .int (nI O), .ref g1, .ref g2, .ref g3, .ref g4])), (g1, .inl (τ 0, 41, .inl sz)), (g2, .inl (τ 0, 1230, .inl bg)), (g3, .inl (τ 0, 1230, .inl en)), (g4, .inl (τ 0, 1230, .inl ln)), (n0, .inr (2, [.int (nI N), .int ar, .ref n1])), (n1, .inl (τ 0, 576, .inl len))] := hD
    have hl : lv_has ls 5 [(0, .ref g0), (1, .ref n0), (2, .int (nI sl)), (3, .int (nI (S - S) - 1))] := hl
    refine lv_iload_n hx hb dH_takeBackLatest_32 rfl (lv_at hl 3 rfl) ?_
    refine lv_if_lt (tgt := 75) hx hb dH_takeBackLatest_33 (by decide) (fun c_33 => ?_) (fun c_33 => absurd (by rw [Nat.sub_self]; decide) c_33)
    exact kx H locs ls (by (try rw [hst]); exact hP) (by (try rw [hst]); exact hD) hS (by (try rw [hst]); exact lv_sub hl [0, 1, 2] rfl)
  | succ n ih =>
    intro k hk H locs ls hP hD hS hl
    have hkN : k < S := by omega
    have ih := ih (k + 1) (by omega)
    rw [kItr_s] at ih
    revert hP hD hl ih
    generalize hst : (kItr (kTb bg en ln sl S) k (gr, gl)) = st
    intro hP hD hl ih
    obtain ⟨ar, len⟩ := st
    have hP : va_P D vwCl [(g0, .inr (0, [.int (nI K), .int (nI O), .ref g1, .ref g2, .ref g3, .ref g4])), (g1, .inl (τ 0, 41, .inl sz)), (g2, .inl (τ 0, 1230, .inl bg)), (g3, .inl (τ 0, 1230, .inl en)), (g4, .inl (τ 0, 1230, .inl ln)), (n0, .inr (2, [.int (nI N), .int ar, .ref n1])), (n1, .inl (τ 0, 576, .inl len))] H := hP
    have hD : va_D A [(g0, .inr (0, [.int (nI K), .int (nI O), .ref g1, .ref g2, .ref g3, .ref g4])), (g1, .inl (τ 0, 41, .inl sz)), (g2, .inl (τ 0, 1230, .inl bg)), (g3, .inl (τ 0, 1230, .inl en)), (g4, .inl (τ 0, 1230, .inl ln)), (n0, .inr (2, [.int (nI N), .int ar, .ref n1])), (n1, .inl (τ 0, 576, .inl len))] := hD
    have hl : lv_has ls 5 [(0, .ref g0), (1, .ref n0), (2, .int (nI sl)), (3, .int (nI (S - k) - 1))] := hl
    have e3_ : nI (S - k) - 1 = nI (S - k - 1) := pk_sub (b := 1) (by omega)
    rw [e3_] at hl
    refine lv_iload_n hx hb dH_takeBackLatest_32 rfl (lv_at hl 3 rfl) ?_
    refine lv_if_lt (tgt := 75) hx hb dH_takeBackLatest_33 (by decide) (fun c_33 => absurd c_33 (nI_pos (by omega))) (fun c_33 => ?_)
    refine lv_iload_n hx hb dH_takeBackLatest_36 rfl (lv_at hl 2 rfl) ?_
    refine lv_bipush (v := 30) hx hb dH_takeBackLatest_37 (by decide) ?_
    refine lv_imul hx hb dH_takeBackLatest_39 ?_
    refine lv_topi (fun y_ ey_ => ?_)
    obtain rfl : y_ = nI (sl * 30) := ey_.trans (pk_mul _ 30)
    refine lv_iload_n hx hb dH_takeBackLatest_40 rfl (lv_at hl 3 rfl) ?_
    refine lv_iadd hx hb dH_takeBackLatest_41 ?_
    refine lv_topi (fun y_ ey_ => ?_)
    obtain rfl : y_ = nI (sl * 30 + (S - k - 1)) := ey_.trans (nI_add _ _)
    refine lv_istore (lv' := [(4, .int (nI (sl * 30 + (S - k - 1)))), (0, .ref g0), (1, .ref n0), (2, .int (nI sl)), (3, .int (nI (S - k - 1)))]) hx hb dH_takeBackLatest_42 hl (by decide) rfl (fun ls hl => ?_)
    obtain ⟨qa, qb, hqa, hqb, eqa, eqb⟩ := hBb (S - k - 1) (by omega)
    refine lv_aload_n hx hb dH_takeBackLatest_44 rfl (lv_at hl 2 rfl) ?_
    refine lv_aload_n hx hb dH_takeBackLatest_45 rfl (lv_at hl 1 rfl) ?_
    refine va_get (D := D) (ci := 0) (v := .ref g2) (C := RH) (T := TH) (N := 6) hx hb hts iH hown hK hP 0 rfl rfl 3 (by decide) (hts _ w_50) (fun _ h9 => h9) rfl dH_takeBackLatest_46 ?_
    refine lv_iload hx hb dH_takeBackLatest_49 (lv_at hl 0 rfl) ?_
    refine ka_iald (k := sl * 30 + (S - k - 1)) hx hb hK hP 2 0 rfl rfl (by omega) (by omega) rfl dH_takeBackLatest_51 ?_
    refine lv_topi (fun y_ ey_ => ?_)
    obtain rfl : y_ = nI qa := ey_.trans eqa
    refine lv_aload_n hx hb dH_takeBackLatest_52 rfl (lv_at hl 1 rfl) ?_
    refine va_get (D := D) (ci := 0) (v := .ref g3) (C := RH) (T := TH) (N := 6) hx hb hts iH hown hK hP 0 rfl rfl 4 (by decide) (hts _ w_51) (fun _ h9 => h9) rfl dH_takeBackLatest_53 ?_
    refine lv_iload hx hb dH_takeBackLatest_56 (lv_at hl 0 rfl) ?_
    refine ka_iald (k := sl * 30 + (S - k - 1)) hx hb hK hP 3 0 rfl rfl (by omega) (by omega) rfl dH_takeBackLatest_58 ?_
    refine lv_topi (fun y_ ey_ => ?_)
    obtain rfl : y_ = nI qb := ey_.trans eqb
    refine lv_aload_n hx hb dH_takeBackLatest_59 rfl (lv_at hl 1 rfl) ?_
    refine va_get (D := D) (ci := 0) (v := .ref g4) (C := RH) (T := TH) (N := 6) hx hb hts iH hown hK hP 0 rfl rfl 5 (by decide) (hts _ w_52) (fun _ h9 => h9) rfl dH_takeBackLatest_60 ?_
    refine lv_iload hx hb dH_takeBackLatest_63 (lv_at hl 0 rfl) ?_
    refine ka_iald (k := sl * 30 + (S - k - 1)) hx hb hK hP 4 0 rfl rfl (by omega) (by omega) rfl dH_takeBackLatest_65 ?_
    refine kc_Vv (As := [.int (nI qa), .int (nI qb), .int (ln (sl * 30 + (S - k - 1)))]) (rest := []) (wr := [(g0, .inr (0, [.int (nI K), .int (nI O), .ref g1, .ref g2, .ref g3, .ref g4])), (g1, .inl (τ 0, 41, .inl sz)), (g2, .inl (τ 0, 1230, .inl bg)), (g3, .inl (τ 0, 1230, .inl en)), (g4, .inl (τ 0, 1230, .inl ln))]) (W1 := [(g0, .inr (0, [.int (nI K), .int (nI O), .ref g1, .ref g2, .ref g3, .ref g4])), (g1, .inl (τ 0, 41, .inl sz)), (g2, .inl (τ 0, 1230, .inl bg)), (g3, .inl (τ 0, 1230, .inl en)), (g4, .inl (τ 0, 1230, .inl ln)), (n0, .inr (2, [.int (nI N), .int (kArcs ar (len (qa * 24 + qb)) (ln (sl * 30 + (S - k - 1)))), .ref n1])), (n1, .inl (τ 0, 576, .inl (upd len (qa * 24 + qb) (ln (sl * 30 + (S - k - 1))))))]) ⟨hx, hb, hml, hown, hts⟩ (cn_set l D τ n0 n1 N qa qb ar (ln (sl * 30 + (S - k - 1))) len (by first | assumption | omega) (by first | assumption | omega)) (kcwV hts qN_setLength w_291 rfl rfl ⟨Nat.le_of_ble_eq_true rfl, Nat.le_of_ble_eq_true rfl⟩) hK hP hD hS hA [5, 6] [0, 1, 2, 3, 4] [0, 1, 2, 3, 4, 5, 6] rfl rfl (by decide) (by decide) (by decide) rfl rfl rfl (by decide) hl.1 rfl rfl (Nat.le_of_ble_eq_true rfl) ⟨Nat.zero_le _, Nat.zero_le _⟩ dH_takeBackLatest_66 (fun H locs hP hD hS => ?_)
    refine lv_iinc (v := nI (S - (k + 1)) - 1) (lv' := [(3, .int (nI (S - (k + 1)) - 1)), (4, .int (nI (sl * 30 + (S - k - 1)))), (0, .ref g0), (1, .ref n0), (2, .int (nI sl))]) hx hb dH_takeBackLatest_69 hl (k := 4) rfl (by rw [show S - (k + 1) = S - k - 1 by omega]; exact k_m1 _) (by decide) rfl (fun ls hl => ?_)
    refine lv_goto (tgt := 32) hx hb dH_takeBackLatest_72 (by decide) ?_
    have e_ : (kTb bg en ln sl S) k (ar, len) = (kArcs ar (len (qa * 24 + qb)) (ln (sl * 30 + (S - k - 1))), upd len (qa * 24 + qb) (ln (sl * 30 + (S - k - 1)))) := by unfold kTb; dsimp only; rw [eqa, eqb, nI_clamp (by omega), nI_clamp (by omega)]
    (try rw [e_] at ih)
    exact ih H locs ls hP hD hS (lv_sub hl [2, 3, 4, 0] rfl)
set_option maxHeartbeats 4000000 in
set_option maxRecDepth 100000 in
theorem ch_back (l : Launch) (D : va_G) (τ : Nat → ClassId) (g0 : Nat) (g1 : Nat) (g2 : Nat) (g3 : Nat) (g4 : Nat) (K : Nat) (O : Nat) (sz : Nat → Int32) (bg : Nat → Int32) (en : Nat → Int32) (ln : Nat → Int32) (n0 : Nat) (n1 : Nat) (N : Nat) (ar : Int32) (len : Nat → Int32) (S : Nat) (hKk : K ≤ 40) (hK0 : 0 < K) (hOo : O < 41) (hS30 : S ≤ 30) (hSs : sz ((O + (K - 1)) % 41) = nI S) (hBb : ∀ q, q < S → ∃ a b, a < 24 ∧ b < 24 ∧ bg (((O + (K - 1)) % 41) * 30 + q) = nI a ∧ en (((O + (K - 1)) % 41) * 30 + q) = nI b) : kMv l D τ yH_takeBackLatest (kWs yH_takeBackLatest cH_takeBackLatest 5 none) { frames := 2, cells := 0, slots := 0, locals := 46 } [.ref g0, .ref n0] [(g0, .inr (0, [.int (nI K), .int (nI O), .ref g1, .ref g2, .ref g3, .ref g4])), (g1, .inl (τ 0, 41, .inl sz)), (g2, .inl (τ 0, 1230, .inl bg)), (g3, .inl (τ 0, 1230, .inl en)), (g4, .inl (τ 0, 1230, .inl ln)), (n0, .inr (2, [.int (nI N), .int ar, .ref n1])), (n1, .inl (τ 0, 576, .inl len))] [(g0, .inr (0, [.int (nI (K - 1)), .int (nI O), .ref g1, .ref g2, .ref g3, .ref g4])), (g1, .inl (τ 0, 41, .inl (upd sz ((O + (K - 1)) % 41) 0))), (g2, .inl (τ 0, 1230, .inl bg)), (g3, .inl (τ 0, 1230, .inl en)), (g4, .inl (τ 0, 1230, .inl ln)), (n0, .inr (2, [.int (nI N), .int ((kItr (kTb bg en ln ((O + (K - 1)) % 41) S) S (ar, len)).1), .ref n1])), (n1, .inl (τ 0, 576, .inl ((kItr (kTb bg en ln ((O + (K - 1)) % 41) S) S (ar, len)).2)))] := by
  intro sz
  refine Met.ofW (cc := cH_takeBackLatest) (maxL := 5) (ret := none) (by decide) rfl ?_
  intro p e s m args below meth c s₁ B hml hv
  obtain ⟨rfl, hsz, hP, hK, hD0⟩ := hv
  have hx := B.exec
  have hb := B.bytes
  have hr := B.returns
  have hts := fun w (hw : w ∈ kTbl) => atoms_spec (ws := (kWs yH_takeBackLatest cH_takeBackLatest 5 none)) B.pre w (List.mem_cons_of_mem _ hw)
  have hown : s.vm.findClass RH = some m.cls := findClass_of_methodNamed B.named
  have hlocks := B.notSynchronized
  subst hsz
  have hD := hD0.self (sz := s.heap.size)
  generalize hAe : va_A [(g0, .inr (0, [.int (nI K), .int (nI O), .ref g1, .ref g2, .ref g3, .ref g4])), (g1, .inl (τ 0, 41, .inl sz)), (g2, .inl (τ 0, 1230, .inl bg)), (g3, .inl (τ 0, 1230, .inl en)), (g4, .inl (τ 0, 1230, .inl ln)), (n0, .inr (2, [.int (nI N), .int ar, .ref n1])), (n1, .inl (τ 0, 576, .inl len))] s.heap.size = A at hD ⊢
  have hA : ∀ q : Nat, s.heap.size ≤ q → A q := fun q h => by rw [← hAe]; exact Or.inr h
  have hS : va_S A s.heap s.heap [] := va_S.rf
  have hP : va_P D vwCl [(g0, .inr (0, [.int (nI K), .int (nI O), .ref g1, .ref g2, .ref g3, .ref g4])), (g1, .inl (τ 0, 41, .inl sz)), (g2, .inl (τ 0, 1230, .inl bg)), (g3, .inl (τ 0, 1230, .inl en)), (g4, .inl (τ 0, 1230, .inl ln)), (n0, .inr (2, [.int (nI N), .int ar, .ref n1])), (n1, .inl (τ 0, 576, .inl len))] s.heap := hP
  have hl := lv_entry ([.ref g0, .ref n0]) (n := 5) (Nat.le_of_ble_eq_true rfl)
  rw [lg_entry_eq]
  generalize (lg_sl ([.ref g0, .ref n0]) ++ List.replicate (5 - (lg_sl ([.ref g0, .ref n0])).length) Slot.unset).toArray = ls at hl ⊢
  have hl : lv_has ls 5 [(0, .ref g0), (1, .ref n0)] := hl
  skip
  refine lv_aload_n hx hb dH_takeBackLatest_0 rfl (lv_at hl 0 rfl) ?_
  refine va_get (D := D) (ci := 0) (v := .int (nI K)) (C := RH) (T := TH) (N := 6) hx hb hts iH hown hK hP 0 rfl rfl 0 (by decide) (hts _ w_46) (fun _ h9 => h9) rfl dH_takeBackLatest_1 ?_
  refine lv_if_ne (tgt := 8) hx hb dH_takeBackLatest_4 (by decide) (fun c_4 => ?_) (fun c_4 => absurd c_4 (nI_ne0 hK0 (by omega)))
  refine lv_aload_n hx hb dH_takeBackLatest_8 rfl (lv_at hl 0 rfl) ?_
  refine lv_dup hx hb dH_takeBackLatest_9 rfl ?_
  refine va_get (D := D) (ci := 0) (v := .int (nI K)) (C := RH) (T := TH) (N := 6) hx hb hts iH hown hK hP 0 rfl rfl 0 (by decide) (hts _ w_46) (fun _ h9 => h9) rfl dH_takeBackLatest_10 ?_
  refine lv_iconst (v := 1) hx hb dH_takeBackLatest_13 (by decide) ?_
  refine lv_isub hx hb dH_takeBackLatest_14 ?_
  refine lv_topi (fun y_ ey_ => ?_)
  obtain rfl : y_ = nI (K - 1) := ey_.trans (pk_sub (b := 1) (by omega))
  refine va_put (D := D) (ci := 0) (v := .int (nI (K - 1))) (ty := .int) (C := RH) (T := TH) (N := 6) hx hb hts iH tyH tyH_ok nmH hown hK hP hD hS 0 rfl rfl 0 (by decide) (hts _ w_46) (fun _ h9 => h9) rfl (by decide +kernel) rfl rfl (Nat.le_of_ble_eq_true rfl) dH_takeBackLatest_15 (fun H locs hP hD hS => ?_)
  have hP : va_P D vwCl [(g0, .inr (0, [.int (nI (K - 1)), .int (nI O), .ref g1, .ref g2, .ref g3, .ref g4])), (g1, .inl (τ 0, 41, .inl sz)), (g2, .inl (τ 0, 1230, .inl bg)), (g3, .inl (τ 0, 1230, .inl en)), (g4, .inl (τ 0, 1230, .inl ln)), (n0, .inr (2, [.int (nI N), .int ar, .ref n1])), (n1, .inl (τ 0, 576, .inl len))] H := hP
  have hD : va_D A [(g0, .inr (0, [.int (nI (K - 1)), .int (nI O), .ref g1, .ref g2, .ref g3, .ref g4])), (g1, .inl (τ 0, 41, .inl sz)), (g2, .inl (τ 0, 1230, .inl bg)), (g3, .inl (τ 0, 1230, .inl en)), (g4, .inl (τ 0, 1230, .inl ln)), (n0, .inr (2, [.int (nI N), .int ar, .ref n1])), (n1, .inl (τ 0, 576, .inl len))] := hD
  refine lv_aload_n hx hb dH_takeBackLatest_18 rfl (lv_at hl 0 rfl) ?_
  refine kc_Vi (As := []) (rest := []) (wr := [(g1, .inl (τ 0, 41, .inl sz)), (g2, .inl (τ 0, 1230, .inl bg)), (g3, .inl (τ 0, 1230, .inl en)), (g4, .inl (τ 0, 1230, .inl ln)), (n0, .inr (2, [.int (nI N), .int ar, .ref n1])), (n1, .inl (τ 0, 576, .inl len))]) (W1 := [(g0, .inr (0, [.int (nI (K - 1)), .int (nI O), .ref g1, .ref g2, .ref g3, .ref g4])), (g1, .inl (τ 0, 41, .inl sz)), (g2, .inl (τ 0, 1230, .inl bg)), (g3, .inl (τ 0, 1230, .inl en)), (g4, .inl (τ 0, 1230, .inl ln)), (n0, .inr (2, [.int (nI N), .int ar, .ref n1])), (n1, .inl (τ 0, 576, .inl len))]) ⟨hx, hb, hml, hown, hts⟩ (ch_slot l D τ g0 g1 g2 g3 g4 (K - 1) O (by first | assumption | omega) (by first | assumption | omega)) (kcwV hts qH_openSlot w_213 rfl rfl ⟨Nat.le_of_ble_eq_true rfl, Nat.le_of_ble_eq_true rfl⟩) hK hP hD hS hA [0] [1, 2, 3, 4, 5, 6] [6, 0, 1, 2, 3, 4, 5] rfl rfl (by decide) (by decide) (by decide) rfl rfl rfl (by decide) hl.1 rfl rfl (Nat.le_of_ble_eq_true rfl) ⟨Nat.zero_le _, Nat.zero_le _⟩ dH_takeBackLatest_19 (fun H locs hP hD hS => ?_)
  refine lv_istore_n (lv' := [(2, .int (nI ((O + (K - 1)) % 41))), (0, .ref g0), (1, .ref n0)]) hx hb dH_takeBackLatest_22 rfl hl (by decide) rfl (fun ls hl => ?_)
  refine lv_aload_n hx hb dH_takeBackLatest_23 rfl (lv_at hl 1 rfl) ?_
  refine va_get (D := D) (ci := 0) (v := .ref g1) (C := RH) (T := TH) (N := 6) hx hb hts iH hown hK hP 0 rfl rfl 2 (by decide) (hts _ w_49) (fun _ h9 => h9) rfl dH_takeBackLatest_24 ?_
  refine lv_iload_n hx hb dH_takeBackLatest_27 rfl (lv_at hl 0 rfl) ?_
  refine ka_iald (k := (O + (K - 1)) % 41) hx hb hK hP 1 0 rfl rfl (by omega) (by omega) rfl dH_takeBackLatest_28 ?_
  refine lv_topi (fun y_ ey_ => ?_)
  obtain rfl : y_ = nI S := ey_.trans hSs
  refine lv_iconst (v := 1) hx hb dH_takeBackLatest_29 (by decide) ?_
  refine lv_isub hx hb dH_takeBackLatest_30 ?_
  refine lv_istore_n (lv' := [(3, .int ((nI S) - 1)), (2, .int (nI ((O + (K - 1)) % 41))), (0, .ref g0), (1, .ref n0)]) hx hb dH_takeBackLatest_31 rfl hl (by decide) rfl (fun ls hl => ?_)
  refine lh_back hx hb hml hown hts hK hA g0 g1 g2 g3 g4 (K - 1) O sz bg en ln n0 n1 N ((O + (K - 1)) % 41) S ar len (by first | assumption | omega) (by first | assumption | omega) (by first | assumption | omega) (fun H locs ls hP hD hS hl => ?_) S 0 (by omega) _ _ ls hP hD hS (lv_sub hl [2, 3, 1, 0] rfl)
  refine lv_aload_n hx hb dH_takeBackLatest_75 rfl (lv_at hl 0 rfl) ?_
  refine va_get (D := D) (ci := 0) (v := .ref g1) (C := RH) (T := TH) (N := 6) hx hb hts iH hown hK hP 0 rfl rfl 2 (by decide) (hts _ w_49) (fun _ h9 => h9) rfl dH_takeBackLatest_76 ?_
  refine lv_iload_n hx hb dH_takeBackLatest_79 rfl (lv_at hl 2 rfl) ?_
  refine lv_iconst (v := 0) hx hb dH_takeBackLatest_80 (by decide) ?_
  refine ka_iast (k := ((O + (K - 1)) % 41)) hx hb hK hP hD hS 1 0 rfl rfl (by omega) (by omega) rfl dH_takeBackLatest_81 (fun H locs hP hD hS => ?_)
  have hP : va_P D vwCl [(g0, .inr (0, [.int (nI (K - 1)), .int (nI O), .ref g1, .ref g2, .ref g3, .ref g4])), (g1, .inl (τ 0, 41, .inl (upd sz ((O + (K - 1)) % 41) 0))), (g2, .inl (τ 0, 1230, .inl bg)), (g3, .inl (τ 0, 1230, .inl en)), (g4, .inl (τ 0, 1230, .inl ln)), (n0, .inr (2, [.int (nI N), .int ((kItr (kTb bg en ln ((O + (K - 1)) % 41) S) (S) (ar, len)).1), .ref n1])), (n1, .inl (τ 0, 576, .inl ((kItr (kTb bg en ln ((O + (K - 1)) % 41) S) (S) (ar, len)).2)))] H := hP
  have hD : va_D A [(g0, .inr (0, [.int (nI (K - 1)), .int (nI O), .ref g1, .ref g2, .ref g3, .ref g4])), (g1, .inl (τ 0, 41, .inl (upd sz ((O + (K - 1)) % 41) 0))), (g2, .inl (τ 0, 1230, .inl bg)), (g3, .inl (τ 0, 1230, .inl en)), (g4, .inl (τ 0, 1230, .inl ln)), (n0, .inr (2, [.int (nI N), .int ((kItr (kTb bg en ln ((O + (K - 1)) % 41) S) (S) (ar, len)).1), .ref n1])), (n1, .inl (τ 0, 576, .inl ((kItr (kTb bg en ln ((O + (K - 1)) % 41) S) (S) (ar, len)).2)))] := hD
  exact k_vret hx hb hr hlocks hK hS hP hD dH_takeBackLatest_82
end
section
def kQ3 (a b c : Nat) : Nat → Option Nat := fun i => match i with
  | 0 => some a
  | 1 => some b
  | 2 => some c
  | _ => none
abbrev kSo : Type := Int32 × Int32 × kLW × kLW
abbrev kSt : Type := (Nat × Int32 × kF) × (Nat × Nat × kF × kF × kF × kF) × kLW × (kF × Int32) × (Int32 × Int32) × kSo × kSo × kSo
/-- the cells of the class, by the roles that they have -/
def wKP (τ : Nat → ClassId) (ad : Nat → Nat) (S : kSt) : va_W := match S with
  | ((N, ar, len), (K, O, sz, bg, en, ln), (wd, wh, wp, wt), (rg, rs), (ib, ch), (pl0, af0, (td0, th0, tp0, tt0), (sd0, sh0, sp0, st0)), (pl1, af1, (td1, th1, tp1, tt1), (sd1, sh1, sp1, st1)), (pl2, af2, (td2, th2, tp2, tt2), (sd2, sh2, sp2, st2))) => [(ad 0, .inr (4, [.ref (ad 1), .ref (ad 3), .ref (ad 8), .ref (ad 9), .ref (ad 13), .int rs, .int ib, .int ch])), (ad 1, .inr (2, [.int (nI N), .int ar, .ref (ad 2)])), (ad 2, .inl (τ 0, 576, .inl len)), (ad 3, .inr (0, [.int (nI K), .int (nI O), .ref (ad 4), .ref (ad 5), .ref (ad 6), .ref (ad 7)])), (ad 4, .inl (τ 0, 41, .inl sz)), (ad 5, .inl (τ 0, 1230, .inl bg)), (ad 6, .inl (τ 0, 1230, .inl en)), (ad 7, .inl (τ 0, 1230, .inl ln)), (ad 8, .inl (τ 1, 3, .inr (.inr (.inr (.inr (kQ3 (ad 14) (ad 23) (ad 32))))))), (ad 9, .inr (1, [.ref (ad 10), .ref (ad 11), .ref (ad 12), .int wt])), (ad 10, .inl (τ 0, 24, .inl wd)), (ad 11, .inl (τ 0, 24, .inl wh)), (ad 12, .inl (τ 0, 24, .inl wp)), (ad 13, .inl (τ 0, 24, .inl rg)), (ad 14, .inr (3, [.int pl0, .int af0, .ref (ad 15), .ref (ad 19)])), (ad 15, .inr (1, [.ref (ad 16), .ref (ad 17), .ref (ad 18), .int tt0])), (ad 16, .inl (τ 0, 24, .inl td0)), (ad 17, .inl (τ 0, 24, .inl th0)), (ad 18, .inl (τ 0, 24, .inl tp0)), (ad 19, .inr (1, [.ref (ad 20), .ref (ad 21), .ref (ad 22), .int st0])), (ad 20, .inl (τ 0, 24, .inl sd0)), (ad 21, .inl (τ 0, 24, .inl sh0)), (ad 22, .inl (τ 0, 24, .inl sp0)), (ad 23, .inr (3, [.int pl1, .int af1, .ref (ad 24), .ref (ad 28)])), (ad 24, .inr (1, [.ref (ad 25), .ref (ad 26), .ref (ad 27), .int tt1])), (ad 25, .inl (τ 0, 24, .inl td1)), (ad 26, .inl (τ 0, 24, .inl th1)), (ad 27, .inl (τ 0, 24, .inl tp1)), (ad 28, .inr (1, [.ref (ad 29), .ref (ad 30), .ref (ad 31), .int st1])), (ad 29, .inl (τ 0, 24, .inl sd1)), (ad 30, .inl (τ 0, 24, .inl sh1)), (ad 31, .inl (τ 0, 24, .inl sp1)), (ad 32, .inr (3, [.int pl2, .int af2, .ref (ad 33), .ref (ad 37)])), (ad 33, .inr (1, [.ref (ad 34), .ref (ad 35), .ref (ad 36), .int tt2])), (ad 34, .inl (τ 0, 24, .inl td2)), (ad 35, .inl (τ 0, 24, .inl th2)), (ad 36, .inl (τ 0, 24, .inl tp2)), (ad 37, .inr (1, [.ref (ad 38), .ref (ad 39), .ref (ad 40), .int st2])), (ad 38, .inl (τ 0, 24, .inl sd2)), (ad 39, .inl (τ 0, 24, .inl sh2)), (ad 40, .inl (τ 0, 24, .inl sp2))]
/-- told and spare have changed their places -/
def kSw (ad : Nat → Nat) : Nat → Nat := fun i => match i with
  | 15 => ad 19
  | 19 => ad 15
  | 16 => ad 20
  | 20 => ad 16
  | 17 => ad 21
  | 21 => ad 17
  | 18 => ad 22
  | 22 => ad 18
  | 24 => ad 28
  | 28 => ad 24
  | 25 => ad 29
  | 29 => ad 25
  | 26 => ad 30
  | 30 => ad 26
  | 27 => ad 31
  | 31 => ad 27
  | 33 => ad 37
  | 37 => ad 33
  | 34 => ad 38
  | 38 => ad 34
  | 35 => ad 39
  | 39 => ad 35
  | 36 => ad 40
  | 40 => ad 36
  | n => ad n
def kAd : Bool → (Nat → Nat) → Nat → Nat
  | true, ad => kSw ad
  | false, ad => ad
-- what the class's calls do: answer, whether told and spare change places, state
def kFull (ib x : Int32) : Prop := ¬ ib = 0 ∧ ¬ x < 30
def kFall (W : kLW) (i : Nat) (x : Int32) : Prop := ¬ W.1 i = (-1000000) ∧ W.1 i + x < 0
noncomputable def kRgB (W : kLW) (i K : Nat) (k : Nat) (r : kF) : kF := upd r k (kItr (kBack W.2.2.1) (K - k) (nI i))
noncomputable def kRec1 (N : Nat) (len : kF) (s : kSo) : kSo := (s.1, kDiff (kSettle N len s.1) s.2.2.1, kSettle N len s.1, s.2.2.1)
def kIsS (k : Int32) : Prop := ¬ k < 0 ∧ ¬ 3 ≤ k
def kLenOk (x : Int32) : Prop := ¬ x < (-1000) ∧ x ≤ 1000
/-- the source of a number -/
def kSel (S : kSt) (k : Nat) : kSo := match k with
  | 0 => S.2.2.2.2.2.1
  | 1 => S.2.2.2.2.2.2.1
  | _ => S.2.2.2.2.2.2.2
noncomputable def kChg (S : kSt) (i j : Nat) (x : Int32) : Int32 × Bool × kSt := match S with
  | ((N, ar, len), (K, O, sz, bg, en, ln), w, g, (ib, ch), a, b, c) =>
    kIf (ib = 0) (len (i * 24 + j), true, (N, kArcs ar (len (i * 24 + j)) x, upd len (i * 24 + j) x), (kKk K, kKo K O, upd (upd sz ((O + K) % 41) (nI ((sz ((O + K) % 41)).toNatClampNeg + 1))) ((kKo K O + kKk K) % 41) 0, upd bg ((O + K) % 41 * 30 + (sz ((O + K) % 41)).toNatClampNeg) (nI i), upd en ((O + K) % 41 * 30 + (sz ((O + K) % 41)).toNatClampNeg) (nI j), upd ln ((O + K) % 41 * 30 + (sz ((O + K) % 41)).toNatClampNeg) (len (i * 24 + j))), w, g, (ib, ch + 1), kRec1 N (upd len (i * 24 + j) x) a, kRec1 N (upd len (i * 24 + j) x) b, kRec1 N (upd len (i * 24 + j) x) c)
      (len (i * 24 + j), false, (N, kArcs ar (len (i * 24 + j)) x, upd len (i * 24 + j) x), (K, O, upd sz ((O + K) % 41) (nI ((sz ((O + K) % 41)).toNatClampNeg + 1)), upd bg ((O + K) % 41 * 30 + (sz ((O + K) % 41)).toNatClampNeg) (nI i), upd en ((O + K) % 41 * 30 + (sz ((O + K) % 41)).toNatClampNeg) (nI j), upd ln ((O + K) % 41 * 30 + (sz ((O + K) % 41)).toNatClampNeg) (len (i * 24 + j))), w, g, (ib, ch + 1), a, b, c)
theorem kIsS_n {k : Int32} (h : kIsS k) : k = nI 0 ∨ k = nI 1 ∨ k = nI 2 := by
  rcases pk_ix k (n := 3) (by omega) with q | q | ⟨j, hj, rfl⟩
  · exact absurd q h.1
  · exact absurd q h.2
  · rcases (show j = 0 ∨ j = 1 ∨ j = 2 by omega) with rfl | rfl | rfl
    · exact Or.inl rfl
    · exact Or.inr (Or.inl rfl)
    · exact Or.inr (Or.inr rfl)
def kLwOk (L : kLW) : Prop := kPar L.2.2.1 ∧ ∀ v, v < 24 → L.1 v = (-1000000) ∨ ∃ M, M < 24 ∧ L.2.1 v = nI M
noncomputable def fNode (T : kSt) : Int32 × Bool × kSt := kIf (T.2.2.2.2.1.1 = 0) (kIf (nI T.1.1 < 24) (nI T.1.1, false, (T.1.1 + 1, T.1.2), T.2) ((-3000000), false, T)) ((-4000000), false, T)
def kUpdS (T : kSt) (k : Nat) (x : kSo) : kSt := match k with
  | 0 => (T.1, T.2.1, T.2.2.1, T.2.2.2.1, T.2.2.2.2.1, x, T.2.2.2.2.2.2)
  | 1 => (T.1, T.2.1, T.2.2.1, T.2.2.2.1, T.2.2.2.2.1, T.2.2.2.2.2.1, x, T.2.2.2.2.2.2.2)
  | _ => (T.1, T.2.1, T.2.2.1, T.2.2.2.1, T.2.2.2.2.1, T.2.2.2.2.2.1, T.2.2.2.2.2.2.1, x)
noncomputable def fSource (T : kSt) (k v : Int32) : Int32 × Bool × kSt :=
  kIf (kIsS k ∧ (v = (-1) ∨ kNode T.1.1 v)) (kIf (T.2.2.2.2.1.1 = 0) ((kSel T k.toNatClampNeg).1, false, kUpdS T k.toNatClampNeg (v, 0, kSettle T.1.1 T.1.2.2 v, (kSel T k.toNatClampNeg).2.2.2)) ((-4000000), false, T)) ((-2000000), false, T)
/-- the open slot -/
def kOs (T : kSt) : Nat := (T.2.1.2.1 + T.2.1.1) % 41
noncomputable def fPut (T : kSt) (a b x : Int32) : Int32 × Bool × kSt :=
  kIf (kTwo T.1.1 a b ∧ kLenOk x) (kIf (kFull T.2.2.2.2.1.1 (T.2.1.2.2.1 (kOs T))) ((-3000000), false, T)
    (kIf (kFall (kSettle T.1.1 T.1.2.2 b) a.toNatClampNeg x)
      ((-5000000), false, T.1, T.2.1, kSettle T.1.1 T.1.2.2 b, (kItr (kRgB (kSettle T.1.1 T.1.2.2 b) a.toNatClampNeg ((kSettle T.1.1 T.1.2.2 b).2.1 a.toNatClampNeg).toNatClampNeg) (((kSettle T.1.1 T.1.2.2 b).2.1 a.toNatClampNeg).toNatClampNeg + 1) T.2.2.2.1.1, nI (((kSettle T.1.1 T.1.2.2 b).2.1 a.toNatClampNeg).toNatClampNeg + 1)), T.2.2.2.2)
      (kChg (T.1, T.2.1, kSettle T.1.1 T.1.2.2 b, T.2.2.2) a.toNatClampNeg b.toNatClampNeg x))) ((-2000000), false, T)
noncomputable def fTake (T : kSt) (a b : Int32) : Int32 × Bool × kSt :=
  kIf (kTwo T.1.1 a b) (kIf (kFull T.2.2.2.2.1.1 (T.2.1.2.2.1 (kOs T))) ((-3000000), false, T)
    (kIf (T.1.2.2 (a.toNatClampNeg * 24 + b.toNatClampNeg) = (-1000000)) ((-1000000), false, T) (kChg T a.toNatClampNeg b.toNatClampNeg (-1000000)))) ((-2000000), false, T)
noncomputable def fArc (T : kSt) (a b : Int32) : Int32 := kIf (kTwo T.1.1 a b) (T.1.2.2 (a.toNatClampNeg * 24 + b.toNatClampNeg)) (-2000000)
noncomputable def fBegin (T : kSt) : Int32 × Bool × kSt := kIf (T.2.2.2.2.1.1 = 0) (1, false, T.1, T.2.1, T.2.2.1, T.2.2.2.1, (1, T.2.2.2.2.1.2), T.2.2.2.2.2) ((-4000000), false, T)
noncomputable def fEnd (T : kSt) : Int32 × Bool × kSt := match T with
  | ((N, ar, len), (K, O, sz, bg, en, ln), w, g, (ib, ch), a, b, c) =>
    kIf (ib = 0) ((-4000000), false, (N, ar, len), (K, O, sz, bg, en, ln), w, g, (ib, ch), a, b, c)
      (kIf (sz ((O + K) % 41) ≤ 0) (sz ((O + K) % 41), true, (N, ar, len), (K, O, sz, bg, en, ln), w, g, (0, ch), kRec1 N len a, kRec1 N len b, kRec1 N len c)
        (sz ((O + K) % 41), true, (N, ar, len), (kKk K, kKo K O, upd sz ((kKo K O + kKk K) % 41) 0, bg, en, ln), w, g, (0, ch), kRec1 N len a, kRec1 N len b, kRec1 N len c))
noncomputable def kUnd (T : kSt) : Int32 × kF := match T with
  | ((_, ar, len), (K, O, sz, bg, en, ln), _) => kItr (kTb bg en ln ((O + (K - 1)) % 41) (sz ((O + (K - 1)) % 41)).toNatClampNeg) (sz ((O + (K - 1)) % 41)).toNatClampNeg (ar, len)
noncomputable def fUndo (T : kSt) : Int32 × Bool × kSt := match T with
  | ((N, ar, len), (K, O, sz, bg, en, ln), w, g, (ib, ch), a, b, c) =>
    kIf (ib = 0) (kIf (nI K = 0) ((-1000000), false, (N, ar, len), (K, O, sz, bg, en, ln), w, g, (ib, ch), a, b, c)
      (nI (K - 1), true, (N, (kUnd ((N, ar, len), (K, O, sz, bg, en, ln), w, g, (ib, ch), a, b, c)).1, (kUnd ((N, ar, len), (K, O, sz, bg, en, ln), w, g, (ib, ch), a, b, c)).2), (K - 1, O, upd sz ((O + (K - 1)) % 41) 0, bg, en, ln), w, g, (ib, ch), kRec1 N (kUnd ((N, ar, len), (K, O, sz, bg, en, ln), w, g, (ib, ch), a, b, c)).2 a, kRec1 N (kUnd ((N, ar, len), (K, O, sz, bg, en, ln), w, g, (ib, ch), a, b, c)).2 b, kRec1 N (kUnd ((N, ar, len), (K, O, sz, bg, en, ln), w, g, (ib, ch), a, b, c)).2 c))
      ((-4000000), false, (N, ar, len), (K, O, sz, bg, en, ln), w, g, (ib, ch), a, b, c)
noncomputable def fDist (T : kSt) (k v : Int32) : Int32 := kIf (kIsS k ∧ kNode T.1.1 v) ((kSel T k.toNatClampNeg).2.2.1.1 v.toNatClampNeg) (-2000000)
noncomputable def fHops (T : kSt) (k v : Int32) : Int32 := kIf (kIsS k ∧ kNode T.1.1 v) ((kSel T k.toNatClampNeg).2.2.1.2.1 v.toNatClampNeg) (-2000000)
noncomputable def fPar (T : kSt) (k v : Int32) : Int32 := kIf (kIsS k ∧ kNode T.1.1 v) ((kSel T k.toNatClampNeg).2.2.1.2.2.1 v.toNatClampNeg) (-2000000)
noncomputable def kWay (L : kLW) (v : Nat) (i : Int32) : Int32 := kIf (L.1 v = (-1000000)) (-1000000) (kIf (i = (-1)) (L.2.1 v + 1) (kIf (¬ i < 0 ∧ ¬ L.2.1 v + 1 ≤ i) (kItr (kBack L.2.2.1) ((L.2.1 v).toNatClampNeg - i.toNatClampNeg) (nI v)) (-2000000)))
noncomputable def fWay (T : kSt) (k v i : Int32) : Int32 := kIf (kIsS k ∧ kNode T.1.1 v) (kWay (kSel T k.toNatClampNeg).2.2.1 v.toNatClampNeg i) (-2000000)
noncomputable def fAff (T : kSt) (k : Int32) : Int32 := kIf (kIsS k) (kSel T k.toNatClampNeg).2.1 (-2000000)
noncomputable def fTight (T : kSt) (k : Int32) : Int32 := kIf (kIsS k) (kSel T k.toNatClampNeg).2.2.1.2.2.2 (-2000000)
noncomputable def fRing (T : kSt) (i : Int32) : Int32 := kIf (i = (-1)) T.2.2.2.1.2 (kIf (¬ i < 0 ∧ ¬ T.2.2.2.1.2 ≤ i) (T.2.2.2.1.1 i.toNatClampNeg) (-2000000))
noncomputable def fCount (T : kSt) (w : Int32) : Int32 := kIf (w = 0) (nI T.1.1) (kIf (w = 1) T.1.2.1 (kIf (w = 2) (nI T.2.1.1) (kIf (w = 3) (T.2.1.2.2.1 (kOs T)) (kIf (w = 4) (kIf (T.2.2.2.2.1.1 = 0) 0 1) (kIf (w = 5) T.2.2.2.2.1.2 (-2000000))))))
theorem kSw6 {w : Int32} (h0 : ¬ w = 0) (h1 : ¬ w = 1) (h2 : ¬ w = 2) (h3 : ¬ w = 3) (h4 : ¬ w = 4) (h5 : ¬ w = 5) : w.toInt < 0 ∨ 5 < w.toInt := by
  have a0 : ¬ w.toInt = 0 := fun q => h0 (Int32.toInt_inj.mp q)
  have a1 : ¬ w.toInt = 1 := fun q => h1 (Int32.toInt_inj.mp q)
  have a2 : ¬ w.toInt = 2 := fun q => h2 (Int32.toInt_inj.mp q)
  have a3 : ¬ w.toInt = 3 := fun q => h3 (Int32.toInt_inj.mp q)
  have a4 : ¬ w.toInt = 4 := fun q => h4 (Int32.toInt_inj.mp q)
  have a5 : ¬ w.toInt = 5 := fun q => h5 (Int32.toInt_inj.mp q)
  omega
end
section
section KFULL
variable {p : Program} {l : Launch} {e : Env} {R : Room} {s : State} {m : MethodId} {args : Array Value} {below : List Frame} {meth : Method} {c : Code} {H : Heap} {locs : List Loc} {cells slots : Nat} {Q : State → Prop} {cc : ByteArray} {D : va_G} {τ : Nat → ClassId} {A : Nat → Prop} {pc : Nat} {ls : Array Slot} {rest : List Value}
/-- a call over all cells that are known -/
theorem kc_ViF {nL : Nat} {Ts ws' : List Cond} {own C : String} {y : MethodName} {rm : Room} {bytes : ByteArray} {maxL n index ci N b : Nat} {ret : Option FieldType} {As fs st0 : List Value} {T : u_T} {wc wc' : va_W} {r : Int32}
    (S : CallFix p m c cc nL s args Ts own) (hM : kMi l D τ y ws' rm (.ref b :: As) wc r wc') (cw : CallW R s args own C index y bytes maxL ret ws' rm 0 0 n) (hK : va_K D vwCl (kTys τ) s) (hP : va_P D vwCl wc H) (hD : va_D A wc) (hS : va_S A s.heap H locs) (hA : ∀ q, s.heap.size ≤ q → A q)
    (hc : vwCl[ci]? = some (C, T, N)) (he : wc[0]? = some (b, .inr (ci, fs)))
    (hsize : ls.size = nL) (hlen : As.length = n) (hst : st0 = As.reverse ++ .ref b :: rest) (hcat : (rest.map fun v => v.category).sum ≤ 8) (hcs : cells + 0 ≤ R.cells ∧ slots + 0 ≤ R.slots) (hdg : decode cc pc = .ok (.invokevirtual index, 3))
    (kk : ∀ (H1 : Heap) (locs1 : List Loc), va_P D vwCl wc' H1 → va_D A wc' → va_S A s.heap H1 locs1 → W p l e R s m args below meth c H1 locs1 cells slots Q (F0 m (pc + 3) ls (.int r :: rest))) : W p l e R s m args below meth c H locs cells slots Q (F0 m pc ls st0) := by
  have hFc : ∀ q, va_A wc H.size q → A q := by
    intro q h
    rcases h with ⟨k, e9, h⟩ | h
    · exact hD.2 k _ h
    · exact hA q (Nat.le_trans hS.1 h)
  refine va_calli (va_runV (As := As) (rest := rest) S (hM H.size) cw ⟨kPc_blind, va_recv hK hP hc he, fun U hU hW => ⟨rfl, by rw [hU], by rw [hU]; exact hP, va_K.moved hW.alike hK, hD.weaken (fun _ _ _ _ => trivial)⟩⟩ rfl hlen hsize hst (lv_room hcat) hdg hcs) hS (fun q _ h => hFc q h) hFc (fun r1 u t H1 locs1 ht hvm hw hB hz1 hk1 hS1 => ?_)
  obtain ⟨hP1, hK1, hD1⟩ := hB
  rw [ht] at hP1
  have hw : r1 = r := hw
  subst hw
  exact kk H1 locs1 hP1 ⟨hD1.1, fun k q h => hFc _ (hD1.2 k q h)⟩ hS1
end KFULL
end
section
set_option maxHeartbeats 4000000 in
set_option maxRecDepth 100000 in
theorem ck_isS (l : Launch) (D : va_G) (τ : Nat → ClassId) (x : Int32)  : kMi l D τ yK_isSource (kWs yK_isSource cK_isSource 1 (some .boolean)) { frames := 0, cells := 0, slots := 0, locals := 0 } [.int x] [] (kB (kIsS x)) [] := by
  intro sz
  refine Met.ofW (cc := cK_isSource) (maxL := 1) (ret := (some .boolean)) (by decide) rfl ?_
  intro p e s m args below meth c s₁ B hml hv
  obtain ⟨rfl, hsz, hP, hK, hD0⟩ := hv
  have hx := B.exec
  have hb := B.bytes
  have hr := B.returns
  have hts := fun w (hw : w ∈ kTbl) => atoms_spec (ws := (kWs yK_isSource cK_isSource 1 (some .boolean))) B.pre w (List.mem_cons_of_mem _ hw)
  have hown : s.vm.findClass RK = some m.cls := findClass_of_methodNamed B.named
  have hlocks := B.notSynchronized
  subst hsz
  have hD := hD0.self (sz := s.heap.size)
  generalize hAe : va_A [] s.heap.size = A at hD ⊢
  have hA : ∀ q : Nat, s.heap.size ≤ q → A q := fun q h => by rw [← hAe]; exact Or.inr h
  have hS : va_S A s.heap s.heap [] := va_S.rf
  have hP : va_P D vwCl [] s.heap := hP
  have hl := lv_entry ([.int x]) (n := 1) (Nat.le_of_ble_eq_true rfl)
  rw [lg_entry_eq]
  generalize (lg_sl ([.int x]) ++ List.replicate (1 - (lg_sl ([.int x])).length) Slot.unset).toArray = ls at hl ⊢
  have hl : lv_has ls 1 [(0, .int x)] := hl
  skip
  refine lv_iload_n hx hb dK_isSource_0 rfl (lv_at hl 0 rfl) ?_
  refine lv_if_lt (tgt := 13) hx hb dK_isSource_1 (by decide) (fun c_1 => ?_) (fun c_1 => ?_)
  · skip
    refine lv_iconst (v := 0) hx hb dK_isSource_13 (by decide) ?_
    exact k_zret hx hb hr hlocks hK hS rfl ((kB_f (by simp [kIsS, c_1, Int32.not_le.mpr c_1])).symm) hP hD dK_isSource_14
  · skip
    refine lv_iload_n hx hb dK_isSource_4 rfl (lv_at hl 0 rfl) ?_
    refine lv_iconst (v := 3) hx hb dK_isSource_5 (by decide) ?_
    refine lv_icmp_ge (tgt := 13) hx hb dK_isSource_6 (by decide) (fun c_6 => ?_) (fun c_6 => ?_)
    · skip
      refine lv_iconst (v := 0) hx hb dK_isSource_13 (by decide) ?_
      exact k_zret hx hb hr hlocks hK hS rfl ((kB_f (by simp [kIsS, c_1, Int32.not_lt.mp c_1, c_6, Int32.not_lt.mpr c_6])).symm) hP hD dK_isSource_14
    · skip
      refine lv_iconst (v := 1) hx hb dK_isSource_9 (by decide) ?_
      refine lv_goto (tgt := 14) hx hb dK_isSource_10 (by decide) ?_
      exact k_zret hx hb hr hlocks hK hS rfl ((kB_t (by simp [kIsS, c_1, Int32.not_lt.mp c_1, c_6, Int32.not_le.mp c_6])).symm) hP hD dK_isSource_14
set_option maxHeartbeats 4000000 in
set_option maxRecDepth 100000 in
theorem ck_full (l : Launch) (D : va_G) (τ : Nat → ClassId) (k0 : Nat) (n0 : Nat) (g0 : Nat) (sq : Nat) (w0 : Nat) (r0 : Nat) (rs : Int32) (ib : Int32) (ch : Int32) (g1 : Nat) (g2 : Nat) (g3 : Nat) (g4 : Nat) (K : Nat) (O : Nat) (sz : Nat → Int32) (hKk : K ≤ 40) (hOo : O < 41) : kMi l D τ yK_isBatchFull (kWs yK_isBatchFull cK_isBatchFull 1 (some .boolean)) { frames := 2, cells := 0, slots := 0, locals := 40 } [.ref k0] [(k0, .inr (4, [.ref n0, .ref g0, .ref sq, .ref w0, .ref r0, .int rs, .int ib, .int ch])), (g0, .inr (0, [.int (nI K), .int (nI O), .ref g1, .ref g2, .ref g3, .ref g4])), (g1, .inl (τ 0, 41, .inl sz))] (kB (kFull ib (sz ((O + K) % 41)))) [(k0, .inr (4, [.ref n0, .ref g0, .ref sq, .ref w0, .ref r0, .int rs, .int ib, .int ch])), (g0, .inr (0, [.int (nI K), .int (nI O), .ref g1, .ref g2, .ref g3, .ref g4])), (g1, .inl (τ 0, 41, .inl sz))] := by
  intro sz
  refine Met.ofW (cc := cK_isBatchFull) (maxL := 1) (ret := (some .boolean)) (by decide) rfl ?_
  intro p e s m args below meth c s₁ B hml hv
  obtain ⟨rfl, hsz, hP, hK, hD0⟩ := hv
  have hx := B.exec
  have hb := B.bytes
  have hr := B.returns
  have hts := fun w (hw : w ∈ kTbl) => atoms_spec (ws := (kWs yK_isBatchFull cK_isBatchFull 1 (some .boolean))) B.pre w (List.mem_cons_of_mem _ hw)
  have hown : s.vm.findClass RK = some m.cls := findClass_of_methodNamed B.named
  have hlocks := B.notSynchronized
  subst hsz
  have hD := hD0.self (sz := s.heap.size)
  generalize hAe : va_A [(k0, .inr (4, [.ref n0, .ref g0, .ref sq, .ref w0, .ref r0, .int rs, .int ib, .int ch])), (g0, .inr (0, [.int (nI K), .int (nI O), .ref g1, .ref g2, .ref g3, .ref g4])), (g1, .inl (τ 0, 41, .inl sz))] s.heap.size = A at hD ⊢
  have hA : ∀ q : Nat, s.heap.size ≤ q → A q := fun q h => by rw [← hAe]; exact Or.inr h
  have hS : va_S A s.heap s.heap [] := va_S.rf
  have hP : va_P D vwCl [(k0, .inr (4, [.ref n0, .ref g0, .ref sq, .ref w0, .ref r0, .int rs, .int ib, .int ch])), (g0, .inr (0, [.int (nI K), .int (nI O), .ref g1, .ref g2, .ref g3, .ref g4])), (g1, .inl (τ 0, 41, .inl sz))] s.heap := hP
  have hl := lv_entry ([.ref k0]) (n := 1) (Nat.le_of_ble_eq_true rfl)
  rw [lg_entry_eq]
  generalize (lg_sl ([.ref k0]) ++ List.replicate (1 - (lg_sl ([.ref k0])).length) Slot.unset).toArray = ls at hl ⊢
  have hl : lv_has ls 1 [(0, .ref k0)] := hl
  skip
  refine lv_aload_n hx hb dK_isBatchFull_0 rfl (lv_at hl 0 rfl) ?_
  refine va_get (D := D) (ci := 4) (v := .int ib) (C := RK) (T := TK) (N := 8) hx hb hts iK hown hK hP 0 rfl rfl 6 (by decide) (hts _ w_126) (fun _ h9 => h9) rfl dK_isBatchFull_1 ?_
  refine lv_if_eq (tgt := 23) hx hb dK_isBatchFull_4 (by decide) (fun c_4 => ?_) (fun c_4 => ?_)
  · skip
    refine lv_iconst (v := 0) hx hb dK_isBatchFull_23 (by decide) ?_
    exact k_zret hx hb hr hlocks hK hS rfl ((kB_f (by simp [kFull, c_4])).symm) hP hD dK_isBatchFull_24
  · skip
    refine lv_aload_n hx hb dK_isBatchFull_7 rfl (lv_at hl 0 rfl) ?_
    refine va_get (D := D) (ci := 4) (v := .ref g0) (C := RK) (T := TK) (N := 8) hx hb hts iK hown hK hP 0 rfl rfl 1 (by decide) (hts _ w_121) (fun _ h9 => h9) rfl dK_isBatchFull_8 ?_
    refine kc_Vi (As := []) (rest := []) (wr := [(k0, .inr (4, [.ref n0, .ref g0, .ref sq, .ref w0, .ref r0, .int rs, .int ib, .int ch]))]) (W1 := [(k0, .inr (4, [.ref n0, .ref g0, .ref sq, .ref w0, .ref r0, .int rs, .int ib, .int ch])), (g0, .inr (0, [.int (nI K), .int (nI O), .ref g1, .ref g2, .ref g3, .ref g4])), (g1, .inl (τ 0, 41, .inl sz))]) ⟨hx, hb, hml, hown, hts⟩ (ch_open l D τ g0 g1 g2 g3 g4 K O sz (by first | assumption | omega) (by first | assumption | omega)) (kcwV hts qH_openChanges w_209 rfl rfl ⟨Nat.le_of_ble_eq_true rfl, Nat.le_of_ble_eq_true rfl⟩) hK hP hD hS hA [1, 2] [0] [0, 1, 2] rfl rfl (by decide) (by decide) (by decide) rfl rfl rfl (by decide) hl.1 rfl rfl (Nat.le_of_ble_eq_true rfl) ⟨Nat.zero_le _, Nat.zero_le _⟩ dK_isBatchFull_11 (fun H locs hP hD hS => ?_)
    refine lv_bipush (v := 30) hx hb dK_isBatchFull_14 (by decide) ?_
    refine lv_icmp_lt (tgt := 23) hx hb dK_isBatchFull_16 (by decide) (fun c_16 => ?_) (fun c_16 => ?_)
    · skip
      refine lv_iconst (v := 0) hx hb dK_isBatchFull_23 (by decide) ?_
      exact k_zret hx hb hr hlocks hK hS rfl ((kB_f (by simp [kFull, c_4, c_16, Int32.not_le.mpr c_16])).symm) hP hD dK_isBatchFull_24
    · skip
      refine lv_iconst (v := 1) hx hb dK_isBatchFull_19 (by decide) ?_
      refine lv_goto (tgt := 24) hx hb dK_isBatchFull_20 (by decide) ?_
      exact k_zret hx hb hr hlocks hK hS rfl ((kB_t (by simp [kFull, c_4, c_16, Int32.not_lt.mp c_16])).symm) hP hD dK_isBatchFull_24
set_option maxHeartbeats 4000000 in
set_option maxRecDepth 100000 in
theorem ck_fall (l : Launch) (D : va_G) (τ : Nat → ClassId) (k0 : Nat) (n0 : Nat) (g0 : Nat) (sq : Nat) (w0 : Nat) (r0 : Nat) (rs : Int32) (ib : Int32) (ch : Int32) (w1 : Nat) (w2 : Nat) (w3 : Nat) (wd : Nat → Int32) (wh : Nat → Int32) (wp : Nat → Int32) (wt : Int32) (n1 : Nat) (N : Nat) (ar : Int32) (len : Nat → Int32) (i : Nat) (j : Nat) (x : Int32) (hN : N ≤ 24) (hi : i < 24) : kMi l D τ yK_wouldFall (kWs yK_wouldFall cK_wouldFall 4 (some .boolean)) { frames := 3, cells := 0, slots := 0, locals := 74 } [.ref k0, .int (nI i), .int (nI j), .int x] [(k0, .inr (4, [.ref n0, .ref g0, .ref sq, .ref w0, .ref r0, .int rs, .int ib, .int ch])), (w0, .inr (1, [.ref w1, .ref w2, .ref w3, .int wt])), (w1, .inl (τ 0, 24, .inl wd)), (w2, .inl (τ 0, 24, .inl wh)), (w3, .inl (τ 0, 24, .inl wp)), (n0, .inr (2, [.int (nI N), .int ar, .ref n1])), (n1, .inl (τ 0, 576, .inl len))] (kB (kFall (kSettle N len (nI j)) i x)) [(k0, .inr (4, [.ref n0, .ref g0, .ref sq, .ref w0, .ref r0, .int rs, .int ib, .int ch])), (w0, .inr (1, [.ref w1, .ref w2, .ref w3, .int ((kSettle N len (nI j)).2.2.2)])), (w1, .inl (τ 0, 24, .inl ((kSettle N len (nI j)).1))), (w2, .inl (τ 0, 24, .inl ((kSettle N len (nI j)).2.1))), (w3, .inl (τ 0, 24, .inl ((kSettle N len (nI j)).2.2.1))), (n0, .inr (2, [.int (nI N), .int ar, .ref n1])), (n1, .inl (τ 0, 576, .inl len))] := by
  intro sz
  refine Met.ofW (cc := cK_wouldFall) (maxL := 4) (ret := (some .boolean)) (by decide) rfl ?_
  intro p e s m args below meth c s₁ B hml hv
  obtain ⟨rfl, hsz, hP, hK, hD0⟩ := hv
  have hx := B.exec
  have hb := B.bytes
  have hr := B.returns
  have hts := fun w (hw : w ∈ kTbl) => atoms_spec (ws := (kWs yK_wouldFall cK_wouldFall 4 (some .boolean))) B.pre w (List.mem_cons_of_mem _ hw)
  have hown : s.vm.findClass RK = some m.cls := findClass_of_methodNamed B.named
  have hlocks := B.notSynchronized
  subst hsz
  have hD := hD0.self (sz := s.heap.size)
  generalize hAe : va_A [(k0, .inr (4, [.ref n0, .ref g0, .ref sq, .ref w0, .ref r0, .int rs, .int ib, .int ch])), (w0, .inr (1, [.ref w1, .ref w2, .ref w3, .int wt])), (w1, .inl (τ 0, 24, .inl wd)), (w2, .inl (τ 0, 24, .inl wh)), (w3, .inl (τ 0, 24, .inl wp)), (n0, .inr (2, [.int (nI N), .int ar, .ref n1])), (n1, .inl (τ 0, 576, .inl len))] s.heap.size = A at hD ⊢
  have hA : ∀ q : Nat, s.heap.size ≤ q → A q := fun q h => by rw [← hAe]; exact Or.inr h
  have hS : va_S A s.heap s.heap [] := va_S.rf
  have hP : va_P D vwCl [(k0, .inr (4, [.ref n0, .ref g0, .ref sq, .ref w0, .ref r0, .int rs, .int ib, .int ch])), (w0, .inr (1, [.ref w1, .ref w2, .ref w3, .int wt])), (w1, .inl (τ 0, 24, .inl wd)), (w2, .inl (τ 0, 24, .inl wh)), (w3, .inl (τ 0, 24, .inl wp)), (n0, .inr (2, [.int (nI N), .int ar, .ref n1])), (n1, .inl (τ 0, 576, .inl len))] s.heap := hP
  have hl := lv_entry ([.ref k0, .int (nI i), .int (nI j), .int x]) (n := 4) (Nat.le_of_ble_eq_true rfl)
  rw [lg_entry_eq]
  generalize (lg_sl ([.ref k0, .int (nI i), .int (nI j), .int x]) ++ List.replicate (4 - (lg_sl ([.ref k0, .int (nI i), .int (nI j), .int x])).length) Slot.unset).toArray = ls at hl ⊢
  have hl : lv_has ls 4 [(0, .ref k0), (1, .int (nI i)), (2, .int (nI j)), (3, .int x)] := hl
  skip
  refine lv_aload_n hx hb dK_wouldFall_0 rfl (lv_at hl 0 rfl) ?_
  refine va_get (D := D) (ci := 4) (v := .ref w0) (C := RK) (T := TK) (N := 8) hx hb hts iK hown hK hP 0 rfl rfl 3 (by decide) (hts _ w_123) (fun _ h9 => h9) rfl dK_wouldFall_1 ?_
  refine lv_aload_n hx hb dK_wouldFall_4 rfl (lv_at hl 0 rfl) ?_
  refine va_get (D := D) (ci := 4) (v := .ref n0) (C := RK) (T := TK) (N := 8) hx hb hts iK hown hK hP 0 rfl rfl 0 (by decide) (hts _ w_120) (fun _ h9 => h9) rfl dK_wouldFall_5 ?_
  refine lv_iload_n hx hb dK_wouldFall_8 rfl (lv_at hl 2 rfl) ?_
  refine kc_Vv (As := [.ref n0, .int (nI j)]) (rest := []) (wr := [(k0, .inr (4, [.ref n0, .ref g0, .ref sq, .ref w0, .ref r0, .int rs, .int ib, .int ch]))]) (W1 := [(k0, .inr (4, [.ref n0, .ref g0, .ref sq, .ref w0, .ref r0, .int rs, .int ib, .int ch])), (w0, .inr (1, [.ref w1, .ref w2, .ref w3, .int ((kSettle N len (nI j)).2.2.2)])), (w1, .inl (τ 0, 24, .inl ((kSettle N len (nI j)).1))), (w2, .inl (τ 0, 24, .inl ((kSettle N len (nI j)).2.1))), (w3, .inl (τ 0, 24, .inl ((kSettle N len (nI j)).2.2.1))), (n0, .inr (2, [.int (nI N), .int ar, .ref n1])), (n1, .inl (τ 0, 576, .inl len))]) ⟨hx, hb, hml, hown, hts⟩ (cl_settle l D τ w0 w1 w2 w3 n0 n1 N ar len (nI j) wd wh wp wt (by first | assumption | omega)) (kcwV hts qL_settle w_221 rfl rfl ⟨Nat.le_of_ble_eq_true rfl, Nat.le_of_ble_eq_true rfl⟩) hK hP hD hS hA [1, 2, 3, 4, 5, 6] [0] [0, 1, 2, 3, 4, 5, 6] rfl rfl (by decide) (by decide) (by decide) rfl rfl rfl (by decide) hl.1 rfl rfl (Nat.le_of_ble_eq_true rfl) ⟨Nat.zero_le _, Nat.zero_le _⟩ dK_wouldFall_9 (fun H locs hP hD hS => ?_)
  refine lv_aload_n hx hb dK_wouldFall_12 rfl (lv_at hl 0 rfl) ?_
  refine va_get (D := D) (ci := 4) (v := .ref w0) (C := RK) (T := TK) (N := 8) hx hb hts iK hown hK hP 0 rfl rfl 3 (by decide) (hts _ w_123) (fun _ h9 => h9) rfl dK_wouldFall_13 ?_
  refine lv_iload_n hx hb dK_wouldFall_16 rfl (lv_at hl 1 rfl) ?_
  refine kc_Vi (As := [.int (nI i)]) (rest := []) (wr := [(k0, .inr (4, [.ref n0, .ref g0, .ref sq, .ref w0, .ref r0, .int rs, .int ib, .int ch])), (n0, .inr (2, [.int (nI N), .int ar, .ref n1])), (n1, .inl (τ 0, 576, .inl len))]) (W1 := [(k0, .inr (4, [.ref n0, .ref g0, .ref sq, .ref w0, .ref r0, .int rs, .int ib, .int ch])), (w0, .inr (1, [.ref w1, .ref w2, .ref w3, .int ((kSettle N len (nI j)).2.2.2)])), (w1, .inl (τ 0, 24, .inl ((kSettle N len (nI j)).1))), (w2, .inl (τ 0, 24, .inl ((kSettle N len (nI j)).2.1))), (w3, .inl (τ 0, 24, .inl ((kSettle N len (nI j)).2.2.1))), (n0, .inr (2, [.int (nI N), .int ar, .ref n1])), (n1, .inl (τ 0, 576, .inl len))]) ⟨hx, hb, hml, hown, hts⟩ (cl_reaches l D τ w0 w1 w2 w3 i ((kSettle N len (nI j)).1) ((kSettle N len (nI j)).2.1) ((kSettle N len (nI j)).2.2.1) ((kSettle N len (nI j)).2.2.2) hi) (kcwV hts qL_reaches w_222 rfl rfl ⟨Nat.le_of_ble_eq_true rfl, Nat.le_of_ble_eq_true rfl⟩) hK hP hD hS hA [1, 2, 3, 4] [0, 5, 6] [0, 3, 4, 5, 6, 1, 2] rfl rfl (by decide) (by decide) (by decide) rfl rfl rfl (by decide) hl.1 rfl rfl (Nat.le_of_ble_eq_true rfl) ⟨Nat.zero_le _, Nat.zero_le _⟩ dK_wouldFall_17 (fun H locs hP hD hS => ?_)
  refine lv_if_eq (tgt := 41) hx hb dK_wouldFall_20 (by decide) (fun c_20 => ?_) (fun c_20 => ?_)
  · skip
    have c_20 := kB_0.mp c_20
    refine lv_iconst (v := 0) hx hb dK_wouldFall_41 (by decide) ?_
    exact k_zret hx hb hr hlocks hK hS rfl ((kB_f (by simp [kFall, c_20])).symm) hP hD dK_wouldFall_42
  · skip
    have c_20 := kB_1.mp c_20
    refine lv_aload_n hx hb dK_wouldFall_23 rfl (lv_at hl 0 rfl) ?_
    refine va_get (D := D) (ci := 4) (v := .ref w0) (C := RK) (T := TK) (N := 8) hx hb hts iK hown hK hP 0 rfl rfl 3 (by decide) (hts _ w_123) (fun _ h9 => h9) rfl dK_wouldFall_24 ?_
    refine va_get (D := D) (ci := 1) (v := .ref w1) (C := RL) (T := TL) (N := 4) hx hb hts iL hown hK hP 1 rfl rfl 0 (by decide) (hts _ w_81) (fun _ h9 => h9) rfl dK_wouldFall_27 ?_
    refine lv_iload_n hx hb dK_wouldFall_30 rfl (lv_at hl 1 rfl) ?_
    refine ka_iald (k := i) hx hb hK hP 2 0 rfl rfl (by omega) (by omega) rfl dK_wouldFall_31 ?_
    refine lv_iload_n hx hb dK_wouldFall_32 rfl (lv_at hl 3 rfl) ?_
    refine lv_iadd hx hb dK_wouldFall_33 ?_
    refine lv_if_ge (tgt := 41) hx hb dK_wouldFall_34 (by decide) (fun c_34 => ?_) (fun c_34 => ?_)
    · skip
      refine lv_iconst (v := 0) hx hb dK_wouldFall_41 (by decide) ?_
      exact k_zret hx hb hr hlocks hK hS rfl ((kB_f (by simp [kFall, c_20, c_34, Int32.not_lt.mpr c_34])).symm) hP hD dK_wouldFall_42
    · skip
      refine lv_iconst (v := 1) hx hb dK_wouldFall_37 (by decide) ?_
      refine lv_goto (tgt := 42) hx hb dK_wouldFall_38 (by decide) ?_
      exact k_zret hx hb hr hlocks hK hS rfl ((kB_t (by simp [kFall, c_20, c_34, Int32.not_le.mp c_34])).symm) hP hD dK_wouldFall_42
set_option maxHeartbeats 4000000 in
set_option maxRecDepth 100000 in
theorem lk_ring {p : Program} {l : Launch} {e : Env} {s : State} {m : MethodId} {args : Array Value} {below : List Frame} {meth : Method} {c : Code} {Q : State → Prop} {D : va_G} {τ : Nat → ClassId} {A : Nat → Prop} (hx : p.tables.exec = Jvm.exec) (hb : c.code = cK_keepRing) (hml : c.maxLocals = 3) (hown : s.vm.findClass RK = some m.cls) (hts : ∀ w ∈ kTbl, w.before args s = true) (hK : va_K D vwCl (kTys τ) s) (hA : ∀ q : Nat, s.heap.size ≤ q → A q) (k0 : Nat) (n0 : Nat) (g0 : Nat) (sq : Nat) (w0 : Nat) (r0 : Nat) (ib : Int32) (ch : Int32) (w1 : Nat) (w2 : Nat) (w3 : Nat) (wd : Nat → Int32) (wh : Nat → Int32) (wp : Nat → Int32) (wt : Int32) (i : Nat) (M : Nat) (g : Nat → Int32) (hi : i < 24) (hM : M < 24) (hKw : wh i = nI M) (hp : kPar wp)
    (kx : ∀ (H : Heap) (locs : List Loc) (ls : Array Slot), va_P D vwCl [(k0, .inr (4, [.ref n0, .ref g0, .ref sq, .ref w0, .ref r0, .int (nI (M + 1)), .int ib, .int ch])), (w0, .inr (1, [.ref w1, .ref w2, .ref w3, .int wt])), (w1, .inl (τ 0, 24, .inl wd)), (w2, .inl (τ 0, 24, .inl wh)), (w3, .inl (τ 0, 24, .inl wp)), (r0, .inl (τ 0, 24, .inl (kItr (kRgB (wd, wh, wp, wt) i M) (M + 1) (g))))] H → va_D A [(k0, .inr (4, [.ref n0, .ref g0, .ref sq, .ref w0, .ref r0, .int (nI (M + 1)), .int ib, .int ch])), (w0, .inr (1, [.ref w1, .ref w2, .ref w3, .int wt])), (w1, .inl (τ 0, 24, .inl wd)), (w2, .inl (τ 0, 24, .inl wh)), (w3, .inl (τ 0, 24, .inl wp)), (r0, .inl (τ 0, 24, .inl (kItr (kRgB (wd, wh, wp, wt) i M) (M + 1) (g))))] → va_S A s.heap H locs → lv_has ls 3 [(0, .ref k0)] → W p l e (headSpec (kWs yK_keepRing cK_keepRing 3 none) { frames := 1, cells := 0, slots := 0, locals := 24 }).room s m args below meth c H locs 0 0 Q (F0 m 43 ls [])) :
    ∀ (n k : Nat), k + n = M + 1 → ∀ (H : Heap) (locs : List Loc) (ls : Array Slot), va_P D vwCl [(k0, .inr (4, [.ref n0, .ref g0, .ref sq, .ref w0, .ref r0, .int (nI (M + 1)), .int ib, .int ch])), (w0, .inr (1, [.ref w1, .ref w2, .ref w3, .int wt])), (w1, .inl (τ 0, 24, .inl wd)), (w2, .inl (τ 0, 24, .inl wh)), (w3, .inl (τ 0, 24, .inl wp)), (r0, .inl (τ 0, 24, .inl (kItr (kRgB (wd, wh, wp, wt) i M) k (g))))] H → va_D A [(k0, .inr (4, [.ref n0, .ref g0, .ref sq, .ref w0, .ref r0, .int (nI (M + 1)), .int ib, .int ch])), (w0, .inr (1, [.ref w1, .ref w2, .ref w3, .int wt])), (w1, .inl (τ 0, 24, .inl wd)), (w2, .inl (τ 0, 24, .inl wh)), (w3, .inl (τ 0, 24, .inl wp)), (r0, .inl (τ 0, 24, .inl (kItr (kRgB (wd, wh, wp, wt) i M) k (g))))] → va_S A s.heap H locs → lv_has ls 3 [(0, .ref k0), (1, .int (nI i)), (2, .int (nI k))] → W p l e (headSpec (kWs yK_keepRing cK_keepRing 3 none) { frames := 1, cells := 0, slots := 0, locals := 24 }).room s m args below meth c H locs 0 0 Q (F0 m 14 ls []) := by
  intro n
  induction n with
  | zero =>
    intro k hk H locs ls hP hD hS hl
    have hkN : M + 1 = k := by omega
    subst hkN
    revert hP hD hl
    generalize hst : (kItr (kRgB (wd, wh, wp, wt) i M) (M + 1) (g)) = rg
    intro hP hD hl
    have hP : va_P D vwCl [(k0, .inr (4, [.ref n0, .ref g0, .ref sq, .ref w0, .ref r0, .int (nI (M + 1)), .int ib, .int ch])), (w0, .inr (1, [.ref w1, .ref w2, .ref w3, .int wt])), (w1, .inl (τ 0, 24, .inl wd)), (w2, .inl (τ 0, 24, .inl wh)), (w3, .inl (τ 0, 24, .inl wp)), (r0, .inl (τ 0, 24, .inl rg))] H := hP
    have hD : va_D A [(k0, .inr (4, [.ref n0, .ref g0, .ref sq, .ref w0, .ref r0, .int (nI (M + 1)), .int ib, .int ch])), (w0, .inr (1, [.ref w1, .ref w2, .ref w3, .int wt])), (w1, .inl (τ 0, 24, .inl wd)), (w2, .inl (τ 0, 24, .inl wh)), (w3, .inl (τ 0, 24, .inl wp)), (r0, .inl (τ 0, 24, .inl rg))] := hD
    have hl : lv_has ls 3 [(0, .ref k0), (1, .int (nI i)), (2, .int (nI (M + 1)))] := hl
    refine lv_iload_n hx hb dK_keepRing_14 rfl (lv_at hl 2 rfl) ?_
    refine lv_aload_n hx hb dK_keepRing_15 rfl (lv_at hl 0 rfl) ?_
    refine va_get (D := D) (ci := 4) (v := .int (nI (M + 1))) (C := RK) (T := TK) (N := 8) hx hb hts iK hown hK hP 0 rfl rfl 5 (by decide) (hts _ w_125) (fun _ h9 => h9) rfl dK_keepRing_16 ?_
    refine lv_icmp_ge (tgt := 43) hx hb dK_keepRing_19 (by decide) (fun c_19 => ?_) (fun c_19 => absurd (nI_le (Nat.le_refl _) (by omega)) c_19)
    exact kx H locs ls (by (try rw [hst]); exact hP) (by (try rw [hst]); exact hD) hS (by (try rw [hst]); exact lv_sub hl [0] rfl)
  | succ n ih =>
    intro k hk H locs ls hP hD hS hl
    have hkN : k < M + 1 := by omega
    have ih := ih (k + 1) (by omega)
    rw [kItr_s] at ih
    revert hP hD hl ih
    generalize hst : (kItr (kRgB (wd, wh, wp, wt) i M) k (g)) = rg
    intro hP hD hl ih
    have hP : va_P D vwCl [(k0, .inr (4, [.ref n0, .ref g0, .ref sq, .ref w0, .ref r0, .int (nI (M + 1)), .int ib, .int ch])), (w0, .inr (1, [.ref w1, .ref w2, .ref w3, .int wt])), (w1, .inl (τ 0, 24, .inl wd)), (w2, .inl (τ 0, 24, .inl wh)), (w3, .inl (τ 0, 24, .inl wp)), (r0, .inl (τ 0, 24, .inl rg))] H := hP
    have hD : va_D A [(k0, .inr (4, [.ref n0, .ref g0, .ref sq, .ref w0, .ref r0, .int (nI (M + 1)), .int ib, .int ch])), (w0, .inr (1, [.ref w1, .ref w2, .ref w3, .int wt])), (w1, .inl (τ 0, 24, .inl wd)), (w2, .inl (τ 0, 24, .inl wh)), (w3, .inl (τ 0, 24, .inl wp)), (r0, .inl (τ 0, 24, .inl rg))] := hD
    have hl : lv_has ls 3 [(0, .ref k0), (1, .int (nI i)), (2, .int (nI k))] := hl
    refine lv_iload_n hx hb dK_keepRing_14 rfl (lv_at hl 2 rfl) ?_
    refine lv_aload_n hx hb dK_keepRing_15 rfl (lv_at hl 0 rfl) ?_
    refine va_get (D := D) (ci := 4) (v := .int (nI (M + 1))) (C := RK) (T := TK) (N := 8) hx hb hts iK hown hK hP 0 rfl rfl 5 (by decide) (hts _ w_125) (fun _ h9 => h9) rfl dK_keepRing_16 ?_
    refine lv_icmp_ge (tgt := 43) hx hb dK_keepRing_19 (by decide) (fun c_19 => absurd c_19 (nI_ge hkN (by omega))) (fun c_19 => ?_)
    refine lv_aload_n hx hb dK_keepRing_22 rfl (lv_at hl 0 rfl) ?_
    refine va_get (D := D) (ci := 4) (v := .ref r0) (C := RK) (T := TK) (N := 8) hx hb hts iK hown hK hP 0 rfl rfl 4 (by decide) (hts _ w_124) (fun _ h9 => h9) rfl dK_keepRing_23 ?_
    refine lv_iload_n hx hb dK_keepRing_26 rfl (lv_at hl 2 rfl) ?_
    refine lv_aload_n hx hb dK_keepRing_27 rfl (lv_at hl 0 rfl) ?_
    refine va_get (D := D) (ci := 4) (v := .ref w0) (C := RK) (T := TK) (N := 8) hx hb hts iK hown hK hP 0 rfl rfl 3 (by decide) (hts _ w_123) (fun _ h9 => h9) rfl dK_keepRing_28 ?_
    refine lv_iload_n hx hb dK_keepRing_31 rfl (lv_at hl 1 rfl) ?_
    refine lv_iload_n hx hb dK_keepRing_32 rfl (lv_at hl 2 rfl) ?_
    refine kc_Vi (As := [.int (nI i), .int (nI k)]) (rest := [.int (nI k), .ref r0]) (wr := [(k0, .inr (4, [.ref n0, .ref g0, .ref sq, .ref w0, .ref r0, .int (nI (M + 1)), .int ib, .int ch])), (r0, .inl (τ 0, 24, .inl rg))]) (W1 := [(k0, .inr (4, [.ref n0, .ref g0, .ref sq, .ref w0, .ref r0, .int (nI (M + 1)), .int ib, .int ch])), (w0, .inr (1, [.ref w1, .ref w2, .ref w3, .int wt])), (w1, .inl (τ 0, 24, .inl wd)), (w2, .inl (τ 0, 24, .inl wh)), (w3, .inl (τ 0, 24, .inl wp)), (r0, .inl (τ 0, 24, .inl rg))]) ⟨hx, hb, hml, hown, hts⟩ (cl_node l D τ w0 w1 w2 w3 wd wh wp wt i k M hi (by omega) hM hp hKw) (kcwV hts qL_nodeOnWay w_231 rfl rfl ⟨Nat.le_of_ble_eq_true rfl, Nat.le_of_ble_eq_true rfl⟩) hK hP hD hS hA [1, 2, 3, 4] [0, 5] [0, 2, 3, 4, 5, 1] rfl rfl (by decide) (by decide) (by decide) rfl rfl rfl (by decide) hl.1 rfl rfl (Nat.le_of_ble_eq_true rfl) ⟨Nat.zero_le _, Nat.zero_le _⟩ dK_keepRing_33 (fun H locs hP hD hS => ?_)
    refine ka_iast (k := k) hx hb hK hP hD hS 5 0 rfl rfl (by omega) (by omega) rfl dK_keepRing_36 (fun H locs hP hD hS => ?_)
    have hP : va_P D vwCl [(k0, .inr (4, [.ref n0, .ref g0, .ref sq, .ref w0, .ref r0, .int (nI (M + 1)), .int ib, .int ch])), (w0, .inr (1, [.ref w1, .ref w2, .ref w3, .int wt])), (w1, .inl (τ 0, 24, .inl wd)), (w2, .inl (τ 0, 24, .inl wh)), (w3, .inl (τ 0, 24, .inl wp)), (r0, .inl (τ 0, 24, .inl (upd rg k (kItr (kBack wp) (M - k) (nI i)))))] H := hP
    have hD : va_D A [(k0, .inr (4, [.ref n0, .ref g0, .ref sq, .ref w0, .ref r0, .int (nI (M + 1)), .int ib, .int ch])), (w0, .inr (1, [.ref w1, .ref w2, .ref w3, .int wt])), (w1, .inl (τ 0, 24, .inl wd)), (w2, .inl (τ 0, 24, .inl wh)), (w3, .inl (τ 0, 24, .inl wp)), (r0, .inl (τ 0, 24, .inl (upd rg k (kItr (kBack wp) (M - k) (nI i)))))] := hD
    refine lv_iinc (v := nI (k + 1)) (lv' := [(2, .int (nI (k + 1))), (0, .ref k0), (1, .int (nI i))]) hx hb dK_keepRing_37 hl (k := 2) rfl (nI_1 _) (by decide) rfl (fun ls hl => ?_)
    refine lv_goto (tgt := 14) hx hb dK_keepRing_40 (by decide) ?_
    have e_ : (kRgB (wd, wh, wp, wt) i M) k (rg) = (upd rg k (kItr (kBack wp) (M - k) (nI i))) := by rfl
    (try rw [e_] at ih)
    exact ih H locs ls hP hD hS (lv_sub hl [1, 2, 0] rfl)
set_option maxHeartbeats 4000000 in
set_option maxRecDepth 100000 in
theorem ck_ring (l : Launch) (D : va_G) (τ : Nat → ClassId) (k0 : Nat) (n0 : Nat) (g0 : Nat) (sq : Nat) (w0 : Nat) (r0 : Nat) (rs : Int32) (ib : Int32) (ch : Int32) (w1 : Nat) (w2 : Nat) (w3 : Nat) (wd : Nat → Int32) (wh : Nat → Int32) (wp : Nat → Int32) (wt : Int32) (i : Nat) (M : Nat) (g : Nat → Int32) (hi : i < 24) (hM : M < 24) (hKw : wh i = nI M) (hp : kPar wp) : kMv l D τ yK_keepRing (kWs yK_keepRing cK_keepRing 3 none) { frames := 1, cells := 0, slots := 0, locals := 24 } [.ref k0, .int (nI i)] [(k0, .inr (4, [.ref n0, .ref g0, .ref sq, .ref w0, .ref r0, .int rs, .int ib, .int ch])), (w0, .inr (1, [.ref w1, .ref w2, .ref w3, .int wt])), (w1, .inl (τ 0, 24, .inl wd)), (w2, .inl (τ 0, 24, .inl wh)), (w3, .inl (τ 0, 24, .inl wp)), (r0, .inl (τ 0, 24, .inl g))] [(k0, .inr (4, [.ref n0, .ref g0, .ref sq, .ref w0, .ref r0, .int (nI (M + 1)), .int ib, .int ch])), (w0, .inr (1, [.ref w1, .ref w2, .ref w3, .int wt])), (w1, .inl (τ 0, 24, .inl wd)), (w2, .inl (τ 0, 24, .inl wh)), (w3, .inl (τ 0, 24, .inl wp)), (r0, .inl (τ 0, 24, .inl (kItr (kRgB (wd, wh, wp, wt) i M) (M + 1) g)))] := by
  intro sz
  refine Met.ofW (cc := cK_keepRing) (maxL := 3) (ret := none) (by decide) rfl ?_
  intro p e s m args below meth c s₁ B hml hv
  obtain ⟨rfl, hsz, hP, hK, hD0⟩ := hv
  have hx := B.exec
  have hb := B.bytes
  have hr := B.returns
  have hts := fun w (hw : w ∈ kTbl) => atoms_spec (ws := (kWs yK_keepRing cK_keepRing 3 none)) B.pre w (List.mem_cons_of_mem _ hw)
  have hown : s.vm.findClass RK = some m.cls := findClass_of_methodNamed B.named
  have hlocks := B.notSynchronized
  subst hsz
  have hD := hD0.self (sz := s.heap.size)
  generalize hAe : va_A [(k0, .inr (4, [.ref n0, .ref g0, .ref sq, .ref w0, .ref r0, .int rs, .int ib, .int ch])), (w0, .inr (1, [.ref w1, .ref w2, .ref w3, .int wt])), (w1, .inl (τ 0, 24, .inl wd)), (w2, .inl (τ 0, 24, .inl wh)), (w3, .inl (τ 0, 24, .inl wp)), (r0, .inl (τ 0, 24, .inl g))] s.heap.size = A at hD ⊢
  have hA : ∀ q : Nat, s.heap.size ≤ q → A q := fun q h => by rw [← hAe]; exact Or.inr h
  have hS : va_S A s.heap s.heap [] := va_S.rf
  have hP : va_P D vwCl [(k0, .inr (4, [.ref n0, .ref g0, .ref sq, .ref w0, .ref r0, .int rs, .int ib, .int ch])), (w0, .inr (1, [.ref w1, .ref w2, .ref w3, .int wt])), (w1, .inl (τ 0, 24, .inl wd)), (w2, .inl (τ 0, 24, .inl wh)), (w3, .inl (τ 0, 24, .inl wp)), (r0, .inl (τ 0, 24, .inl g))] s.heap := hP
  have hl := lv_entry ([.ref k0, .int (nI i)]) (n := 3) (Nat.le_of_ble_eq_true rfl)
  rw [lg_entry_eq]
  generalize (lg_sl ([.ref k0, .int (nI i)]) ++ List.replicate (3 - (lg_sl ([.ref k0, .int (nI i)])).length) Slot.unset).toArray = ls at hl ⊢
  have hl : lv_has ls 3 [(0, .ref k0), (1, .int (nI i))] := hl
  skip
  refine lv_aload_n hx hb dK_keepRing_0 rfl (lv_at hl 0 rfl) ?_
  refine lv_aload_n hx hb dK_keepRing_1 rfl (lv_at hl 0 rfl) ?_
  refine va_get (D := D) (ci := 4) (v := .ref w0) (C := RK) (T := TK) (N := 8) hx hb hts iK hown hK hP 0 rfl rfl 3 (by decide) (hts _ w_123) (fun _ h9 => h9) rfl dK_keepRing_2 ?_
  refine lv_iload_n hx hb dK_keepRing_5 rfl (lv_at hl 1 rfl) ?_
  refine kc_Vi (As := [.int (nI i)]) (rest := [.ref k0]) (wr := [(k0, .inr (4, [.ref n0, .ref g0, .ref sq, .ref w0, .ref r0, .int rs, .int ib, .int ch])), (r0, .inl (τ 0, 24, .inl g))]) (W1 := [(k0, .inr (4, [.ref n0, .ref g0, .ref sq, .ref w0, .ref r0, .int rs, .int ib, .int ch])), (w0, .inr (1, [.ref w1, .ref w2, .ref w3, .int wt])), (w1, .inl (τ 0, 24, .inl wd)), (w2, .inl (τ 0, 24, .inl wh)), (w3, .inl (τ 0, 24, .inl wp)), (r0, .inl (τ 0, 24, .inl g))]) ⟨hx, hb, hml, hown, hts⟩ (cl_size l D τ w0 w1 w2 w3 i wd wh wp wt hi) (kcwV hts qL_sizeOfWay w_227 rfl rfl ⟨Nat.le_of_ble_eq_true rfl, Nat.le_of_ble_eq_true rfl⟩) hK hP hD hS hA [1, 2, 3, 4] [0, 5] [0, 2, 3, 4, 5, 1] rfl rfl (by decide) (by decide) (by decide) rfl rfl rfl (by decide) hl.1 rfl rfl (Nat.le_of_ble_eq_true rfl) ⟨Nat.zero_le _, Nat.zero_le _⟩ dK_keepRing_6 (fun H locs hP hD hS => ?_)
  refine lv_topi (fun y_ ey_ => ?_)
  obtain rfl : y_ = nI (M + 1) := ey_.trans (by rw [hKw]; exact nI_1 M)
  refine va_put (D := D) (ci := 4) (v := .int (nI (M + 1))) (ty := .int) (C := RK) (T := TK) (N := 8) hx hb hts iK tyK tyK_ok nmK hown hK hP hD hS 0 rfl rfl 5 (by decide) (hts _ w_125) (fun _ h9 => h9) rfl (by decide +kernel) rfl rfl (Nat.le_of_ble_eq_true rfl) dK_keepRing_9 (fun H locs hP hD hS => ?_)
  have hP : va_P D vwCl [(k0, .inr (4, [.ref n0, .ref g0, .ref sq, .ref w0, .ref r0, .int (nI (M + 1)), .int ib, .int ch])), (w0, .inr (1, [.ref w1, .ref w2, .ref w3, .int wt])), (w1, .inl (τ 0, 24, .inl wd)), (w2, .inl (τ 0, 24, .inl wh)), (w3, .inl (τ 0, 24, .inl wp)), (r0, .inl (τ 0, 24, .inl g))] H := hP
  have hD : va_D A [(k0, .inr (4, [.ref n0, .ref g0, .ref sq, .ref w0, .ref r0, .int (nI (M + 1)), .int ib, .int ch])), (w0, .inr (1, [.ref w1, .ref w2, .ref w3, .int wt])), (w1, .inl (τ 0, 24, .inl wd)), (w2, .inl (τ 0, 24, .inl wh)), (w3, .inl (τ 0, 24, .inl wp)), (r0, .inl (τ 0, 24, .inl g))] := hD
  refine lv_iconst (v := 0) hx hb dK_keepRing_12 (by decide) ?_
  refine lv_istore_n (lv' := [(2, .int 0), (0, .ref k0), (1, .int (nI i))]) hx hb dK_keepRing_13 rfl hl (by decide) rfl (fun ls hl => ?_)
  refine lk_ring hx hb hml hown hts hK hA k0 n0 g0 sq w0 r0 ib ch w1 w2 w3 wd wh wp wt i M g (by first | assumption | omega) (by first | assumption | omega) (by first | assumption | omega) (by first | assumption | omega) (fun H locs ls hP hD hS hl => ?_) (M + 1) 0 (by omega) _ _ ls hP hD hS (lv_sub hl [1, 2, 0] rfl)
  exact k_vret hx hb hr hlocks hK hS hP hD dK_keepRing_43
set_option maxHeartbeats 4000000 in
set_option maxRecDepth 100000 in
theorem ck_recount (l : Launch) (D : va_G) (τ : Nat → ClassId) (ad : Nat → Nat) (N : Nat) (ar : Int32) (len : Nat → Int32) (rs : Int32) (ib : Int32) (ch : Int32) (pl0 : Int32) (af0 : Int32) (td0 : Nat → Int32) (th0 : Nat → Int32) (tp0 : Nat → Int32) (tt0 : Int32) (sd0 : Nat → Int32) (sh0 : Nat → Int32) (sp0 : Nat → Int32) (st0 : Int32) (pl1 : Int32) (af1 : Int32) (td1 : Nat → Int32) (th1 : Nat → Int32) (tp1 : Nat → Int32) (tt1 : Int32) (sd1 : Nat → Int32) (sh1 : Nat → Int32) (sp1 : Nat → Int32) (st1 : Int32) (pl2 : Int32) (af2 : Int32) (td2 : Nat → Int32) (th2 : Nat → Int32) (tp2 : Nat → Int32) (tt2 : Int32) (sd2 : Nat → Int32) (sh2 : Nat → Int32) (sp2 : Nat → Int32) (st2 : Int32) (hN : N ≤ 24) : kMv l D τ yK_recountSources (kWs yK_recountSources cK_recountSources 2 none) { frames := 4, cells := 0, slots := 0, locals := 96 } [.ref (ad 0)] [(ad 0, .inr (4, [.ref (ad 1), .ref (ad 3), .ref (ad 8), .ref (ad 9), .ref (ad 13), .int rs, .int ib, .int ch])), (ad 1, .inr (2, [.int (nI N), .int ar, .ref (ad 2)])), (ad 2, .inl (τ 0, 576, .inl len)), (ad 8, .inl (τ 1, 3, .inr (.inr (.inr (.inr (kQ3 (ad 14) (ad 23) (ad 32))))))), (ad 14, .inr (3, [.int pl0, .int af0, .ref (ad 15), .ref (ad 19)])), (ad 15, .inr (1, [.ref (ad 16), .ref (ad 17), .ref (ad 18), .int tt0])), (ad 16, .inl (τ 0, 24, .inl td0)), (ad 17, .inl (τ 0, 24, .inl th0)), (ad 18, .inl (τ 0, 24, .inl tp0)), (ad 19, .inr (1, [.ref (ad 20), .ref (ad 21), .ref (ad 22), .int st0])), (ad 20, .inl (τ 0, 24, .inl sd0)), (ad 21, .inl (τ 0, 24, .inl sh0)), (ad 22, .inl (τ 0, 24, .inl sp0)), (ad 23, .inr (3, [.int pl1, .int af1, .ref (ad 24), .ref (ad 28)])), (ad 24, .inr (1, [.ref (ad 25), .ref (ad 26), .ref (ad 27), .int tt1])), (ad 25, .inl (τ 0, 24, .inl td1)), (ad 26, .inl (τ 0, 24, .inl th1)), (ad 27, .inl (τ 0, 24, .inl tp1)), (ad 28, .inr (1, [.ref (ad 29), .ref (ad 30), .ref (ad 31), .int st1])), (ad 29, .inl (τ 0, 24, .inl sd1)), (ad 30, .inl (τ 0, 24, .inl sh1)), (ad 31, .inl (τ 0, 24, .inl sp1)), (ad 32, .inr (3, [.int pl2, .int af2, .ref (ad 33), .ref (ad 37)])), (ad 33, .inr (1, [.ref (ad 34), .ref (ad 35), .ref (ad 36), .int tt2])), (ad 34, .inl (τ 0, 24, .inl td2)), (ad 35, .inl (τ 0, 24, .inl th2)), (ad 36, .inl (τ 0, 24, .inl tp2)), (ad 37, .inr (1, [.ref (ad 38), .ref (ad 39), .ref (ad 40), .int st2])), (ad 38, .inl (τ 0, 24, .inl sd2)), (ad 39, .inl (τ 0, 24, .inl sh2)), (ad 40, .inl (τ 0, 24, .inl sp2))] [(ad 0, .inr (4, [.ref (ad 1), .ref (ad 3), .ref (ad 8), .ref (ad 9), .ref (ad 13), .int rs, .int ib, .int ch])), (ad 1, .inr (2, [.int (nI N), .int ar, .ref (ad 2)])), (ad 2, .inl (τ 0, 576, .inl len)), (ad 8, .inl (τ 1, 3, .inr (.inr (.inr (.inr (kQ3 (ad 14) (ad 23) (ad 32))))))), (ad 14, .inr (3, [.int pl0, .int (kDiff (kSettle N len pl0) (td0, th0, tp0, tt0)), .ref (ad 19), .ref (ad 15)])), (ad 15, .inr (1, [.ref (ad 16), .ref (ad 17), .ref (ad 18), .int tt0])), (ad 16, .inl (τ 0, 24, .inl td0)), (ad 17, .inl (τ 0, 24, .inl th0)), (ad 18, .inl (τ 0, 24, .inl tp0)), (ad 19, .inr (1, [.ref (ad 20), .ref (ad 21), .ref (ad 22), .int ((kSettle N len pl0).2.2.2)])), (ad 20, .inl (τ 0, 24, .inl ((kSettle N len pl0).1))), (ad 21, .inl (τ 0, 24, .inl ((kSettle N len pl0).2.1))), (ad 22, .inl (τ 0, 24, .inl ((kSettle N len pl0).2.2.1))), (ad 23, .inr (3, [.int pl1, .int (kDiff (kSettle N len pl1) (td1, th1, tp1, tt1)), .ref (ad 28), .ref (ad 24)])), (ad 24, .inr (1, [.ref (ad 25), .ref (ad 26), .ref (ad 27), .int tt1])), (ad 25, .inl (τ 0, 24, .inl td1)), (ad 26, .inl (τ 0, 24, .inl th1)), (ad 27, .inl (τ 0, 24, .inl tp1)), (ad 28, .inr (1, [.ref (ad 29), .ref (ad 30), .ref (ad 31), .int ((kSettle N len pl1).2.2.2)])), (ad 29, .inl (τ 0, 24, .inl ((kSettle N len pl1).1))), (ad 30, .inl (τ 0, 24, .inl ((kSettle N len pl1).2.1))), (ad 31, .inl (τ 0, 24, .inl ((kSettle N len pl1).2.2.1))), (ad 32, .inr (3, [.int pl2, .int (kDiff (kSettle N len pl2) (td2, th2, tp2, tt2)), .ref (ad 37), .ref (ad 33)])), (ad 33, .inr (1, [.ref (ad 34), .ref (ad 35), .ref (ad 36), .int tt2])), (ad 34, .inl (τ 0, 24, .inl td2)), (ad 35, .inl (τ 0, 24, .inl th2)), (ad 36, .inl (τ 0, 24, .inl tp2)), (ad 37, .inr (1, [.ref (ad 38), .ref (ad 39), .ref (ad 40), .int ((kSettle N len pl2).2.2.2)])), (ad 38, .inl (τ 0, 24, .inl ((kSettle N len pl2).1))), (ad 39, .inl (τ 0, 24, .inl ((kSettle N len pl2).2.1))), (ad 40, .inl (τ 0, 24, .inl ((kSettle N len pl2).2.2.1)))] := by
  intro sz
  refine Met.ofW (cc := cK_recountSources) (maxL := 2) (ret := none) (by decide) rfl ?_
  intro p e s m args below meth c s₁ B hml hv
  obtain ⟨rfl, hsz, hP, hK, hD0⟩ := hv
  have hx := B.exec
  have hb := B.bytes
  have hr := B.returns
  have hts := fun w (hw : w ∈ kTbl) => atoms_spec (ws := (kWs yK_recountSources cK_recountSources 2 none)) B.pre w (List.mem_cons_of_mem _ hw)
  have hown : s.vm.findClass RK = some m.cls := findClass_of_methodNamed B.named
  have hlocks := B.notSynchronized
  subst hsz
  have hD := hD0.self (sz := s.heap.size)
  generalize hAe : va_A [(ad 0, .inr (4, [.ref (ad 1), .ref (ad 3), .ref (ad 8), .ref (ad 9), .ref (ad 13), .int rs, .int ib, .int ch])), (ad 1, .inr (2, [.int (nI N), .int ar, .ref (ad 2)])), (ad 2, .inl (τ 0, 576, .inl len)), (ad 8, .inl (τ 1, 3, .inr (.inr (.inr (.inr (kQ3 (ad 14) (ad 23) (ad 32))))))), (ad 14, .inr (3, [.int pl0, .int af0, .ref (ad 15), .ref (ad 19)])), (ad 15, .inr (1, [.ref (ad 16), .ref (ad 17), .ref (ad 18), .int tt0])), (ad 16, .inl (τ 0, 24, .inl td0)), (ad 17, .inl (τ 0, 24, .inl th0)), (ad 18, .inl (τ 0, 24, .inl tp0)), (ad 19, .inr (1, [.ref (ad 20), .ref (ad 21), .ref (ad 22), .int st0])), (ad 20, .inl (τ 0, 24, .inl sd0)), (ad 21, .inl (τ 0, 24, .inl sh0)), (ad 22, .inl (τ 0, 24, .inl sp0)), (ad 23, .inr (3, [.int pl1, .int af1, .ref (ad 24), .ref (ad 28)])), (ad 24, .inr (1, [.ref (ad 25), .ref (ad 26), .ref (ad 27), .int tt1])), (ad 25, .inl (τ 0, 24, .inl td1)), (ad 26, .inl (τ 0, 24, .inl th1)), (ad 27, .inl (τ 0, 24, .inl tp1)), (ad 28, .inr (1, [.ref (ad 29), .ref (ad 30), .ref (ad 31), .int st1])), (ad 29, .inl (τ 0, 24, .inl sd1)), (ad 30, .inl (τ 0, 24, .inl sh1)), (ad 31, .inl (τ 0, 24, .inl sp1)), (ad 32, .inr (3, [.int pl2, .int af2, .ref (ad 33), .ref (ad 37)])), (ad 33, .inr (1, [.ref (ad 34), .ref (ad 35), .ref (ad 36), .int tt2])), (ad 34, .inl (τ 0, 24, .inl td2)), (ad 35, .inl (τ 0, 24, .inl th2)), (ad 36, .inl (τ 0, 24, .inl tp2)), (ad 37, .inr (1, [.ref (ad 38), .ref (ad 39), .ref (ad 40), .int st2])), (ad 38, .inl (τ 0, 24, .inl sd2)), (ad 39, .inl (τ 0, 24, .inl sh2)), (ad 40, .inl (τ 0, 24, .inl sp2))] s.heap.size = A at hD ⊢
  have hA : ∀ q : Nat, s.heap.size ≤ q → A q := fun q h => by rw [← hAe]; exact Or.inr h
  have hS : va_S A s.heap s.heap [] := va_S.rf
  have hP : va_P D vwCl [(ad 0, .inr (4, [.ref (ad 1), .ref (ad 3), .ref (ad 8), .ref (ad 9), .ref (ad 13), .int rs, .int ib, .int ch])), (ad 1, .inr (2, [.int (nI N), .int ar, .ref (ad 2)])), (ad 2, .inl (τ 0, 576, .inl len)), (ad 8, .inl (τ 1, 3, .inr (.inr (.inr (.inr (kQ3 (ad 14) (ad 23) (ad 32))))))), (ad 14, .inr (3, [.int pl0, .int af0, .ref (ad 15), .ref (ad 19)])), (ad 15, .inr (1, [.ref (ad 16), .ref (ad 17), .ref (ad 18), .int tt0])), (ad 16, .inl (τ 0, 24, .inl td0)), (ad 17, .inl (τ 0, 24, .inl th0)), (ad 18, .inl (τ 0, 24, .inl tp0)), (ad 19, .inr (1, [.ref (ad 20), .ref (ad 21), .ref (ad 22), .int st0])), (ad 20, .inl (τ 0, 24, .inl sd0)), (ad 21, .inl (τ 0, 24, .inl sh0)), (ad 22, .inl (τ 0, 24, .inl sp0)), (ad 23, .inr (3, [.int pl1, .int af1, .ref (ad 24), .ref (ad 28)])), (ad 24, .inr (1, [.ref (ad 25), .ref (ad 26), .ref (ad 27), .int tt1])), (ad 25, .inl (τ 0, 24, .inl td1)), (ad 26, .inl (τ 0, 24, .inl th1)), (ad 27, .inl (τ 0, 24, .inl tp1)), (ad 28, .inr (1, [.ref (ad 29), .ref (ad 30), .ref (ad 31), .int st1])), (ad 29, .inl (τ 0, 24, .inl sd1)), (ad 30, .inl (τ 0, 24, .inl sh1)), (ad 31, .inl (τ 0, 24, .inl sp1)), (ad 32, .inr (3, [.int pl2, .int af2, .ref (ad 33), .ref (ad 37)])), (ad 33, .inr (1, [.ref (ad 34), .ref (ad 35), .ref (ad 36), .int tt2])), (ad 34, .inl (τ 0, 24, .inl td2)), (ad 35, .inl (τ 0, 24, .inl th2)), (ad 36, .inl (τ 0, 24, .inl tp2)), (ad 37, .inr (1, [.ref (ad 38), .ref (ad 39), .ref (ad 40), .int st2])), (ad 38, .inl (τ 0, 24, .inl sd2)), (ad 39, .inl (τ 0, 24, .inl sh2)), (ad 40, .inl (τ 0, 24, .inl sp2))] s.heap := hP
  have hl := lv_entry ([.ref (ad 0)]) (n := 2) (Nat.le_of_ble_eq_true rfl)
  rw [lg_entry_eq]
  generalize (lg_sl ([.ref (ad 0)]) ++ List.replicate (2 - (lg_sl ([.ref (ad 0)])).length) Slot.unset).toArray = ls at hl ⊢
  have hl : lv_has ls 2 [(0, .ref (ad 0))] := hl
  skip
  refine lv_iconst (v := 0) hx hb dK_recountSources_0 (by decide) ?_
  refine lv_istore_n (lv' := [(1, .int 0), (0, .ref (ad 0))]) hx hb dK_recountSources_1 rfl hl (by decide) rfl (fun ls hl => ?_)
  refine lv_iload_n hx hb dK_recountSources_2 rfl (lv_at hl 0 rfl) ?_
  refine lv_iconst (v := 3) hx hb dK_recountSources_3 (by decide) ?_
  refine lv_icmp_ge (tgt := 26) hx hb dK_recountSources_4 (by decide) (fun c_4 => absurd c_4 (by decide)) (fun c_4 => ?_)
  refine lv_aload_n hx hb dK_recountSources_7 rfl (lv_at hl 1 rfl) ?_
  refine va_get (D := D) (ci := 4) (v := .ref (ad 8)) (C := RK) (T := TK) (N := 8) hx hb hts iK hown hK hP 0 rfl rfl 2 (by decide) (hts _ w_122) (fun _ h9 => h9) rfl dK_recountSources_8 ?_
  refine lv_iload_n hx hb dK_recountSources_11 rfl (lv_at hl 0 rfl) ?_
  refine ka_aald (k := 0) (v := ad 14) hx hb hK hP 3 1 rfl rfl (by decide) (by decide) rfl rfl dK_recountSources_12 ?_
  refine lv_aload_n hx hb dK_recountSources_13 rfl (lv_at hl 1 rfl) ?_
  refine va_get (D := D) (ci := 4) (v := .ref (ad 1)) (C := RK) (T := TK) (N := 8) hx hb hts iK hown hK hP 0 rfl rfl 0 (by decide) (hts _ w_120) (fun _ h9 => h9) rfl dK_recountSources_14 ?_
  refine kc_Vv (As := [.ref (ad 1)]) (rest := []) (wr := [(ad 0, .inr (4, [.ref (ad 1), .ref (ad 3), .ref (ad 8), .ref (ad 9), .ref (ad 13), .int rs, .int ib, .int ch])), (ad 8, .inl (τ 1, 3, .inr (.inr (.inr (.inr (kQ3 (ad 14) (ad 23) (ad 32))))))), (ad 23, .inr (3, [.int pl1, .int af1, .ref (ad 24), .ref (ad 28)])), (ad 24, .inr (1, [.ref (ad 25), .ref (ad 26), .ref (ad 27), .int tt1])), (ad 25, .inl (τ 0, 24, .inl td1)), (ad 26, .inl (τ 0, 24, .inl th1)), (ad 27, .inl (τ 0, 24, .inl tp1)), (ad 28, .inr (1, [.ref (ad 29), .ref (ad 30), .ref (ad 31), .int st1])), (ad 29, .inl (τ 0, 24, .inl sd1)), (ad 30, .inl (τ 0, 24, .inl sh1)), (ad 31, .inl (τ 0, 24, .inl sp1)), (ad 32, .inr (3, [.int pl2, .int af2, .ref (ad 33), .ref (ad 37)])), (ad 33, .inr (1, [.ref (ad 34), .ref (ad 35), .ref (ad 36), .int tt2])), (ad 34, .inl (τ 0, 24, .inl td2)), (ad 35, .inl (τ 0, 24, .inl th2)), (ad 36, .inl (τ 0, 24, .inl tp2)), (ad 37, .inr (1, [.ref (ad 38), .ref (ad 39), .ref (ad 40), .int st2])), (ad 38, .inl (τ 0, 24, .inl sd2)), (ad 39, .inl (τ 0, 24, .inl sh2)), (ad 40, .inl (τ 0, 24, .inl sp2))]) (W1 := [(ad 0, .inr (4, [.ref (ad 1), .ref (ad 3), .ref (ad 8), .ref (ad 9), .ref (ad 13), .int rs, .int ib, .int ch])), (ad 1, .inr (2, [.int (nI N), .int ar, .ref (ad 2)])), (ad 2, .inl (τ 0, 576, .inl len)), (ad 8, .inl (τ 1, 3, .inr (.inr (.inr (.inr (kQ3 (ad 14) (ad 23) (ad 32))))))), (ad 14, .inr (3, [.int pl0, .int (kDiff (kSettle N len pl0) (td0, th0, tp0, tt0)), .ref (ad 19), .ref (ad 15)])), (ad 15, .inr (1, [.ref (ad 16), .ref (ad 17), .ref (ad 18), .int tt0])), (ad 16, .inl (τ 0, 24, .inl td0)), (ad 17, .inl (τ 0, 24, .inl th0)), (ad 18, .inl (τ 0, 24, .inl tp0)), (ad 19, .inr (1, [.ref (ad 20), .ref (ad 21), .ref (ad 22), .int ((kSettle N len pl0).2.2.2)])), (ad 20, .inl (τ 0, 24, .inl ((kSettle N len pl0).1))), (ad 21, .inl (τ 0, 24, .inl ((kSettle N len pl0).2.1))), (ad 22, .inl (τ 0, 24, .inl ((kSettle N len pl0).2.2.1))), (ad 23, .inr (3, [.int pl1, .int af1, .ref (ad 24), .ref (ad 28)])), (ad 24, .inr (1, [.ref (ad 25), .ref (ad 26), .ref (ad 27), .int tt1])), (ad 25, .inl (τ 0, 24, .inl td1)), (ad 26, .inl (τ 0, 24, .inl th1)), (ad 27, .inl (τ 0, 24, .inl tp1)), (ad 28, .inr (1, [.ref (ad 29), .ref (ad 30), .ref (ad 31), .int st1])), (ad 29, .inl (τ 0, 24, .inl sd1)), (ad 30, .inl (τ 0, 24, .inl sh1)), (ad 31, .inl (τ 0, 24, .inl sp1)), (ad 32, .inr (3, [.int pl2, .int af2, .ref (ad 33), .ref (ad 37)])), (ad 33, .inr (1, [.ref (ad 34), .ref (ad 35), .ref (ad 36), .int tt2])), (ad 34, .inl (τ 0, 24, .inl td2)), (ad 35, .inl (τ 0, 24, .inl th2)), (ad 36, .inl (τ 0, 24, .inl tp2)), (ad 37, .inr (1, [.ref (ad 38), .ref (ad 39), .ref (ad 40), .int st2])), (ad 38, .inl (τ 0, 24, .inl sd2)), (ad 39, .inl (τ 0, 24, .inl sh2)), (ad 40, .inl (τ 0, 24, .inl sp2))]) ⟨hx, hb, hml, hown, hts⟩ (cs_recount l D τ (ad 14) pl0 af0 (ad 15) (ad 16) (ad 17) (ad 18) (ad 19) (ad 20) (ad 21) (ad 22) (ad 1) (ad 2) N ar len td0 th0 tp0 tt0 sd0 sh0 sp0 st0 (by first | assumption | omega)) (kcwV hts qS_recount w_258 rfl rfl ⟨Nat.le_of_ble_eq_true rfl, Nat.le_of_ble_eq_true rfl⟩) hK hP hD hS hA [4, 5, 6, 7, 8, 9, 10, 11, 12, 1, 2] [0, 3, 13, 14, 15, 16, 17, 18, 19, 20, 21, 22, 23, 24, 25, 26, 27, 28, 29, 30] [0, 29, 30, 1, 20, 21, 22, 23, 24, 25, 26, 27, 28, 2, 3, 4, 5, 6, 7, 8, 9, 10, 11, 12, 13, 14, 15, 16, 17, 18, 19] rfl rfl (by decide) (by decide) (by decide) rfl rfl rfl (by decide) hl.1 rfl rfl (Nat.le_of_ble_eq_true rfl) ⟨Nat.zero_le _, Nat.zero_le _⟩ dK_recountSources_17 (fun H locs hP hD hS => ?_)
  refine lv_iinc (v := 1) (lv' := [(1, .int 1), (0, .ref (ad 0))]) hx hb dK_recountSources_20 hl (k := 0) rfl (by decide) (by decide) rfl (fun ls hl => ?_)
  refine lv_goto (tgt := 2) hx hb dK_recountSources_23 (by decide) ?_
  refine lv_iload_n hx hb dK_recountSources_2 rfl (lv_at hl 0 rfl) ?_
  refine lv_iconst (v := 3) hx hb dK_recountSources_3 (by decide) ?_
  refine lv_icmp_ge (tgt := 26) hx hb dK_recountSources_4 (by decide) (fun c_4 => absurd c_4 (by decide)) (fun c_4 => ?_)
  refine lv_aload_n hx hb dK_recountSources_7 rfl (lv_at hl 1 rfl) ?_
  refine va_get (D := D) (ci := 4) (v := .ref (ad 8)) (C := RK) (T := TK) (N := 8) hx hb hts iK hown hK hP 0 rfl rfl 2 (by decide) (hts _ w_122) (fun _ h9 => h9) rfl dK_recountSources_8 ?_
  refine lv_iload_n hx hb dK_recountSources_11 rfl (lv_at hl 0 rfl) ?_
  refine ka_aald (k := 1) (v := ad 23) hx hb hK hP 3 1 rfl rfl (by decide) (by decide) rfl rfl dK_recountSources_12 ?_
  refine lv_aload_n hx hb dK_recountSources_13 rfl (lv_at hl 1 rfl) ?_
  refine va_get (D := D) (ci := 4) (v := .ref (ad 1)) (C := RK) (T := TK) (N := 8) hx hb hts iK hown hK hP 0 rfl rfl 0 (by decide) (hts _ w_120) (fun _ h9 => h9) rfl dK_recountSources_14 ?_
  refine kc_Vv (As := [.ref (ad 1)]) (rest := []) (wr := [(ad 0, .inr (4, [.ref (ad 1), .ref (ad 3), .ref (ad 8), .ref (ad 9), .ref (ad 13), .int rs, .int ib, .int ch])), (ad 8, .inl (τ 1, 3, .inr (.inr (.inr (.inr (kQ3 (ad 14) (ad 23) (ad 32))))))), (ad 14, .inr (3, [.int pl0, .int (kDiff (kSettle N len pl0) (td0, th0, tp0, tt0)), .ref (ad 19), .ref (ad 15)])), (ad 15, .inr (1, [.ref (ad 16), .ref (ad 17), .ref (ad 18), .int tt0])), (ad 16, .inl (τ 0, 24, .inl td0)), (ad 17, .inl (τ 0, 24, .inl th0)), (ad 18, .inl (τ 0, 24, .inl tp0)), (ad 19, .inr (1, [.ref (ad 20), .ref (ad 21), .ref (ad 22), .int ((kSettle N len pl0).2.2.2)])), (ad 20, .inl (τ 0, 24, .inl ((kSettle N len pl0).1))), (ad 21, .inl (τ 0, 24, .inl ((kSettle N len pl0).2.1))), (ad 22, .inl (τ 0, 24, .inl ((kSettle N len pl0).2.2.1))), (ad 32, .inr (3, [.int pl2, .int af2, .ref (ad 33), .ref (ad 37)])), (ad 33, .inr (1, [.ref (ad 34), .ref (ad 35), .ref (ad 36), .int tt2])), (ad 34, .inl (τ 0, 24, .inl td2)), (ad 35, .inl (τ 0, 24, .inl th2)), (ad 36, .inl (τ 0, 24, .inl tp2)), (ad 37, .inr (1, [.ref (ad 38), .ref (ad 39), .ref (ad 40), .int st2])), (ad 38, .inl (τ 0, 24, .inl sd2)), (ad 39, .inl (τ 0, 24, .inl sh2)), (ad 40, .inl (τ 0, 24, .inl sp2))]) (W1 := [(ad 0, .inr (4, [.ref (ad 1), .ref (ad 3), .ref (ad 8), .ref (ad 9), .ref (ad 13), .int rs, .int ib, .int ch])), (ad 1, .inr (2, [.int (nI N), .int ar, .ref (ad 2)])), (ad 2, .inl (τ 0, 576, .inl len)), (ad 8, .inl (τ 1, 3, .inr (.inr (.inr (.inr (kQ3 (ad 14) (ad 23) (ad 32))))))), (ad 14, .inr (3, [.int pl0, .int (kDiff (kSettle N len pl0) (td0, th0, tp0, tt0)), .ref (ad 19), .ref (ad 15)])), (ad 15, .inr (1, [.ref (ad 16), .ref (ad 17), .ref (ad 18), .int tt0])), (ad 16, .inl (τ 0, 24, .inl td0)), (ad 17, .inl (τ 0, 24, .inl th0)), (ad 18, .inl (τ 0, 24, .inl tp0)), (ad 19, .inr (1, [.ref (ad 20), .ref (ad 21), .ref (ad 22), .int ((kSettle N len pl0).2.2.2)])), (ad 20, .inl (τ 0, 24, .inl ((kSettle N len pl0).1))), (ad 21, .inl (τ 0, 24, .inl ((kSettle N len pl0).2.1))), (ad 22, .inl (τ 0, 24, .inl ((kSettle N len pl0).2.2.1))), (ad 23, .inr (3, [.int pl1, .int (kDiff (kSettle N len pl1) (td1, th1, tp1, tt1)), .ref (ad 28), .ref (ad 24)])), (ad 24, .inr (1, [.ref (ad 25), .ref (ad 26), .ref (ad 27), .int tt1])), (ad 25, .inl (τ 0, 24, .inl td1)), (ad 26, .inl (τ 0, 24, .inl th1)), (ad 27, .inl (τ 0, 24, .inl tp1)), (ad 28, .inr (1, [.ref (ad 29), .ref (ad 30), .ref (ad 31), .int ((kSettle N len pl1).2.2.2)])), (ad 29, .inl (τ 0, 24, .inl ((kSettle N len pl1).1))), (ad 30, .inl (τ 0, 24, .inl ((kSettle N len pl1).2.1))), (ad 31, .inl (τ 0, 24, .inl ((kSettle N len pl1).2.2.1))), (ad 32, .inr (3, [.int pl2, .int af2, .ref (ad 33), .ref (ad 37)])), (ad 33, .inr (1, [.ref (ad 34), .ref (ad 35), .ref (ad 36), .int tt2])), (ad 34, .inl (τ 0, 24, .inl td2)), (ad 35, .inl (τ 0, 24, .inl th2)), (ad 36, .inl (τ 0, 24, .inl tp2)), (ad 37, .inr (1, [.ref (ad 38), .ref (ad 39), .ref (ad 40), .int st2])), (ad 38, .inl (τ 0, 24, .inl sd2)), (ad 39, .inl (τ 0, 24, .inl sh2)), (ad 40, .inl (τ 0, 24, .inl sp2))]) ⟨hx, hb, hml, hown, hts⟩ (cs_recount l D τ (ad 23) pl1 af1 (ad 24) (ad 25) (ad 26) (ad 27) (ad 28) (ad 29) (ad 30) (ad 31) (ad 1) (ad 2) N ar len td1 th1 tp1 tt1 sd1 sh1 sp1 st1 (by first | assumption | omega)) (kcwV hts qS_recount w_258 rfl rfl ⟨Nat.le_of_ble_eq_true rfl, Nat.le_of_ble_eq_true rfl⟩) hK hP hD hS hA [13, 14, 15, 16, 17, 18, 19, 20, 21, 1, 2] [0, 3, 4, 5, 6, 7, 8, 9, 10, 11, 12, 22, 23, 24, 25, 26, 27, 28, 29, 30] [0, 29, 30, 1, 2, 3, 4, 5, 6, 7, 8, 9, 10, 20, 21, 22, 23, 24, 25, 26, 27, 28, 11, 12, 13, 14, 15, 16, 17, 18, 19] rfl rfl (by decide) (by decide) (by decide) rfl rfl rfl (by decide) hl.1 rfl rfl (Nat.le_of_ble_eq_true rfl) ⟨Nat.zero_le _, Nat.zero_le _⟩ dK_recountSources_17 (fun H locs hP hD hS => ?_)
  refine lv_iinc (v := 2) (lv' := [(1, .int 2), (0, .ref (ad 0))]) hx hb dK_recountSources_20 hl (k := 0) rfl (by decide) (by decide) rfl (fun ls hl => ?_)
  refine lv_goto (tgt := 2) hx hb dK_recountSources_23 (by decide) ?_
  refine lv_iload_n hx hb dK_recountSources_2 rfl (lv_at hl 0 rfl) ?_
  refine lv_iconst (v := 3) hx hb dK_recountSources_3 (by decide) ?_
  refine lv_icmp_ge (tgt := 26) hx hb dK_recountSources_4 (by decide) (fun c_4 => absurd c_4 (by decide)) (fun c_4 => ?_)
  refine lv_aload_n hx hb dK_recountSources_7 rfl (lv_at hl 1 rfl) ?_
  refine va_get (D := D) (ci := 4) (v := .ref (ad 8)) (C := RK) (T := TK) (N := 8) hx hb hts iK hown hK hP 0 rfl rfl 2 (by decide) (hts _ w_122) (fun _ h9 => h9) rfl dK_recountSources_8 ?_
  refine lv_iload_n hx hb dK_recountSources_11 rfl (lv_at hl 0 rfl) ?_
  refine ka_aald (k := 2) (v := ad 32) hx hb hK hP 3 1 rfl rfl (by decide) (by decide) rfl rfl dK_recountSources_12 ?_
  refine lv_aload_n hx hb dK_recountSources_13 rfl (lv_at hl 1 rfl) ?_
  refine va_get (D := D) (ci := 4) (v := .ref (ad 1)) (C := RK) (T := TK) (N := 8) hx hb hts iK hown hK hP 0 rfl rfl 0 (by decide) (hts _ w_120) (fun _ h9 => h9) rfl dK_recountSources_14 ?_
  refine kc_Vv (As := [.ref (ad 1)]) (rest := []) (wr := [(ad 0, .inr (4, [.ref (ad 1), .ref (ad 3), .ref (ad 8), .ref (ad 9), .ref (ad 13), .int rs, .int ib, .int ch])), (ad 8, .inl (τ 1, 3, .inr (.inr (.inr (.inr (kQ3 (ad 14) (ad 23) (ad 32))))))), (ad 14, .inr (3, [.int pl0, .int (kDiff (kSettle N len pl0) (td0, th0, tp0, tt0)), .ref (ad 19), .ref (ad 15)])), (ad 15, .inr (1, [.ref (ad 16), .ref (ad 17), .ref (ad 18), .int tt0])), (ad 16, .inl (τ 0, 24, .inl td0)), (ad 17, .inl (τ 0, 24, .inl th0)), (ad 18, .inl (τ 0, 24, .inl tp0)), (ad 19, .inr (1, [.ref (ad 20), .ref (ad 21), .ref (ad 22), .int ((kSettle N len pl0).2.2.2)])), (ad 20, .inl (τ 0, 24, .inl ((kSettle N len pl0).1))), (ad 21, .inl (τ 0, 24, .inl ((kSettle N len pl0).2.1))), (ad 22, .inl (τ 0, 24, .inl ((kSettle N len pl0).2.2.1))), (ad 23, .inr (3, [.int pl1, .int (kDiff (kSettle N len pl1) (td1, th1, tp1, tt1)), .ref (ad 28), .ref (ad 24)])), (ad 24, .inr (1, [.ref (ad 25), .ref (ad 26), .ref (ad 27), .int tt1])), (ad 25, .inl (τ 0, 24, .inl td1)), (ad 26, .inl (τ 0, 24, .inl th1)), (ad 27, .inl (τ 0, 24, .inl tp1)), (ad 28, .inr (1, [.ref (ad 29), .ref (ad 30), .ref (ad 31), .int ((kSettle N len pl1).2.2.2)])), (ad 29, .inl (τ 0, 24, .inl ((kSettle N len pl1).1))), (ad 30, .inl (τ 0, 24, .inl ((kSettle N len pl1).2.1))), (ad 31, .inl (τ 0, 24, .inl ((kSettle N len pl1).2.2.1)))]) (W1 := [(ad 0, .inr (4, [.ref (ad 1), .ref (ad 3), .ref (ad 8), .ref (ad 9), .ref (ad 13), .int rs, .int ib, .int ch])), (ad 1, .inr (2, [.int (nI N), .int ar, .ref (ad 2)])), (ad 2, .inl (τ 0, 576, .inl len)), (ad 8, .inl (τ 1, 3, .inr (.inr (.inr (.inr (kQ3 (ad 14) (ad 23) (ad 32))))))), (ad 14, .inr (3, [.int pl0, .int (kDiff (kSettle N len pl0) (td0, th0, tp0, tt0)), .ref (ad 19), .ref (ad 15)])), (ad 15, .inr (1, [.ref (ad 16), .ref (ad 17), .ref (ad 18), .int tt0])), (ad 16, .inl (τ 0, 24, .inl td0)), (ad 17, .inl (τ 0, 24, .inl th0)), (ad 18, .inl (τ 0, 24, .inl tp0)), (ad 19, .inr (1, [.ref (ad 20), .ref (ad 21), .ref (ad 22), .int ((kSettle N len pl0).2.2.2)])), (ad 20, .inl (τ 0, 24, .inl ((kSettle N len pl0).1))), (ad 21, .inl (τ 0, 24, .inl ((kSettle N len pl0).2.1))), (ad 22, .inl (τ 0, 24, .inl ((kSettle N len pl0).2.2.1))), (ad 23, .inr (3, [.int pl1, .int (kDiff (kSettle N len pl1) (td1, th1, tp1, tt1)), .ref (ad 28), .ref (ad 24)])), (ad 24, .inr (1, [.ref (ad 25), .ref (ad 26), .ref (ad 27), .int tt1])), (ad 25, .inl (τ 0, 24, .inl td1)), (ad 26, .inl (τ 0, 24, .inl th1)), (ad 27, .inl (τ 0, 24, .inl tp1)), (ad 28, .inr (1, [.ref (ad 29), .ref (ad 30), .ref (ad 31), .int ((kSettle N len pl1).2.2.2)])), (ad 29, .inl (τ 0, 24, .inl ((kSettle N len pl1).1))), (ad 30, .inl (τ 0, 24, .inl ((kSettle N len pl1).2.1))), (ad 31, .inl (τ 0, 24, .inl ((kSettle N len pl1).2.2.1))), (ad 32, .inr (3, [.int pl2, .int (kDiff (kSettle N len pl2) (td2, th2, tp2, tt2)), .ref (ad 37), .ref (ad 33)])), (ad 33, .inr (1, [.ref (ad 34), .ref (ad 35), .ref (ad 36), .int tt2])), (ad 34, .inl (τ 0, 24, .inl td2)), (ad 35, .inl (τ 0, 24, .inl th2)), (ad 36, .inl (τ 0, 24, .inl tp2)), (ad 37, .inr (1, [.ref (ad 38), .ref (ad 39), .ref (ad 40), .int ((kSettle N len pl2).2.2.2)])), (ad 38, .inl (τ 0, 24, .inl ((kSettle N len pl2).1))), (ad 39, .inl (τ 0, 24, .inl ((kSettle N len pl2).2.1))), (ad 40, .inl (τ 0, 24, .inl ((kSettle N len pl2).2.2.1)))]) ⟨hx, hb, hml, hown, hts⟩ (cs_recount l D τ (ad 32) pl2 af2 (ad 33) (ad 34) (ad 35) (ad 36) (ad 37) (ad 38) (ad 39) (ad 40) (ad 1) (ad 2) N ar len td2 th2 tp2 tt2 sd2 sh2 sp2 st2 (by first | assumption | omega)) (kcwV hts qS_recount w_258 rfl rfl ⟨Nat.le_of_ble_eq_true rfl, Nat.le_of_ble_eq_true rfl⟩) hK hP hD hS hA [22, 23, 24, 25, 26, 27, 28, 29, 30, 1, 2] [0, 3, 4, 5, 6, 7, 8, 9, 10, 11, 12, 13, 14, 15, 16, 17, 18, 19, 20, 21] [0, 29, 30, 1, 2, 3, 4, 5, 6, 7, 8, 9, 10, 11, 12, 13, 14, 15, 16, 17, 18, 19, 20, 21, 22, 23, 24, 25, 26, 27, 28] rfl rfl (by decide) (by decide) (by decide) rfl rfl rfl (by decide) hl.1 rfl rfl (Nat.le_of_ble_eq_true rfl) ⟨Nat.zero_le _, Nat.zero_le _⟩ dK_recountSources_17 (fun H locs hP hD hS => ?_)
  refine lv_iinc (v := 3) (lv' := [(1, .int 3), (0, .ref (ad 0))]) hx hb dK_recountSources_20 hl (k := 0) rfl (by decide) (by decide) rfl (fun ls hl => ?_)
  refine lv_goto (tgt := 2) hx hb dK_recountSources_23 (by decide) ?_
  refine lv_iload_n hx hb dK_recountSources_2 rfl (lv_at hl 0 rfl) ?_
  refine lv_iconst (v := 3) hx hb dK_recountSources_3 (by decide) ?_
  refine lv_icmp_ge (tgt := 26) hx hb dK_recountSources_4 (by decide) (fun c_4 => ?_) (fun c_4 => absurd c_4 (by decide))
  exact k_vret hx hb hr hlocks hK hS hP hD dK_recountSources_26
set_option maxHeartbeats 20000000 in
set_option maxRecDepth 100000 in
theorem ck_change (l : Launch) (D : va_G) (τ : Nat → ClassId) (ad : Nat → Nat) (N : Nat) (ar : Int32) (len : Nat → Int32) (K : Nat) (O : Nat) (sz : Nat → Int32) (bg : Nat → Int32) (en : Nat → Int32) (ln : Nat → Int32) (wd : Nat → Int32) (wh : Nat → Int32) (wp : Nat → Int32) (wt : Int32) (rg : Nat → Int32) (rs : Int32) (ib : Int32) (ch : Int32) (pl0 : Int32) (af0 : Int32) (td0 : Nat → Int32) (th0 : Nat → Int32) (tp0 : Nat → Int32) (tt0 : Int32) (sd0 : Nat → Int32) (sh0 : Nat → Int32) (sp0 : Nat → Int32) (st0 : Int32) (pl1 : Int32) (af1 : Int32) (td1 : Nat → Int32) (th1 : Nat → Int32) (tp1 : Nat → Int32) (tt1 : Int32) (sd1 : Nat → Int32) (sh1 : Nat → Int32) (sp1 : Nat → Int32) (st1 : Int32) (pl2 : Int32) (af2 : Int32) (td2 : Nat → Int32) (th2 : Nat → Int32) (tp2 : Nat → Int32) (tt2 : Int32) (sd2 : Nat → Int32) (sh2 : Nat → Int32) (sp2 : Nat → Int32) (st2 : Int32) (i : Nat) (j : Nat) (S : Nat) (x : Int32) (hN : N ≤ 24) (hKk : K ≤ 40) (hOo : O < 41) (hi : i < 24) (hj : j < 24) (hS30 : S < 30) (hSs : sz ((O + K) % 41) = nI S) : kMi l D τ yK_change (kWs yK_change cK_change 5 (some .int)) { frames := 5, cells := 0, slots := 0, locals := 117 } [.ref (ad 0), .int (nI i), .int (nI j), .int x] [(ad 0, .inr (4, [.ref (ad 1), .ref (ad 3), .ref (ad 8), .ref (ad 9), .ref (ad 13), .int rs, .int ib, .int ch])), (ad 1, .inr (2, [.int (nI N), .int ar, .ref (ad 2)])), (ad 2, .inl (τ 0, 576, .inl len)), (ad 3, .inr (0, [.int (nI K), .int (nI O), .ref (ad 4), .ref (ad 5), .ref (ad 6), .ref (ad 7)])), (ad 4, .inl (τ 0, 41, .inl sz)), (ad 5, .inl (τ 0, 1230, .inl bg)), (ad 6, .inl (τ 0, 1230, .inl en)), (ad 7, .inl (τ 0, 1230, .inl ln)), (ad 8, .inl (τ 1, 3, .inr (.inr (.inr (.inr (kQ3 (ad 14) (ad 23) (ad 32))))))), (ad 9, .inr (1, [.ref (ad 10), .ref (ad 11), .ref (ad 12), .int wt])), (ad 10, .inl (τ 0, 24, .inl wd)), (ad 11, .inl (τ 0, 24, .inl wh)), (ad 12, .inl (τ 0, 24, .inl wp)), (ad 13, .inl (τ 0, 24, .inl rg)), (ad 14, .inr (3, [.int pl0, .int af0, .ref (ad 15), .ref (ad 19)])), (ad 15, .inr (1, [.ref (ad 16), .ref (ad 17), .ref (ad 18), .int tt0])), (ad 16, .inl (τ 0, 24, .inl td0)), (ad 17, .inl (τ 0, 24, .inl th0)), (ad 18, .inl (τ 0, 24, .inl tp0)), (ad 19, .inr (1, [.ref (ad 20), .ref (ad 21), .ref (ad 22), .int st0])), (ad 20, .inl (τ 0, 24, .inl sd0)), (ad 21, .inl (τ 0, 24, .inl sh0)), (ad 22, .inl (τ 0, 24, .inl sp0)), (ad 23, .inr (3, [.int pl1, .int af1, .ref (ad 24), .ref (ad 28)])), (ad 24, .inr (1, [.ref (ad 25), .ref (ad 26), .ref (ad 27), .int tt1])), (ad 25, .inl (τ 0, 24, .inl td1)), (ad 26, .inl (τ 0, 24, .inl th1)), (ad 27, .inl (τ 0, 24, .inl tp1)), (ad 28, .inr (1, [.ref (ad 29), .ref (ad 30), .ref (ad 31), .int st1])), (ad 29, .inl (τ 0, 24, .inl sd1)), (ad 30, .inl (τ 0, 24, .inl sh1)), (ad 31, .inl (τ 0, 24, .inl sp1)), (ad 32, .inr (3, [.int pl2, .int af2, .ref (ad 33), .ref (ad 37)])), (ad 33, .inr (1, [.ref (ad 34), .ref (ad 35), .ref (ad 36), .int tt2])), (ad 34, .inl (τ 0, 24, .inl td2)), (ad 35, .inl (τ 0, 24, .inl th2)), (ad 36, .inl (τ 0, 24, .inl tp2)), (ad 37, .inr (1, [.ref (ad 38), .ref (ad 39), .ref (ad 40), .int st2])), (ad 38, .inl (τ 0, 24, .inl sd2)), (ad 39, .inl (τ 0, 24, .inl sh2)), (ad 40, .inl (τ 0, 24, .inl sp2))] ((kChg ((N, ar, len), (K, O, sz, bg, en, ln), (wd, wh, wp, wt), (rg, rs), (ib, ch), (pl0, af0, (td0, th0, tp0, tt0), (sd0, sh0, sp0, st0)), (pl1, af1, (td1, th1, tp1, tt1), (sd1, sh1, sp1, st1)), (pl2, af2, (td2, th2, tp2, tt2), (sd2, sh2, sp2, st2))) i j x).1) (wKP τ (kAd (kChg ((N, ar, len), (K, O, sz, bg, en, ln), (wd, wh, wp, wt), (rg, rs), (ib, ch), (pl0, af0, (td0, th0, tp0, tt0), (sd0, sh0, sp0, st0)), (pl1, af1, (td1, th1, tp1, tt1), (sd1, sh1, sp1, st1)), (pl2, af2, (td2, th2, tp2, tt2), (sd2, sh2, sp2, st2))) i j x).2.1 ad) (kChg ((N, ar, len), (K, O, sz, bg, en, ln), (wd, wh, wp, wt), (rg, rs), (ib, ch), (pl0, af0, (td0, th0, tp0, tt0), (sd0, sh0, sp0, st0)), (pl1, af1, (td1, th1, tp1, tt1), (sd1, sh1, sp1, st1)), (pl2, af2, (td2, th2, tp2, tt2), (sd2, sh2, sp2, st2))) i j x).2.2) := by
  intro sz
  refine Met.ofW (cc := cK_change) (maxL := 5) (ret := (some .int)) (by decide) rfl ?_
  intro p e s m args below meth c s₁ B hml hv
  obtain ⟨rfl, hsz, hP, hK, hD0⟩ := hv
  have hx := B.exec
  have hb := B.bytes
  have hr := B.returns
  have hts := fun w (hw : w ∈ kTbl) => atoms_spec (ws := (kWs yK_change cK_change 5 (some .int))) B.pre w (List.mem_cons_of_mem _ hw)
  have hown : s.vm.findClass RK = some m.cls := findClass_of_methodNamed B.named
  have hlocks := B.notSynchronized
  subst hsz
  have hD := hD0.self (sz := s.heap.size)
  generalize hAe : va_A [(ad 0, .inr (4, [.ref (ad 1), .ref (ad 3), .ref (ad 8), .ref (ad 9), .ref (ad 13), .int rs, .int ib, .int ch])), (ad 1, .inr (2, [.int (nI N), .int ar, .ref (ad 2)])), (ad 2, .inl (τ 0, 576, .inl len)), (ad 3, .inr (0, [.int (nI K), .int (nI O), .ref (ad 4), .ref (ad 5), .ref (ad 6), .ref (ad 7)])), (ad 4, .inl (τ 0, 41, .inl sz)), (ad 5, .inl (τ 0, 1230, .inl bg)), (ad 6, .inl (τ 0, 1230, .inl en)), (ad 7, .inl (τ 0, 1230, .inl ln)), (ad 8, .inl (τ 1, 3, .inr (.inr (.inr (.inr (kQ3 (ad 14) (ad 23) (ad 32))))))), (ad 9, .inr (1, [.ref (ad 10), .ref (ad 11), .ref (ad 12), .int wt])), (ad 10, .inl (τ 0, 24, .inl wd)), (ad 11, .inl (τ 0, 24, .inl wh)), (ad 12, .inl (τ 0, 24, .inl wp)), (ad 13, .inl (τ 0, 24, .inl rg)), (ad 14, .inr (3, [.int pl0, .int af0, .ref (ad 15), .ref (ad 19)])), (ad 15, .inr (1, [.ref (ad 16), .ref (ad 17), .ref (ad 18), .int tt0])), (ad 16, .inl (τ 0, 24, .inl td0)), (ad 17, .inl (τ 0, 24, .inl th0)), (ad 18, .inl (τ 0, 24, .inl tp0)), (ad 19, .inr (1, [.ref (ad 20), .ref (ad 21), .ref (ad 22), .int st0])), (ad 20, .inl (τ 0, 24, .inl sd0)), (ad 21, .inl (τ 0, 24, .inl sh0)), (ad 22, .inl (τ 0, 24, .inl sp0)), (ad 23, .inr (3, [.int pl1, .int af1, .ref (ad 24), .ref (ad 28)])), (ad 24, .inr (1, [.ref (ad 25), .ref (ad 26), .ref (ad 27), .int tt1])), (ad 25, .inl (τ 0, 24, .inl td1)), (ad 26, .inl (τ 0, 24, .inl th1)), (ad 27, .inl (τ 0, 24, .inl tp1)), (ad 28, .inr (1, [.ref (ad 29), .ref (ad 30), .ref (ad 31), .int st1])), (ad 29, .inl (τ 0, 24, .inl sd1)), (ad 30, .inl (τ 0, 24, .inl sh1)), (ad 31, .inl (τ 0, 24, .inl sp1)), (ad 32, .inr (3, [.int pl2, .int af2, .ref (ad 33), .ref (ad 37)])), (ad 33, .inr (1, [.ref (ad 34), .ref (ad 35), .ref (ad 36), .int tt2])), (ad 34, .inl (τ 0, 24, .inl td2)), (ad 35, .inl (τ 0, 24, .inl th2)), (ad 36, .inl (τ 0, 24, .inl tp2)), (ad 37, .inr (1, [.ref (ad 38), .ref (ad 39), .ref (ad 40), .int st2])), (ad 38, .inl (τ 0, 24, .inl sd2)), (ad 39, .inl (τ 0, 24, .inl sh2)), (ad 40, .inl (τ 0, 24, .inl sp2))] s.heap.size = A at hD ⊢
  have hA : ∀ q : Nat, s.heap.size ≤ q → A q := fun q h => by rw [← hAe]; exact Or.inr h
  have hS : va_S A s.heap s.heap [] := va_S.rf
  have hP : va_P D vwCl [(ad 0, .inr (4, [.ref (ad 1), .ref (ad 3), .ref (ad 8), .ref (ad 9), .ref (ad 13), .int rs, .int ib, .int ch])), (ad 1, .inr (2, [.int (nI N), .int ar, .ref (ad 2)])), (ad 2, .inl (τ 0, 576, .inl len)), (ad 3, .inr (0, [.int (nI K), .int (nI O), .ref (ad 4), .ref (ad 5), .ref (ad 6), .ref (ad 7)])), (ad 4, .inl (τ 0, 41, .inl sz)), (ad 5, .inl (τ 0, 1230, .inl bg)), (ad 6, .inl (τ 0, 1230, .inl en)), (ad 7, .inl (τ 0, 1230, .inl ln)), (ad 8, .inl (τ 1, 3, .inr (.inr (.inr (.inr (kQ3 (ad 14) (ad 23) (ad 32))))))), (ad 9, .inr (1, [.ref (ad 10), .ref (ad 11), .ref (ad 12), .int wt])), (ad 10, .inl (τ 0, 24, .inl wd)), (ad 11, .inl (τ 0, 24, .inl wh)), (ad 12, .inl (τ 0, 24, .inl wp)), (ad 13, .inl (τ 0, 24, .inl rg)), (ad 14, .inr (3, [.int pl0, .int af0, .ref (ad 15), .ref (ad 19)])), (ad 15, .inr (1, [.ref (ad 16), .ref (ad 17), .ref (ad 18), .int tt0])), (ad 16, .inl (τ 0, 24, .inl td0)), (ad 17, .inl (τ 0, 24, .inl th0)), (ad 18, .inl (τ 0, 24, .inl tp0)), (ad 19, .inr (1, [.ref (ad 20), .ref (ad 21), .ref (ad 22), .int st0])), (ad 20, .inl (τ 0, 24, .inl sd0)), (ad 21, .inl (τ 0, 24, .inl sh0)), (ad 22, .inl (τ 0, 24, .inl sp0)), (ad 23, .inr (3, [.int pl1, .int af1, .ref (ad 24), .ref (ad 28)])), (ad 24, .inr (1, [.ref (ad 25), .ref (ad 26), .ref (ad 27), .int tt1])), (ad 25, .inl (τ 0, 24, .inl td1)), (ad 26, .inl (τ 0, 24, .inl th1)), (ad 27, .inl (τ 0, 24, .inl tp1)), (ad 28, .inr (1, [.ref (ad 29), .ref (ad 30), .ref (ad 31), .int st1])), (ad 29, .inl (τ 0, 24, .inl sd1)), (ad 30, .inl (τ 0, 24, .inl sh1)), (ad 31, .inl (τ 0, 24, .inl sp1)), (ad 32, .inr (3, [.int pl2, .int af2, .ref (ad 33), .ref (ad 37)])), (ad 33, .inr (1, [.ref (ad 34), .ref (ad 35), .ref (ad 36), .int tt2])), (ad 34, .inl (τ 0, 24, .inl td2)), (ad 35, .inl (τ 0, 24, .inl th2)), (ad 36, .inl (τ 0, 24, .inl tp2)), (ad 37, .inr (1, [.ref (ad 38), .ref (ad 39), .ref (ad 40), .int st2])), (ad 38, .inl (τ 0, 24, .inl sd2)), (ad 39, .inl (τ 0, 24, .inl sh2)), (ad 40, .inl (τ 0, 24, .inl sp2))] s.heap := hP
  have hl := lv_entry ([.ref (ad 0), .int (nI i), .int (nI j), .int x]) (n := 5) (Nat.le_of_ble_eq_true rfl)
  rw [lg_entry_eq]
  generalize (lg_sl ([.ref (ad 0), .int (nI i), .int (nI j), .int x]) ++ List.replicate (5 - (lg_sl ([.ref (ad 0), .int (nI i), .int (nI j), .int x])).length) Slot.unset).toArray = ls at hl ⊢
  have hl : lv_has ls 5 [(0, .ref (ad 0)), (1, .int (nI i)), (2, .int (nI j)), (3, .int x)] := hl
  skip
  refine lv_aload_n hx hb dK_change_0 rfl (lv_at hl 0 rfl) ?_
  refine va_get (D := D) (ci := 4) (v := .ref (ad 1)) (C := RK) (T := TK) (N := 8) hx hb hts iK hown hK hP 0 rfl rfl 0 (by decide) (hts _ w_120) (fun _ h9 => h9) rfl dK_change_1 ?_
  refine lv_iload_n hx hb dK_change_4 rfl (lv_at hl 1 rfl) ?_
  refine lv_iload_n hx hb dK_change_5 rfl (lv_at hl 2 rfl) ?_
  refine kc_Vi (As := [.int (nI i), .int (nI j)]) (rest := []) (wr := [(ad 0, .inr (4, [.ref (ad 1), .ref (ad 3), .ref (ad 8), .ref (ad 9), .ref (ad 13), .int rs, .int ib, .int ch])), (ad 3, .inr (0, [.int (nI K), .int (nI O), .ref (ad 4), .ref (ad 5), .ref (ad 6), .ref (ad 7)])), (ad 4, .inl (τ 0, 41, .inl sz)), (ad 5, .inl (τ 0, 1230, .inl bg)), (ad 6, .inl (τ 0, 1230, .inl en)), (ad 7, .inl (τ 0, 1230, .inl ln)), (ad 8, .inl (τ 1, 3, .inr (.inr (.inr (.inr (kQ3 (ad 14) (ad 23) (ad 32))))))), (ad 9, .inr (1, [.ref (ad 10), .ref (ad 11), .ref (ad 12), .int wt])), (ad 10, .inl (τ 0, 24, .inl wd)), (ad 11, .inl (τ 0, 24, .inl wh)), (ad 12, .inl (τ 0, 24, .inl wp)), (ad 13, .inl (τ 0, 24, .inl rg)), (ad 14, .inr (3, [.int pl0, .int af0, .ref (ad 15), .ref (ad 19)])), (ad 15, .inr (1, [.ref (ad 16), .ref (ad 17), .ref (ad 18), .int tt0])), (ad 16, .inl (τ 0, 24, .inl td0)), (ad 17, .inl (τ 0, 24, .inl th0)), (ad 18, .inl (τ 0, 24, .inl tp0)), (ad 19, .inr (1, [.ref (ad 20), .ref (ad 21), .ref (ad 22), .int st0])), (ad 20, .inl (τ 0, 24, .inl sd0)), (ad 21, .inl (τ 0, 24, .inl sh0)), (ad 22, .inl (τ 0, 24, .inl sp0)), (ad 23, .inr (3, [.int pl1, .int af1, .ref (ad 24), .ref (ad 28)])), (ad 24, .inr (1, [.ref (ad 25), .ref (ad 26), .ref (ad 27), .int tt1])), (ad 25, .inl (τ 0, 24, .inl td1)), (ad 26, .inl (τ 0, 24, .inl th1)), (ad 27, .inl (τ 0, 24, .inl tp1)), (ad 28, .inr (1, [.ref (ad 29), .ref (ad 30), .ref (ad 31), .int st1])), (ad 29, .inl (τ 0, 24, .inl sd1)), (ad 30, .inl (τ 0, 24, .inl sh1)), (ad 31, .inl (τ 0, 24, .inl sp1)), (ad 32, .inr (3, [.int pl2, .int af2, .ref (ad 33), .ref (ad 37)])), (ad 33, .inr (1, [.ref (ad 34), .ref (ad 35), .ref (ad 36), .int tt2])), (ad 34, .inl (τ 0, 24, .inl td2)), (ad 35, .inl (τ 0, 24, .inl th2)), (ad 36, .inl (τ 0, 24, .inl tp2)), (ad 37, .inr (1, [.ref (ad 38), .ref (ad 39), .ref (ad 40), .int st2])), (ad 38, .inl (τ 0, 24, .inl sd2)), (ad 39, .inl (τ 0, 24, .inl sh2)), (ad 40, .inl (τ 0, 24, .inl sp2))]) (W1 := [(ad 0, .inr (4, [.ref (ad 1), .ref (ad 3), .ref (ad 8), .ref (ad 9), .ref (ad 13), .int rs, .int ib, .int ch])), (ad 1, .inr (2, [.int (nI N), .int ar, .ref (ad 2)])), (ad 2, .inl (τ 0, 576, .inl len)), (ad 3, .inr (0, [.int (nI K), .int (nI O), .ref (ad 4), .ref (ad 5), .ref (ad 6), .ref (ad 7)])), (ad 4, .inl (τ 0, 41, .inl sz)), (ad 5, .inl (τ 0, 1230, .inl bg)), (ad 6, .inl (τ 0, 1230, .inl en)), (ad 7, .inl (τ 0, 1230, .inl ln)), (ad 8, .inl (τ 1, 3, .inr (.inr (.inr (.inr (kQ3 (ad 14) (ad 23) (ad 32))))))), (ad 9, .inr (1, [.ref (ad 10), .ref (ad 11), .ref (ad 12), .int wt])), (ad 10, .inl (τ 0, 24, .inl wd)), (ad 11, .inl (τ 0, 24, .inl wh)), (ad 12, .inl (τ 0, 24, .inl wp)), (ad 13, .inl (τ 0, 24, .inl rg)), (ad 14, .inr (3, [.int pl0, .int af0, .ref (ad 15), .ref (ad 19)])), (ad 15, .inr (1, [.ref (ad 16), .ref (ad 17), .ref (ad 18), .int tt0])), (ad 16, .inl (τ 0, 24, .inl td0)), (ad 17, .inl (τ 0, 24, .inl th0)), (ad 18, .inl (τ 0, 24, .inl tp0)), (ad 19, .inr (1, [.ref (ad 20), .ref (ad 21), .ref (ad 22), .int st0])), (ad 20, .inl (τ 0, 24, .inl sd0)), (ad 21, .inl (τ 0, 24, .inl sh0)), (ad 22, .inl (τ 0, 24, .inl sp0)), (ad 23, .inr (3, [.int pl1, .int af1, .ref (ad 24), .ref (ad 28)])), (ad 24, .inr (1, [.ref (ad 25), .ref (ad 26), .ref (ad 27), .int tt1])), (ad 25, .inl (τ 0, 24, .inl td1)), (ad 26, .inl (τ 0, 24, .inl th1)), (ad 27, .inl (τ 0, 24, .inl tp1)), (ad 28, .inr (1, [.ref (ad 29), .ref (ad 30), .ref (ad 31), .int st1])), (ad 29, .inl (τ 0, 24, .inl sd1)), (ad 30, .inl (τ 0, 24, .inl sh1)), (ad 31, .inl (τ 0, 24, .inl sp1)), (ad 32, .inr (3, [.int pl2, .int af2, .ref (ad 33), .ref (ad 37)])), (ad 33, .inr (1, [.ref (ad 34), .ref (ad 35), .ref (ad 36), .int tt2])), (ad 34, .inl (τ 0, 24, .inl td2)), (ad 35, .inl (τ 0, 24, .inl th2)), (ad 36, .inl (τ 0, 24, .inl tp2)), (ad 37, .inr (1, [.ref (ad 38), .ref (ad 39), .ref (ad 40), .int st2])), (ad 38, .inl (τ 0, 24, .inl sd2)), (ad 39, .inl (τ 0, 24, .inl sh2)), (ad 40, .inl (τ 0, 24, .inl sp2))]) ⟨hx, hb, hml, hown, hts⟩ (cn_len l D τ (ad 1) (ad 2) N i j ar len (by first | assumption | omega) (by first | assumption | omega)) (kcwV hts qN_lengthOf w_240 rfl rfl ⟨Nat.le_of_ble_eq_true rfl, Nat.le_of_ble_eq_true rfl⟩) hK hP hD hS hA [1, 2] [0, 3, 4, 5, 6, 7, 8, 9, 10, 11, 12, 13, 14, 15, 16, 17, 18, 19, 20, 21, 22, 23, 24, 25, 26, 27, 28, 29, 30, 31, 32, 33, 34, 35, 36, 37, 38, 39, 40] [0, 39, 40, 1, 2, 3, 4, 5, 6, 7, 8, 9, 10, 11, 12, 13, 14, 15, 16, 17, 18, 19, 20, 21, 22, 23, 24, 25, 26, 27, 28, 29, 30, 31, 32, 33, 34, 35, 36, 37, 38] rfl rfl (by decide) (by decide) (by decide) rfl rfl rfl (by decide) hl.1 rfl rfl (Nat.le_of_ble_eq_true rfl) ⟨Nat.zero_le _, Nat.zero_le _⟩ dK_change_6 (fun H locs hP hD hS => ?_)
  refine lv_istore (lv' := [(4, .int (len (i * 24 + j))), (0, .ref (ad 0)), (1, .int (nI i)), (2, .int (nI j)), (3, .int x)]) hx hb dK_change_9 hl (by decide) rfl (fun ls hl => ?_)
  refine lv_aload_n hx hb dK_change_11 rfl (lv_at hl 1 rfl) ?_
  refine va_get (D := D) (ci := 4) (v := .ref (ad 3)) (C := RK) (T := TK) (N := 8) hx hb hts iK hown hK hP 0 rfl rfl 1 (by decide) (hts _ w_121) (fun _ h9 => h9) rfl dK_change_12 ?_
  refine lv_iload_n hx hb dK_change_15 rfl (lv_at hl 2 rfl) ?_
  refine lv_iload_n hx hb dK_change_16 rfl (lv_at hl 3 rfl) ?_
  refine lv_iload hx hb dK_change_17 (lv_at hl 0 rfl) ?_
  refine kc_Vv (As := [.int (nI i), .int (nI j), .int (len (i * 24 + j))]) (rest := []) (wr := [(ad 0, .inr (4, [.ref (ad 1), .ref (ad 3), .ref (ad 8), .ref (ad 9), .ref (ad 13), .int rs, .int ib, .int ch])), (ad 1, .inr (2, [.int (nI N), .int ar, .ref (ad 2)])), (ad 2, .inl (τ 0, 576, .inl len)), (ad 8, .inl (τ 1, 3, .inr (.inr (.inr (.inr (kQ3 (ad 14) (ad 23) (ad 32))))))), (ad 9, .inr (1, [.ref (ad 10), .ref (ad 11), .ref (ad 12), .int wt])), (ad 10, .inl (τ 0, 24, .inl wd)), (ad 11, .inl (τ 0, 24, .inl wh)), (ad 12, .inl (τ 0, 24, .inl wp)), (ad 13, .inl (τ 0, 24, .inl rg)), (ad 14, .inr (3, [.int pl0, .int af0, .ref (ad 15), .ref (ad 19)])), (ad 15, .inr (1, [.ref (ad 16), .ref (ad 17), .ref (ad 18), .int tt0])), (ad 16, .inl (τ 0, 24, .inl td0)), (ad 17, .inl (τ 0, 24, .inl th0)), (ad 18, .inl (τ 0, 24, .inl tp0)), (ad 19, .inr (1, [.ref (ad 20), .ref (ad 21), .ref (ad 22), .int st0])), (ad 20, .inl (τ 0, 24, .inl sd0)), (ad 21, .inl (τ 0, 24, .inl sh0)), (ad 22, .inl (τ 0, 24, .inl sp0)), (ad 23, .inr (3, [.int pl1, .int af1, .ref (ad 24), .ref (ad 28)])), (ad 24, .inr (1, [.ref (ad 25), .ref (ad 26), .ref (ad 27), .int tt1])), (ad 25, .inl (τ 0, 24, .inl td1)), (ad 26, .inl (τ 0, 24, .inl th1)), (ad 27, .inl (τ 0, 24, .inl tp1)), (ad 28, .inr (1, [.ref (ad 29), .ref (ad 30), .ref (ad 31), .int st1])), (ad 29, .inl (τ 0, 24, .inl sd1)), (ad 30, .inl (τ 0, 24, .inl sh1)), (ad 31, .inl (τ 0, 24, .inl sp1)), (ad 32, .inr (3, [.int pl2, .int af2, .ref (ad 33), .ref (ad 37)])), (ad 33, .inr (1, [.ref (ad 34), .ref (ad 35), .ref (ad 36), .int tt2])), (ad 34, .inl (τ 0, 24, .inl td2)), (ad 35, .inl (τ 0, 24, .inl th2)), (ad 36, .inl (τ 0, 24, .inl tp2)), (ad 37, .inr (1, [.ref (ad 38), .ref (ad 39), .ref (ad 40), .int st2])), (ad 38, .inl (τ 0, 24, .inl sd2)), (ad 39, .inl (τ 0, 24, .inl sh2)), (ad 40, .inl (τ 0, 24, .inl sp2))]) (W1 := [(ad 0, .inr (4, [.ref (ad 1), .ref (ad 3), .ref (ad 8), .ref (ad 9), .ref (ad 13), .int rs, .int ib, .int ch])), (ad 1, .inr (2, [.int (nI N), .int ar, .ref (ad 2)])), (ad 2, .inl (τ 0, 576, .inl len)), (ad 3, .inr (0, [.int (nI K), .int (nI O), .ref (ad 4), .ref (ad 5), .ref (ad 6), .ref (ad 7)])), (ad 4, .inl (τ 0, 41, .inl (upd sz ((O + K) % 41) (nI (S + 1))))), (ad 5, .inl (τ 0, 1230, .inl (upd bg ((O + K) % 41 * 30 + S) (nI i)))), (ad 6, .inl (τ 0, 1230, .inl (upd en ((O + K) % 41 * 30 + S) (nI j)))), (ad 7, .inl (τ 0, 1230, .inl (upd ln ((O + K) % 41 * 30 + S) (len (i * 24 + j))))), (ad 8, .inl (τ 1, 3, .inr (.inr (.inr (.inr (kQ3 (ad 14) (ad 23) (ad 32))))))), (ad 9, .inr (1, [.ref (ad 10), .ref (ad 11), .ref (ad 12), .int wt])), (ad 10, .inl (τ 0, 24, .inl wd)), (ad 11, .inl (τ 0, 24, .inl wh)), (ad 12, .inl (τ 0, 24, .inl wp)), (ad 13, .inl (τ 0, 24, .inl rg)), (ad 14, .inr (3, [.int pl0, .int af0, .ref (ad 15), .ref (ad 19)])), (ad 15, .inr (1, [.ref (ad 16), .ref (ad 17), .ref (ad 18), .int tt0])), (ad 16, .inl (τ 0, 24, .inl td0)), (ad 17, .inl (τ 0, 24, .inl th0)), (ad 18, .inl (τ 0, 24, .inl tp0)), (ad 19, .inr (1, [.ref (ad 20), .ref (ad 21), .ref (ad 22), .int st0])), (ad 20, .inl (τ 0, 24, .inl sd0)), (ad 21, .inl (τ 0, 24, .inl sh0)), (ad 22, .inl (τ 0, 24, .inl sp0)), (ad 23, .inr (3, [.int pl1, .int af1, .ref (ad 24), .ref (ad 28)])), (ad 24, .inr (1, [.ref (ad 25), .ref (ad 26), .ref (ad 27), .int tt1])), (ad 25, .inl (τ 0, 24, .inl td1)), (ad 26, .inl (τ 0, 24, .inl th1)), (ad 27, .inl (τ 0, 24, .inl tp1)), (ad 28, .inr (1, [.ref (ad 29), .ref (ad 30), .ref (ad 31), .int st1])), (ad 29, .inl (τ 0, 24, .inl sd1)), (ad 30, .inl (τ 0, 24, .inl sh1)), (ad 31, .inl (τ 0, 24, .inl sp1)), (ad 32, .inr (3, [.int pl2, .int af2, .ref (ad 33), .ref (ad 37)])), (ad 33, .inr (1, [.ref (ad 34), .ref (ad 35), .ref (ad 36), .int tt2])), (ad 34, .inl (τ 0, 24, .inl td2)), (ad 35, .inl (τ 0, 24, .inl th2)), (ad 36, .inl (τ 0, 24, .inl tp2)), (ad 37, .inr (1, [.ref (ad 38), .ref (ad 39), .ref (ad 40), .int st2])), (ad 38, .inl (τ 0, 24, .inl sd2)), (ad 39, .inl (τ 0, 24, .inl sh2)), (ad 40, .inl (τ 0, 24, .inl sp2))]) ⟨hx, hb, hml, hown, hts⟩ (ch_note l D τ (ad 3) (ad 4) (ad 5) (ad 6) (ad 7) K O sz bg en ln i j S (len (i * 24 + j)) (by first | assumption | omega) (by first | assumption | omega) (by first | assumption | omega) (by first | assumption | omega)) (kcwV hts qH_note w_241 rfl rfl ⟨Nat.le_of_ble_eq_true rfl, Nat.le_of_ble_eq_true rfl⟩) hK hP hD hS hA [3, 4, 5, 6, 7] [0, 1, 2, 8, 9, 10, 11, 12, 13, 14, 15, 16, 17, 18, 19, 20, 21, 22, 23, 24, 25, 26, 27, 28, 29, 30, 31, 32, 33, 34, 35, 36, 37, 38, 39, 40] [0, 1, 2, 36, 37, 38, 39, 40, 3, 4, 5, 6, 7, 8, 9, 10, 11, 12, 13, 14, 15, 16, 17, 18, 19, 20, 21, 22, 23, 24, 25, 26, 27, 28, 29, 30, 31, 32, 33, 34, 35] rfl rfl (by decide) (by decide) (by decide) rfl rfl rfl (by decide) hl.1 rfl rfl (Nat.le_of_ble_eq_true rfl) ⟨Nat.zero_le _, Nat.zero_le _⟩ dK_change_19 (fun H locs hP hD hS => ?_)
  refine lv_aload_n hx hb dK_change_22 rfl (lv_at hl 1 rfl) ?_
  refine va_get (D := D) (ci := 4) (v := .ref (ad 1)) (C := RK) (T := TK) (N := 8) hx hb hts iK hown hK hP 0 rfl rfl 0 (by decide) (hts _ w_120) (fun _ h9 => h9) rfl dK_change_23 ?_
  refine lv_iload_n hx hb dK_change_26 rfl (lv_at hl 2 rfl) ?_
  refine lv_iload_n hx hb dK_change_27 rfl (lv_at hl 3 rfl) ?_
  refine lv_iload_n hx hb dK_change_28 rfl (lv_at hl 4 rfl) ?_
  refine kc_Vv (As := [.int (nI i), .int (nI j), .int x]) (rest := []) (wr := [(ad 0, .inr (4, [.ref (ad 1), .ref (ad 3), .ref (ad 8), .ref (ad 9), .ref (ad 13), .int rs, .int ib, .int ch])), (ad 3, .inr (0, [.int (nI K), .int (nI O), .ref (ad 4), .ref (ad 5), .ref (ad 6), .ref (ad 7)])), (ad 4, .inl (τ 0, 41, .inl (upd sz ((O + K) % 41) (nI (S + 1))))), (ad 5, .inl (τ 0, 1230, .inl (upd bg ((O + K) % 41 * 30 + S) (nI i)))), (ad 6, .inl (τ 0, 1230, .inl (upd en ((O + K) % 41 * 30 + S) (nI j)))), (ad 7, .inl (τ 0, 1230, .inl (upd ln ((O + K) % 41 * 30 + S) (len (i * 24 + j))))), (ad 8, .inl (τ 1, 3, .inr (.inr (.inr (.inr (kQ3 (ad 14) (ad 23) (ad 32))))))), (ad 9, .inr (1, [.ref (ad 10), .ref (ad 11), .ref (ad 12), .int wt])), (ad 10, .inl (τ 0, 24, .inl wd)), (ad 11, .inl (τ 0, 24, .inl wh)), (ad 12, .inl (τ 0, 24, .inl wp)), (ad 13, .inl (τ 0, 24, .inl rg)), (ad 14, .inr (3, [.int pl0, .int af0, .ref (ad 15), .ref (ad 19)])), (ad 15, .inr (1, [.ref (ad 16), .ref (ad 17), .ref (ad 18), .int tt0])), (ad 16, .inl (τ 0, 24, .inl td0)), (ad 17, .inl (τ 0, 24, .inl th0)), (ad 18, .inl (τ 0, 24, .inl tp0)), (ad 19, .inr (1, [.ref (ad 20), .ref (ad 21), .ref (ad 22), .int st0])), (ad 20, .inl (τ 0, 24, .inl sd0)), (ad 21, .inl (τ 0, 24, .inl sh0)), (ad 22, .inl (τ 0, 24, .inl sp0)), (ad 23, .inr (3, [.int pl1, .int af1, .ref (ad 24), .ref (ad 28)])), (ad 24, .inr (1, [.ref (ad 25), .ref (ad 26), .ref (ad 27), .int tt1])), (ad 25, .inl (τ 0, 24, .inl td1)), (ad 26, .inl (τ 0, 24, .inl th1)), (ad 27, .inl (τ 0, 24, .inl tp1)), (ad 28, .inr (1, [.ref (ad 29), .ref (ad 30), .ref (ad 31), .int st1])), (ad 29, .inl (τ 0, 24, .inl sd1)), (ad 30, .inl (τ 0, 24, .inl sh1)), (ad 31, .inl (τ 0, 24, .inl sp1)), (ad 32, .inr (3, [.int pl2, .int af2, .ref (ad 33), .ref (ad 37)])), (ad 33, .inr (1, [.ref (ad 34), .ref (ad 35), .ref (ad 36), .int tt2])), (ad 34, .inl (τ 0, 24, .inl td2)), (ad 35, .inl (τ 0, 24, .inl th2)), (ad 36, .inl (τ 0, 24, .inl tp2)), (ad 37, .inr (1, [.ref (ad 38), .ref (ad 39), .ref (ad 40), .int st2])), (ad 38, .inl (τ 0, 24, .inl sd2)), (ad 39, .inl (τ 0, 24, .inl sh2)), (ad 40, .inl (τ 0, 24, .inl sp2))]) (W1 := [(ad 0, .inr (4, [.ref (ad 1), .ref (ad 3), .ref (ad 8), .ref (ad 9), .ref (ad 13), .int rs, .int ib, .int ch])), (ad 1, .inr (2, [.int (nI N), .int (kArcs ar (len (i * 24 + j)) x), .ref (ad 2)])), (ad 2, .inl (τ 0, 576, .inl (upd len (i * 24 + j) x))), (ad 3, .inr (0, [.int (nI K), .int (nI O), .ref (ad 4), .ref (ad 5), .ref (ad 6), .ref (ad 7)])), (ad 4, .inl (τ 0, 41, .inl (upd sz ((O + K) % 41) (nI (S + 1))))), (ad 5, .inl (τ 0, 1230, .inl (upd bg ((O + K) % 41 * 30 + S) (nI i)))), (ad 6, .inl (τ 0, 1230, .inl (upd en ((O + K) % 41 * 30 + S) (nI j)))), (ad 7, .inl (τ 0, 1230, .inl (upd ln ((O + K) % 41 * 30 + S) (len (i * 24 + j))))), (ad 8, .inl (τ 1, 3, .inr (.inr (.inr (.inr (kQ3 (ad 14) (ad 23) (ad 32))))))), (ad 9, .inr (1, [.ref (ad 10), .ref (ad 11), .ref (ad 12), .int wt])), (ad 10, .inl (τ 0, 24, .inl wd)), (ad 11, .inl (τ 0, 24, .inl wh)), (ad 12, .inl (τ 0, 24, .inl wp)), (ad 13, .inl (τ 0, 24, .inl rg)), (ad 14, .inr (3, [.int pl0, .int af0, .ref (ad 15), .ref (ad 19)])), (ad 15, .inr (1, [.ref (ad 16), .ref (ad 17), .ref (ad 18), .int tt0])), (ad 16, .inl (τ 0, 24, .inl td0)), (ad 17, .inl (τ 0, 24, .inl th0)), (ad 18, .inl (τ 0, 24, .inl tp0)), (ad 19, .inr (1, [.ref (ad 20), .ref (ad 21), .ref (ad 22), .int st0])), (ad 20, .inl (τ 0, 24, .inl sd0)), (ad 21, .inl (τ 0, 24, .inl sh0)), (ad 22, .inl (τ 0, 24, .inl sp0)), (ad 23, .inr (3, [.int pl1, .int af1, .ref (ad 24), .ref (ad 28)])), (ad 24, .inr (1, [.ref (ad 25), .ref (ad 26), .ref (ad 27), .int tt1])), (ad 25, .inl (τ 0, 24, .inl td1)), (ad 26, .inl (τ 0, 24, .inl th1)), (ad 27, .inl (τ 0, 24, .inl tp1)), (ad 28, .inr (1, [.ref (ad 29), .ref (ad 30), .ref (ad 31), .int st1])), (ad 29, .inl (τ 0, 24, .inl sd1)), (ad 30, .inl (τ 0, 24, .inl sh1)), (ad 31, .inl (τ 0, 24, .inl sp1)), (ad 32, .inr (3, [.int pl2, .int af2, .ref (ad 33), .ref (ad 37)])), (ad 33, .inr (1, [.ref (ad 34), .ref (ad 35), .ref (ad 36), .int tt2])), (ad 34, .inl (τ 0, 24, .inl td2)), (ad 35, .inl (τ 0, 24, .inl th2)), (ad 36, .inl (τ 0, 24, .inl tp2)), (ad 37, .inr (1, [.ref (ad 38), .ref (ad 39), .ref (ad 40), .int st2])), (ad 38, .inl (τ 0, 24, .inl sd2)), (ad 39, .inl (τ 0, 24, .inl sh2)), (ad 40, .inl (τ 0, 24, .inl sp2))]) ⟨hx, hb, hml, hown, hts⟩ (cn_set l D τ (ad 1) (ad 2) N i j ar x len (by first | assumption | omega) (by first | assumption | omega)) (kcwV hts qN_setLength w_245 rfl rfl ⟨Nat.le_of_ble_eq_true rfl, Nat.le_of_ble_eq_true rfl⟩) hK hP hD hS hA [1, 2] [0, 3, 4, 5, 6, 7, 8, 9, 10, 11, 12, 13, 14, 15, 16, 17, 18, 19, 20, 21, 22, 23, 24, 25, 26, 27, 28, 29, 30, 31, 32, 33, 34, 35, 36, 37, 38, 39, 40] [0, 39, 40, 1, 2, 3, 4, 5, 6, 7, 8, 9, 10, 11, 12, 13, 14, 15, 16, 17, 18, 19, 20, 21, 22, 23, 24, 25, 26, 27, 28, 29, 30, 31, 32, 33, 34, 35, 36, 37, 38] rfl rfl (by decide) (by decide) (by decide) rfl rfl rfl (by decide) hl.1 rfl rfl (Nat.le_of_ble_eq_true rfl) ⟨Nat.zero_le _, Nat.zero_le _⟩ dK_change_29 (fun H locs hP hD hS => ?_)
  refine lv_aload_n hx hb dK_change_32 rfl (lv_at hl 1 rfl) ?_
  refine lv_dup hx hb dK_change_33 rfl ?_
  refine va_get (D := D) (ci := 4) (v := .int ch) (C := RK) (T := TK) (N := 8) hx hb hts iK hown hK hP 0 rfl rfl 7 (by decide) (hts _ w_127) (fun _ h9 => h9) rfl dK_change_34 ?_
  refine lv_iconst (v := 1) hx hb dK_change_37 (by decide) ?_
  refine lv_iadd hx hb dK_change_38 ?_
  refine va_put (D := D) (ci := 4) (v := .int (ch + 1)) (ty := .int) (C := RK) (T := TK) (N := 8) hx hb hts iK tyK tyK_ok nmK hown hK hP hD hS 0 rfl rfl 7 (by decide) (hts _ w_127) (fun _ h9 => h9) rfl (by decide +kernel) rfl rfl (Nat.le_of_ble_eq_true rfl) dK_change_39 (fun H locs hP hD hS => ?_)
  have hP : va_P D vwCl [(ad 0, .inr (4, [.ref (ad 1), .ref (ad 3), .ref (ad 8), .ref (ad 9), .ref (ad 13), .int rs, .int ib, .int (ch + 1)])), (ad 1, .inr (2, [.int (nI N), .int (kArcs ar (len (i * 24 + j)) x), .ref (ad 2)])), (ad 2, .inl (τ 0, 576, .inl (upd len (i * 24 + j) x))), (ad 3, .inr (0, [.int (nI K), .int (nI O), .ref (ad 4), .ref (ad 5), .ref (ad 6), .ref (ad 7)])), (ad 4, .inl (τ 0, 41, .inl (upd sz ((O + K) % 41) (nI (S + 1))))), (ad 5, .inl (τ 0, 1230, .inl (upd bg ((O + K) % 41 * 30 + S) (nI i)))), (ad 6, .inl (τ 0, 1230, .inl (upd en ((O + K) % 41 * 30 + S) (nI j)))), (ad 7, .inl (τ 0, 1230, .inl (upd ln ((O + K) % 41 * 30 + S) (len (i * 24 + j))))), (ad 8, .inl (τ 1, 3, .inr (.inr (.inr (.inr (kQ3 (ad 14) (ad 23) (ad 32))))))), (ad 9, .inr (1, [.ref (ad 10), .ref (ad 11), .ref (ad 12), .int wt])), (ad 10, .inl (τ 0, 24, .inl wd)), (ad 11, .inl (τ 0, 24, .inl wh)), (ad 12, .inl (τ 0, 24, .inl wp)), (ad 13, .inl (τ 0, 24, .inl rg)), (ad 14, .inr (3, [.int pl0, .int af0, .ref (ad 15), .ref (ad 19)])), (ad 15, .inr (1, [.ref (ad 16), .ref (ad 17), .ref (ad 18), .int tt0])), (ad 16, .inl (τ 0, 24, .inl td0)), (ad 17, .inl (τ 0, 24, .inl th0)), (ad 18, .inl (τ 0, 24, .inl tp0)), (ad 19, .inr (1, [.ref (ad 20), .ref (ad 21), .ref (ad 22), .int st0])), (ad 20, .inl (τ 0, 24, .inl sd0)), (ad 21, .inl (τ 0, 24, .inl sh0)), (ad 22, .inl (τ 0, 24, .inl sp0)), (ad 23, .inr (3, [.int pl1, .int af1, .ref (ad 24), .ref (ad 28)])), (ad 24, .inr (1, [.ref (ad 25), .ref (ad 26), .ref (ad 27), .int tt1])), (ad 25, .inl (τ 0, 24, .inl td1)), (ad 26, .inl (τ 0, 24, .inl th1)), (ad 27, .inl (τ 0, 24, .inl tp1)), (ad 28, .inr (1, [.ref (ad 29), .ref (ad 30), .ref (ad 31), .int st1])), (ad 29, .inl (τ 0, 24, .inl sd1)), (ad 30, .inl (τ 0, 24, .inl sh1)), (ad 31, .inl (τ 0, 24, .inl sp1)), (ad 32, .inr (3, [.int pl2, .int af2, .ref (ad 33), .ref (ad 37)])), (ad 33, .inr (1, [.ref (ad 34), .ref (ad 35), .ref (ad 36), .int tt2])), (ad 34, .inl (τ 0, 24, .inl td2)), (ad 35, .inl (τ 0, 24, .inl th2)), (ad 36, .inl (τ 0, 24, .inl tp2)), (ad 37, .inr (1, [.ref (ad 38), .ref (ad 39), .ref (ad 40), .int st2])), (ad 38, .inl (τ 0, 24, .inl sd2)), (ad 39, .inl (τ 0, 24, .inl sh2)), (ad 40, .inl (τ 0, 24, .inl sp2))] H := hP
  have hD : va_D A [(ad 0, .inr (4, [.ref (ad 1), .ref (ad 3), .ref (ad 8), .ref (ad 9), .ref (ad 13), .int rs, .int ib, .int (ch + 1)])), (ad 1, .inr (2, [.int (nI N), .int (kArcs ar (len (i * 24 + j)) x), .ref (ad 2)])), (ad 2, .inl (τ 0, 576, .inl (upd len (i * 24 + j) x))), (ad 3, .inr (0, [.int (nI K), .int (nI O), .ref (ad 4), .ref (ad 5), .ref (ad 6), .ref (ad 7)])), (ad 4, .inl (τ 0, 41, .inl (upd sz ((O + K) % 41) (nI (S + 1))))), (ad 5, .inl (τ 0, 1230, .inl (upd bg ((O + K) % 41 * 30 + S) (nI i)))), (ad 6, .inl (τ 0, 1230, .inl (upd en ((O + K) % 41 * 30 + S) (nI j)))), (ad 7, .inl (τ 0, 1230, .inl (upd ln ((O + K) % 41 * 30 + S) (len (i * 24 + j))))), (ad 8, .inl (τ 1, 3, .inr (.inr (.inr (.inr (kQ3 (ad 14) (ad 23) (ad 32))))))), (ad 9, .inr (1, [.ref (ad 10), .ref (ad 11), .ref (ad 12), .int wt])), (ad 10, .inl (τ 0, 24, .inl wd)), (ad 11, .inl (τ 0, 24, .inl wh)), (ad 12, .inl (τ 0, 24, .inl wp)), (ad 13, .inl (τ 0, 24, .inl rg)), (ad 14, .inr (3, [.int pl0, .int af0, .ref (ad 15), .ref (ad 19)])), (ad 15, .inr (1, [.ref (ad 16), .ref (ad 17), .ref (ad 18), .int tt0])), (ad 16, .inl (τ 0, 24, .inl td0)), (ad 17, .inl (τ 0, 24, .inl th0)), (ad 18, .inl (τ 0, 24, .inl tp0)), (ad 19, .inr (1, [.ref (ad 20), .ref (ad 21), .ref (ad 22), .int st0])), (ad 20, .inl (τ 0, 24, .inl sd0)), (ad 21, .inl (τ 0, 24, .inl sh0)), (ad 22, .inl (τ 0, 24, .inl sp0)), (ad 23, .inr (3, [.int pl1, .int af1, .ref (ad 24), .ref (ad 28)])), (ad 24, .inr (1, [.ref (ad 25), .ref (ad 26), .ref (ad 27), .int tt1])), (ad 25, .inl (τ 0, 24, .inl td1)), (ad 26, .inl (τ 0, 24, .inl th1)), (ad 27, .inl (τ 0, 24, .inl tp1)), (ad 28, .inr (1, [.ref (ad 29), .ref (ad 30), .ref (ad 31), .int st1])), (ad 29, .inl (τ 0, 24, .inl sd1)), (ad 30, .inl (τ 0, 24, .inl sh1)), (ad 31, .inl (τ 0, 24, .inl sp1)), (ad 32, .inr (3, [.int pl2, .int af2, .ref (ad 33), .ref (ad 37)])), (ad 33, .inr (1, [.ref (ad 34), .ref (ad 35), .ref (ad 36), .int tt2])), (ad 34, .inl (τ 0, 24, .inl td2)), (ad 35, .inl (τ 0, 24, .inl th2)), (ad 36, .inl (τ 0, 24, .inl tp2)), (ad 37, .inr (1, [.ref (ad 38), .ref (ad 39), .ref (ad 40), .int st2])), (ad 38, .inl (τ 0, 24, .inl sd2)), (ad 39, .inl (τ 0, 24, .inl sh2)), (ad 40, .inl (τ 0, 24, .inl sp2))] := hD
  refine lv_aload_n hx hb dK_change_42 rfl (lv_at hl 1 rfl) ?_
  refine va_get (D := D) (ci := 4) (v := .int ib) (C := RK) (T := TK) (N := 8) hx hb hts iK hown hK hP 0 rfl rfl 6 (by decide) (hts _ w_126) (fun _ h9 => h9) rfl dK_change_43 ?_
  refine lv_if_ne (tgt := 60) hx hb dK_change_46 (by decide) (fun c_46 => ?_) (fun c_46 => ?_)
  · skip
    refine lv_iload hx hb dK_change_60 (lv_at hl 0 rfl) ?_
    have e_ : kChg ((N, ar, len), (K, O, sz, bg, en, ln), (wd, wh, wp, wt), (rg, rs), (ib, ch), (pl0, af0, (td0, th0, tp0, tt0), (sd0, sh0, sp0, st0)), (pl1, af1, (td1, th1, tp1, tt1), (sd1, sh1, sp1, st1)), (pl2, af2, (td2, th2, tp2, tt2), (sd2, sh2, sp2, st2))) i j x = (len (i * 24 + j), false, ((N, kArcs ar (len (i * 24 + j)) x, upd len (i * 24 + j) x), (K, O, upd sz ((O + K) % 41) (nI (S + 1)), upd bg ((O + K) % 41 * 30 + S) (nI i), upd en ((O + K) % 41 * 30 + S) (nI j), upd ln ((O + K) % 41 * 30 + S) (len (i * 24 + j))), (wd, wh, wp, wt), (rg, rs), (ib, ch + 1), (pl0, af0, (td0, th0, tp0, tt0), (sd0, sh0, sp0, st0)), (pl1, af1, (td1, th1, tp1, tt1), (sd1, sh1, sp1, st1)), (pl2, af2, (td2, th2, tp2, tt2), (sd2, sh2, sp2, st2)))) := by
      unfold kChg; dsimp only; rw [kIf_f c_46, hSs, nI_clamp (by omega)]; try rfl
    rw [e_]
    exact k_iret hx hb hr hlocks hK hS rfl hP hD dK_change_62
  · skip
    refine lv_aload_n hx hb dK_change_49 rfl (lv_at hl 1 rfl) ?_
    refine va_get (D := D) (ci := 4) (v := .ref (ad 3)) (C := RK) (T := TK) (N := 8) hx hb hts iK hown hK hP 0 rfl rfl 1 (by decide) (hts _ w_121) (fun _ h9 => h9) rfl dK_change_50 ?_
    refine kc_Vv (As := []) (rest := []) (wr := [(ad 0, .inr (4, [.ref (ad 1), .ref (ad 3), .ref (ad 8), .ref (ad 9), .ref (ad 13), .int rs, .int ib, .int (ch + 1)])), (ad 1, .inr (2, [.int (nI N), .int (kArcs ar (len (i * 24 + j)) x), .ref (ad 2)])), (ad 2, .inl (τ 0, 576, .inl (upd len (i * 24 + j) x))), (ad 8, .inl (τ 1, 3, .inr (.inr (.inr (.inr (kQ3 (ad 14) (ad 23) (ad 32))))))), (ad 9, .inr (1, [.ref (ad 10), .ref (ad 11), .ref (ad 12), .int wt])), (ad 10, .inl (τ 0, 24, .inl wd)), (ad 11, .inl (τ 0, 24, .inl wh)), (ad 12, .inl (τ 0, 24, .inl wp)), (ad 13, .inl (τ 0, 24, .inl rg)), (ad 14, .inr (3, [.int pl0, .int af0, .ref (ad 15), .ref (ad 19)])), (ad 15, .inr (1, [.ref (ad 16), .ref (ad 17), .ref (ad 18), .int tt0])), (ad 16, .inl (τ 0, 24, .inl td0)), (ad 17, .inl (τ 0, 24, .inl th0)), (ad 18, .inl (τ 0, 24, .inl tp0)), (ad 19, .inr (1, [.ref (ad 20), .ref (ad 21), .ref (ad 22), .int st0])), (ad 20, .inl (τ 0, 24, .inl sd0)), (ad 21, .inl (τ 0, 24, .inl sh0)), (ad 22, .inl (τ 0, 24, .inl sp0)), (ad 23, .inr (3, [.int pl1, .int af1, .ref (ad 24), .ref (ad 28)])), (ad 24, .inr (1, [.ref (ad 25), .ref (ad 26), .ref (ad 27), .int tt1])), (ad 25, .inl (τ 0, 24, .inl td1)), (ad 26, .inl (τ 0, 24, .inl th1)), (ad 27, .inl (τ 0, 24, .inl tp1)), (ad 28, .inr (1, [.ref (ad 29), .ref (ad 30), .ref (ad 31), .int st1])), (ad 29, .inl (τ 0, 24, .inl sd1)), (ad 30, .inl (τ 0, 24, .inl sh1)), (ad 31, .inl (τ 0, 24, .inl sp1)), (ad 32, .inr (3, [.int pl2, .int af2, .ref (ad 33), .ref (ad 37)])), (ad 33, .inr (1, [.ref (ad 34), .ref (ad 35), .ref (ad 36), .int tt2])), (ad 34, .inl (τ 0, 24, .inl td2)), (ad 35, .inl (τ 0, 24, .inl th2)), (ad 36, .inl (τ 0, 24, .inl tp2)), (ad 37, .inr (1, [.ref (ad 38), .ref (ad 39), .ref (ad 40), .int st2])), (ad 38, .inl (τ 0, 24, .inl sd2)), (ad 39, .inl (τ 0, 24, .inl sh2)), (ad 40, .inl (τ 0, 24, .inl sp2))]) (W1 := [(ad 0, .inr (4, [.ref (ad 1), .ref (ad 3), .ref (ad 8), .ref (ad 9), .ref (ad 13), .int rs, .int ib, .int (ch + 1)])), (ad 1, .inr (2, [.int (nI N), .int (kArcs ar (len (i * 24 + j)) x), .ref (ad 2)])), (ad 2, .inl (τ 0, 576, .inl (upd len (i * 24 + j) x))), (ad 3, .inr (0, [.int (nI (kKk K)), .int (nI (kKo K O)), .ref (ad 4), .ref (ad 5), .ref (ad 6), .ref (ad 7)])), (ad 4, .inl (τ 0, 41, .inl (upd (upd sz ((O + K) % 41) (nI (S + 1))) ((kKo K O + kKk K) % 41) 0))), (ad 5, .inl (τ 0, 1230, .inl (upd bg ((O + K) % 41 * 30 + S) (nI i)))), (ad 6, .inl (τ 0, 1230, .inl (upd en ((O + K) % 41 * 30 + S) (nI j)))), (ad 7, .inl (τ 0, 1230, .inl (upd ln ((O + K) % 41 * 30 + S) (len (i * 24 + j))))), (ad 8, .inl (τ 1, 3, .inr (.inr (.inr (.inr (kQ3 (ad 14) (ad 23) (ad 32))))))), (ad 9, .inr (1, [.ref (ad 10), .ref (ad 11), .ref (ad 12), .int wt])), (ad 10, .inl (τ 0, 24, .inl wd)), (ad 11, .inl (τ 0, 24, .inl wh)), (ad 12, .inl (τ 0, 24, .inl wp)), (ad 13, .inl (τ 0, 24, .inl rg)), (ad 14, .inr (3, [.int pl0, .int af0, .ref (ad 15), .ref (ad 19)])), (ad 15, .inr (1, [.ref (ad 16), .ref (ad 17), .ref (ad 18), .int tt0])), (ad 16, .inl (τ 0, 24, .inl td0)), (ad 17, .inl (τ 0, 24, .inl th0)), (ad 18, .inl (τ 0, 24, .inl tp0)), (ad 19, .inr (1, [.ref (ad 20), .ref (ad 21), .ref (ad 22), .int st0])), (ad 20, .inl (τ 0, 24, .inl sd0)), (ad 21, .inl (τ 0, 24, .inl sh0)), (ad 22, .inl (τ 0, 24, .inl sp0)), (ad 23, .inr (3, [.int pl1, .int af1, .ref (ad 24), .ref (ad 28)])), (ad 24, .inr (1, [.ref (ad 25), .ref (ad 26), .ref (ad 27), .int tt1])), (ad 25, .inl (τ 0, 24, .inl td1)), (ad 26, .inl (τ 0, 24, .inl th1)), (ad 27, .inl (τ 0, 24, .inl tp1)), (ad 28, .inr (1, [.ref (ad 29), .ref (ad 30), .ref (ad 31), .int st1])), (ad 29, .inl (τ 0, 24, .inl sd1)), (ad 30, .inl (τ 0, 24, .inl sh1)), (ad 31, .inl (τ 0, 24, .inl sp1)), (ad 32, .inr (3, [.int pl2, .int af2, .ref (ad 33), .ref (ad 37)])), (ad 33, .inr (1, [.ref (ad 34), .ref (ad 35), .ref (ad 36), .int tt2])), (ad 34, .inl (τ 0, 24, .inl td2)), (ad 35, .inl (τ 0, 24, .inl th2)), (ad 36, .inl (τ 0, 24, .inl tp2)), (ad 37, .inr (1, [.ref (ad 38), .ref (ad 39), .ref (ad 40), .int st2])), (ad 38, .inl (τ 0, 24, .inl sd2)), (ad 39, .inl (τ 0, 24, .inl sh2)), (ad 40, .inl (τ 0, 24, .inl sp2))]) ⟨hx, hb, hml, hown, hts⟩ (ch_keep l D τ (ad 3) (ad 4) (ad 5) (ad 6) (ad 7) K O (upd sz ((O + K) % 41) (nI (S + 1))) (upd bg ((O + K) % 41 * 30 + S) (nI i)) (upd en ((O + K) % 41 * 30 + S) (nI j)) (upd ln ((O + K) % 41 * 30 + S) (len (i * 24 + j))) (by first | assumption | omega) (by first | assumption | omega)) (kcwV hts qH_keepOpen w_250 rfl rfl ⟨Nat.le_of_ble_eq_true rfl, Nat.le_of_ble_eq_true rfl⟩) hK hP hD hS hA [3, 4, 5, 6, 7] [0, 1, 2, 8, 9, 10, 11, 12, 13, 14, 15, 16, 17, 18, 19, 20, 21, 22, 23, 24, 25, 26, 27, 28, 29, 30, 31, 32, 33, 34, 35, 36, 37, 38, 39, 40] [0, 1, 2, 36, 37, 38, 39, 40, 3, 4, 5, 6, 7, 8, 9, 10, 11, 12, 13, 14, 15, 16, 17, 18, 19, 20, 21, 22, 23, 24, 25, 26, 27, 28, 29, 30, 31, 32, 33, 34, 35] rfl rfl (by decide) (by decide) (by decide) rfl rfl rfl (by decide) hl.1 rfl rfl (Nat.le_of_ble_eq_true rfl) ⟨Nat.zero_le _, Nat.zero_le _⟩ dK_change_53 (fun H locs hP hD hS => ?_)
    refine lv_aload_n hx hb dK_change_56 rfl (lv_at hl 1 rfl) ?_
    refine kc_Vv (As := []) (rest := []) (wr := [(ad 3, .inr (0, [.int (nI (kKk K)), .int (nI (kKo K O)), .ref (ad 4), .ref (ad 5), .ref (ad 6), .ref (ad 7)])), (ad 4, .inl (τ 0, 41, .inl (upd (upd sz ((O + K) % 41) (nI (S + 1))) ((kKo K O + kKk K) % 41) 0))), (ad 5, .inl (τ 0, 1230, .inl (upd bg ((O + K) % 41 * 30 + S) (nI i)))), (ad 6, .inl (τ 0, 1230, .inl (upd en ((O + K) % 41 * 30 + S) (nI j)))), (ad 7, .inl (τ 0, 1230, .inl (upd ln ((O + K) % 41 * 30 + S) (len (i * 24 + j))))), (ad 9, .inr (1, [.ref (ad 10), .ref (ad 11), .ref (ad 12), .int wt])), (ad 10, .inl (τ 0, 24, .inl wd)), (ad 11, .inl (τ 0, 24, .inl wh)), (ad 12, .inl (τ 0, 24, .inl wp)), (ad 13, .inl (τ 0, 24, .inl rg))]) (W1 := [(ad 0, .inr (4, [.ref (ad 1), .ref (ad 3), .ref (ad 8), .ref (ad 9), .ref (ad 13), .int rs, .int ib, .int (ch + 1)])), (ad 1, .inr (2, [.int (nI N), .int (kArcs ar (len (i * 24 + j)) x), .ref (ad 2)])), (ad 2, .inl (τ 0, 576, .inl (upd len (i * 24 + j) x))), (ad 3, .inr (0, [.int (nI (kKk K)), .int (nI (kKo K O)), .ref (ad 4), .ref (ad 5), .ref (ad 6), .ref (ad 7)])), (ad 4, .inl (τ 0, 41, .inl (upd (upd sz ((O + K) % 41) (nI (S + 1))) ((kKo K O + kKk K) % 41) 0))), (ad 5, .inl (τ 0, 1230, .inl (upd bg ((O + K) % 41 * 30 + S) (nI i)))), (ad 6, .inl (τ 0, 1230, .inl (upd en ((O + K) % 41 * 30 + S) (nI j)))), (ad 7, .inl (τ 0, 1230, .inl (upd ln ((O + K) % 41 * 30 + S) (len (i * 24 + j))))), (ad 8, .inl (τ 1, 3, .inr (.inr (.inr (.inr (kQ3 (ad 14) (ad 23) (ad 32))))))), (ad 9, .inr (1, [.ref (ad 10), .ref (ad 11), .ref (ad 12), .int wt])), (ad 10, .inl (τ 0, 24, .inl wd)), (ad 11, .inl (τ 0, 24, .inl wh)), (ad 12, .inl (τ 0, 24, .inl wp)), (ad 13, .inl (τ 0, 24, .inl rg)), (ad 14, .inr (3, [.int pl0, .int (kDiff (kSettle N (upd len (i * 24 + j) x) pl0) (td0, th0, tp0, tt0)), .ref (ad 19), .ref (ad 15)])), (ad 15, .inr (1, [.ref (ad 16), .ref (ad 17), .ref (ad 18), .int tt0])), (ad 16, .inl (τ 0, 24, .inl td0)), (ad 17, .inl (τ 0, 24, .inl th0)), (ad 18, .inl (τ 0, 24, .inl tp0)), (ad 19, .inr (1, [.ref (ad 20), .ref (ad 21), .ref (ad 22), .int ((kSettle N (upd len (i * 24 + j) x) pl0).2.2.2)])), (ad 20, .inl (τ 0, 24, .inl ((kSettle N (upd len (i * 24 + j) x) pl0).1))), (ad 21, .inl (τ 0, 24, .inl ((kSettle N (upd len (i * 24 + j) x) pl0).2.1))), (ad 22, .inl (τ 0, 24, .inl ((kSettle N (upd len (i * 24 + j) x) pl0).2.2.1))), (ad 23, .inr (3, [.int pl1, .int (kDiff (kSettle N (upd len (i * 24 + j) x) pl1) (td1, th1, tp1, tt1)), .ref (ad 28), .ref (ad 24)])), (ad 24, .inr (1, [.ref (ad 25), .ref (ad 26), .ref (ad 27), .int tt1])), (ad 25, .inl (τ 0, 24, .inl td1)), (ad 26, .inl (τ 0, 24, .inl th1)), (ad 27, .inl (τ 0, 24, .inl tp1)), (ad 28, .inr (1, [.ref (ad 29), .ref (ad 30), .ref (ad 31), .int ((kSettle N (upd len (i * 24 + j) x) pl1).2.2.2)])), (ad 29, .inl (τ 0, 24, .inl ((kSettle N (upd len (i * 24 + j) x) pl1).1))), (ad 30, .inl (τ 0, 24, .inl ((kSettle N (upd len (i * 24 + j) x) pl1).2.1))), (ad 31, .inl (τ 0, 24, .inl ((kSettle N (upd len (i * 24 + j) x) pl1).2.2.1))), (ad 32, .inr (3, [.int pl2, .int (kDiff (kSettle N (upd len (i * 24 + j) x) pl2) (td2, th2, tp2, tt2)), .ref (ad 37), .ref (ad 33)])), (ad 33, .inr (1, [.ref (ad 34), .ref (ad 35), .ref (ad 36), .int tt2])), (ad 34, .inl (τ 0, 24, .inl td2)), (ad 35, .inl (τ 0, 24, .inl th2)), (ad 36, .inl (τ 0, 24, .inl tp2)), (ad 37, .inr (1, [.ref (ad 38), .ref (ad 39), .ref (ad 40), .int ((kSettle N (upd len (i * 24 + j) x) pl2).2.2.2)])), (ad 38, .inl (τ 0, 24, .inl ((kSettle N (upd len (i * 24 + j) x) pl2).1))), (ad 39, .inl (τ 0, 24, .inl ((kSettle N (upd len (i * 24 + j) x) pl2).2.1))), (ad 40, .inl (τ 0, 24, .inl ((kSettle N (upd len (i * 24 + j) x) pl2).2.2.1)))]) ⟨hx, hb, hml, hown, hts⟩ (ck_recount l D τ ad N (kArcs ar (len (i * 24 + j)) x) (upd len (i * 24 + j) x) rs ib (ch + 1) pl0 af0 td0 th0 tp0 tt0 sd0 sh0 sp0 st0 pl1 af1 td1 th1 tp1 tt1 sd1 sh1 sp1 st1 pl2 af2 td2 th2 tp2 tt2 sd2 sh2 sp2 st2 (by first | assumption | omega)) (kcwV hts qK_recountSources w_254 rfl rfl ⟨Nat.le_of_ble_eq_true rfl, Nat.le_of_ble_eq_true rfl⟩) hK hP hD hS hA [0, 1, 2, 8, 14, 15, 16, 17, 18, 19, 20, 21, 22, 23, 24, 25, 26, 27, 28, 29, 30, 31, 32, 33, 34, 35, 36, 37, 38, 39, 40] [3, 4, 5, 6, 7, 9, 10, 11, 12, 13] [10, 11, 12, 0, 1, 2, 3, 4, 13, 5, 6, 7, 8, 9, 14, 15, 16, 17, 18, 19, 20, 21, 22, 23, 24, 25, 26, 27, 28, 29, 30, 31, 32, 33, 34, 35, 36, 37, 38, 39, 40] rfl rfl (by decide) (by decide) (by decide) rfl rfl rfl (by decide) hl.1 rfl rfl (Nat.le_of_ble_eq_true rfl) ⟨Nat.zero_le _, Nat.zero_le _⟩ dK_change_57 (fun H locs hP hD hS => ?_)
    refine lv_iload hx hb dK_change_60 (lv_at hl 0 rfl) ?_
    have e_ : kChg ((N, ar, len), (K, O, sz, bg, en, ln), (wd, wh, wp, wt), (rg, rs), (ib, ch), (pl0, af0, (td0, th0, tp0, tt0), (sd0, sh0, sp0, st0)), (pl1, af1, (td1, th1, tp1, tt1), (sd1, sh1, sp1, st1)), (pl2, af2, (td2, th2, tp2, tt2), (sd2, sh2, sp2, st2))) i j x = (len (i * 24 + j), true, ((N, (kArcs ar (len (i * 24 + j)) x), (upd len (i * 24 + j) x)), ((kKk K), (kKo K O), upd (upd sz ((O + K) % 41) (nI (S + 1))) ((kKo K O + kKk K) % 41) 0, (upd bg ((O + K) % 41 * 30 + S) (nI i)), (upd en ((O + K) % 41 * 30 + S) (nI j)), (upd ln ((O + K) % 41 * 30 + S) (len (i * 24 + j)))), (wd, wh, wp, wt), (rg, rs), (ib, (ch + 1)), (pl0, kDiff (kSettle N (upd len (i * 24 + j) x) pl0) (td0, th0, tp0, tt0), ((kSettle N (upd len (i * 24 + j) x) pl0).1, (kSettle N (upd len (i * 24 + j) x) pl0).2.1, (kSettle N (upd len (i * 24 + j) x) pl0).2.2.1, (kSettle N (upd len (i * 24 + j) x) pl0).2.2.2), (td0, th0, tp0, tt0)), (pl1, kDiff (kSettle N (upd len (i * 24 + j) x) pl1) (td1, th1, tp1, tt1), ((kSettle N (upd len (i * 24 + j) x) pl1).1, (kSettle N (upd len (i * 24 + j) x) pl1).2.1, (kSettle N (upd len (i * 24 + j) x) pl1).2.2.1, (kSettle N (upd len (i * 24 + j) x) pl1).2.2.2), (td1, th1, tp1, tt1)), (pl2, kDiff (kSettle N (upd len (i * 24 + j) x) pl2) (td2, th2, tp2, tt2), ((kSettle N (upd len (i * 24 + j) x) pl2).1, (kSettle N (upd len (i * 24 + j) x) pl2).2.1, (kSettle N (upd len (i * 24 + j) x) pl2).2.2.1, (kSettle N (upd len (i * 24 + j) x) pl2).2.2.2), (td2, th2, tp2, tt2)))) := by
      unfold kChg; dsimp only; rw [kIf_t c_46, hSs, nI_clamp (by omega)]; try rfl
    rw [e_]
    exact k_iret hx hb hr hlocks hK hS rfl (hP.sub [0, 1, 2, 3, 4, 5, 6, 7, 8, 9, 10, 11, 12, 13, 14, 19, 20, 21, 22, 15, 16, 17, 18, 23, 28, 29, 30, 31, 24, 25, 26, 27, 32, 37, 38, 39, 40, 33, 34, 35, 36] rfl) (hD.sub [0, 1, 2, 3, 4, 5, 6, 7, 8, 9, 10, 11, 12, 13, 14, 19, 20, 21, 22, 15, 16, 17, 18, 23, 28, 29, 30, 31, 24, 25, 26, 27, 32, 37, 38, 39, 40, 33, 34, 35, 36] (by decide) rfl) dK_change_62
end
