section
-- ===== PART A: goes FIRST, ahead of the names: the tables' words, and 'selects' of the private methods out of them =====
/-- a private method of a class that the tables say can be made, by its rows of tables_1 -/
def lw_okq (q : MethodName × Nat) : Prop := (q.1.cls ≠ "java/lang/invoke/MethodHandle" ∧ q.1.cls ≠ "java/lang/invoke/VarHandle") ∧ Cond.instantiable q.1.cls q.2 ∈ tables_1 ∧ Cond.privateMethod q.1 ∈ tables_1 ∧ Cond.instanceMethod q.1 ∈ tables_1
theorem lw_p0 : lw_okq (⟨"ShardRows$GroupRows", "open", "(I)I"⟩, 6) := ⟨⟨by decide +kernel, by decide +kernel⟩, List.mem_of_getElem? (i := 48) (by decide +kernel), List.mem_of_getElem? (i := 291) (by decide +kernel), List.mem_of_getElem? (i := 292) (by decide +kernel)⟩
theorem lw_p1 : lw_okq (⟨"ShardRows$Search", "countMoves", "(LShardRows$GroupRows;LShardRows$SplitRows;)V"⟩, 10) := ⟨⟨by decide +kernel, by decide +kernel⟩, List.mem_of_getElem? (i := 87) (by decide +kernel), List.mem_of_getElem? (i := 307) (by decide +kernel), List.mem_of_getElem? (i := 308) (by decide +kernel)⟩
theorem lw_p2 : lw_okq (⟨"ShardRows$Search", "addMove", "(II)V"⟩, 10) := ⟨⟨by decide +kernel, by decide +kernel⟩, List.mem_of_getElem? (i := 87) (by decide +kernel), List.mem_of_getElem? (i := 320) (by decide +kernel), List.mem_of_getElem? (i := 321) (by decide +kernel)⟩
theorem lw_p3 : lw_okq (⟨"ShardRows$Search", "sumLeastMoves", "()V"⟩, 10) := ⟨⟨by decide +kernel, by decide +kernel⟩, List.mem_of_getElem? (i := 87) (by decide +kernel), List.mem_of_getElem? (i := 324) (by decide +kernel), List.mem_of_getElem? (i := 325) (by decide +kernel)⟩
theorem lw_p4 : lw_okq (⟨"ShardRows$Search", "seekLength", "(III)V"⟩, 10) := ⟨⟨by decide +kernel, by decide +kernel⟩, List.mem_of_getElem? (i := 87) (by decide +kernel), List.mem_of_getElem? (i := 329) (by decide +kernel), List.mem_of_getElem? (i := 330) (by decide +kernel)⟩
theorem lw_p5 : lw_okq (⟨"ShardRows$Search", "seekShards", "(II)V"⟩, 10) := ⟨⟨by decide +kernel, by decide +kernel⟩, List.mem_of_getElem? (i := 87) (by decide +kernel), List.mem_of_getElem? (i := 334) (by decide +kernel), List.mem_of_getElem? (i := 335) (by decide +kernel)⟩
theorem lw_p6 : lw_okq (⟨"ShardRows$Greedy", "leastShard", "(I)I"⟩, 2) := ⟨⟨by decide +kernel, by decide +kernel⟩, List.mem_of_getElem? (i := 126) (by decide +kernel), List.mem_of_getElem? (i := 348) (by decide +kernel), List.mem_of_getElem? (i := 349) (by decide +kernel)⟩
theorem lw_p7 : lw_okq (⟨"ShardRows$SplitRows", "addTime", "(II)V"⟩, 5) := ⟨⟨by decide +kernel, by decide +kernel⟩, List.mem_of_getElem? (i := 139) (by decide +kernel), List.mem_of_getElem? (i := 357) (by decide +kernel), List.mem_of_getElem? (i := 358) (by decide +kernel)⟩
theorem lw_p8 : lw_okq (⟨"ShardRows$SplitRows", "give", "(II)V"⟩, 5) := ⟨⟨by decide +kernel, by decide +kernel⟩, List.mem_of_getElem? (i := 139) (by decide +kernel), List.mem_of_getElem? (i := 369) (by decide +kernel), List.mem_of_getElem? (i := 370) (by decide +kernel)⟩
theorem lw_p9 : lw_okq (⟨"ShardRows$ResultRows", "isBad", "(I)Z"⟩, 4) := ⟨⟨by decide +kernel, by decide +kernel⟩, List.mem_of_getElem? (i := 168) (by decide +kernel), List.mem_of_getElem? (i := 441) (by decide +kernel), List.mem_of_getElem? (i := 442) (by decide +kernel)⟩
theorem lw_p10 : lw_okq (⟨"ShardRows", "isMissing", "(I)Z"⟩, 8) := ⟨⟨by decide +kernel, by decide +kernel⟩, List.mem_of_getElem? (i := 14) (by decide +kernel), List.mem_of_getElem? (i := 457) (by decide +kernel), List.mem_of_getElem? (i := 458) (by decide +kernel)⟩
theorem lw_p11 : lw_okq (⟨"ShardRowsModel", "isTest", "(I)Z"⟩, 24) := ⟨⟨by decide +kernel, by decide +kernel⟩, List.mem_of_getElem? (i := 482) (by decide +kernel), List.mem_of_getElem? (i := 573) (by decide +kernel), List.mem_of_getElem? (i := 574) (by decide +kernel)⟩
theorem lw_p12 : lw_okq (⟨"ShardRowsModel", "gathers", "()V"⟩, 24) := ⟨⟨by decide +kernel, by decide +kernel⟩, List.mem_of_getElem? (i := 482) (by decide +kernel), List.mem_of_getElem? (i := 597) (by decide +kernel), List.mem_of_getElem? (i := 598) (by decide +kernel)⟩
theorem lw_p13 : lw_okq (⟨"ShardRowsModel", "exact", "()V"⟩, 24) := ⟨⟨by decide +kernel, by decide +kernel⟩, List.mem_of_getElem? (i := 482) (by decide +kernel), List.mem_of_getElem? (i := 602) (by decide +kernel), List.mem_of_getElem? (i := 603) (by decide +kernel)⟩
theorem lw_p14 : lw_okq (⟨"ShardRowsModel", "length", "()I"⟩, 24) := ⟨⟨by decide +kernel, by decide +kernel⟩, List.mem_of_getElem? (i := 482) (by decide +kernel), List.mem_of_getElem? (i := 606) (by decide +kernel), List.mem_of_getElem? (i := 607) (by decide +kernel)⟩
theorem lw_p15 : lw_okq (⟨"ShardRowsModel", "moves", "()I"⟩, 24) := ⟨⟨by decide +kernel, by decide +kernel⟩, List.mem_of_getElem? (i := 482) (by decide +kernel), List.mem_of_getElem? (i := 610) (by decide +kernel), List.mem_of_getElem? (i := 611) (by decide +kernel)⟩
def lw_privs_1 : List (MethodName × Nat) := [(⟨"ShardRows$GroupRows", "open", "(I)I"⟩, 6), (⟨"ShardRows$Search", "countMoves", "(LShardRows$GroupRows;LShardRows$SplitRows;)V"⟩, 10), (⟨"ShardRows$Search", "addMove", "(II)V"⟩, 10), (⟨"ShardRows$Search", "sumLeastMoves", "()V"⟩, 10), (⟨"ShardRows$Search", "seekLength", "(III)V"⟩, 10), (⟨"ShardRows$Search", "seekShards", "(II)V"⟩, 10), (⟨"ShardRows$Greedy", "leastShard", "(I)I"⟩, 2), (⟨"ShardRows$SplitRows", "addTime", "(II)V"⟩, 5), (⟨"ShardRows$SplitRows", "give", "(II)V"⟩, 5), (⟨"ShardRows$ResultRows", "isBad", "(I)Z"⟩, 4), (⟨"ShardRows", "isMissing", "(I)Z"⟩, 8), (⟨"ShardRowsModel", "isTest", "(I)Z"⟩, 24), (⟨"ShardRowsModel", "gathers", "()V"⟩, 24), (⟨"ShardRowsModel", "exact", "()V"⟩, 24), (⟨"ShardRowsModel", "length", "()I"⟩, 24), (⟨"ShardRowsModel", "moves", "()I"⟩, 24)]
theorem lw_r1 : ∀ q ∈ lw_privs_1, lw_okq q := List.forall_mem_cons.mpr ⟨lw_p0, List.forall_mem_cons.mpr ⟨lw_p1, List.forall_mem_cons.mpr ⟨lw_p2, List.forall_mem_cons.mpr ⟨lw_p3, List.forall_mem_cons.mpr ⟨lw_p4, List.forall_mem_cons.mpr ⟨lw_p5, List.forall_mem_cons.mpr ⟨lw_p6, List.forall_mem_cons.mpr ⟨lw_p7, List.forall_mem_cons.mpr ⟨lw_p8, List.forall_mem_cons.mpr ⟨lw_p9, List.forall_mem_cons.mpr ⟨lw_p10, List.forall_mem_cons.mpr ⟨lw_p11, List.forall_mem_cons.mpr ⟨lw_p12, List.forall_mem_cons.mpr ⟨lw_p13, List.forall_mem_cons.mpr ⟨lw_p14, List.forall_mem_cons.mpr ⟨lw_p15, fun _ h => absurd h List.not_mem_nil⟩⟩⟩⟩⟩⟩⟩⟩⟩⟩⟩⟩⟩⟩⟩⟩
theorem lw_p16 : lw_okq (⟨"ShardRowsModel", "movesOf", "(II)I"⟩, 24) := ⟨⟨by decide +kernel, by decide +kernel⟩, List.mem_of_getElem? (i := 482) (by decide +kernel), List.mem_of_getElem? (i := 614) (by decide +kernel), List.mem_of_getElem? (i := 615) (by decide +kernel)⟩
theorem lw_p17 : lw_okq (⟨"ShardRowsModel", "next", "()Z"⟩, 24) := ⟨⟨by decide +kernel, by decide +kernel⟩, List.mem_of_getElem? (i := 482) (by decide +kernel), List.mem_of_getElem? (i := 618) (by decide +kernel), List.mem_of_getElem? (i := 619) (by decide +kernel)⟩
theorem lw_p18 : lw_okq (⟨"ShardRowsModel", "byTimes", "()V"⟩, 24) := ⟨⟨by decide +kernel, by decide +kernel⟩, List.mem_of_getElem? (i := 482) (by decide +kernel), List.mem_of_getElem? (i := 622) (by decide +kernel), List.mem_of_getElem? (i := 623) (by decide +kernel)⟩
theorem lw_p19 : lw_okq (⟨"ShardRowsModel", "isIn", "(I)Z"⟩, 24) := ⟨⟨by decide +kernel, by decide +kernel⟩, List.mem_of_getElem? (i := 482) (by decide +kernel), List.mem_of_getElem? (i := 630) (by decide +kernel), List.mem_of_getElem? (i := 631) (by decide +kernel)⟩
theorem lw_p20 : lw_okq (⟨"ShardRowsModel", "isShard", "(I)Z"⟩, 24) := ⟨⟨by decide +kernel, by decide +kernel⟩, List.mem_of_getElem? (i := 482) (by decide +kernel), List.mem_of_getElem? (i := 638) (by decide +kernel), List.mem_of_getElem? (i := 639) (by decide +kernel)⟩
theorem lw_p21 : lw_okq (⟨"ShardRowsModel", "testsOf", "(I)I"⟩, 24) := ⟨⟨by decide +kernel, by decide +kernel⟩, List.mem_of_getElem? (i := 482) (by decide +kernel), List.mem_of_getElem? (i := 650) (by decide +kernel), List.mem_of_getElem? (i := 651) (by decide +kernel)⟩
def lw_privs_2 : List (MethodName × Nat) := [(⟨"ShardRowsModel", "movesOf", "(II)I"⟩, 24), (⟨"ShardRowsModel", "next", "()Z"⟩, 24), (⟨"ShardRowsModel", "byTimes", "()V"⟩, 24), (⟨"ShardRowsModel", "isIn", "(I)Z"⟩, 24), (⟨"ShardRowsModel", "isShard", "(I)Z"⟩, 24), (⟨"ShardRowsModel", "testsOf", "(I)I"⟩, 24)]
theorem lw_r2 : ∀ q ∈ lw_privs_2, lw_okq q := List.forall_mem_cons.mpr ⟨lw_p16, List.forall_mem_cons.mpr ⟨lw_p17, List.forall_mem_cons.mpr ⟨lw_p18, List.forall_mem_cons.mpr ⟨lw_p19, List.forall_mem_cons.mpr ⟨lw_p20, List.forall_mem_cons.mpr ⟨lw_p21, fun _ h => absurd h List.not_mem_nil⟩⟩⟩⟩⟩⟩
def lw_privs : List (MethodName × Nat) := lw_privs_1 ++ (lw_privs_2)
def lw_tbl : List Cond := k2_sels lw_privs ++ tables_1
theorem lw_privs_ok : ∀ q ∈ lw_privs, lw_okq q := by
  show ∀ q ∈ lw_privs_1 ++ (lw_privs_2), lw_okq q
  exact List.forall_mem_append.mpr ⟨lw_r1, lw_r2⟩
/-! names, by program (wip/gen/names.py) -/
def RTR : String := "ShardRows$TestRows"
def TTR : u_T := fun k => match k with
  | 0 => ("ShardRows$TestRows", "count", "I", false)
  | 1 => ("ShardRows$TestRows", "times", "[I", true)
  | _ => ("ShardRows$TestRows", "firsts", "[I", true)
def tyTR : Nat → FieldType := fun k => match k with
  | 0 => .int
  | 1 => .array .int
  | _ => .array .int
theorem nmTR : ∀ a, a < 3 → ∀ b, b < 3 → a ≠ b → (TTR a).2.1 ≠ (TTR b).2.1 := by decide +kernel
theorem tyTR_ok : ∀ k, k < 3 → parseFieldDescriptor (TTR k).2.2.1 = some (tyTR k) := by decide +kernel
def RGR : String := "ShardRows$GroupRows"
def TGR : u_T := fun k => match k with
  | 0 => ("ShardRows$GroupRows", "count", "I", false)
  | 1 => ("ShardRows$GroupRows", "testCount", "I", false)
  | 2 => ("ShardRows$GroupRows", "firsts", "[I", true)
  | 3 => ("ShardRows$GroupRows", "times", "[I", true)
  | 4 => ("ShardRows$GroupRows", "shards", "[I", true)
  | _ => ("ShardRows$GroupRows", "groupOf", "[I", true)
def tyGR : Nat → FieldType := fun k => match k with
  | 0 => .int
  | 1 => .int
  | 2 => .array .int
  | 3 => .array .int
  | 4 => .array .int
  | _ => .array .int
theorem nmGR : ∀ a, a < 6 → ∀ b, b < 6 → a ≠ b → (TGR a).2.1 ≠ (TGR b).2.1 := by decide +kernel
theorem tyGR_ok : ∀ k, k < 6 → parseFieldDescriptor (TGR k).2.2.1 = some (tyGR k) := by decide +kernel
def RDR : String := "ShardRows$DrawRow"
def TDR : u_T := fun k => match k with
  | 0 => ("ShardRows$DrawRow", "count", "I", false)
  | _ => ("ShardRows$DrawRow", "row", "[I", true)
def tyDR : Nat → FieldType := fun k => match k with
  | 0 => .int
  | _ => .array .int
theorem nmDR : ∀ a, a < 2 → ∀ b, b < 2 → a ≠ b → (TDR a).2.1 ≠ (TDR b).2.1 := by decide +kernel
theorem tyDR_ok : ∀ k, k < 2 → parseFieldDescriptor (TDR k).2.2.1 = some (tyDR k) := by decide +kernel
def RRR : String := "ShardRows$ResultRows"
def TRR : u_T := fun k => match k with
  | 0 => ("ShardRows$ResultRows", "strangers", "I", false)
  | 1 => ("ShardRows$ResultRows", "present", "[Z", true)
  | 2 => ("ShardRows$ResultRows", "values", "[I", true)
  | _ => ("ShardRows$ResultRows", "tryCounts", "[I", true)
def tyRR : Nat → FieldType := fun k => match k with
  | 0 => .int
  | 1 => .array .boolean
  | 2 => .array .int
  | _ => .array .int
theorem nmRR : ∀ a, a < 4 → ∀ b, b < 4 → a ≠ b → (TRR a).2.1 ≠ (TRR b).2.1 := by decide +kernel
theorem tyRR_ok : ∀ k, k < 4 → parseFieldDescriptor (TRR k).2.2.1 = some (tyRR k) := by decide +kernel
def RGY : String := "ShardRows$Greedy"
def TGY : u_T := fun k => match k with
  | 0 => ("ShardRows$Greedy", "shardCount", "I", false)
  | _ => ("ShardRows$Greedy", "sums", "[I", true)
def tyGY : Nat → FieldType := fun k => match k with
  | 0 => .int
  | _ => .array .int
theorem nmGY : ∀ a, a < 2 → ∀ b, b < 2 → a ≠ b → (TGY a).2.1 ≠ (TGY b).2.1 := by decide +kernel
theorem tyGY_ok : ∀ k, k < 2 → parseFieldDescriptor (TGY k).2.2.1 = some (tyGY k) := by decide +kernel
def RSP : String := "ShardRows$SplitRows"
def TSP : u_T := fun k => match k with
  | 0 => ("ShardRows$SplitRows", "shardCount", "I", false)
  | 1 => ("ShardRows$SplitRows", "movedCount", "I", false)
  | 2 => ("ShardRows$SplitRows", "sums", "[I", true)
  | 3 => ("ShardRows$SplitRows", "sizes", "[I", true)
  | _ => ("ShardRows$SplitRows", "shardOf", "[I", true)
def tySP : Nat → FieldType := fun k => match k with
  | 0 => .int
  | 1 => .int
  | 2 => .array .int
  | 3 => .array .int
  | _ => .array .int
theorem nmSP : ∀ a, a < 5 → ∀ b, b < 5 → a ≠ b → (TSP a).2.1 ≠ (TSP b).2.1 := by decide +kernel
theorem tySP_ok : ∀ k, k < 5 → parseFieldDescriptor (TSP k).2.2.1 = some (tySP k) := by decide +kernel
def RSE : String := "ShardRows$Search"
def TSE : u_T := fun k => match k with
  | 0 => ("ShardRows$Search", "shardCount", "I", false)
  | 1 => ("ShardRows$Search", "groupCount", "I", false)
  | 2 => ("ShardRows$Search", "leastLength", "I", false)
  | 3 => ("ShardRows$Search", "leastMoves", "I", false)
  | 4 => ("ShardRows$Search", "times", "[I", true)
  | 5 => ("ShardRows$Search", "sums", "[I", true)
  | 6 => ("ShardRows$Search", "trial", "[I", true)
  | 7 => ("ShardRows$Search", "best", "[I", true)
  | 8 => ("ShardRows$Search", "moves", "[[I", true)
  | _ => ("ShardRows$Search", "movesFrom", "[I", true)
def tySE : Nat → FieldType := fun k => match k with
  | 0 => .int
  | 1 => .int
  | 2 => .int
  | 3 => .int
  | 4 => .array .int
  | 5 => .array .int
  | 6 => .array .int
  | 7 => .array .int
  | 8 => .array (.array .int)
  | _ => .array .int
theorem nmSE : ∀ a, a < 10 → ∀ b, b < 10 → a ≠ b → (TSE a).2.1 ≠ (TSE b).2.1 := by decide +kernel
theorem tySE_ok : ∀ k, k < 10 → parseFieldDescriptor (TSE k).2.2.1 = some (tySE k) := by decide +kernel
def RSR : String := "ShardRows"
def TSR : u_T := fun k => match k with
  | 0 => ("ShardRows", "testRows", "LShardRows$TestRows;", true)
  | 1 => ("ShardRows", "groupRows", "LShardRows$GroupRows;", true)
  | 2 => ("ShardRows", "search", "LShardRows$Search;", true)
  | 3 => ("ShardRows", "greedy", "LShardRows$Greedy;", true)
  | 4 => ("ShardRows", "latest", "LShardRows$SplitRows;", true)
  | 5 => ("ShardRows", "results", "LShardRows$ResultRows;", true)
  | 6 => ("ShardRows", "order", "LShardRows$DrawRow;", true)
  | _ => ("ShardRows", "nextShards", "I", false)
def tySR : Nat → FieldType := fun k => match k with
  | 0 => .object "ShardRows$TestRows"
  | 1 => .object "ShardRows$GroupRows"
  | 2 => .object "ShardRows$Search"
  | 3 => .object "ShardRows$Greedy"
  | 4 => .object "ShardRows$SplitRows"
  | 5 => .object "ShardRows$ResultRows"
  | 6 => .object "ShardRows$DrawRow"
  | _ => .int
theorem nmSR : ∀ a, a < 8 → ∀ b, b < 8 → a ≠ b → (TSR a).2.1 ≠ (TSR b).2.1 := by decide +kernel
theorem tySR_ok : ∀ k, k < 8 → parseFieldDescriptor (TSR k).2.2.1 = some (tySR k) := by decide +kernel
def RMO : String := "ShardRowsModel"
def TMO : u_T := fun k => match k with
  | 0 => ("ShardRowsModel", "thrown", "I", false)
  | 1 => ("ShardRowsModel", "k", "I", false)
  | 2 => ("ShardRowsModel", "tests", "I", false)
  | 3 => ("ShardRowsModel", "times", "[I", true)
  | 4 => ("ShardRowsModel", "group", "[I", true)
  | 5 => ("ShardRowsModel", "isSplit", "Z", false)
  | 6 => ("ShardRowsModel", "many", "I", false)
  | 7 => ("ShardRowsModel", "splitTests", "I", false)
  | 8 => ("ShardRowsModel", "moved", "I", false)
  | 9 => ("ShardRowsModel", "strange", "I", false)
  | 10 => ("ShardRowsModel", "shard", "[I", true)
  | 11 => ("ShardRowsModel", "sums", "[I", true)
  | 12 => ("ShardRowsModel", "before", "[I", true)
  | 13 => ("ShardRowsModel", "has", "[Z", true)
  | 14 => ("ShardRowsModel", "good", "[Z", true)
  | 15 => ("ShardRowsModel", "tries", "[I", true)
  | 16 => ("ShardRowsModel", "drawn", "[I", true)
  | 17 => ("ShardRowsModel", "drawnMany", "I", false)
  | 18 => ("ShardRowsModel", "firsts", "[I", true)
  | 19 => ("ShardRowsModel", "weights", "[I", true)
  | 20 => ("ShardRowsModel", "way", "[I", true)
  | 21 => ("ShardRowsModel", "best", "[I", true)
  | 22 => ("ShardRowsModel", "taken", "[Z", true)
  | _ => ("ShardRowsModel", "groups", "I", false)
def tyMO : Nat → FieldType := fun k => match k with
  | 0 => .int
  | 1 => .int
  | 2 => .int
  | 3 => .array .int
  | 4 => .array .int
  | 5 => .boolean
  | 6 => .int
  | 7 => .int
  | 8 => .int
  | 9 => .int
  | 10 => .array .int
  | 11 => .array .int
  | 12 => .array .int
  | 13 => .array .boolean
  | 14 => .array .boolean
  | 15 => .array .int
  | 16 => .array .int
  | 17 => .int
  | 18 => .array .int
  | 19 => .array .int
  | 20 => .array .int
  | 21 => .array .int
  | 22 => .array .boolean
  | _ => .int
theorem nmMO : ∀ a, a < 24 → ∀ b, b < 24 → a ≠ b → (TMO a).2.1 ≠ (TMO b).2.1 := by decide +kernel
theorem tyMO_ok : ∀ k, k < 24 → parseFieldDescriptor (TMO k).2.2.1 = some (tyMO k) := by decide +kernel
def RLW : String := "ShardRowsLaw"
def RAR : String := "java/util/Arrays"
abbrev vwCl : List vw_C := [(RTR, TTR, 3), (RGR, TGR, 6), (RDR, TDR, 2), (RRR, TRR, 4), (RGY, TGY, 2), (RSP, TSP, 5), (RSE, TSE, 10), (RSR, TSR, 8), (RMO, TMO, 24)]
/-- the words that stay true while a run goes on -/
def TB : List Cond := lw_tbl.filter goodWord
theorem TB_good : ∀ w ∈ TB, (w.onTables && w.keeps) = true ∨ ∃ ty, w = .arrayClass ty := fun w h => good_of_word (List.mem_filter.mp h).2
theorem inTR : ∀ w ∈ u_ws RTR TTR 3, w ∈ TB := by decide +kernel
theorem inGR : ∀ w ∈ u_ws RGR TGR 6, w ∈ TB := by decide +kernel
theorem inDR : ∀ w ∈ u_ws RDR TDR 2, w ∈ TB := by decide +kernel
theorem inRR : ∀ w ∈ u_ws RRR TRR 4, w ∈ TB := by decide +kernel
theorem inGY : ∀ w ∈ u_ws RGY TGY 2, w ∈ TB := by decide +kernel
theorem inSP : ∀ w ∈ u_ws RSP TSP 5, w ∈ TB := by decide +kernel
theorem inSE : ∀ w ∈ u_ws RSE TSE 10, w ∈ TB := by decide +kernel
theorem inSR : ∀ w ∈ u_ws RSR TSR 8, w ∈ TB := by decide +kernel
theorem inMO : ∀ w ∈ u_ws RMO TMO 24, w ∈ TB := by decide +kernel
theorem kw_22 : (Jvm.Cond.initialized "ShardRowsLaw") ∈ TB := List.mem_filter.mpr ⟨List.mem_of_getElem? (i := 22) (by decide +kernel), by decide +kernel⟩
theorem kw_23 : (Jvm.Cond.initialized "ShardRows") ∈ TB := List.mem_filter.mpr ⟨List.mem_of_getElem? (i := 23) (by decide +kernel), by decide +kernel⟩
theorem kw_24 : (Jvm.Cond.initialized "java/lang/Math") ∈ TB := List.mem_filter.mpr ⟨List.mem_of_getElem? (i := 24) (by decide +kernel), by decide +kernel⟩
theorem kw_25 : (Jvm.Cond.initialized "ShardRows$TestRows") ∈ TB := List.mem_filter.mpr ⟨List.mem_of_getElem? (i := 25) (by decide +kernel), by decide +kernel⟩
theorem kw_26 : (Jvm.Cond.initialized "ShardRows$GroupRows") ∈ TB := List.mem_filter.mpr ⟨List.mem_of_getElem? (i := 26) (by decide +kernel), by decide +kernel⟩
theorem kw_27 : (Jvm.Cond.initialized "ShardRows$Search") ∈ TB := List.mem_filter.mpr ⟨List.mem_of_getElem? (i := 27) (by decide +kernel), by decide +kernel⟩
theorem kw_28 : (Jvm.Cond.initialized "ShardRows$Greedy") ∈ TB := List.mem_filter.mpr ⟨List.mem_of_getElem? (i := 28) (by decide +kernel), by decide +kernel⟩
theorem kw_29 : (Jvm.Cond.initialized "ShardRows$SplitRows") ∈ TB := List.mem_filter.mpr ⟨List.mem_of_getElem? (i := 29) (by decide +kernel), by decide +kernel⟩
theorem kw_30 : (Jvm.Cond.initialized "java/util/Arrays") ∈ TB := List.mem_filter.mpr ⟨List.mem_of_getElem? (i := 30) (by decide +kernel), by decide +kernel⟩
theorem kw_31 : (Jvm.Cond.initialized "ShardRows$ResultRows") ∈ TB := List.mem_filter.mpr ⟨List.mem_of_getElem? (i := 31) (by decide +kernel), by decide +kernel⟩
theorem kw_32 : (Jvm.Cond.initialized "ShardRows$DrawRow") ∈ TB := List.mem_filter.mpr ⟨List.mem_of_getElem? (i := 32) (by decide +kernel), by decide +kernel⟩
theorem kw_33 : (Jvm.Cond.initialized "ShardRowsModel") ∈ TB := List.mem_filter.mpr ⟨List.mem_of_getElem? (i := 33) (by decide +kernel), by decide +kernel⟩
theorem kw_34 : (Jvm.Cond.initialized "java/lang/System") ∈ TB := List.mem_filter.mpr ⟨List.mem_of_getElem? (i := 34) (by decide +kernel), by decide +kernel⟩
theorem kw_35 : (Jvm.Cond.classLink "ShardRowsLaw" (7 : Nat) "ShardRows") ∈ TB := List.mem_filter.mpr ⟨List.mem_of_getElem? (i := 35) (by decide +kernel), by decide +kernel⟩
theorem kw_36 : (Jvm.Cond.instantiable "ShardRows" (8 : Nat)) ∈ TB := List.mem_filter.mpr ⟨List.mem_of_getElem? (i := 36) (by decide +kernel), by decide +kernel⟩
theorem kw_37 : (Jvm.Cond.methodLink "ShardRowsLaw" (15 : Nat) ({ cls := "ShardRows", name := "<init>", desc := "(I)V" } : Jvm.MethodName)) ∈ TB := List.mem_filter.mpr ⟨List.mem_of_getElem? (i := 37) (by decide +kernel), by decide +kernel⟩
theorem kw_38 : (Jvm.Cond.instanceMethod ({ cls := "ShardRows", name := "<init>", desc := "(I)V" } : Jvm.MethodName)) ∈ TB := List.mem_filter.mpr ⟨List.mem_of_getElem? (i := 38) (by decide +kernel), by decide +kernel⟩
theorem kw_39 : (Jvm.Cond.code ({ cls := "ShardRows", name := "<init>", desc := "(I)V" } : Jvm.MethodName) prog_1_method_1_code (2 : Nat) (Option.none : Option Jvm.ClassFile.FieldType)) ∈ TB := List.mem_filter.mpr ⟨List.mem_of_getElem? (i := 39) (by decide +kernel), by decide +kernel⟩
theorem kw_40 : (Jvm.Cond.methodLink "ShardRows" (1 : Nat) ({ cls := "java/lang/Object", name := "<init>", desc := "()V" } : Jvm.MethodName)) ∈ TB := List.mem_filter.mpr ⟨List.mem_of_getElem? (i := 40) (by decide +kernel), by decide +kernel⟩
theorem kw_41 : (Jvm.Cond.instanceMethod ({ cls := "java/lang/Object", name := "<init>", desc := "()V" } : Jvm.MethodName)) ∈ TB := List.mem_filter.mpr ⟨List.mem_of_getElem? (i := 41) (by decide +kernel), by decide +kernel⟩
theorem kw_42 : (Jvm.Cond.code ({ cls := "java/lang/Object", name := "<init>", desc := "()V" } : Jvm.MethodName) object_method_1_code (1 : Nat) (Option.none : Option Jvm.ClassFile.FieldType)) ∈ TB := List.mem_filter.mpr ⟨List.mem_of_getElem? (i := 42) (by decide +kernel), by decide +kernel⟩
theorem kw_43 : (Jvm.Cond.methodLink "ShardRows" (9 : Nat) ({ cls := "java/lang/Math", name := "min", desc := "(II)I" } : Jvm.MethodName)) ∈ TB := List.mem_filter.mpr ⟨List.mem_of_getElem? (i := 43) (by decide +kernel), by decide +kernel⟩
theorem kw_44 : (Jvm.Cond.static ({ cls := "java/lang/Math", name := "min", desc := "(II)I" } : Jvm.MethodName)) ∈ TB := List.mem_filter.mpr ⟨List.mem_of_getElem? (i := 44) (by decide +kernel), by decide +kernel⟩
theorem kw_45 : (Jvm.Cond.code ({ cls := "java/lang/Math", name := "min", desc := "(II)I" } : Jvm.MethodName) prog_11_method_69_code (2 : Nat) (Option.some Jvm.ClassFile.FieldType.int)) ∈ TB := List.mem_filter.mpr ⟨List.mem_of_getElem? (i := 45) (by decide +kernel), by decide +kernel⟩
theorem kw_46 : (Jvm.Cond.methodLink "ShardRows" (15 : Nat) ({ cls := "java/lang/Math", name := "max", desc := "(II)I" } : Jvm.MethodName)) ∈ TB := List.mem_filter.mpr ⟨List.mem_of_getElem? (i := 46) (by decide +kernel), by decide +kernel⟩
theorem kw_47 : (Jvm.Cond.static ({ cls := "java/lang/Math", name := "max", desc := "(II)I" } : Jvm.MethodName)) ∈ TB := List.mem_filter.mpr ⟨List.mem_of_getElem? (i := 47) (by decide +kernel), by decide +kernel⟩
theorem kw_48 : (Jvm.Cond.code ({ cls := "java/lang/Math", name := "max", desc := "(II)I" } : Jvm.MethodName) prog_11_method_65_code (2 : Nat) (Option.some Jvm.ClassFile.FieldType.int)) ∈ TB := List.mem_filter.mpr ⟨List.mem_of_getElem? (i := 48) (by decide +kernel), by decide +kernel⟩
theorem kw_49 : (Jvm.Cond.classLink "ShardRows" (22 : Nat) "ShardRows$TestRows") ∈ TB := List.mem_filter.mpr ⟨List.mem_of_getElem? (i := 49) (by decide +kernel), by decide +kernel⟩
theorem kw_50 : (Jvm.Cond.instantiable "ShardRows$TestRows" (3 : Nat)) ∈ TB := List.mem_filter.mpr ⟨List.mem_of_getElem? (i := 50) (by decide +kernel), by decide +kernel⟩
theorem kw_52 : (Jvm.Cond.instanceMethod ({ cls := "ShardRows$TestRows", name := "<init>", desc := "()V" } : Jvm.MethodName)) ∈ TB := List.mem_filter.mpr ⟨List.mem_of_getElem? (i := 52) (by decide +kernel), by decide +kernel⟩
theorem kw_53 : (Jvm.Cond.code ({ cls := "ShardRows$TestRows", name := "<init>", desc := "()V" } : Jvm.MethodName) prog_8_method_1_code (1 : Nat) (Option.none : Option Jvm.ClassFile.FieldType)) ∈ TB := List.mem_filter.mpr ⟨List.mem_of_getElem? (i := 53) (by decide +kernel), by decide +kernel⟩
theorem kw_54 : (Jvm.Cond.methodLink "ShardRows$TestRows" (3 : Nat) ({ cls := "java/lang/Object", name := "<init>", desc := "()V" } : Jvm.MethodName)) ∈ TB := List.mem_filter.mpr ⟨List.mem_of_getElem? (i := 54) (by decide +kernel), by decide +kernel⟩
theorem kw_55 : (Jvm.Cond.fieldLink "ShardRows$TestRows" (18 : Nat) "ShardRows$TestRows" "count" "I") ∈ TB := List.mem_filter.mpr ⟨List.mem_of_getElem? (i := 55) (by decide +kernel), by decide +kernel⟩
theorem kw_56 : (Jvm.Cond.fieldLink "ShardRows$GroupRows" (34 : Nat) "ShardRows$TestRows" "count" "I") ∈ TB := List.mem_filter.mpr ⟨List.mem_of_getElem? (i := 56) (by decide +kernel), by decide +kernel⟩
theorem kw_57 : (Jvm.Cond.fieldLink "ShardRows$TestRows" (9 : Nat) "ShardRows$TestRows" "times" "[I") ∈ TB := List.mem_filter.mpr ⟨List.mem_of_getElem? (i := 57) (by decide +kernel), by decide +kernel⟩
theorem kw_58 : (Jvm.Cond.fieldLink "ShardRows$GroupRows" (46 : Nat) "ShardRows$TestRows" "times" "[I") ∈ TB := List.mem_filter.mpr ⟨List.mem_of_getElem? (i := 58) (by decide +kernel), by decide +kernel⟩
theorem kw_59 : (Jvm.Cond.fieldLink "ShardRows$TestRows" (15 : Nat) "ShardRows$TestRows" "firsts" "[I") ∈ TB := List.mem_filter.mpr ⟨List.mem_of_getElem? (i := 59) (by decide +kernel), by decide +kernel⟩
theorem kw_60 : (Jvm.Cond.fieldLink "ShardRows$GroupRows" (38 : Nat) "ShardRows$TestRows" "firsts" "[I") ∈ TB := List.mem_filter.mpr ⟨List.mem_of_getElem? (i := 60) (by decide +kernel), by decide +kernel⟩
theorem kw_68 : (Jvm.Cond.arrayClass Jvm.ClassFile.FieldType.int) ∈ TB := List.mem_filter.mpr ⟨List.mem_of_getElem? (i := 68) (by decide +kernel), by decide +kernel⟩
theorem kw_69 : (Jvm.Cond.classLink "ShardRows" (29 : Nat) "ShardRows$GroupRows") ∈ TB := List.mem_filter.mpr ⟨List.mem_of_getElem? (i := 69) (by decide +kernel), by decide +kernel⟩
theorem kw_70 : (Jvm.Cond.instantiable "ShardRows$GroupRows" (6 : Nat)) ∈ TB := List.mem_filter.mpr ⟨List.mem_of_getElem? (i := 70) (by decide +kernel), by decide +kernel⟩
theorem kw_72 : (Jvm.Cond.instanceMethod ({ cls := "ShardRows$GroupRows", name := "<init>", desc := "()V" } : Jvm.MethodName)) ∈ TB := List.mem_filter.mpr ⟨List.mem_of_getElem? (i := 72) (by decide +kernel), by decide +kernel⟩
theorem kw_73 : (Jvm.Cond.code ({ cls := "ShardRows$GroupRows", name := "<init>", desc := "()V" } : Jvm.MethodName) prog_4_method_1_code (1 : Nat) (Option.none : Option Jvm.ClassFile.FieldType)) ∈ TB := List.mem_filter.mpr ⟨List.mem_of_getElem? (i := 73) (by decide +kernel), by decide +kernel⟩
theorem kw_74 : (Jvm.Cond.methodLink "ShardRows$GroupRows" (3 : Nat) ({ cls := "java/lang/Object", name := "<init>", desc := "()V" } : Jvm.MethodName)) ∈ TB := List.mem_filter.mpr ⟨List.mem_of_getElem? (i := 74) (by decide +kernel), by decide +kernel⟩
theorem kw_75 : (Jvm.Cond.fieldLink "ShardRows$GroupRows" (30 : Nat) "ShardRows$GroupRows" "count" "I") ∈ TB := List.mem_filter.mpr ⟨List.mem_of_getElem? (i := 75) (by decide +kernel), by decide +kernel⟩
theorem kw_76 : (Jvm.Cond.fieldLink "ShardRows$Search" (42 : Nat) "ShardRows$GroupRows" "count" "I") ∈ TB := List.mem_filter.mpr ⟨List.mem_of_getElem? (i := 76) (by decide +kernel), by decide +kernel⟩
theorem kw_77 : (Jvm.Cond.fieldLink "ShardRows$Greedy" (31 : Nat) "ShardRows$GroupRows" "count" "I") ∈ TB := List.mem_filter.mpr ⟨List.mem_of_getElem? (i := 77) (by decide +kernel), by decide +kernel⟩
theorem kw_78 : (Jvm.Cond.fieldLink "ShardRows$SplitRows" (47 : Nat) "ShardRows$GroupRows" "count" "I") ∈ TB := List.mem_filter.mpr ⟨List.mem_of_getElem? (i := 78) (by decide +kernel), by decide +kernel⟩
theorem kw_79 : (Jvm.Cond.fieldLink "ShardRows" (93 : Nat) "ShardRows$GroupRows" "count" "I") ∈ TB := List.mem_filter.mpr ⟨List.mem_of_getElem? (i := 79) (by decide +kernel), by decide +kernel⟩
theorem kw_80 : (Jvm.Cond.fieldLink "ShardRows$GroupRows" (35 : Nat) "ShardRows$GroupRows" "testCount" "I") ∈ TB := List.mem_filter.mpr ⟨List.mem_of_getElem? (i := 80) (by decide +kernel), by decide +kernel⟩
theorem kw_81 : (Jvm.Cond.fieldLink "ShardRows$Search" (93 : Nat) "ShardRows$GroupRows" "testCount" "I") ∈ TB := List.mem_filter.mpr ⟨List.mem_of_getElem? (i := 81) (by decide +kernel), by decide +kernel⟩
theorem kw_82 : (Jvm.Cond.fieldLink "ShardRows$SplitRows" (62 : Nat) "ShardRows$GroupRows" "testCount" "I") ∈ TB := List.mem_filter.mpr ⟨List.mem_of_getElem? (i := 82) (by decide +kernel), by decide +kernel⟩
theorem kw_83 : (Jvm.Cond.fieldLink "ShardRows$GroupRows" (9 : Nat) "ShardRows$GroupRows" "firsts" "[I") ∈ TB := List.mem_filter.mpr ⟨List.mem_of_getElem? (i := 83) (by decide +kernel), by decide +kernel⟩
theorem kw_84 : (Jvm.Cond.fieldLink "ShardRows$Greedy" (40 : Nat) "ShardRows$GroupRows" "firsts" "[I") ∈ TB := List.mem_filter.mpr ⟨List.mem_of_getElem? (i := 84) (by decide +kernel), by decide +kernel⟩
theorem kw_85 : (Jvm.Cond.fieldLink "ShardRows$Search" (90 : Nat) "ShardRows$GroupRows" "firsts" "[I") ∈ TB := List.mem_filter.mpr ⟨List.mem_of_getElem? (i := 85) (by decide +kernel), by decide +kernel⟩
theorem kw_86 : (Jvm.Cond.fieldLink "ShardRows$GroupRows" (15 : Nat) "ShardRows$GroupRows" "times" "[I") ∈ TB := List.mem_filter.mpr ⟨List.mem_of_getElem? (i := 86) (by decide +kernel), by decide +kernel⟩
theorem kw_87 : (Jvm.Cond.fieldLink "ShardRows$Search" (50 : Nat) "ShardRows$GroupRows" "times" "[I") ∈ TB := List.mem_filter.mpr ⟨List.mem_of_getElem? (i := 87) (by decide +kernel), by decide +kernel⟩
theorem kw_88 : (Jvm.Cond.fieldLink "ShardRows$Greedy" (55 : Nat) "ShardRows$GroupRows" "times" "[I") ∈ TB := List.mem_filter.mpr ⟨List.mem_of_getElem? (i := 88) (by decide +kernel), by decide +kernel⟩
theorem kw_89 : (Jvm.Cond.fieldLink "ShardRows$SplitRows" (55 : Nat) "ShardRows$GroupRows" "times" "[I") ∈ TB := List.mem_filter.mpr ⟨List.mem_of_getElem? (i := 89) (by decide +kernel), by decide +kernel⟩
theorem kw_90 : (Jvm.Cond.fieldLink "ShardRows$GroupRows" (18 : Nat) "ShardRows$GroupRows" "shards" "[I") ∈ TB := List.mem_filter.mpr ⟨List.mem_of_getElem? (i := 90) (by decide +kernel), by decide +kernel⟩
theorem kw_91 : (Jvm.Cond.fieldLink "ShardRows$Greedy" (52 : Nat) "ShardRows$GroupRows" "shards" "[I") ∈ TB := List.mem_filter.mpr ⟨List.mem_of_getElem? (i := 91) (by decide +kernel), by decide +kernel⟩
theorem kw_92 : (Jvm.Cond.fieldLink "ShardRows$Search" (87 : Nat) "ShardRows$GroupRows" "shards" "[I") ∈ TB := List.mem_filter.mpr ⟨List.mem_of_getElem? (i := 92) (by decide +kernel), by decide +kernel⟩
theorem kw_93 : (Jvm.Cond.fieldLink "ShardRows$SplitRows" (52 : Nat) "ShardRows$GroupRows" "shards" "[I") ∈ TB := List.mem_filter.mpr ⟨List.mem_of_getElem? (i := 93) (by decide +kernel), by decide +kernel⟩
theorem kw_94 : (Jvm.Cond.fieldLink "ShardRows$GroupRows" (21 : Nat) "ShardRows$GroupRows" "groupOf" "[I") ∈ TB := List.mem_filter.mpr ⟨List.mem_of_getElem? (i := 94) (by decide +kernel), by decide +kernel⟩
theorem kw_108 : (Jvm.Cond.classLink "ShardRows" (36 : Nat) "ShardRows$Search") ∈ TB := List.mem_filter.mpr ⟨List.mem_of_getElem? (i := 108) (by decide +kernel), by decide +kernel⟩
theorem kw_109 : (Jvm.Cond.instantiable "ShardRows$Search" (10 : Nat)) ∈ TB := List.mem_filter.mpr ⟨List.mem_of_getElem? (i := 109) (by decide +kernel), by decide +kernel⟩
theorem kw_111 : (Jvm.Cond.instanceMethod ({ cls := "ShardRows$Search", name := "<init>", desc := "()V" } : Jvm.MethodName)) ∈ TB := List.mem_filter.mpr ⟨List.mem_of_getElem? (i := 111) (by decide +kernel), by decide +kernel⟩
theorem kw_112 : (Jvm.Cond.code ({ cls := "ShardRows$Search", name := "<init>", desc := "()V" } : Jvm.MethodName) prog_6_method_1_code (1 : Nat) (Option.none : Option Jvm.ClassFile.FieldType)) ∈ TB := List.mem_filter.mpr ⟨List.mem_of_getElem? (i := 112) (by decide +kernel), by decide +kernel⟩
theorem kw_113 : (Jvm.Cond.methodLink "ShardRows$Search" (3 : Nat) ({ cls := "java/lang/Object", name := "<init>", desc := "()V" } : Jvm.MethodName)) ∈ TB := List.mem_filter.mpr ⟨List.mem_of_getElem? (i := 113) (by decide +kernel), by decide +kernel⟩
theorem kw_114 : (Jvm.Cond.classLink "ShardRows$Search" (24 : Nat) "[[I") ∈ TB := List.mem_filter.mpr ⟨List.mem_of_getElem? (i := 114) (by decide +kernel), by decide +kernel⟩
theorem kw_116 : (Jvm.Cond.fieldLink "ShardRows$Search" (38 : Nat) "ShardRows$Search" "shardCount" "I") ∈ TB := List.mem_filter.mpr ⟨List.mem_of_getElem? (i := 116) (by decide +kernel), by decide +kernel⟩
theorem kw_117 : (Jvm.Cond.fieldLink "ShardRows$Search" (47 : Nat) "ShardRows$Search" "groupCount" "I") ∈ TB := List.mem_filter.mpr ⟨List.mem_of_getElem? (i := 117) (by decide +kernel), by decide +kernel⟩
theorem kw_118 : (Jvm.Cond.fieldLink "ShardRows$Search" (73 : Nat) "ShardRows$Search" "leastLength" "I") ∈ TB := List.mem_filter.mpr ⟨List.mem_of_getElem? (i := 118) (by decide +kernel), by decide +kernel⟩
theorem kw_119 : (Jvm.Cond.fieldLink "ShardRows$Search" (80 : Nat) "ShardRows$Search" "leastMoves" "I") ∈ TB := List.mem_filter.mpr ⟨List.mem_of_getElem? (i := 119) (by decide +kernel), by decide +kernel⟩
theorem kw_120 : (Jvm.Cond.fieldLink "ShardRows$Search" (9 : Nat) "ShardRows$Search" "times" "[I") ∈ TB := List.mem_filter.mpr ⟨List.mem_of_getElem? (i := 120) (by decide +kernel), by decide +kernel⟩
theorem kw_121 : (Jvm.Cond.fieldLink "ShardRows$Search" (15 : Nat) "ShardRows$Search" "sums" "[I") ∈ TB := List.mem_filter.mpr ⟨List.mem_of_getElem? (i := 121) (by decide +kernel), by decide +kernel⟩
theorem kw_122 : (Jvm.Cond.fieldLink "ShardRows$Search" (18 : Nat) "ShardRows$Search" "trial" "[I") ∈ TB := List.mem_filter.mpr ⟨List.mem_of_getElem? (i := 122) (by decide +kernel), by decide +kernel⟩
theorem kw_123 : (Jvm.Cond.fieldLink "ShardRows$Search" (21 : Nat) "ShardRows$Search" "best" "[I") ∈ TB := List.mem_filter.mpr ⟨List.mem_of_getElem? (i := 123) (by decide +kernel), by decide +kernel⟩
theorem kw_124 : (Jvm.Cond.fieldLink "ShardRows$Search" (26 : Nat) "ShardRows$Search" "moves" "[[I") ∈ TB := List.mem_filter.mpr ⟨List.mem_of_getElem? (i := 124) (by decide +kernel), by decide +kernel⟩
theorem kw_125 : (Jvm.Cond.fieldLink "ShardRows$Search" (29 : Nat) "ShardRows$Search" "movesFrom" "[I") ∈ TB := List.mem_filter.mpr ⟨List.mem_of_getElem? (i := 125) (by decide +kernel), by decide +kernel⟩
theorem kw_147 : (Jvm.Cond.classLink "ShardRows" (43 : Nat) "ShardRows$Greedy") ∈ TB := List.mem_filter.mpr ⟨List.mem_of_getElem? (i := 147) (by decide +kernel), by decide +kernel⟩
theorem kw_148 : (Jvm.Cond.instantiable "ShardRows$Greedy" (2 : Nat)) ∈ TB := List.mem_filter.mpr ⟨List.mem_of_getElem? (i := 148) (by decide +kernel), by decide +kernel⟩
theorem kw_150 : (Jvm.Cond.instanceMethod ({ cls := "ShardRows$Greedy", name := "<init>", desc := "()V" } : Jvm.MethodName)) ∈ TB := List.mem_filter.mpr ⟨List.mem_of_getElem? (i := 150) (by decide +kernel), by decide +kernel⟩
theorem kw_151 : (Jvm.Cond.code ({ cls := "ShardRows$Greedy", name := "<init>", desc := "()V" } : Jvm.MethodName) prog_3_method_1_code (1 : Nat) (Option.none : Option Jvm.ClassFile.FieldType)) ∈ TB := List.mem_filter.mpr ⟨List.mem_of_getElem? (i := 151) (by decide +kernel), by decide +kernel⟩
theorem kw_152 : (Jvm.Cond.methodLink "ShardRows$Greedy" (3 : Nat) ({ cls := "java/lang/Object", name := "<init>", desc := "()V" } : Jvm.MethodName)) ∈ TB := List.mem_filter.mpr ⟨List.mem_of_getElem? (i := 152) (by decide +kernel), by decide +kernel⟩
theorem kw_153 : (Jvm.Cond.fieldLink "ShardRows$Greedy" (21 : Nat) "ShardRows$Greedy" "shardCount" "I") ∈ TB := List.mem_filter.mpr ⟨List.mem_of_getElem? (i := 153) (by decide +kernel), by decide +kernel⟩
theorem kw_154 : (Jvm.Cond.fieldLink "ShardRows$Greedy" (9 : Nat) "ShardRows$Greedy" "sums" "[I") ∈ TB := List.mem_filter.mpr ⟨List.mem_of_getElem? (i := 154) (by decide +kernel), by decide +kernel⟩
theorem kw_160 : (Jvm.Cond.classLink "ShardRows" (50 : Nat) "ShardRows$SplitRows") ∈ TB := List.mem_filter.mpr ⟨List.mem_of_getElem? (i := 160) (by decide +kernel), by decide +kernel⟩
theorem kw_161 : (Jvm.Cond.instantiable "ShardRows$SplitRows" (5 : Nat)) ∈ TB := List.mem_filter.mpr ⟨List.mem_of_getElem? (i := 161) (by decide +kernel), by decide +kernel⟩
theorem kw_162 : (Jvm.Cond.methodLink "ShardRows" (52 : Nat) ({ cls := "ShardRows$SplitRows", name := "<init>", desc := "()V" } : Jvm.MethodName)) ∈ TB := List.mem_filter.mpr ⟨List.mem_of_getElem? (i := 162) (by decide +kernel), by decide +kernel⟩
theorem kw_163 : (Jvm.Cond.instanceMethod ({ cls := "ShardRows$SplitRows", name := "<init>", desc := "()V" } : Jvm.MethodName)) ∈ TB := List.mem_filter.mpr ⟨List.mem_of_getElem? (i := 163) (by decide +kernel), by decide +kernel⟩
theorem kw_164 : (Jvm.Cond.code ({ cls := "ShardRows$SplitRows", name := "<init>", desc := "()V" } : Jvm.MethodName) prog_7_method_1_code (1 : Nat) (Option.none : Option Jvm.ClassFile.FieldType)) ∈ TB := List.mem_filter.mpr ⟨List.mem_of_getElem? (i := 164) (by decide +kernel), by decide +kernel⟩
theorem kw_165 : (Jvm.Cond.methodLink "ShardRows$SplitRows" (3 : Nat) ({ cls := "java/lang/Object", name := "<init>", desc := "()V" } : Jvm.MethodName)) ∈ TB := List.mem_filter.mpr ⟨List.mem_of_getElem? (i := 165) (by decide +kernel), by decide +kernel⟩
theorem kw_166 : (Jvm.Cond.methodLink "ShardRows$SplitRows" (21 : Nat) ({ cls := "java/util/Arrays", name := "fill", desc := "([II)V" } : Jvm.MethodName)) ∈ TB := List.mem_filter.mpr ⟨List.mem_of_getElem? (i := 166) (by decide +kernel), by decide +kernel⟩
theorem kw_167 : (Jvm.Cond.static ({ cls := "java/util/Arrays", name := "fill", desc := "([II)V" } : Jvm.MethodName)) ∈ TB := List.mem_filter.mpr ⟨List.mem_of_getElem? (i := 167) (by decide +kernel), by decide +kernel⟩
theorem kw_168 : (Jvm.Cond.code ({ cls := "java/util/Arrays", name := "fill", desc := "([II)V" } : Jvm.MethodName) prog_13_method_103_code (4 : Nat) (Option.none : Option Jvm.ClassFile.FieldType)) ∈ TB := List.mem_filter.mpr ⟨List.mem_of_getElem? (i := 168) (by decide +kernel), by decide +kernel⟩
theorem kw_169 : (Jvm.Cond.fieldLink "ShardRows$SplitRows" (27 : Nat) "ShardRows$SplitRows" "shardCount" "I") ∈ TB := List.mem_filter.mpr ⟨List.mem_of_getElem? (i := 169) (by decide +kernel), by decide +kernel⟩
theorem kw_170 : (Jvm.Cond.fieldLink "ShardRows" (125 : Nat) "ShardRows$SplitRows" "shardCount" "I") ∈ TB := List.mem_filter.mpr ⟨List.mem_of_getElem? (i := 170) (by decide +kernel), by decide +kernel⟩
theorem kw_171 : (Jvm.Cond.fieldLink "ShardRows$SplitRows" (44 : Nat) "ShardRows$SplitRows" "movedCount" "I") ∈ TB := List.mem_filter.mpr ⟨List.mem_of_getElem? (i := 171) (by decide +kernel), by decide +kernel⟩
theorem kw_172 : (Jvm.Cond.fieldLink "ShardRows" (122 : Nat) "ShardRows$SplitRows" "movedCount" "I") ∈ TB := List.mem_filter.mpr ⟨List.mem_of_getElem? (i := 172) (by decide +kernel), by decide +kernel⟩
theorem kw_173 : (Jvm.Cond.fieldLink "ShardRows$SplitRows" (9 : Nat) "ShardRows$SplitRows" "sums" "[I") ∈ TB := List.mem_filter.mpr ⟨List.mem_of_getElem? (i := 173) (by decide +kernel), by decide +kernel⟩
theorem kw_174 : (Jvm.Cond.fieldLink "ShardRows" (118 : Nat) "ShardRows$SplitRows" "sums" "[I") ∈ TB := List.mem_filter.mpr ⟨List.mem_of_getElem? (i := 174) (by decide +kernel), by decide +kernel⟩
theorem kw_175 : (Jvm.Cond.fieldLink "ShardRows$SplitRows" (15 : Nat) "ShardRows$SplitRows" "sizes" "[I") ∈ TB := List.mem_filter.mpr ⟨List.mem_of_getElem? (i := 175) (by decide +kernel), by decide +kernel⟩
theorem kw_176 : (Jvm.Cond.fieldLink "ShardRows" (128 : Nat) "ShardRows$SplitRows" "sizes" "[I") ∈ TB := List.mem_filter.mpr ⟨List.mem_of_getElem? (i := 176) (by decide +kernel), by decide +kernel⟩
theorem kw_177 : (Jvm.Cond.fieldLink "ShardRows$SplitRows" (18 : Nat) "ShardRows$SplitRows" "shardOf" "[I") ∈ TB := List.mem_filter.mpr ⟨List.mem_of_getElem? (i := 177) (by decide +kernel), by decide +kernel⟩
theorem kw_189 : (Jvm.Cond.classLink "ShardRows" (57 : Nat) "ShardRows$ResultRows") ∈ TB := List.mem_filter.mpr ⟨List.mem_of_getElem? (i := 189) (by decide +kernel), by decide +kernel⟩
theorem kw_190 : (Jvm.Cond.instantiable "ShardRows$ResultRows" (4 : Nat)) ∈ TB := List.mem_filter.mpr ⟨List.mem_of_getElem? (i := 190) (by decide +kernel), by decide +kernel⟩
theorem kw_192 : (Jvm.Cond.instanceMethod ({ cls := "ShardRows$ResultRows", name := "<init>", desc := "()V" } : Jvm.MethodName)) ∈ TB := List.mem_filter.mpr ⟨List.mem_of_getElem? (i := 192) (by decide +kernel), by decide +kernel⟩
theorem kw_193 : (Jvm.Cond.code ({ cls := "ShardRows$ResultRows", name := "<init>", desc := "()V" } : Jvm.MethodName) prog_5_method_1_code (1 : Nat) (Option.none : Option Jvm.ClassFile.FieldType)) ∈ TB := List.mem_filter.mpr ⟨List.mem_of_getElem? (i := 193) (by decide +kernel), by decide +kernel⟩
theorem kw_194 : (Jvm.Cond.methodLink "ShardRows$ResultRows" (3 : Nat) ({ cls := "java/lang/Object", name := "<init>", desc := "()V" } : Jvm.MethodName)) ∈ TB := List.mem_filter.mpr ⟨List.mem_of_getElem? (i := 194) (by decide +kernel), by decide +kernel⟩
theorem kw_195 : (Jvm.Cond.fieldLink "ShardRows$ResultRows" (22 : Nat) "ShardRows$ResultRows" "strangers" "I") ∈ TB := List.mem_filter.mpr ⟨List.mem_of_getElem? (i := 195) (by decide +kernel), by decide +kernel⟩
theorem kw_196 : (Jvm.Cond.fieldLink "ShardRows" (142 : Nat) "ShardRows$ResultRows" "strangers" "I") ∈ TB := List.mem_filter.mpr ⟨List.mem_of_getElem? (i := 196) (by decide +kernel), by decide +kernel⟩
theorem kw_197 : (Jvm.Cond.fieldLink "ShardRows$ResultRows" (9 : Nat) "ShardRows$ResultRows" "present" "[Z") ∈ TB := List.mem_filter.mpr ⟨List.mem_of_getElem? (i := 197) (by decide +kernel), by decide +kernel⟩
theorem kw_198 : (Jvm.Cond.fieldLink "ShardRows$ResultRows" (15 : Nat) "ShardRows$ResultRows" "values" "[I") ∈ TB := List.mem_filter.mpr ⟨List.mem_of_getElem? (i := 198) (by decide +kernel), by decide +kernel⟩
theorem kw_199 : (Jvm.Cond.fieldLink "ShardRows$ResultRows" (19 : Nat) "ShardRows$ResultRows" "tryCounts" "[I") ∈ TB := List.mem_filter.mpr ⟨List.mem_of_getElem? (i := 199) (by decide +kernel), by decide +kernel⟩
theorem kw_209 : (Jvm.Cond.arrayClass Jvm.ClassFile.FieldType.boolean) ∈ TB := List.mem_filter.mpr ⟨List.mem_of_getElem? (i := 209) (by decide +kernel), by decide +kernel⟩
theorem kw_210 : (Jvm.Cond.classLink "ShardRows" (64 : Nat) "ShardRows$DrawRow") ∈ TB := List.mem_filter.mpr ⟨List.mem_of_getElem? (i := 210) (by decide +kernel), by decide +kernel⟩
theorem kw_211 : (Jvm.Cond.instantiable "ShardRows$DrawRow" (2 : Nat)) ∈ TB := List.mem_filter.mpr ⟨List.mem_of_getElem? (i := 211) (by decide +kernel), by decide +kernel⟩
theorem kw_213 : (Jvm.Cond.instanceMethod ({ cls := "ShardRows$DrawRow", name := "<init>", desc := "()V" } : Jvm.MethodName)) ∈ TB := List.mem_filter.mpr ⟨List.mem_of_getElem? (i := 213) (by decide +kernel), by decide +kernel⟩
theorem kw_214 : (Jvm.Cond.code ({ cls := "ShardRows$DrawRow", name := "<init>", desc := "()V" } : Jvm.MethodName) prog_2_method_1_code (1 : Nat) (Option.none : Option Jvm.ClassFile.FieldType)) ∈ TB := List.mem_filter.mpr ⟨List.mem_of_getElem? (i := 214) (by decide +kernel), by decide +kernel⟩
theorem kw_215 : (Jvm.Cond.methodLink "ShardRows$DrawRow" (3 : Nat) ({ cls := "java/lang/Object", name := "<init>", desc := "()V" } : Jvm.MethodName)) ∈ TB := List.mem_filter.mpr ⟨List.mem_of_getElem? (i := 215) (by decide +kernel), by decide +kernel⟩
theorem kw_216 : (Jvm.Cond.fieldLink "ShardRows$DrawRow" (15 : Nat) "ShardRows$DrawRow" "count" "I") ∈ TB := List.mem_filter.mpr ⟨List.mem_of_getElem? (i := 216) (by decide +kernel), by decide +kernel⟩
theorem kw_217 : (Jvm.Cond.fieldLink "ShardRows" (138 : Nat) "ShardRows$DrawRow" "count" "I") ∈ TB := List.mem_filter.mpr ⟨List.mem_of_getElem? (i := 217) (by decide +kernel), by decide +kernel⟩
theorem kw_218 : (Jvm.Cond.fieldLink "ShardRows$DrawRow" (9 : Nat) "ShardRows$DrawRow" "row" "[I") ∈ TB := List.mem_filter.mpr ⟨List.mem_of_getElem? (i := 218) (by decide +kernel), by decide +kernel⟩
theorem kw_224 : (Jvm.Cond.fieldLink "ShardRows" (25 : Nat) "ShardRows" "testRows" "LShardRows$TestRows;") ∈ TB := List.mem_filter.mpr ⟨List.mem_of_getElem? (i := 224) (by decide +kernel), by decide +kernel⟩
theorem kw_225 : (Jvm.Cond.fieldLink "ShardRows" (32 : Nat) "ShardRows" "groupRows" "LShardRows$GroupRows;") ∈ TB := List.mem_filter.mpr ⟨List.mem_of_getElem? (i := 225) (by decide +kernel), by decide +kernel⟩
theorem kw_226 : (Jvm.Cond.fieldLink "ShardRows" (39 : Nat) "ShardRows" "search" "LShardRows$Search;") ∈ TB := List.mem_filter.mpr ⟨List.mem_of_getElem? (i := 226) (by decide +kernel), by decide +kernel⟩
theorem kw_227 : (Jvm.Cond.fieldLink "ShardRows" (46 : Nat) "ShardRows" "greedy" "LShardRows$Greedy;") ∈ TB := List.mem_filter.mpr ⟨List.mem_of_getElem? (i := 227) (by decide +kernel), by decide +kernel⟩
theorem kw_228 : (Jvm.Cond.fieldLink "ShardRows" (53 : Nat) "ShardRows" "latest" "LShardRows$SplitRows;") ∈ TB := List.mem_filter.mpr ⟨List.mem_of_getElem? (i := 228) (by decide +kernel), by decide +kernel⟩
theorem kw_229 : (Jvm.Cond.fieldLink "ShardRows" (60 : Nat) "ShardRows" "results" "LShardRows$ResultRows;") ∈ TB := List.mem_filter.mpr ⟨List.mem_of_getElem? (i := 229) (by decide +kernel), by decide +kernel⟩
theorem kw_230 : (Jvm.Cond.fieldLink "ShardRows" (67 : Nat) "ShardRows" "order" "LShardRows$DrawRow;") ∈ TB := List.mem_filter.mpr ⟨List.mem_of_getElem? (i := 230) (by decide +kernel), by decide +kernel⟩
theorem kw_231 : (Jvm.Cond.fieldLink "ShardRows" (18 : Nat) "ShardRows" "nextShards" "I") ∈ TB := List.mem_filter.mpr ⟨List.mem_of_getElem? (i := 231) (by decide +kernel), by decide +kernel⟩
theorem kw_249 : (Jvm.Cond.methodLink "ShardRowsLaw" (21 : Nat) ({ cls := "ShardRows", name := "test", desc := "(I)I" } : Jvm.MethodName)) ∈ TB := List.mem_filter.mpr ⟨List.mem_of_getElem? (i := 249) (by decide +kernel), by decide +kernel⟩
theorem kw_250 : (Jvm.Cond.instanceMethod ({ cls := "ShardRows", name := "test", desc := "(I)I" } : Jvm.MethodName)) ∈ TB := List.mem_filter.mpr ⟨List.mem_of_getElem? (i := 250) (by decide +kernel), by decide +kernel⟩
theorem kw_251 : (Jvm.Cond.selects "ShardRows" ({ cls := "ShardRows", name := "test", desc := "(I)I" } : Jvm.MethodName) ({ cls := "ShardRows", name := "test", desc := "(I)I" } : Jvm.MethodName)) ∈ TB := List.mem_filter.mpr ⟨List.mem_of_getElem? (i := 251) (by decide +kernel), by decide +kernel⟩
theorem kw_252 : (Jvm.Cond.code ({ cls := "ShardRows", name := "test", desc := "(I)I" } : Jvm.MethodName) prog_1_method_2_code (2 : Nat) (Option.some Jvm.ClassFile.FieldType.int)) ∈ TB := List.mem_filter.mpr ⟨List.mem_of_getElem? (i := 252) (by decide +kernel), by decide +kernel⟩
theorem kw_253 : (Jvm.Cond.methodLink "ShardRows" (71 : Nat) ({ cls := "ShardRows$TestRows", name := "add", desc := "(I)I" } : Jvm.MethodName)) ∈ TB := List.mem_filter.mpr ⟨List.mem_of_getElem? (i := 253) (by decide +kernel), by decide +kernel⟩
theorem kw_254 : (Jvm.Cond.instanceMethod ({ cls := "ShardRows$TestRows", name := "add", desc := "(I)I" } : Jvm.MethodName)) ∈ TB := List.mem_filter.mpr ⟨List.mem_of_getElem? (i := 254) (by decide +kernel), by decide +kernel⟩
theorem kw_255 : (Jvm.Cond.selects "ShardRows$TestRows" ({ cls := "ShardRows$TestRows", name := "add", desc := "(I)I" } : Jvm.MethodName) ({ cls := "ShardRows$TestRows", name := "add", desc := "(I)I" } : Jvm.MethodName)) ∈ TB := List.mem_filter.mpr ⟨List.mem_of_getElem? (i := 255) (by decide +kernel), by decide +kernel⟩
theorem kw_256 : (Jvm.Cond.code ({ cls := "ShardRows$TestRows", name := "add", desc := "(I)I" } : Jvm.MethodName) prog_8_method_3_code (3 : Nat) (Option.some Jvm.ClassFile.FieldType.int)) ∈ TB := List.mem_filter.mpr ⟨List.mem_of_getElem? (i := 256) (by decide +kernel), by decide +kernel⟩
theorem kw_257 : (Jvm.Cond.methodLink "ShardRows$TestRows" (22 : Nat) ({ cls := "ShardRows$TestRows", name := "isTime", desc := "(I)Z" } : Jvm.MethodName)) ∈ TB := List.mem_filter.mpr ⟨List.mem_of_getElem? (i := 257) (by decide +kernel), by decide +kernel⟩
theorem kw_258 : (Jvm.Cond.static ({ cls := "ShardRows$TestRows", name := "isTime", desc := "(I)Z" } : Jvm.MethodName)) ∈ TB := List.mem_filter.mpr ⟨List.mem_of_getElem? (i := 258) (by decide +kernel), by decide +kernel⟩
theorem kw_259 : (Jvm.Cond.code ({ cls := "ShardRows$TestRows", name := "isTime", desc := "(I)Z" } : Jvm.MethodName) prog_8_method_8_code (1 : Nat) (Option.some Jvm.ClassFile.FieldType.boolean)) ∈ TB := List.mem_filter.mpr ⟨List.mem_of_getElem? (i := 259) (by decide +kernel), by decide +kernel⟩
theorem kw_260 : (Jvm.Cond.constant "ShardRows$TestRows" (38 : Nat) (100000 : Int32)) ∈ TB := List.mem_filter.mpr ⟨List.mem_of_getElem? (i := 260) (by decide +kernel), by decide +kernel⟩
theorem kw_261 : (Jvm.Cond.methodLink "ShardRowsLaw" (26 : Nat) ({ cls := "ShardRows", name := "time", desc := "(II)Z" } : Jvm.MethodName)) ∈ TB := List.mem_filter.mpr ⟨List.mem_of_getElem? (i := 261) (by decide +kernel), by decide +kernel⟩
theorem kw_262 : (Jvm.Cond.instanceMethod ({ cls := "ShardRows", name := "time", desc := "(II)Z" } : Jvm.MethodName)) ∈ TB := List.mem_filter.mpr ⟨List.mem_of_getElem? (i := 262) (by decide +kernel), by decide +kernel⟩
theorem kw_263 : (Jvm.Cond.selects "ShardRows" ({ cls := "ShardRows", name := "time", desc := "(II)Z" } : Jvm.MethodName) ({ cls := "ShardRows", name := "time", desc := "(II)Z" } : Jvm.MethodName)) ∈ TB := List.mem_filter.mpr ⟨List.mem_of_getElem? (i := 263) (by decide +kernel), by decide +kernel⟩
theorem kw_264 : (Jvm.Cond.code ({ cls := "ShardRows", name := "time", desc := "(II)Z" } : Jvm.MethodName) prog_1_method_3_code (3 : Nat) (Option.some Jvm.ClassFile.FieldType.boolean)) ∈ TB := List.mem_filter.mpr ⟨List.mem_of_getElem? (i := 264) (by decide +kernel), by decide +kernel⟩
theorem kw_265 : (Jvm.Cond.methodLink "ShardRows" (75 : Nat) ({ cls := "ShardRows$TestRows", name := "retime", desc := "(II)Z" } : Jvm.MethodName)) ∈ TB := List.mem_filter.mpr ⟨List.mem_of_getElem? (i := 265) (by decide +kernel), by decide +kernel⟩
theorem kw_266 : (Jvm.Cond.instanceMethod ({ cls := "ShardRows$TestRows", name := "retime", desc := "(II)Z" } : Jvm.MethodName)) ∈ TB := List.mem_filter.mpr ⟨List.mem_of_getElem? (i := 266) (by decide +kernel), by decide +kernel⟩
theorem kw_267 : (Jvm.Cond.selects "ShardRows$TestRows" ({ cls := "ShardRows$TestRows", name := "retime", desc := "(II)Z" } : Jvm.MethodName) ({ cls := "ShardRows$TestRows", name := "retime", desc := "(II)Z" } : Jvm.MethodName)) ∈ TB := List.mem_filter.mpr ⟨List.mem_of_getElem? (i := 267) (by decide +kernel), by decide +kernel⟩
theorem kw_268 : (Jvm.Cond.code ({ cls := "ShardRows$TestRows", name := "retime", desc := "(II)Z" } : Jvm.MethodName) prog_8_method_4_code (3 : Nat) (Option.some Jvm.ClassFile.FieldType.boolean)) ∈ TB := List.mem_filter.mpr ⟨List.mem_of_getElem? (i := 268) (by decide +kernel), by decide +kernel⟩
theorem kw_269 : (Jvm.Cond.methodLink "ShardRows$TestRows" (26 : Nat) ({ cls := "ShardRows$TestRows", name := "has", desc := "(I)Z" } : Jvm.MethodName)) ∈ TB := List.mem_filter.mpr ⟨List.mem_of_getElem? (i := 269) (by decide +kernel), by decide +kernel⟩
theorem kw_270 : (Jvm.Cond.instanceMethod ({ cls := "ShardRows$TestRows", name := "has", desc := "(I)Z" } : Jvm.MethodName)) ∈ TB := List.mem_filter.mpr ⟨List.mem_of_getElem? (i := 270) (by decide +kernel), by decide +kernel⟩
theorem kw_271 : (Jvm.Cond.selects "ShardRows$TestRows" ({ cls := "ShardRows$TestRows", name := "has", desc := "(I)Z" } : Jvm.MethodName) ({ cls := "ShardRows$TestRows", name := "has", desc := "(I)Z" } : Jvm.MethodName)) ∈ TB := List.mem_filter.mpr ⟨List.mem_of_getElem? (i := 271) (by decide +kernel), by decide +kernel⟩
theorem kw_272 : (Jvm.Cond.code ({ cls := "ShardRows$TestRows", name := "has", desc := "(I)Z" } : Jvm.MethodName) prog_8_method_2_code (2 : Nat) (Option.some Jvm.ClassFile.FieldType.boolean)) ∈ TB := List.mem_filter.mpr ⟨List.mem_of_getElem? (i := 272) (by decide +kernel), by decide +kernel⟩
theorem kw_273 : (Jvm.Cond.methodLink "ShardRowsLaw" (31 : Nat) ({ cls := "ShardRows", name := "join", desc := "(II)Z" } : Jvm.MethodName)) ∈ TB := List.mem_filter.mpr ⟨List.mem_of_getElem? (i := 273) (by decide +kernel), by decide +kernel⟩
theorem kw_274 : (Jvm.Cond.instanceMethod ({ cls := "ShardRows", name := "join", desc := "(II)Z" } : Jvm.MethodName)) ∈ TB := List.mem_filter.mpr ⟨List.mem_of_getElem? (i := 274) (by decide +kernel), by decide +kernel⟩
theorem kw_275 : (Jvm.Cond.selects "ShardRows" ({ cls := "ShardRows", name := "join", desc := "(II)Z" } : Jvm.MethodName) ({ cls := "ShardRows", name := "join", desc := "(II)Z" } : Jvm.MethodName)) ∈ TB := List.mem_filter.mpr ⟨List.mem_of_getElem? (i := 275) (by decide +kernel), by decide +kernel⟩
theorem kw_276 : (Jvm.Cond.code ({ cls := "ShardRows", name := "join", desc := "(II)Z" } : Jvm.MethodName) prog_1_method_4_code (3 : Nat) (Option.some Jvm.ClassFile.FieldType.boolean)) ∈ TB := List.mem_filter.mpr ⟨List.mem_of_getElem? (i := 276) (by decide +kernel), by decide +kernel⟩
theorem kw_277 : (Jvm.Cond.methodLink "ShardRows" (79 : Nat) ({ cls := "ShardRows$TestRows", name := "unite", desc := "(II)Z" } : Jvm.MethodName)) ∈ TB := List.mem_filter.mpr ⟨List.mem_of_getElem? (i := 277) (by decide +kernel), by decide +kernel⟩
theorem kw_278 : (Jvm.Cond.instanceMethod ({ cls := "ShardRows$TestRows", name := "unite", desc := "(II)Z" } : Jvm.MethodName)) ∈ TB := List.mem_filter.mpr ⟨List.mem_of_getElem? (i := 278) (by decide +kernel), by decide +kernel⟩
theorem kw_279 : (Jvm.Cond.selects "ShardRows$TestRows" ({ cls := "ShardRows$TestRows", name := "unite", desc := "(II)Z" } : Jvm.MethodName) ({ cls := "ShardRows$TestRows", name := "unite", desc := "(II)Z" } : Jvm.MethodName)) ∈ TB := List.mem_filter.mpr ⟨List.mem_of_getElem? (i := 279) (by decide +kernel), by decide +kernel⟩
theorem kw_280 : (Jvm.Cond.code ({ cls := "ShardRows$TestRows", name := "unite", desc := "(II)Z" } : Jvm.MethodName) prog_8_method_5_code (6 : Nat) (Option.some Jvm.ClassFile.FieldType.boolean)) ∈ TB := List.mem_filter.mpr ⟨List.mem_of_getElem? (i := 280) (by decide +kernel), by decide +kernel⟩
theorem kw_281 : (Jvm.Cond.methodLink "ShardRows$TestRows" (29 : Nat) ({ cls := "java/lang/Math", name := "min", desc := "(II)I" } : Jvm.MethodName)) ∈ TB := List.mem_filter.mpr ⟨List.mem_of_getElem? (i := 281) (by decide +kernel), by decide +kernel⟩
theorem kw_282 : (Jvm.Cond.methodLink "ShardRows$TestRows" (35 : Nat) ({ cls := "java/lang/Math", name := "max", desc := "(II)I" } : Jvm.MethodName)) ∈ TB := List.mem_filter.mpr ⟨List.mem_of_getElem? (i := 282) (by decide +kernel), by decide +kernel⟩
theorem kw_283 : (Jvm.Cond.methodLink "ShardRowsLaw" (35 : Nat) ({ cls := "ShardRows", name := "shards", desc := "(I)Z" } : Jvm.MethodName)) ∈ TB := List.mem_filter.mpr ⟨List.mem_of_getElem? (i := 283) (by decide +kernel), by decide +kernel⟩
theorem kw_284 : (Jvm.Cond.instanceMethod ({ cls := "ShardRows", name := "shards", desc := "(I)Z" } : Jvm.MethodName)) ∈ TB := List.mem_filter.mpr ⟨List.mem_of_getElem? (i := 284) (by decide +kernel), by decide +kernel⟩
theorem kw_285 : (Jvm.Cond.selects "ShardRows" ({ cls := "ShardRows", name := "shards", desc := "(I)Z" } : Jvm.MethodName) ({ cls := "ShardRows", name := "shards", desc := "(I)Z" } : Jvm.MethodName)) ∈ TB := List.mem_filter.mpr ⟨List.mem_of_getElem? (i := 285) (by decide +kernel), by decide +kernel⟩
theorem kw_286 : (Jvm.Cond.code ({ cls := "ShardRows", name := "shards", desc := "(I)Z" } : Jvm.MethodName) prog_1_method_5_code (2 : Nat) (Option.some Jvm.ClassFile.FieldType.boolean)) ∈ TB := List.mem_filter.mpr ⟨List.mem_of_getElem? (i := 286) (by decide +kernel), by decide +kernel⟩
theorem kw_287 : (Jvm.Cond.methodLink "ShardRowsLaw" (40 : Nat) ({ cls := "ShardRows", name := "mean", desc := "()I" } : Jvm.MethodName)) ∈ TB := List.mem_filter.mpr ⟨List.mem_of_getElem? (i := 287) (by decide +kernel), by decide +kernel⟩
theorem kw_288 : (Jvm.Cond.instanceMethod ({ cls := "ShardRows", name := "mean", desc := "()I" } : Jvm.MethodName)) ∈ TB := List.mem_filter.mpr ⟨List.mem_of_getElem? (i := 288) (by decide +kernel), by decide +kernel⟩
theorem kw_289 : (Jvm.Cond.selects "ShardRows" ({ cls := "ShardRows", name := "mean", desc := "()I" } : Jvm.MethodName) ({ cls := "ShardRows", name := "mean", desc := "()I" } : Jvm.MethodName)) ∈ TB := List.mem_filter.mpr ⟨List.mem_of_getElem? (i := 289) (by decide +kernel), by decide +kernel⟩
theorem kw_290 : (Jvm.Cond.code ({ cls := "ShardRows", name := "mean", desc := "()I" } : Jvm.MethodName) prog_1_method_6_code (1 : Nat) (Option.some Jvm.ClassFile.FieldType.int)) ∈ TB := List.mem_filter.mpr ⟨List.mem_of_getElem? (i := 290) (by decide +kernel), by decide +kernel⟩
theorem kw_291 : (Jvm.Cond.methodLink "ShardRows" (82 : Nat) ({ cls := "ShardRows$TestRows", name := "meanTime", desc := "()I" } : Jvm.MethodName)) ∈ TB := List.mem_filter.mpr ⟨List.mem_of_getElem? (i := 291) (by decide +kernel), by decide +kernel⟩
theorem kw_292 : (Jvm.Cond.instanceMethod ({ cls := "ShardRows$TestRows", name := "meanTime", desc := "()I" } : Jvm.MethodName)) ∈ TB := List.mem_filter.mpr ⟨List.mem_of_getElem? (i := 292) (by decide +kernel), by decide +kernel⟩
theorem kw_293 : (Jvm.Cond.selects "ShardRows$TestRows" ({ cls := "ShardRows$TestRows", name := "meanTime", desc := "()I" } : Jvm.MethodName) ({ cls := "ShardRows$TestRows", name := "meanTime", desc := "()I" } : Jvm.MethodName)) ∈ TB := List.mem_filter.mpr ⟨List.mem_of_getElem? (i := 293) (by decide +kernel), by decide +kernel⟩
theorem kw_294 : (Jvm.Cond.code ({ cls := "ShardRows$TestRows", name := "meanTime", desc := "()I" } : Jvm.MethodName) prog_8_method_6_code (4 : Nat) (Option.some Jvm.ClassFile.FieldType.int)) ∈ TB := List.mem_filter.mpr ⟨List.mem_of_getElem? (i := 294) (by decide +kernel), by decide +kernel⟩
theorem kw_295 : (Jvm.Cond.methodLink "ShardRowsLaw" (45 : Nat) ({ cls := "ShardRows", name := "groups", desc := "()I" } : Jvm.MethodName)) ∈ TB := List.mem_filter.mpr ⟨List.mem_of_getElem? (i := 295) (by decide +kernel), by decide +kernel⟩
theorem kw_296 : (Jvm.Cond.instanceMethod ({ cls := "ShardRows", name := "groups", desc := "()I" } : Jvm.MethodName)) ∈ TB := List.mem_filter.mpr ⟨List.mem_of_getElem? (i := 296) (by decide +kernel), by decide +kernel⟩
theorem kw_297 : (Jvm.Cond.selects "ShardRows" ({ cls := "ShardRows", name := "groups", desc := "()I" } : Jvm.MethodName) ({ cls := "ShardRows", name := "groups", desc := "()I" } : Jvm.MethodName)) ∈ TB := List.mem_filter.mpr ⟨List.mem_of_getElem? (i := 297) (by decide +kernel), by decide +kernel⟩
theorem kw_298 : (Jvm.Cond.code ({ cls := "ShardRows", name := "groups", desc := "()I" } : Jvm.MethodName) prog_1_method_7_code (1 : Nat) (Option.some Jvm.ClassFile.FieldType.int)) ∈ TB := List.mem_filter.mpr ⟨List.mem_of_getElem? (i := 298) (by decide +kernel), by decide +kernel⟩
theorem kw_299 : (Jvm.Cond.methodLink "ShardRows" (86 : Nat) ({ cls := "ShardRows$TestRows", name := "countGroups", desc := "()I" } : Jvm.MethodName)) ∈ TB := List.mem_filter.mpr ⟨List.mem_of_getElem? (i := 299) (by decide +kernel), by decide +kernel⟩
theorem kw_300 : (Jvm.Cond.instanceMethod ({ cls := "ShardRows$TestRows", name := "countGroups", desc := "()I" } : Jvm.MethodName)) ∈ TB := List.mem_filter.mpr ⟨List.mem_of_getElem? (i := 300) (by decide +kernel), by decide +kernel⟩
theorem kw_301 : (Jvm.Cond.selects "ShardRows$TestRows" ({ cls := "ShardRows$TestRows", name := "countGroups", desc := "()I" } : Jvm.MethodName) ({ cls := "ShardRows$TestRows", name := "countGroups", desc := "()I" } : Jvm.MethodName)) ∈ TB := List.mem_filter.mpr ⟨List.mem_of_getElem? (i := 301) (by decide +kernel), by decide +kernel⟩
theorem kw_302 : (Jvm.Cond.code ({ cls := "ShardRows$TestRows", name := "countGroups", desc := "()I" } : Jvm.MethodName) prog_8_method_7_code (3 : Nat) (Option.some Jvm.ClassFile.FieldType.int)) ∈ TB := List.mem_filter.mpr ⟨List.mem_of_getElem? (i := 302) (by decide +kernel), by decide +kernel⟩
theorem kw_303 : (Jvm.Cond.methodLink "ShardRowsLaw" (49 : Nat) ({ cls := "ShardRows", name := "split", desc := "()I" } : Jvm.MethodName)) ∈ TB := List.mem_filter.mpr ⟨List.mem_of_getElem? (i := 303) (by decide +kernel), by decide +kernel⟩
theorem kw_304 : (Jvm.Cond.instanceMethod ({ cls := "ShardRows", name := "split", desc := "()I" } : Jvm.MethodName)) ∈ TB := List.mem_filter.mpr ⟨List.mem_of_getElem? (i := 304) (by decide +kernel), by decide +kernel⟩
theorem kw_305 : (Jvm.Cond.selects "ShardRows" ({ cls := "ShardRows", name := "split", desc := "()I" } : Jvm.MethodName) ({ cls := "ShardRows", name := "split", desc := "()I" } : Jvm.MethodName)) ∈ TB := List.mem_filter.mpr ⟨List.mem_of_getElem? (i := 305) (by decide +kernel), by decide +kernel⟩
theorem kw_306 : (Jvm.Cond.code ({ cls := "ShardRows", name := "split", desc := "()I" } : Jvm.MethodName) prog_1_method_8_code (1 : Nat) (Option.some Jvm.ClassFile.FieldType.int)) ∈ TB := List.mem_filter.mpr ⟨List.mem_of_getElem? (i := 306) (by decide +kernel), by decide +kernel⟩
theorem kw_307 : (Jvm.Cond.methodLink "ShardRows" (89 : Nat) ({ cls := "ShardRows$GroupRows", name := "gather", desc := "(LShardRows$TestRows;)V" } : Jvm.MethodName)) ∈ TB := List.mem_filter.mpr ⟨List.mem_of_getElem? (i := 307) (by decide +kernel), by decide +kernel⟩
theorem kw_308 : (Jvm.Cond.instanceMethod ({ cls := "ShardRows$GroupRows", name := "gather", desc := "(LShardRows$TestRows;)V" } : Jvm.MethodName)) ∈ TB := List.mem_filter.mpr ⟨List.mem_of_getElem? (i := 308) (by decide +kernel), by decide +kernel⟩
theorem kw_309 : (Jvm.Cond.selects "ShardRows$GroupRows" ({ cls := "ShardRows$GroupRows", name := "gather", desc := "(LShardRows$TestRows;)V" } : Jvm.MethodName) ({ cls := "ShardRows$GroupRows", name := "gather", desc := "(LShardRows$TestRows;)V" } : Jvm.MethodName)) ∈ TB := List.mem_filter.mpr ⟨List.mem_of_getElem? (i := 309) (by decide +kernel), by decide +kernel⟩
theorem kw_310 : (Jvm.Cond.code ({ cls := "ShardRows$GroupRows", name := "gather", desc := "(LShardRows$TestRows;)V" } : Jvm.MethodName) prog_4_method_2_code (6 : Nat) (Option.none : Option Jvm.ClassFile.FieldType)) ∈ TB := List.mem_filter.mpr ⟨List.mem_of_getElem? (i := 310) (by decide +kernel), by decide +kernel⟩
theorem kw_311 : (Jvm.Cond.methodLink "ShardRows$GroupRows" (24 : Nat) ({ cls := "ShardRows$TestRows", name := "meanTime", desc := "()I" } : Jvm.MethodName)) ∈ TB := List.mem_filter.mpr ⟨List.mem_of_getElem? (i := 311) (by decide +kernel), by decide +kernel⟩
theorem kw_312 : (Jvm.Cond.methodLink "ShardRows$GroupRows" (39 : Nat) ({ cls := "ShardRows$GroupRows", name := "open", desc := "(I)I" } : Jvm.MethodName)) ∈ TB := List.mem_filter.mpr ⟨List.mem_of_getElem? (i := 312) (by decide +kernel), by decide +kernel⟩
theorem kw_314 : (Jvm.Cond.instanceMethod ({ cls := "ShardRows$GroupRows", name := "open", desc := "(I)I" } : Jvm.MethodName)) ∈ TB := List.mem_filter.mpr ⟨List.mem_of_getElem? (i := 314) (by decide +kernel), by decide +kernel⟩
theorem kw_315 : (Jvm.Cond.code ({ cls := "ShardRows$GroupRows", name := "open", desc := "(I)I" } : Jvm.MethodName) prog_4_method_5_code (3 : Nat) (Option.some Jvm.ClassFile.FieldType.int)) ∈ TB := List.mem_filter.mpr ⟨List.mem_of_getElem? (i := 315) (by decide +kernel), by decide +kernel⟩
theorem kw_316 : (Jvm.Cond.methodLink "ShardRows$GroupRows" (43 : Nat) ({ cls := "ShardRows$GroupRows", name := "groupAt", desc := "(I)I" } : Jvm.MethodName)) ∈ TB := List.mem_filter.mpr ⟨List.mem_of_getElem? (i := 316) (by decide +kernel), by decide +kernel⟩
theorem kw_317 : (Jvm.Cond.instanceMethod ({ cls := "ShardRows$GroupRows", name := "groupAt", desc := "(I)I" } : Jvm.MethodName)) ∈ TB := List.mem_filter.mpr ⟨List.mem_of_getElem? (i := 317) (by decide +kernel), by decide +kernel⟩
theorem kw_318 : (Jvm.Cond.selects "ShardRows$GroupRows" ({ cls := "ShardRows$GroupRows", name := "groupAt", desc := "(I)I" } : Jvm.MethodName) ({ cls := "ShardRows$GroupRows", name := "groupAt", desc := "(I)I" } : Jvm.MethodName)) ∈ TB := List.mem_filter.mpr ⟨List.mem_of_getElem? (i := 318) (by decide +kernel), by decide +kernel⟩
theorem kw_319 : (Jvm.Cond.code ({ cls := "ShardRows$GroupRows", name := "groupAt", desc := "(I)I" } : Jvm.MethodName) prog_4_method_3_code (2 : Nat) (Option.some Jvm.ClassFile.FieldType.int)) ∈ TB := List.mem_filter.mpr ⟨List.mem_of_getElem? (i := 319) (by decide +kernel), by decide +kernel⟩
theorem kw_320 : (Jvm.Cond.methodLink "ShardRows" (96 : Nat) ({ cls := "ShardRows$Search", name := "place", desc := "(LShardRows$GroupRows;LShardRows$SplitRows;I)V" } : Jvm.MethodName)) ∈ TB := List.mem_filter.mpr ⟨List.mem_of_getElem? (i := 320) (by decide +kernel), by decide +kernel⟩
theorem kw_321 : (Jvm.Cond.instanceMethod ({ cls := "ShardRows$Search", name := "place", desc := "(LShardRows$GroupRows;LShardRows$SplitRows;I)V" } : Jvm.MethodName)) ∈ TB := List.mem_filter.mpr ⟨List.mem_of_getElem? (i := 321) (by decide +kernel), by decide +kernel⟩
theorem kw_322 : (Jvm.Cond.selects "ShardRows$Search" ({ cls := "ShardRows$Search", name := "place", desc := "(LShardRows$GroupRows;LShardRows$SplitRows;I)V" } : Jvm.MethodName) ({ cls := "ShardRows$Search", name := "place", desc := "(LShardRows$GroupRows;LShardRows$SplitRows;I)V" } : Jvm.MethodName)) ∈ TB := List.mem_filter.mpr ⟨List.mem_of_getElem? (i := 322) (by decide +kernel), by decide +kernel⟩
theorem kw_323 : (Jvm.Cond.code ({ cls := "ShardRows$Search", name := "place", desc := "(LShardRows$GroupRows;LShardRows$SplitRows;I)V" } : Jvm.MethodName) prog_6_method_2_code (4 : Nat) (Option.none : Option Jvm.ClassFile.FieldType)) ∈ TB := List.mem_filter.mpr ⟨List.mem_of_getElem? (i := 323) (by decide +kernel), by decide +kernel⟩
theorem kw_324 : (Jvm.Cond.methodLink "ShardRows$Search" (32 : Nat) ({ cls := "java/lang/Math", name := "min", desc := "(II)I" } : Jvm.MethodName)) ∈ TB := List.mem_filter.mpr ⟨List.mem_of_getElem? (i := 324) (by decide +kernel), by decide +kernel⟩
theorem kw_325 : (Jvm.Cond.methodLink "ShardRows$Search" (51 : Nat) ({ cls := "java/lang/System", name := "arraycopy", desc := "(Ljava/lang/Object;ILjava/lang/Object;II)V" } : Jvm.MethodName)) ∈ TB := List.mem_filter.mpr ⟨List.mem_of_getElem? (i := 325) (by decide +kernel), by decide +kernel⟩
theorem kw_326 : (Jvm.Cond.static ({ cls := "java/lang/System", name := "arraycopy", desc := "(Ljava/lang/Object;ILjava/lang/Object;II)V" } : Jvm.MethodName)) ∈ TB := List.mem_filter.mpr ⟨List.mem_of_getElem? (i := 326) (by decide +kernel), by decide +kernel⟩
theorem kw_327 : (Jvm.Cond.native ({ cls := "java/lang/System", name := "arraycopy", desc := "(Ljava/lang/Object;ILjava/lang/Object;II)V" } : Jvm.MethodName)) ∈ TB := List.mem_filter.mpr ⟨List.mem_of_getElem? (i := 327) (by decide +kernel), by decide +kernel⟩
theorem kw_328 : (Jvm.Cond.methodLink "ShardRows$Search" (57 : Nat) ({ cls := "ShardRows$Search", name := "countMoves", desc := "(LShardRows$GroupRows;LShardRows$SplitRows;)V" } : Jvm.MethodName)) ∈ TB := List.mem_filter.mpr ⟨List.mem_of_getElem? (i := 328) (by decide +kernel), by decide +kernel⟩
theorem kw_330 : (Jvm.Cond.instanceMethod ({ cls := "ShardRows$Search", name := "countMoves", desc := "(LShardRows$GroupRows;LShardRows$SplitRows;)V" } : Jvm.MethodName)) ∈ TB := List.mem_filter.mpr ⟨List.mem_of_getElem? (i := 330) (by decide +kernel), by decide +kernel⟩
theorem kw_331 : (Jvm.Cond.code ({ cls := "ShardRows$Search", name := "countMoves", desc := "(LShardRows$GroupRows;LShardRows$SplitRows;)V" } : Jvm.MethodName) prog_6_method_3_code (6 : Nat) (Option.none : Option Jvm.ClassFile.FieldType)) ∈ TB := List.mem_filter.mpr ⟨List.mem_of_getElem? (i := 331) (by decide +kernel), by decide +kernel⟩
theorem kw_332 : (Jvm.Cond.methodLink "ShardRows$Search" (64 : Nat) ({ cls := "java/util/Arrays", name := "fill", desc := "([II)V" } : Jvm.MethodName)) ∈ TB := List.mem_filter.mpr ⟨List.mem_of_getElem? (i := 332) (by decide +kernel), by decide +kernel⟩
theorem kw_333 : (Jvm.Cond.methodLink "ShardRows$Search" (96 : Nat) ({ cls := "ShardRows$SplitRows", name := "shardAt", desc := "(I)I" } : Jvm.MethodName)) ∈ TB := List.mem_filter.mpr ⟨List.mem_of_getElem? (i := 333) (by decide +kernel), by decide +kernel⟩
theorem kw_334 : (Jvm.Cond.instanceMethod ({ cls := "ShardRows$SplitRows", name := "shardAt", desc := "(I)I" } : Jvm.MethodName)) ∈ TB := List.mem_filter.mpr ⟨List.mem_of_getElem? (i := 334) (by decide +kernel), by decide +kernel⟩
theorem kw_335 : (Jvm.Cond.selects "ShardRows$SplitRows" ({ cls := "ShardRows$SplitRows", name := "shardAt", desc := "(I)I" } : Jvm.MethodName) ({ cls := "ShardRows$SplitRows", name := "shardAt", desc := "(I)I" } : Jvm.MethodName)) ∈ TB := List.mem_filter.mpr ⟨List.mem_of_getElem? (i := 335) (by decide +kernel), by decide +kernel⟩
theorem kw_336 : (Jvm.Cond.code ({ cls := "ShardRows$SplitRows", name := "shardAt", desc := "(I)I" } : Jvm.MethodName) prog_7_method_3_code (2 : Nat) (Option.some Jvm.ClassFile.FieldType.int)) ∈ TB := List.mem_filter.mpr ⟨List.mem_of_getElem? (i := 336) (by decide +kernel), by decide +kernel⟩
theorem kw_338 : (Jvm.Cond.static ({ cls := "ShardRows", name := "isTestNumber", desc := "(I)Z" } : Jvm.MethodName)) ∈ TB := List.mem_filter.mpr ⟨List.mem_of_getElem? (i := 338) (by decide +kernel), by decide +kernel⟩
theorem kw_339 : (Jvm.Cond.code ({ cls := "ShardRows", name := "isTestNumber", desc := "(I)Z" } : Jvm.MethodName) prog_1_method_22_code (1 : Nat) (Option.some Jvm.ClassFile.FieldType.boolean)) ∈ TB := List.mem_filter.mpr ⟨List.mem_of_getElem? (i := 339) (by decide +kernel), by decide +kernel⟩
theorem kw_340 : (Jvm.Cond.methodLink "ShardRows$Search" (102 : Nat) ({ cls := "ShardRows$GroupRows", name := "groupAt", desc := "(I)I" } : Jvm.MethodName)) ∈ TB := List.mem_filter.mpr ⟨List.mem_of_getElem? (i := 340) (by decide +kernel), by decide +kernel⟩
theorem kw_341 : (Jvm.Cond.methodLink "ShardRows$Search" (105 : Nat) ({ cls := "ShardRows$Search", name := "addMove", desc := "(II)V" } : Jvm.MethodName)) ∈ TB := List.mem_filter.mpr ⟨List.mem_of_getElem? (i := 341) (by decide +kernel), by decide +kernel⟩
theorem kw_343 : (Jvm.Cond.instanceMethod ({ cls := "ShardRows$Search", name := "addMove", desc := "(II)V" } : Jvm.MethodName)) ∈ TB := List.mem_filter.mpr ⟨List.mem_of_getElem? (i := 343) (by decide +kernel), by decide +kernel⟩
theorem kw_344 : (Jvm.Cond.code ({ cls := "ShardRows$Search", name := "addMove", desc := "(II)V" } : Jvm.MethodName) prog_6_method_4_code (4 : Nat) (Option.none : Option Jvm.ClassFile.FieldType)) ∈ TB := List.mem_filter.mpr ⟨List.mem_of_getElem? (i := 344) (by decide +kernel), by decide +kernel⟩
theorem kw_345 : (Jvm.Cond.methodLink "ShardRows$Search" (61 : Nat) ({ cls := "ShardRows$Search", name := "sumLeastMoves", desc := "()V" } : Jvm.MethodName)) ∈ TB := List.mem_filter.mpr ⟨List.mem_of_getElem? (i := 345) (by decide +kernel), by decide +kernel⟩
theorem kw_347 : (Jvm.Cond.instanceMethod ({ cls := "ShardRows$Search", name := "sumLeastMoves", desc := "()V" } : Jvm.MethodName)) ∈ TB := List.mem_filter.mpr ⟨List.mem_of_getElem? (i := 347) (by decide +kernel), by decide +kernel⟩
theorem kw_348 : (Jvm.Cond.code ({ cls := "ShardRows$Search", name := "sumLeastMoves", desc := "()V" } : Jvm.MethodName) prog_6_method_5_code (4 : Nat) (Option.none : Option Jvm.ClassFile.FieldType)) ∈ TB := List.mem_filter.mpr ⟨List.mem_of_getElem? (i := 348) (by decide +kernel), by decide +kernel⟩
theorem kw_349 : (Jvm.Cond.constant "ShardRows$Search" (72 : Nat) (2147483647 : Int32)) ∈ TB := List.mem_filter.mpr ⟨List.mem_of_getElem? (i := 349) (by decide +kernel), by decide +kernel⟩
theorem kw_350 : (Jvm.Cond.methodLink "ShardRows$Search" (76 : Nat) ({ cls := "ShardRows$Search", name := "seekLength", desc := "(III)V" } : Jvm.MethodName)) ∈ TB := List.mem_filter.mpr ⟨List.mem_of_getElem? (i := 350) (by decide +kernel), by decide +kernel⟩
theorem kw_352 : (Jvm.Cond.instanceMethod ({ cls := "ShardRows$Search", name := "seekLength", desc := "(III)V" } : Jvm.MethodName)) ∈ TB := List.mem_filter.mpr ⟨List.mem_of_getElem? (i := 352) (by decide +kernel), by decide +kernel⟩
theorem kw_353 : (Jvm.Cond.code ({ cls := "ShardRows$Search", name := "seekLength", desc := "(III)V" } : Jvm.MethodName) prog_6_method_6_code (6 : Nat) (Option.none : Option Jvm.ClassFile.FieldType)) ∈ TB := List.mem_filter.mpr ⟨List.mem_of_getElem? (i := 353) (by decide +kernel), by decide +kernel⟩
theorem kw_354 : (Jvm.Cond.methodLink "ShardRows$Search" (108 : Nat) ({ cls := "java/lang/Math", name := "max", desc := "(II)I" } : Jvm.MethodName)) ∈ TB := List.mem_filter.mpr ⟨List.mem_of_getElem? (i := 354) (by decide +kernel), by decide +kernel⟩
theorem kw_355 : (Jvm.Cond.methodLink "ShardRows$Search" (83 : Nat) ({ cls := "ShardRows$Search", name := "seekShards", desc := "(II)V" } : Jvm.MethodName)) ∈ TB := List.mem_filter.mpr ⟨List.mem_of_getElem? (i := 355) (by decide +kernel), by decide +kernel⟩
theorem kw_357 : (Jvm.Cond.instanceMethod ({ cls := "ShardRows$Search", name := "seekShards", desc := "(II)V" } : Jvm.MethodName)) ∈ TB := List.mem_filter.mpr ⟨List.mem_of_getElem? (i := 357) (by decide +kernel), by decide +kernel⟩
theorem kw_358 : (Jvm.Cond.code ({ cls := "ShardRows$Search", name := "seekShards", desc := "(II)V" } : Jvm.MethodName) prog_6_method_7_code (4 : Nat) (Option.none : Option Jvm.ClassFile.FieldType)) ∈ TB := List.mem_filter.mpr ⟨List.mem_of_getElem? (i := 358) (by decide +kernel), by decide +kernel⟩
theorem kw_359 : (Jvm.Cond.methodLink "ShardRows" (100 : Nat) ({ cls := "ShardRows$Greedy", name := "place", desc := "(LShardRows$GroupRows;LShardRows$SplitRows;I)V" } : Jvm.MethodName)) ∈ TB := List.mem_filter.mpr ⟨List.mem_of_getElem? (i := 359) (by decide +kernel), by decide +kernel⟩
theorem kw_360 : (Jvm.Cond.instanceMethod ({ cls := "ShardRows$Greedy", name := "place", desc := "(LShardRows$GroupRows;LShardRows$SplitRows;I)V" } : Jvm.MethodName)) ∈ TB := List.mem_filter.mpr ⟨List.mem_of_getElem? (i := 360) (by decide +kernel), by decide +kernel⟩
theorem kw_361 : (Jvm.Cond.selects "ShardRows$Greedy" ({ cls := "ShardRows$Greedy", name := "place", desc := "(LShardRows$GroupRows;LShardRows$SplitRows;I)V" } : Jvm.MethodName) ({ cls := "ShardRows$Greedy", name := "place", desc := "(LShardRows$GroupRows;LShardRows$SplitRows;I)V" } : Jvm.MethodName)) ∈ TB := List.mem_filter.mpr ⟨List.mem_of_getElem? (i := 361) (by decide +kernel), by decide +kernel⟩
theorem kw_362 : (Jvm.Cond.code ({ cls := "ShardRows$Greedy", name := "place", desc := "(LShardRows$GroupRows;LShardRows$SplitRows;I)V" } : Jvm.MethodName) prog_3_method_2_code (7 : Nat) (Option.none : Option Jvm.ClassFile.FieldType)) ∈ TB := List.mem_filter.mpr ⟨List.mem_of_getElem? (i := 362) (by decide +kernel), by decide +kernel⟩
theorem kw_363 : (Jvm.Cond.methodLink "ShardRows$Greedy" (15 : Nat) ({ cls := "java/lang/Math", name := "min", desc := "(II)I" } : Jvm.MethodName)) ∈ TB := List.mem_filter.mpr ⟨List.mem_of_getElem? (i := 363) (by decide +kernel), by decide +kernel⟩
theorem kw_364 : (Jvm.Cond.methodLink "ShardRows$Greedy" (25 : Nat) ({ cls := "java/util/Arrays", name := "fill", desc := "([II)V" } : Jvm.MethodName)) ∈ TB := List.mem_filter.mpr ⟨List.mem_of_getElem? (i := 364) (by decide +kernel), by decide +kernel⟩
theorem kw_365 : (Jvm.Cond.methodLink "ShardRows$Greedy" (36 : Nat) ({ cls := "ShardRows$Greedy", name := "longestUnplaced", desc := "(LShardRows$GroupRows;)I" } : Jvm.MethodName)) ∈ TB := List.mem_filter.mpr ⟨List.mem_of_getElem? (i := 365) (by decide +kernel), by decide +kernel⟩
theorem kw_366 : (Jvm.Cond.static ({ cls := "ShardRows$Greedy", name := "longestUnplaced", desc := "(LShardRows$GroupRows;)I" } : Jvm.MethodName)) ∈ TB := List.mem_filter.mpr ⟨List.mem_of_getElem? (i := 366) (by decide +kernel), by decide +kernel⟩
theorem kw_367 : (Jvm.Cond.code ({ cls := "ShardRows$Greedy", name := "longestUnplaced", desc := "(LShardRows$GroupRows;)I" } : Jvm.MethodName) prog_3_method_3_code (4 : Nat) (Option.some Jvm.ClassFile.FieldType.int)) ∈ TB := List.mem_filter.mpr ⟨List.mem_of_getElem? (i := 367) (by decide +kernel), by decide +kernel⟩
theorem kw_368 : (Jvm.Cond.methodLink "ShardRows$Greedy" (43 : Nat) ({ cls := "ShardRows$SplitRows", name := "shardAt", desc := "(I)I" } : Jvm.MethodName)) ∈ TB := List.mem_filter.mpr ⟨List.mem_of_getElem? (i := 368) (by decide +kernel), by decide +kernel⟩
theorem kw_369 : (Jvm.Cond.methodLink "ShardRows$Greedy" (49 : Nat) ({ cls := "ShardRows$Greedy", name := "leastShard", desc := "(I)I" } : Jvm.MethodName)) ∈ TB := List.mem_filter.mpr ⟨List.mem_of_getElem? (i := 369) (by decide +kernel), by decide +kernel⟩
theorem kw_371 : (Jvm.Cond.instanceMethod ({ cls := "ShardRows$Greedy", name := "leastShard", desc := "(I)I" } : Jvm.MethodName)) ∈ TB := List.mem_filter.mpr ⟨List.mem_of_getElem? (i := 371) (by decide +kernel), by decide +kernel⟩
theorem kw_372 : (Jvm.Cond.code ({ cls := "ShardRows$Greedy", name := "leastShard", desc := "(I)I" } : Jvm.MethodName) prog_3_method_4_code (4 : Nat) (Option.some Jvm.ClassFile.FieldType.int)) ∈ TB := List.mem_filter.mpr ⟨List.mem_of_getElem? (i := 372) (by decide +kernel), by decide +kernel⟩
theorem kw_373 : (Jvm.Cond.methodLink "ShardRows" (101 : Nat) ({ cls := "ShardRows$SplitRows", name := "take", desc := "(LShardRows$GroupRows;I)V" } : Jvm.MethodName)) ∈ TB := List.mem_filter.mpr ⟨List.mem_of_getElem? (i := 373) (by decide +kernel), by decide +kernel⟩
theorem kw_374 : (Jvm.Cond.instanceMethod ({ cls := "ShardRows$SplitRows", name := "take", desc := "(LShardRows$GroupRows;I)V" } : Jvm.MethodName)) ∈ TB := List.mem_filter.mpr ⟨List.mem_of_getElem? (i := 374) (by decide +kernel), by decide +kernel⟩
theorem kw_375 : (Jvm.Cond.selects "ShardRows$SplitRows" ({ cls := "ShardRows$SplitRows", name := "take", desc := "(LShardRows$GroupRows;I)V" } : Jvm.MethodName) ({ cls := "ShardRows$SplitRows", name := "take", desc := "(LShardRows$GroupRows;I)V" } : Jvm.MethodName)) ∈ TB := List.mem_filter.mpr ⟨List.mem_of_getElem? (i := 375) (by decide +kernel), by decide +kernel⟩
theorem kw_376 : (Jvm.Cond.code ({ cls := "ShardRows$SplitRows", name := "take", desc := "(LShardRows$GroupRows;I)V" } : Jvm.MethodName) prog_7_method_5_code (4 : Nat) (Option.none : Option Jvm.ClassFile.FieldType)) ∈ TB := List.mem_filter.mpr ⟨List.mem_of_getElem? (i := 376) (by decide +kernel), by decide +kernel⟩
theorem kw_377 : (Jvm.Cond.methodLink "ShardRows$SplitRows" (41 : Nat) ({ cls := "java/lang/Math", name := "min", desc := "(II)I" } : Jvm.MethodName)) ∈ TB := List.mem_filter.mpr ⟨List.mem_of_getElem? (i := 377) (by decide +kernel), by decide +kernel⟩
theorem kw_378 : (Jvm.Cond.methodLink "ShardRows$SplitRows" (58 : Nat) ({ cls := "ShardRows$SplitRows", name := "addTime", desc := "(II)V" } : Jvm.MethodName)) ∈ TB := List.mem_filter.mpr ⟨List.mem_of_getElem? (i := 378) (by decide +kernel), by decide +kernel⟩
theorem kw_380 : (Jvm.Cond.instanceMethod ({ cls := "ShardRows$SplitRows", name := "addTime", desc := "(II)V" } : Jvm.MethodName)) ∈ TB := List.mem_filter.mpr ⟨List.mem_of_getElem? (i := 380) (by decide +kernel), by decide +kernel⟩
theorem kw_381 : (Jvm.Cond.code ({ cls := "ShardRows$SplitRows", name := "addTime", desc := "(II)V" } : Jvm.MethodName) prog_7_method_6_code (3 : Nat) (Option.none : Option Jvm.ClassFile.FieldType)) ∈ TB := List.mem_filter.mpr ⟨List.mem_of_getElem? (i := 381) (by decide +kernel), by decide +kernel⟩
theorem kw_382 : (Jvm.Cond.methodLink "ShardRows$SplitRows" (72 : Nat) ({ cls := "ShardRows$SplitRows", name := "hasShard", desc := "(I)Z" } : Jvm.MethodName)) ∈ TB := List.mem_filter.mpr ⟨List.mem_of_getElem? (i := 382) (by decide +kernel), by decide +kernel⟩
theorem kw_383 : (Jvm.Cond.instanceMethod ({ cls := "ShardRows$SplitRows", name := "hasShard", desc := "(I)Z" } : Jvm.MethodName)) ∈ TB := List.mem_filter.mpr ⟨List.mem_of_getElem? (i := 383) (by decide +kernel), by decide +kernel⟩
theorem kw_384 : (Jvm.Cond.selects "ShardRows$SplitRows" ({ cls := "ShardRows$SplitRows", name := "hasShard", desc := "(I)Z" } : Jvm.MethodName) ({ cls := "ShardRows$SplitRows", name := "hasShard", desc := "(I)Z" } : Jvm.MethodName)) ∈ TB := List.mem_filter.mpr ⟨List.mem_of_getElem? (i := 384) (by decide +kernel), by decide +kernel⟩
theorem kw_385 : (Jvm.Cond.code ({ cls := "ShardRows$SplitRows", name := "hasShard", desc := "(I)Z" } : Jvm.MethodName) prog_7_method_2_code (2 : Nat) (Option.some Jvm.ClassFile.FieldType.boolean)) ∈ TB := List.mem_filter.mpr ⟨List.mem_of_getElem? (i := 385) (by decide +kernel), by decide +kernel⟩
theorem kw_386 : (Jvm.Cond.methodLink "ShardRows$SplitRows" (65 : Nat) ({ cls := "ShardRows$GroupRows", name := "shardFor", desc := "(I)I" } : Jvm.MethodName)) ∈ TB := List.mem_filter.mpr ⟨List.mem_of_getElem? (i := 386) (by decide +kernel), by decide +kernel⟩
theorem kw_387 : (Jvm.Cond.instanceMethod ({ cls := "ShardRows$GroupRows", name := "shardFor", desc := "(I)I" } : Jvm.MethodName)) ∈ TB := List.mem_filter.mpr ⟨List.mem_of_getElem? (i := 387) (by decide +kernel), by decide +kernel⟩
theorem kw_388 : (Jvm.Cond.selects "ShardRows$GroupRows" ({ cls := "ShardRows$GroupRows", name := "shardFor", desc := "(I)I" } : Jvm.MethodName) ({ cls := "ShardRows$GroupRows", name := "shardFor", desc := "(I)I" } : Jvm.MethodName)) ∈ TB := List.mem_filter.mpr ⟨List.mem_of_getElem? (i := 388) (by decide +kernel), by decide +kernel⟩
theorem kw_389 : (Jvm.Cond.code ({ cls := "ShardRows$GroupRows", name := "shardFor", desc := "(I)I" } : Jvm.MethodName) prog_4_method_4_code (3 : Nat) (Option.some Jvm.ClassFile.FieldType.int)) ∈ TB := List.mem_filter.mpr ⟨List.mem_of_getElem? (i := 389) (by decide +kernel), by decide +kernel⟩
theorem kw_390 : (Jvm.Cond.methodLink "ShardRows$SplitRows" (69 : Nat) ({ cls := "ShardRows$SplitRows", name := "give", desc := "(II)V" } : Jvm.MethodName)) ∈ TB := List.mem_filter.mpr ⟨List.mem_of_getElem? (i := 390) (by decide +kernel), by decide +kernel⟩
theorem kw_392 : (Jvm.Cond.instanceMethod ({ cls := "ShardRows$SplitRows", name := "give", desc := "(II)V" } : Jvm.MethodName)) ∈ TB := List.mem_filter.mpr ⟨List.mem_of_getElem? (i := 392) (by decide +kernel), by decide +kernel⟩
theorem kw_393 : (Jvm.Cond.code ({ cls := "ShardRows$SplitRows", name := "give", desc := "(II)V" } : Jvm.MethodName) prog_7_method_7_code (3 : Nat) (Option.none : Option Jvm.ClassFile.FieldType)) ∈ TB := List.mem_filter.mpr ⟨List.mem_of_getElem? (i := 393) (by decide +kernel), by decide +kernel⟩
theorem kw_394 : (Jvm.Cond.methodLink "ShardRows" (105 : Nat) ({ cls := "ShardRows$ResultRows", name := "forget", desc := "()V" } : Jvm.MethodName)) ∈ TB := List.mem_filter.mpr ⟨List.mem_of_getElem? (i := 394) (by decide +kernel), by decide +kernel⟩
theorem kw_395 : (Jvm.Cond.instanceMethod ({ cls := "ShardRows$ResultRows", name := "forget", desc := "()V" } : Jvm.MethodName)) ∈ TB := List.mem_filter.mpr ⟨List.mem_of_getElem? (i := 395) (by decide +kernel), by decide +kernel⟩
theorem kw_396 : (Jvm.Cond.selects "ShardRows$ResultRows" ({ cls := "ShardRows$ResultRows", name := "forget", desc := "()V" } : Jvm.MethodName) ({ cls := "ShardRows$ResultRows", name := "forget", desc := "()V" } : Jvm.MethodName)) ∈ TB := List.mem_filter.mpr ⟨List.mem_of_getElem? (i := 396) (by decide +kernel), by decide +kernel⟩
theorem kw_397 : (Jvm.Cond.code ({ cls := "ShardRows$ResultRows", name := "forget", desc := "()V" } : Jvm.MethodName) prog_5_method_2_code (2 : Nat) (Option.none : Option Jvm.ClassFile.FieldType)) ∈ TB := List.mem_filter.mpr ⟨List.mem_of_getElem? (i := 397) (by decide +kernel), by decide +kernel⟩
theorem kw_398 : (Jvm.Cond.methodLink "ShardRows$ResultRows" (26 : Nat) ({ cls := "java/util/Arrays", name := "fill", desc := "([II)V" } : Jvm.MethodName)) ∈ TB := List.mem_filter.mpr ⟨List.mem_of_getElem? (i := 398) (by decide +kernel), by decide +kernel⟩
theorem kw_399 : (Jvm.Cond.methodLink "ShardRows" (108 : Nat) ({ cls := "ShardRows$SplitRows", name := "longest", desc := "()I" } : Jvm.MethodName)) ∈ TB := List.mem_filter.mpr ⟨List.mem_of_getElem? (i := 399) (by decide +kernel), by decide +kernel⟩
theorem kw_400 : (Jvm.Cond.instanceMethod ({ cls := "ShardRows$SplitRows", name := "longest", desc := "()I" } : Jvm.MethodName)) ∈ TB := List.mem_filter.mpr ⟨List.mem_of_getElem? (i := 400) (by decide +kernel), by decide +kernel⟩
theorem kw_401 : (Jvm.Cond.selects "ShardRows$SplitRows" ({ cls := "ShardRows$SplitRows", name := "longest", desc := "()I" } : Jvm.MethodName) ({ cls := "ShardRows$SplitRows", name := "longest", desc := "()I" } : Jvm.MethodName)) ∈ TB := List.mem_filter.mpr ⟨List.mem_of_getElem? (i := 401) (by decide +kernel), by decide +kernel⟩
theorem kw_402 : (Jvm.Cond.code ({ cls := "ShardRows$SplitRows", name := "longest", desc := "()I" } : Jvm.MethodName) prog_7_method_4_code (3 : Nat) (Option.some Jvm.ClassFile.FieldType.int)) ∈ TB := List.mem_filter.mpr ⟨List.mem_of_getElem? (i := 402) (by decide +kernel), by decide +kernel⟩
theorem kw_403 : (Jvm.Cond.methodLink "ShardRows$SplitRows" (35 : Nat) ({ cls := "java/lang/Math", name := "max", desc := "(II)I" } : Jvm.MethodName)) ∈ TB := List.mem_filter.mpr ⟨List.mem_of_getElem? (i := 403) (by decide +kernel), by decide +kernel⟩
theorem kw_404 : (Jvm.Cond.methodLink "ShardRowsLaw" (53 : Nat) ({ cls := "ShardRows", name := "shard", desc := "(I)I" } : Jvm.MethodName)) ∈ TB := List.mem_filter.mpr ⟨List.mem_of_getElem? (i := 404) (by decide +kernel), by decide +kernel⟩
theorem kw_405 : (Jvm.Cond.instanceMethod ({ cls := "ShardRows", name := "shard", desc := "(I)I" } : Jvm.MethodName)) ∈ TB := List.mem_filter.mpr ⟨List.mem_of_getElem? (i := 405) (by decide +kernel), by decide +kernel⟩
theorem kw_406 : (Jvm.Cond.selects "ShardRows" ({ cls := "ShardRows", name := "shard", desc := "(I)I" } : Jvm.MethodName) ({ cls := "ShardRows", name := "shard", desc := "(I)I" } : Jvm.MethodName)) ∈ TB := List.mem_filter.mpr ⟨List.mem_of_getElem? (i := 406) (by decide +kernel), by decide +kernel⟩
theorem kw_407 : (Jvm.Cond.code ({ cls := "ShardRows", name := "shard", desc := "(I)I" } : Jvm.MethodName) prog_1_method_9_code (2 : Nat) (Option.some Jvm.ClassFile.FieldType.int)) ∈ TB := List.mem_filter.mpr ⟨List.mem_of_getElem? (i := 407) (by decide +kernel), by decide +kernel⟩
theorem kw_408 : (Jvm.Cond.methodLink "ShardRows" (111 : Nat) ({ cls := "ShardRows$SplitRows", name := "shardAt", desc := "(I)I" } : Jvm.MethodName)) ∈ TB := List.mem_filter.mpr ⟨List.mem_of_getElem? (i := 408) (by decide +kernel), by decide +kernel⟩
theorem kw_409 : (Jvm.Cond.methodLink "ShardRowsLaw" (57 : Nat) ({ cls := "ShardRows", name := "sum", desc := "(I)I" } : Jvm.MethodName)) ∈ TB := List.mem_filter.mpr ⟨List.mem_of_getElem? (i := 409) (by decide +kernel), by decide +kernel⟩
theorem kw_410 : (Jvm.Cond.instanceMethod ({ cls := "ShardRows", name := "sum", desc := "(I)I" } : Jvm.MethodName)) ∈ TB := List.mem_filter.mpr ⟨List.mem_of_getElem? (i := 410) (by decide +kernel), by decide +kernel⟩
theorem kw_411 : (Jvm.Cond.selects "ShardRows" ({ cls := "ShardRows", name := "sum", desc := "(I)I" } : Jvm.MethodName) ({ cls := "ShardRows", name := "sum", desc := "(I)I" } : Jvm.MethodName)) ∈ TB := List.mem_filter.mpr ⟨List.mem_of_getElem? (i := 411) (by decide +kernel), by decide +kernel⟩
theorem kw_412 : (Jvm.Cond.code ({ cls := "ShardRows", name := "sum", desc := "(I)I" } : Jvm.MethodName) prog_1_method_10_code (2 : Nat) (Option.some Jvm.ClassFile.FieldType.int)) ∈ TB := List.mem_filter.mpr ⟨List.mem_of_getElem? (i := 412) (by decide +kernel), by decide +kernel⟩
theorem kw_413 : (Jvm.Cond.methodLink "ShardRows" (114 : Nat) ({ cls := "ShardRows$SplitRows", name := "hasShard", desc := "(I)Z" } : Jvm.MethodName)) ∈ TB := List.mem_filter.mpr ⟨List.mem_of_getElem? (i := 413) (by decide +kernel), by decide +kernel⟩
theorem kw_414 : (Jvm.Cond.methodLink "ShardRowsLaw" (61 : Nat) ({ cls := "ShardRows", name := "moved", desc := "()I" } : Jvm.MethodName)) ∈ TB := List.mem_filter.mpr ⟨List.mem_of_getElem? (i := 414) (by decide +kernel), by decide +kernel⟩
theorem kw_415 : (Jvm.Cond.instanceMethod ({ cls := "ShardRows", name := "moved", desc := "()I" } : Jvm.MethodName)) ∈ TB := List.mem_filter.mpr ⟨List.mem_of_getElem? (i := 415) (by decide +kernel), by decide +kernel⟩
theorem kw_416 : (Jvm.Cond.selects "ShardRows" ({ cls := "ShardRows", name := "moved", desc := "()I" } : Jvm.MethodName) ({ cls := "ShardRows", name := "moved", desc := "()I" } : Jvm.MethodName)) ∈ TB := List.mem_filter.mpr ⟨List.mem_of_getElem? (i := 416) (by decide +kernel), by decide +kernel⟩
theorem kw_417 : (Jvm.Cond.code ({ cls := "ShardRows", name := "moved", desc := "()I" } : Jvm.MethodName) prog_1_method_11_code (1 : Nat) (Option.some Jvm.ClassFile.FieldType.int)) ∈ TB := List.mem_filter.mpr ⟨List.mem_of_getElem? (i := 417) (by decide +kernel), by decide +kernel⟩
theorem kw_418 : (Jvm.Cond.methodLink "ShardRowsLaw" (65 : Nat) ({ cls := "ShardRows", name := "empty", desc := "(I)I" } : Jvm.MethodName)) ∈ TB := List.mem_filter.mpr ⟨List.mem_of_getElem? (i := 418) (by decide +kernel), by decide +kernel⟩
theorem kw_419 : (Jvm.Cond.instanceMethod ({ cls := "ShardRows", name := "empty", desc := "(I)I" } : Jvm.MethodName)) ∈ TB := List.mem_filter.mpr ⟨List.mem_of_getElem? (i := 419) (by decide +kernel), by decide +kernel⟩
theorem kw_420 : (Jvm.Cond.selects "ShardRows" ({ cls := "ShardRows", name := "empty", desc := "(I)I" } : Jvm.MethodName) ({ cls := "ShardRows", name := "empty", desc := "(I)I" } : Jvm.MethodName)) ∈ TB := List.mem_filter.mpr ⟨List.mem_of_getElem? (i := 420) (by decide +kernel), by decide +kernel⟩
theorem kw_421 : (Jvm.Cond.code ({ cls := "ShardRows", name := "empty", desc := "(I)I" } : Jvm.MethodName) prog_1_method_12_code (4 : Nat) (Option.some Jvm.ClassFile.FieldType.int)) ∈ TB := List.mem_filter.mpr ⟨List.mem_of_getElem? (i := 421) (by decide +kernel), by decide +kernel⟩
theorem kw_422 : (Jvm.Cond.methodLink "ShardRowsLaw" (71 : Nat) ({ cls := "ShardRows", name := "draw", desc := "(IJ)I" } : Jvm.MethodName)) ∈ TB := List.mem_filter.mpr ⟨List.mem_of_getElem? (i := 422) (by decide +kernel), by decide +kernel⟩
theorem kw_423 : (Jvm.Cond.instanceMethod ({ cls := "ShardRows", name := "draw", desc := "(IJ)I" } : Jvm.MethodName)) ∈ TB := List.mem_filter.mpr ⟨List.mem_of_getElem? (i := 423) (by decide +kernel), by decide +kernel⟩
theorem kw_424 : (Jvm.Cond.selects "ShardRows" ({ cls := "ShardRows", name := "draw", desc := "(IJ)I" } : Jvm.MethodName) ({ cls := "ShardRows", name := "draw", desc := "(IJ)I" } : Jvm.MethodName)) ∈ TB := List.mem_filter.mpr ⟨List.mem_of_getElem? (i := 424) (by decide +kernel), by decide +kernel⟩
theorem kw_425 : (Jvm.Cond.code ({ cls := "ShardRows", name := "draw", desc := "(IJ)I" } : Jvm.MethodName) prog_1_method_13_code (4 : Nat) (Option.some Jvm.ClassFile.FieldType.int)) ∈ TB := List.mem_filter.mpr ⟨List.mem_of_getElem? (i := 425) (by decide +kernel), by decide +kernel⟩
theorem kw_426 : (Jvm.Cond.methodLink "ShardRows" (131 : Nat) ({ cls := "ShardRows$DrawRow", name := "gather", desc := "(LShardRows$SplitRows;I)V" } : Jvm.MethodName)) ∈ TB := List.mem_filter.mpr ⟨List.mem_of_getElem? (i := 426) (by decide +kernel), by decide +kernel⟩
theorem kw_427 : (Jvm.Cond.instanceMethod ({ cls := "ShardRows$DrawRow", name := "gather", desc := "(LShardRows$SplitRows;I)V" } : Jvm.MethodName)) ∈ TB := List.mem_filter.mpr ⟨List.mem_of_getElem? (i := 427) (by decide +kernel), by decide +kernel⟩
theorem kw_428 : (Jvm.Cond.selects "ShardRows$DrawRow" ({ cls := "ShardRows$DrawRow", name := "gather", desc := "(LShardRows$SplitRows;I)V" } : Jvm.MethodName) ({ cls := "ShardRows$DrawRow", name := "gather", desc := "(LShardRows$SplitRows;I)V" } : Jvm.MethodName)) ∈ TB := List.mem_filter.mpr ⟨List.mem_of_getElem? (i := 428) (by decide +kernel), by decide +kernel⟩
theorem kw_429 : (Jvm.Cond.code ({ cls := "ShardRows$DrawRow", name := "gather", desc := "(LShardRows$SplitRows;I)V" } : Jvm.MethodName) prog_2_method_3_code (4 : Nat) (Option.none : Option Jvm.ClassFile.FieldType)) ∈ TB := List.mem_filter.mpr ⟨List.mem_of_getElem? (i := 429) (by decide +kernel), by decide +kernel⟩
theorem kw_430 : (Jvm.Cond.methodLink "ShardRows$DrawRow" (19 : Nat) ({ cls := "ShardRows$SplitRows", name := "shardAt", desc := "(I)I" } : Jvm.MethodName)) ∈ TB := List.mem_filter.mpr ⟨List.mem_of_getElem? (i := 430) (by decide +kernel), by decide +kernel⟩
theorem kw_431 : (Jvm.Cond.methodLink "ShardRows" (134 : Nat) ({ cls := "ShardRows$DrawRow", name := "shuffle", desc := "(J)V" } : Jvm.MethodName)) ∈ TB := List.mem_filter.mpr ⟨List.mem_of_getElem? (i := 431) (by decide +kernel), by decide +kernel⟩
theorem kw_432 : (Jvm.Cond.instanceMethod ({ cls := "ShardRows$DrawRow", name := "shuffle", desc := "(J)V" } : Jvm.MethodName)) ∈ TB := List.mem_filter.mpr ⟨List.mem_of_getElem? (i := 432) (by decide +kernel), by decide +kernel⟩
theorem kw_433 : (Jvm.Cond.selects "ShardRows$DrawRow" ({ cls := "ShardRows$DrawRow", name := "shuffle", desc := "(J)V" } : Jvm.MethodName) ({ cls := "ShardRows$DrawRow", name := "shuffle", desc := "(J)V" } : Jvm.MethodName)) ∈ TB := List.mem_filter.mpr ⟨List.mem_of_getElem? (i := 433) (by decide +kernel), by decide +kernel⟩
theorem kw_434 : (Jvm.Cond.code ({ cls := "ShardRows$DrawRow", name := "shuffle", desc := "(J)V" } : Jvm.MethodName) prog_2_method_4_code (8 : Nat) (Option.none : Option Jvm.ClassFile.FieldType)) ∈ TB := List.mem_filter.mpr ⟨List.mem_of_getElem? (i := 434) (by decide +kernel), by decide +kernel⟩
theorem kw_435 : (Jvm.Cond.constantLong "ShardRows$DrawRow" (25 : Nat) (6364136223846793005 : Int64)) ∈ TB := List.mem_filter.mpr ⟨List.mem_of_getElem? (i := 435) (by decide +kernel), by decide +kernel⟩
theorem kw_436 : (Jvm.Cond.constantLong "ShardRows$DrawRow" (27 : Nat) (1442695040888963407 : Int64)) ∈ TB := List.mem_filter.mpr ⟨List.mem_of_getElem? (i := 436) (by decide +kernel), by decide +kernel⟩
theorem kw_437 : (Jvm.Cond.methodLink "ShardRowsLaw" (76 : Nat) ({ cls := "ShardRows", name := "drawn", desc := "(I)I" } : Jvm.MethodName)) ∈ TB := List.mem_filter.mpr ⟨List.mem_of_getElem? (i := 437) (by decide +kernel), by decide +kernel⟩
theorem kw_438 : (Jvm.Cond.instanceMethod ({ cls := "ShardRows", name := "drawn", desc := "(I)I" } : Jvm.MethodName)) ∈ TB := List.mem_filter.mpr ⟨List.mem_of_getElem? (i := 438) (by decide +kernel), by decide +kernel⟩
theorem kw_439 : (Jvm.Cond.selects "ShardRows" ({ cls := "ShardRows", name := "drawn", desc := "(I)I" } : Jvm.MethodName) ({ cls := "ShardRows", name := "drawn", desc := "(I)I" } : Jvm.MethodName)) ∈ TB := List.mem_filter.mpr ⟨List.mem_of_getElem? (i := 439) (by decide +kernel), by decide +kernel⟩
theorem kw_440 : (Jvm.Cond.code ({ cls := "ShardRows", name := "drawn", desc := "(I)I" } : Jvm.MethodName) prog_1_method_14_code (2 : Nat) (Option.some Jvm.ClassFile.FieldType.int)) ∈ TB := List.mem_filter.mpr ⟨List.mem_of_getElem? (i := 440) (by decide +kernel), by decide +kernel⟩
theorem kw_441 : (Jvm.Cond.methodLink "ShardRows" (139 : Nat) ({ cls := "ShardRows$DrawRow", name := "at", desc := "(I)I" } : Jvm.MethodName)) ∈ TB := List.mem_filter.mpr ⟨List.mem_of_getElem? (i := 441) (by decide +kernel), by decide +kernel⟩
theorem kw_442 : (Jvm.Cond.instanceMethod ({ cls := "ShardRows$DrawRow", name := "at", desc := "(I)I" } : Jvm.MethodName)) ∈ TB := List.mem_filter.mpr ⟨List.mem_of_getElem? (i := 442) (by decide +kernel), by decide +kernel⟩
theorem kw_443 : (Jvm.Cond.selects "ShardRows$DrawRow" ({ cls := "ShardRows$DrawRow", name := "at", desc := "(I)I" } : Jvm.MethodName) ({ cls := "ShardRows$DrawRow", name := "at", desc := "(I)I" } : Jvm.MethodName)) ∈ TB := List.mem_filter.mpr ⟨List.mem_of_getElem? (i := 443) (by decide +kernel), by decide +kernel⟩
theorem kw_444 : (Jvm.Cond.code ({ cls := "ShardRows$DrawRow", name := "at", desc := "(I)I" } : Jvm.MethodName) prog_2_method_2_code (2 : Nat) (Option.some Jvm.ClassFile.FieldType.int)) ∈ TB := List.mem_filter.mpr ⟨List.mem_of_getElem? (i := 444) (by decide +kernel), by decide +kernel⟩
theorem kw_445 : (Jvm.Cond.methodLink "ShardRowsLaw" (80 : Nat) ({ cls := "ShardRows", name := "result", desc := "(III)I" } : Jvm.MethodName)) ∈ TB := List.mem_filter.mpr ⟨List.mem_of_getElem? (i := 445) (by decide +kernel), by decide +kernel⟩
theorem kw_446 : (Jvm.Cond.instanceMethod ({ cls := "ShardRows", name := "result", desc := "(III)I" } : Jvm.MethodName)) ∈ TB := List.mem_filter.mpr ⟨List.mem_of_getElem? (i := 446) (by decide +kernel), by decide +kernel⟩
theorem kw_447 : (Jvm.Cond.selects "ShardRows" ({ cls := "ShardRows", name := "result", desc := "(III)I" } : Jvm.MethodName) ({ cls := "ShardRows", name := "result", desc := "(III)I" } : Jvm.MethodName)) ∈ TB := List.mem_filter.mpr ⟨List.mem_of_getElem? (i := 447) (by decide +kernel), by decide +kernel⟩
theorem kw_448 : (Jvm.Cond.code ({ cls := "ShardRows", name := "result", desc := "(III)I" } : Jvm.MethodName) prog_1_method_15_code (5 : Nat) (Option.some Jvm.ClassFile.FieldType.int)) ∈ TB := List.mem_filter.mpr ⟨List.mem_of_getElem? (i := 448) (by decide +kernel), by decide +kernel⟩
theorem kw_449 : (Jvm.Cond.methodLink "ShardRows" (145 : Nat) ({ cls := "ShardRows$ResultRows", name := "put", desc := "(II)Z" } : Jvm.MethodName)) ∈ TB := List.mem_filter.mpr ⟨List.mem_of_getElem? (i := 449) (by decide +kernel), by decide +kernel⟩
theorem kw_450 : (Jvm.Cond.instanceMethod ({ cls := "ShardRows$ResultRows", name := "put", desc := "(II)Z" } : Jvm.MethodName)) ∈ TB := List.mem_filter.mpr ⟨List.mem_of_getElem? (i := 450) (by decide +kernel), by decide +kernel⟩
theorem kw_451 : (Jvm.Cond.selects "ShardRows$ResultRows" ({ cls := "ShardRows$ResultRows", name := "put", desc := "(II)Z" } : Jvm.MethodName) ({ cls := "ShardRows$ResultRows", name := "put", desc := "(II)Z" } : Jvm.MethodName)) ∈ TB := List.mem_filter.mpr ⟨List.mem_of_getElem? (i := 451) (by decide +kernel), by decide +kernel⟩
theorem kw_452 : (Jvm.Cond.code ({ cls := "ShardRows$ResultRows", name := "put", desc := "(II)Z" } : Jvm.MethodName) prog_5_method_4_code (3 : Nat) (Option.some Jvm.ClassFile.FieldType.boolean)) ∈ TB := List.mem_filter.mpr ⟨List.mem_of_getElem? (i := 452) (by decide +kernel), by decide +kernel⟩
theorem kw_454 : (Jvm.Cond.methodLink "ShardRowsLaw" (85 : Nat) ({ cls := "ShardRows", name := "again", desc := "(I)Z" } : Jvm.MethodName)) ∈ TB := List.mem_filter.mpr ⟨List.mem_of_getElem? (i := 454) (by decide +kernel), by decide +kernel⟩
theorem kw_455 : (Jvm.Cond.instanceMethod ({ cls := "ShardRows", name := "again", desc := "(I)Z" } : Jvm.MethodName)) ∈ TB := List.mem_filter.mpr ⟨List.mem_of_getElem? (i := 455) (by decide +kernel), by decide +kernel⟩
theorem kw_456 : (Jvm.Cond.selects "ShardRows" ({ cls := "ShardRows", name := "again", desc := "(I)Z" } : Jvm.MethodName) ({ cls := "ShardRows", name := "again", desc := "(I)Z" } : Jvm.MethodName)) ∈ TB := List.mem_filter.mpr ⟨List.mem_of_getElem? (i := 456) (by decide +kernel), by decide +kernel⟩
theorem kw_457 : (Jvm.Cond.code ({ cls := "ShardRows", name := "again", desc := "(I)Z" } : Jvm.MethodName) prog_1_method_16_code (2 : Nat) (Option.some Jvm.ClassFile.FieldType.boolean)) ∈ TB := List.mem_filter.mpr ⟨List.mem_of_getElem? (i := 457) (by decide +kernel), by decide +kernel⟩
theorem kw_458 : (Jvm.Cond.methodLink "ShardRows" (148 : Nat) ({ cls := "ShardRows$ResultRows", name := "dropBad", desc := "(I)Z" } : Jvm.MethodName)) ∈ TB := List.mem_filter.mpr ⟨List.mem_of_getElem? (i := 458) (by decide +kernel), by decide +kernel⟩
theorem kw_459 : (Jvm.Cond.instanceMethod ({ cls := "ShardRows$ResultRows", name := "dropBad", desc := "(I)Z" } : Jvm.MethodName)) ∈ TB := List.mem_filter.mpr ⟨List.mem_of_getElem? (i := 459) (by decide +kernel), by decide +kernel⟩
theorem kw_460 : (Jvm.Cond.selects "ShardRows$ResultRows" ({ cls := "ShardRows$ResultRows", name := "dropBad", desc := "(I)Z" } : Jvm.MethodName) ({ cls := "ShardRows$ResultRows", name := "dropBad", desc := "(I)Z" } : Jvm.MethodName)) ∈ TB := List.mem_filter.mpr ⟨List.mem_of_getElem? (i := 460) (by decide +kernel), by decide +kernel⟩
theorem kw_461 : (Jvm.Cond.code ({ cls := "ShardRows$ResultRows", name := "dropBad", desc := "(I)Z" } : Jvm.MethodName) prog_5_method_5_code (2 : Nat) (Option.some Jvm.ClassFile.FieldType.boolean)) ∈ TB := List.mem_filter.mpr ⟨List.mem_of_getElem? (i := 461) (by decide +kernel), by decide +kernel⟩
theorem kw_462 : (Jvm.Cond.methodLink "ShardRows$ResultRows" (36 : Nat) ({ cls := "ShardRows$ResultRows", name := "isBad", desc := "(I)Z" } : Jvm.MethodName)) ∈ TB := List.mem_filter.mpr ⟨List.mem_of_getElem? (i := 462) (by decide +kernel), by decide +kernel⟩
theorem kw_464 : (Jvm.Cond.instanceMethod ({ cls := "ShardRows$ResultRows", name := "isBad", desc := "(I)Z" } : Jvm.MethodName)) ∈ TB := List.mem_filter.mpr ⟨List.mem_of_getElem? (i := 464) (by decide +kernel), by decide +kernel⟩
theorem kw_465 : (Jvm.Cond.code ({ cls := "ShardRows$ResultRows", name := "isBad", desc := "(I)Z" } : Jvm.MethodName) prog_5_method_8_code (2 : Nat) (Option.some Jvm.ClassFile.FieldType.boolean)) ∈ TB := List.mem_filter.mpr ⟨List.mem_of_getElem? (i := 465) (by decide +kernel), by decide +kernel⟩
theorem kw_466 : (Jvm.Cond.methodLink "ShardRows$ResultRows" (39 : Nat) ({ cls := "ShardRows$ResultRows", name := "has", desc := "(I)Z" } : Jvm.MethodName)) ∈ TB := List.mem_filter.mpr ⟨List.mem_of_getElem? (i := 466) (by decide +kernel), by decide +kernel⟩
theorem kw_467 : (Jvm.Cond.instanceMethod ({ cls := "ShardRows$ResultRows", name := "has", desc := "(I)Z" } : Jvm.MethodName)) ∈ TB := List.mem_filter.mpr ⟨List.mem_of_getElem? (i := 467) (by decide +kernel), by decide +kernel⟩
theorem kw_468 : (Jvm.Cond.selects "ShardRows$ResultRows" ({ cls := "ShardRows$ResultRows", name := "has", desc := "(I)Z" } : Jvm.MethodName) ({ cls := "ShardRows$ResultRows", name := "has", desc := "(I)Z" } : Jvm.MethodName)) ∈ TB := List.mem_filter.mpr ⟨List.mem_of_getElem? (i := 468) (by decide +kernel), by decide +kernel⟩
theorem kw_469 : (Jvm.Cond.code ({ cls := "ShardRows$ResultRows", name := "has", desc := "(I)Z" } : Jvm.MethodName) prog_5_method_3_code (2 : Nat) (Option.some Jvm.ClassFile.FieldType.boolean)) ∈ TB := List.mem_filter.mpr ⟨List.mem_of_getElem? (i := 469) (by decide +kernel), by decide +kernel⟩
theorem kw_470 : (Jvm.Cond.methodLink "ShardRowsLaw" (89 : Nat) ({ cls := "ShardRows", name := "strange", desc := "()I" } : Jvm.MethodName)) ∈ TB := List.mem_filter.mpr ⟨List.mem_of_getElem? (i := 470) (by decide +kernel), by decide +kernel⟩
theorem kw_471 : (Jvm.Cond.instanceMethod ({ cls := "ShardRows", name := "strange", desc := "()I" } : Jvm.MethodName)) ∈ TB := List.mem_filter.mpr ⟨List.mem_of_getElem? (i := 471) (by decide +kernel), by decide +kernel⟩
theorem kw_472 : (Jvm.Cond.selects "ShardRows" ({ cls := "ShardRows", name := "strange", desc := "()I" } : Jvm.MethodName) ({ cls := "ShardRows", name := "strange", desc := "()I" } : Jvm.MethodName)) ∈ TB := List.mem_filter.mpr ⟨List.mem_of_getElem? (i := 472) (by decide +kernel), by decide +kernel⟩
theorem kw_473 : (Jvm.Cond.code ({ cls := "ShardRows", name := "strange", desc := "()I" } : Jvm.MethodName) prog_1_method_17_code (1 : Nat) (Option.some Jvm.ClassFile.FieldType.int)) ∈ TB := List.mem_filter.mpr ⟨List.mem_of_getElem? (i := 473) (by decide +kernel), by decide +kernel⟩
theorem kw_474 : (Jvm.Cond.methodLink "ShardRowsLaw" (93 : Nat) ({ cls := "ShardRows", name := "missing", desc := "(I)I" } : Jvm.MethodName)) ∈ TB := List.mem_filter.mpr ⟨List.mem_of_getElem? (i := 474) (by decide +kernel), by decide +kernel⟩
theorem kw_475 : (Jvm.Cond.instanceMethod ({ cls := "ShardRows", name := "missing", desc := "(I)I" } : Jvm.MethodName)) ∈ TB := List.mem_filter.mpr ⟨List.mem_of_getElem? (i := 475) (by decide +kernel), by decide +kernel⟩
theorem kw_476 : (Jvm.Cond.selects "ShardRows" ({ cls := "ShardRows", name := "missing", desc := "(I)I" } : Jvm.MethodName) ({ cls := "ShardRows", name := "missing", desc := "(I)I" } : Jvm.MethodName)) ∈ TB := List.mem_filter.mpr ⟨List.mem_of_getElem? (i := 476) (by decide +kernel), by decide +kernel⟩
theorem kw_477 : (Jvm.Cond.code ({ cls := "ShardRows", name := "missing", desc := "(I)I" } : Jvm.MethodName) prog_1_method_18_code (4 : Nat) (Option.some Jvm.ClassFile.FieldType.int)) ∈ TB := List.mem_filter.mpr ⟨List.mem_of_getElem? (i := 477) (by decide +kernel), by decide +kernel⟩
theorem kw_478 : (Jvm.Cond.methodLink "ShardRows" (151 : Nat) ({ cls := "ShardRows", name := "isMissing", desc := "(I)Z" } : Jvm.MethodName)) ∈ TB := List.mem_filter.mpr ⟨List.mem_of_getElem? (i := 478) (by decide +kernel), by decide +kernel⟩
theorem kw_480 : (Jvm.Cond.instanceMethod ({ cls := "ShardRows", name := "isMissing", desc := "(I)Z" } : Jvm.MethodName)) ∈ TB := List.mem_filter.mpr ⟨List.mem_of_getElem? (i := 480) (by decide +kernel), by decide +kernel⟩
theorem kw_481 : (Jvm.Cond.code ({ cls := "ShardRows", name := "isMissing", desc := "(I)Z" } : Jvm.MethodName) prog_1_method_21_code (2 : Nat) (Option.some Jvm.ClassFile.FieldType.boolean)) ∈ TB := List.mem_filter.mpr ⟨List.mem_of_getElem? (i := 481) (by decide +kernel), by decide +kernel⟩
theorem kw_482 : (Jvm.Cond.methodLink "ShardRows" (164 : Nat) ({ cls := "ShardRows$ResultRows", name := "has", desc := "(I)Z" } : Jvm.MethodName)) ∈ TB := List.mem_filter.mpr ⟨List.mem_of_getElem? (i := 482) (by decide +kernel), by decide +kernel⟩
theorem kw_483 : (Jvm.Cond.methodLink "ShardRowsLaw" (97 : Nat) ({ cls := "ShardRows", name := "verdict", desc := "()I" } : Jvm.MethodName)) ∈ TB := List.mem_filter.mpr ⟨List.mem_of_getElem? (i := 483) (by decide +kernel), by decide +kernel⟩
theorem kw_484 : (Jvm.Cond.instanceMethod ({ cls := "ShardRows", name := "verdict", desc := "()I" } : Jvm.MethodName)) ∈ TB := List.mem_filter.mpr ⟨List.mem_of_getElem? (i := 484) (by decide +kernel), by decide +kernel⟩
theorem kw_485 : (Jvm.Cond.selects "ShardRows" ({ cls := "ShardRows", name := "verdict", desc := "()I" } : Jvm.MethodName) ({ cls := "ShardRows", name := "verdict", desc := "()I" } : Jvm.MethodName)) ∈ TB := List.mem_filter.mpr ⟨List.mem_of_getElem? (i := 485) (by decide +kernel), by decide +kernel⟩
theorem kw_486 : (Jvm.Cond.code ({ cls := "ShardRows", name := "verdict", desc := "()I" } : Jvm.MethodName) prog_1_method_19_code (1 : Nat) (Option.some Jvm.ClassFile.FieldType.int)) ∈ TB := List.mem_filter.mpr ⟨List.mem_of_getElem? (i := 486) (by decide +kernel), by decide +kernel⟩
theorem kw_487 : (Jvm.Cond.methodLink "ShardRows" (154 : Nat) ({ cls := "ShardRows", name := "missing", desc := "(I)I" } : Jvm.MethodName)) ∈ TB := List.mem_filter.mpr ⟨List.mem_of_getElem? (i := 487) (by decide +kernel), by decide +kernel⟩
theorem kw_488 : (Jvm.Cond.methodLink "ShardRows" (157 : Nat) ({ cls := "ShardRows$ResultRows", name := "anyBad", desc := "()Z" } : Jvm.MethodName)) ∈ TB := List.mem_filter.mpr ⟨List.mem_of_getElem? (i := 488) (by decide +kernel), by decide +kernel⟩
theorem kw_489 : (Jvm.Cond.instanceMethod ({ cls := "ShardRows$ResultRows", name := "anyBad", desc := "()Z" } : Jvm.MethodName)) ∈ TB := List.mem_filter.mpr ⟨List.mem_of_getElem? (i := 489) (by decide +kernel), by decide +kernel⟩
theorem kw_490 : (Jvm.Cond.selects "ShardRows$ResultRows" ({ cls := "ShardRows$ResultRows", name := "anyBad", desc := "()Z" } : Jvm.MethodName) ({ cls := "ShardRows$ResultRows", name := "anyBad", desc := "()Z" } : Jvm.MethodName)) ∈ TB := List.mem_filter.mpr ⟨List.mem_of_getElem? (i := 490) (by decide +kernel), by decide +kernel⟩
theorem kw_491 : (Jvm.Cond.code ({ cls := "ShardRows$ResultRows", name := "anyBad", desc := "()Z" } : Jvm.MethodName) prog_5_method_6_code (2 : Nat) (Option.some Jvm.ClassFile.FieldType.boolean)) ∈ TB := List.mem_filter.mpr ⟨List.mem_of_getElem? (i := 491) (by decide +kernel), by decide +kernel⟩
theorem kw_492 : (Jvm.Cond.methodLink "ShardRowsLaw" (101 : Nat) ({ cls := "ShardRows", name := "tries", desc := "(I)I" } : Jvm.MethodName)) ∈ TB := List.mem_filter.mpr ⟨List.mem_of_getElem? (i := 492) (by decide +kernel), by decide +kernel⟩
theorem kw_493 : (Jvm.Cond.instanceMethod ({ cls := "ShardRows", name := "tries", desc := "(I)I" } : Jvm.MethodName)) ∈ TB := List.mem_filter.mpr ⟨List.mem_of_getElem? (i := 493) (by decide +kernel), by decide +kernel⟩
theorem kw_494 : (Jvm.Cond.selects "ShardRows" ({ cls := "ShardRows", name := "tries", desc := "(I)I" } : Jvm.MethodName) ({ cls := "ShardRows", name := "tries", desc := "(I)I" } : Jvm.MethodName)) ∈ TB := List.mem_filter.mpr ⟨List.mem_of_getElem? (i := 494) (by decide +kernel), by decide +kernel⟩
theorem kw_495 : (Jvm.Cond.code ({ cls := "ShardRows", name := "tries", desc := "(I)I" } : Jvm.MethodName) prog_1_method_20_code (2 : Nat) (Option.some Jvm.ClassFile.FieldType.int)) ∈ TB := List.mem_filter.mpr ⟨List.mem_of_getElem? (i := 495) (by decide +kernel), by decide +kernel⟩
theorem kw_496 : (Jvm.Cond.methodLink "ShardRows" (161 : Nat) ({ cls := "ShardRows$ResultRows", name := "triesOf", desc := "(I)I" } : Jvm.MethodName)) ∈ TB := List.mem_filter.mpr ⟨List.mem_of_getElem? (i := 496) (by decide +kernel), by decide +kernel⟩
theorem kw_497 : (Jvm.Cond.instanceMethod ({ cls := "ShardRows$ResultRows", name := "triesOf", desc := "(I)I" } : Jvm.MethodName)) ∈ TB := List.mem_filter.mpr ⟨List.mem_of_getElem? (i := 497) (by decide +kernel), by decide +kernel⟩
theorem kw_498 : (Jvm.Cond.selects "ShardRows$ResultRows" ({ cls := "ShardRows$ResultRows", name := "triesOf", desc := "(I)I" } : Jvm.MethodName) ({ cls := "ShardRows$ResultRows", name := "triesOf", desc := "(I)I" } : Jvm.MethodName)) ∈ TB := List.mem_filter.mpr ⟨List.mem_of_getElem? (i := 498) (by decide +kernel), by decide +kernel⟩
theorem kw_499 : (Jvm.Cond.code ({ cls := "ShardRows$ResultRows", name := "triesOf", desc := "(I)I" } : Jvm.MethodName) prog_5_method_7_code (2 : Nat) (Option.some Jvm.ClassFile.FieldType.int)) ∈ TB := List.mem_filter.mpr ⟨List.mem_of_getElem? (i := 499) (by decide +kernel), by decide +kernel⟩
theorem kw_500 : (Jvm.Cond.methodLink "ShardRowsLaw" (9 : Nat) ({ cls := "ShardRowsLaw", name := "cell", desc := "([II)I" } : Jvm.MethodName)) ∈ TB := List.mem_filter.mpr ⟨List.mem_of_getElem? (i := 500) (by decide +kernel), by decide +kernel⟩
theorem kw_501 : (Jvm.Cond.static ({ cls := "ShardRowsLaw", name := "cell", desc := "([II)I" } : Jvm.MethodName)) ∈ TB := List.mem_filter.mpr ⟨List.mem_of_getElem? (i := 501) (by decide +kernel), by decide +kernel⟩
theorem kw_502 : (Jvm.Cond.code ({ cls := "ShardRowsLaw", name := "cell", desc := "([II)I" } : Jvm.MethodName) method_2_code (2 : Nat) (Option.some Jvm.ClassFile.FieldType.int)) ∈ TB := List.mem_filter.mpr ⟨List.mem_of_getElem? (i := 502) (by decide +kernel), by decide +kernel⟩
theorem kw_503 : (Jvm.Cond.classLink "ShardRowsLaw" (18 : Nat) "ShardRowsModel") ∈ TB := List.mem_filter.mpr ⟨List.mem_of_getElem? (i := 503) (by decide +kernel), by decide +kernel⟩
theorem kw_504 : (Jvm.Cond.instantiable "ShardRowsModel" (24 : Nat)) ∈ TB := List.mem_filter.mpr ⟨List.mem_of_getElem? (i := 504) (by decide +kernel), by decide +kernel⟩
theorem kw_505 : (Jvm.Cond.methodLink "ShardRowsLaw" (20 : Nat) ({ cls := "ShardRowsModel", name := "<init>", desc := "(I)V" } : Jvm.MethodName)) ∈ TB := List.mem_filter.mpr ⟨List.mem_of_getElem? (i := 505) (by decide +kernel), by decide +kernel⟩
theorem kw_506 : (Jvm.Cond.instanceMethod ({ cls := "ShardRowsModel", name := "<init>", desc := "(I)V" } : Jvm.MethodName)) ∈ TB := List.mem_filter.mpr ⟨List.mem_of_getElem? (i := 506) (by decide +kernel), by decide +kernel⟩
theorem kw_507 : (Jvm.Cond.code ({ cls := "ShardRowsModel", name := "<init>", desc := "(I)V" } : Jvm.MethodName) prog_10_method_1_code (3 : Nat) (Option.none : Option Jvm.ClassFile.FieldType)) ∈ TB := List.mem_filter.mpr ⟨List.mem_of_getElem? (i := 507) (by decide +kernel), by decide +kernel⟩
theorem kw_508 : (Jvm.Cond.methodLink "ShardRowsModel" (1 : Nat) ({ cls := "java/lang/Object", name := "<init>", desc := "()V" } : Jvm.MethodName)) ∈ TB := List.mem_filter.mpr ⟨List.mem_of_getElem? (i := 508) (by decide +kernel), by decide +kernel⟩
theorem kw_509 : (Jvm.Cond.fieldLink "ShardRowsModel" (57 : Nat) "ShardRowsModel" "thrown" "I") ∈ TB := List.mem_filter.mpr ⟨List.mem_of_getElem? (i := 509) (by decide +kernel), by decide +kernel⟩
theorem kw_510 : (Jvm.Cond.fieldLink "ShardRowsModel" (53 : Nat) "ShardRowsModel" "k" "I") ∈ TB := List.mem_filter.mpr ⟨List.mem_of_getElem? (i := 510) (by decide +kernel), by decide +kernel⟩
theorem kw_511 : (Jvm.Cond.fieldLink "ShardRowsModel" (60 : Nat) "ShardRowsModel" "tests" "I") ∈ TB := List.mem_filter.mpr ⟨List.mem_of_getElem? (i := 511) (by decide +kernel), by decide +kernel⟩
theorem kw_512 : (Jvm.Cond.fieldLink "ShardRowsModel" (7 : Nat) "ShardRowsModel" "times" "[I") ∈ TB := List.mem_filter.mpr ⟨List.mem_of_getElem? (i := 512) (by decide +kernel), by decide +kernel⟩
theorem kw_513 : (Jvm.Cond.fieldLink "ShardRowsModel" (13 : Nat) "ShardRowsModel" "group" "[I") ∈ TB := List.mem_filter.mpr ⟨List.mem_of_getElem? (i := 513) (by decide +kernel), by decide +kernel⟩
theorem kw_514 : (Jvm.Cond.fieldLink "ShardRowsModel" (104 : Nat) "ShardRowsModel" "isSplit" "Z") ∈ TB := List.mem_filter.mpr ⟨List.mem_of_getElem? (i := 514) (by decide +kernel), by decide +kernel⟩
theorem kw_515 : (Jvm.Cond.fieldLink "ShardRowsModel" (108 : Nat) "ShardRowsModel" "many" "I") ∈ TB := List.mem_filter.mpr ⟨List.mem_of_getElem? (i := 515) (by decide +kernel), by decide +kernel⟩
theorem kw_516 : (Jvm.Cond.fieldLink "ShardRowsModel" (111 : Nat) "ShardRowsModel" "splitTests" "I") ∈ TB := List.mem_filter.mpr ⟨List.mem_of_getElem? (i := 516) (by decide +kernel), by decide +kernel⟩
theorem kw_517 : (Jvm.Cond.fieldLink "ShardRowsModel" (101 : Nat) "ShardRowsModel" "moved" "I") ∈ TB := List.mem_filter.mpr ⟨List.mem_of_getElem? (i := 517) (by decide +kernel), by decide +kernel⟩
theorem kw_518 : (Jvm.Cond.fieldLink "ShardRowsModel" (114 : Nat) "ShardRowsModel" "strange" "I") ∈ TB := List.mem_filter.mpr ⟨List.mem_of_getElem? (i := 518) (by decide +kernel), by decide +kernel⟩
theorem kw_519 : (Jvm.Cond.fieldLink "ShardRowsModel" (16 : Nat) "ShardRowsModel" "shard" "[I") ∈ TB := List.mem_filter.mpr ⟨List.mem_of_getElem? (i := 519) (by decide +kernel), by decide +kernel⟩
theorem kw_520 : (Jvm.Cond.fieldLink "ShardRowsModel" (19 : Nat) "ShardRowsModel" "sums" "[I") ∈ TB := List.mem_filter.mpr ⟨List.mem_of_getElem? (i := 520) (by decide +kernel), by decide +kernel⟩
theorem kw_521 : (Jvm.Cond.fieldLink "ShardRowsModel" (22 : Nat) "ShardRowsModel" "before" "[I") ∈ TB := List.mem_filter.mpr ⟨List.mem_of_getElem? (i := 521) (by decide +kernel), by decide +kernel⟩
theorem kw_522 : (Jvm.Cond.fieldLink "ShardRowsModel" (25 : Nat) "ShardRowsModel" "has" "[Z") ∈ TB := List.mem_filter.mpr ⟨List.mem_of_getElem? (i := 522) (by decide +kernel), by decide +kernel⟩
theorem kw_523 : (Jvm.Cond.fieldLink "ShardRowsModel" (29 : Nat) "ShardRowsModel" "good" "[Z") ∈ TB := List.mem_filter.mpr ⟨List.mem_of_getElem? (i := 523) (by decide +kernel), by decide +kernel⟩
theorem kw_524 : (Jvm.Cond.fieldLink "ShardRowsModel" (32 : Nat) "ShardRowsModel" "tries" "[I") ∈ TB := List.mem_filter.mpr ⟨List.mem_of_getElem? (i := 524) (by decide +kernel), by decide +kernel⟩
theorem kw_525 : (Jvm.Cond.fieldLink "ShardRowsModel" (35 : Nat) "ShardRowsModel" "drawn" "[I") ∈ TB := List.mem_filter.mpr ⟨List.mem_of_getElem? (i := 525) (by decide +kernel), by decide +kernel⟩
theorem kw_526 : (Jvm.Cond.fieldLink "ShardRowsModel" (127 : Nat) "ShardRowsModel" "drawnMany" "I") ∈ TB := List.mem_filter.mpr ⟨List.mem_of_getElem? (i := 526) (by decide +kernel), by decide +kernel⟩
theorem kw_527 : (Jvm.Cond.fieldLink "ShardRowsModel" (38 : Nat) "ShardRowsModel" "firsts" "[I") ∈ TB := List.mem_filter.mpr ⟨List.mem_of_getElem? (i := 527) (by decide +kernel), by decide +kernel⟩
theorem kw_528 : (Jvm.Cond.fieldLink "ShardRowsModel" (41 : Nat) "ShardRowsModel" "weights" "[I") ∈ TB := List.mem_filter.mpr ⟨List.mem_of_getElem? (i := 528) (by decide +kernel), by decide +kernel⟩
theorem kw_529 : (Jvm.Cond.fieldLink "ShardRowsModel" (44 : Nat) "ShardRowsModel" "way" "[I") ∈ TB := List.mem_filter.mpr ⟨List.mem_of_getElem? (i := 529) (by decide +kernel), by decide +kernel⟩
theorem kw_530 : (Jvm.Cond.fieldLink "ShardRowsModel" (47 : Nat) "ShardRowsModel" "best" "[I") ∈ TB := List.mem_filter.mpr ⟨List.mem_of_getElem? (i := 530) (by decide +kernel), by decide +kernel⟩
theorem kw_531 : (Jvm.Cond.fieldLink "ShardRowsModel" (50 : Nat) "ShardRowsModel" "taken" "[Z") ∈ TB := List.mem_filter.mpr ⟨List.mem_of_getElem? (i := 531) (by decide +kernel), by decide +kernel⟩
theorem kw_532 : (Jvm.Cond.fieldLink "ShardRowsModel" (75 : Nat) "ShardRowsModel" "groups" "I") ∈ TB := List.mem_filter.mpr ⟨List.mem_of_getElem? (i := 532) (by decide +kernel), by decide +kernel⟩
theorem kw_582 : (Jvm.Cond.methodLink "ShardRowsLaw" (25 : Nat) ({ cls := "ShardRowsModel", name := "test", desc := "(I)I" } : Jvm.MethodName)) ∈ TB := List.mem_filter.mpr ⟨List.mem_of_getElem? (i := 582) (by decide +kernel), by decide +kernel⟩
theorem kw_583 : (Jvm.Cond.instanceMethod ({ cls := "ShardRowsModel", name := "test", desc := "(I)I" } : Jvm.MethodName)) ∈ TB := List.mem_filter.mpr ⟨List.mem_of_getElem? (i := 583) (by decide +kernel), by decide +kernel⟩
theorem kw_584 : (Jvm.Cond.selects "ShardRowsModel" ({ cls := "ShardRowsModel", name := "test", desc := "(I)I" } : Jvm.MethodName) ({ cls := "ShardRowsModel", name := "test", desc := "(I)I" } : Jvm.MethodName)) ∈ TB := List.mem_filter.mpr ⟨List.mem_of_getElem? (i := 584) (by decide +kernel), by decide +kernel⟩
theorem kw_585 : (Jvm.Cond.code ({ cls := "ShardRowsModel", name := "test", desc := "(I)I" } : Jvm.MethodName) prog_10_method_5_code (2 : Nat) (Option.some Jvm.ClassFile.FieldType.int)) ∈ TB := List.mem_filter.mpr ⟨List.mem_of_getElem? (i := 585) (by decide +kernel), by decide +kernel⟩
theorem kw_586 : (Jvm.Cond.methodLink "ShardRowsModel" (64 : Nat) ({ cls := "ShardRowsModel", name := "isTime", desc := "(I)Z" } : Jvm.MethodName)) ∈ TB := List.mem_filter.mpr ⟨List.mem_of_getElem? (i := 586) (by decide +kernel), by decide +kernel⟩
theorem kw_587 : (Jvm.Cond.static ({ cls := "ShardRowsModel", name := "isTime", desc := "(I)Z" } : Jvm.MethodName)) ∈ TB := List.mem_filter.mpr ⟨List.mem_of_getElem? (i := 587) (by decide +kernel), by decide +kernel⟩
theorem kw_588 : (Jvm.Cond.code ({ cls := "ShardRowsModel", name := "isTime", desc := "(I)Z" } : Jvm.MethodName) prog_10_method_4_code (1 : Nat) (Option.some Jvm.ClassFile.FieldType.boolean)) ∈ TB := List.mem_filter.mpr ⟨List.mem_of_getElem? (i := 588) (by decide +kernel), by decide +kernel⟩
theorem kw_589 : (Jvm.Cond.constant "ShardRowsModel" (63 : Nat) (100000 : Int32)) ∈ TB := List.mem_filter.mpr ⟨List.mem_of_getElem? (i := 589) (by decide +kernel), by decide +kernel⟩
theorem kw_590 : (Jvm.Cond.methodLink "ShardRowsLaw" (30 : Nat) ({ cls := "ShardRowsModel", name := "time", desc := "(II)Z" } : Jvm.MethodName)) ∈ TB := List.mem_filter.mpr ⟨List.mem_of_getElem? (i := 590) (by decide +kernel), by decide +kernel⟩
theorem kw_591 : (Jvm.Cond.instanceMethod ({ cls := "ShardRowsModel", name := "time", desc := "(II)Z" } : Jvm.MethodName)) ∈ TB := List.mem_filter.mpr ⟨List.mem_of_getElem? (i := 591) (by decide +kernel), by decide +kernel⟩
theorem kw_592 : (Jvm.Cond.selects "ShardRowsModel" ({ cls := "ShardRowsModel", name := "time", desc := "(II)Z" } : Jvm.MethodName) ({ cls := "ShardRowsModel", name := "time", desc := "(II)Z" } : Jvm.MethodName)) ∈ TB := List.mem_filter.mpr ⟨List.mem_of_getElem? (i := 592) (by decide +kernel), by decide +kernel⟩
theorem kw_593 : (Jvm.Cond.code ({ cls := "ShardRowsModel", name := "time", desc := "(II)Z" } : Jvm.MethodName) prog_10_method_6_code (3 : Nat) (Option.some Jvm.ClassFile.FieldType.boolean)) ∈ TB := List.mem_filter.mpr ⟨List.mem_of_getElem? (i := 593) (by decide +kernel), by decide +kernel⟩
theorem kw_594 : (Jvm.Cond.methodLink "ShardRowsModel" (68 : Nat) ({ cls := "ShardRowsModel", name := "isTest", desc := "(I)Z" } : Jvm.MethodName)) ∈ TB := List.mem_filter.mpr ⟨List.mem_of_getElem? (i := 594) (by decide +kernel), by decide +kernel⟩
theorem kw_596 : (Jvm.Cond.instanceMethod ({ cls := "ShardRowsModel", name := "isTest", desc := "(I)Z" } : Jvm.MethodName)) ∈ TB := List.mem_filter.mpr ⟨List.mem_of_getElem? (i := 596) (by decide +kernel), by decide +kernel⟩
theorem kw_597 : (Jvm.Cond.code ({ cls := "ShardRowsModel", name := "isTest", desc := "(I)Z" } : Jvm.MethodName) prog_10_method_3_code (2 : Nat) (Option.some Jvm.ClassFile.FieldType.boolean)) ∈ TB := List.mem_filter.mpr ⟨List.mem_of_getElem? (i := 597) (by decide +kernel), by decide +kernel⟩
theorem kw_598 : (Jvm.Cond.methodLink "ShardRowsLaw" (34 : Nat) ({ cls := "ShardRowsModel", name := "join", desc := "(II)Z" } : Jvm.MethodName)) ∈ TB := List.mem_filter.mpr ⟨List.mem_of_getElem? (i := 598) (by decide +kernel), by decide +kernel⟩
theorem kw_599 : (Jvm.Cond.instanceMethod ({ cls := "ShardRowsModel", name := "join", desc := "(II)Z" } : Jvm.MethodName)) ∈ TB := List.mem_filter.mpr ⟨List.mem_of_getElem? (i := 599) (by decide +kernel), by decide +kernel⟩
theorem kw_600 : (Jvm.Cond.selects "ShardRowsModel" ({ cls := "ShardRowsModel", name := "join", desc := "(II)Z" } : Jvm.MethodName) ({ cls := "ShardRowsModel", name := "join", desc := "(II)Z" } : Jvm.MethodName)) ∈ TB := List.mem_filter.mpr ⟨List.mem_of_getElem? (i := 600) (by decide +kernel), by decide +kernel⟩
theorem kw_601 : (Jvm.Cond.code ({ cls := "ShardRowsModel", name := "join", desc := "(II)Z" } : Jvm.MethodName) prog_10_method_7_code (6 : Nat) (Option.some Jvm.ClassFile.FieldType.boolean)) ∈ TB := List.mem_filter.mpr ⟨List.mem_of_getElem? (i := 601) (by decide +kernel), by decide +kernel⟩
theorem kw_602 : (Jvm.Cond.methodLink "ShardRowsLaw" (39 : Nat) ({ cls := "ShardRowsModel", name := "shards", desc := "(I)Z" } : Jvm.MethodName)) ∈ TB := List.mem_filter.mpr ⟨List.mem_of_getElem? (i := 602) (by decide +kernel), by decide +kernel⟩
theorem kw_603 : (Jvm.Cond.instanceMethod ({ cls := "ShardRowsModel", name := "shards", desc := "(I)Z" } : Jvm.MethodName)) ∈ TB := List.mem_filter.mpr ⟨List.mem_of_getElem? (i := 603) (by decide +kernel), by decide +kernel⟩
theorem kw_604 : (Jvm.Cond.selects "ShardRowsModel" ({ cls := "ShardRowsModel", name := "shards", desc := "(I)Z" } : Jvm.MethodName) ({ cls := "ShardRowsModel", name := "shards", desc := "(I)Z" } : Jvm.MethodName)) ∈ TB := List.mem_filter.mpr ⟨List.mem_of_getElem? (i := 604) (by decide +kernel), by decide +kernel⟩
theorem kw_605 : (Jvm.Cond.code ({ cls := "ShardRowsModel", name := "shards", desc := "(I)Z" } : Jvm.MethodName) prog_10_method_8_code (2 : Nat) (Option.some Jvm.ClassFile.FieldType.boolean)) ∈ TB := List.mem_filter.mpr ⟨List.mem_of_getElem? (i := 605) (by decide +kernel), by decide +kernel⟩
theorem kw_606 : (Jvm.Cond.methodLink "ShardRowsLaw" (44 : Nat) ({ cls := "ShardRowsModel", name := "mean", desc := "()I" } : Jvm.MethodName)) ∈ TB := List.mem_filter.mpr ⟨List.mem_of_getElem? (i := 606) (by decide +kernel), by decide +kernel⟩
theorem kw_607 : (Jvm.Cond.instanceMethod ({ cls := "ShardRowsModel", name := "mean", desc := "()I" } : Jvm.MethodName)) ∈ TB := List.mem_filter.mpr ⟨List.mem_of_getElem? (i := 607) (by decide +kernel), by decide +kernel⟩
theorem kw_608 : (Jvm.Cond.selects "ShardRowsModel" ({ cls := "ShardRowsModel", name := "mean", desc := "()I" } : Jvm.MethodName) ({ cls := "ShardRowsModel", name := "mean", desc := "()I" } : Jvm.MethodName)) ∈ TB := List.mem_filter.mpr ⟨List.mem_of_getElem? (i := 608) (by decide +kernel), by decide +kernel⟩
theorem kw_609 : (Jvm.Cond.code ({ cls := "ShardRowsModel", name := "mean", desc := "()I" } : Jvm.MethodName) prog_10_method_9_code (4 : Nat) (Option.some Jvm.ClassFile.FieldType.int)) ∈ TB := List.mem_filter.mpr ⟨List.mem_of_getElem? (i := 609) (by decide +kernel), by decide +kernel⟩
theorem kw_610 : (Jvm.Cond.methodLink "ShardRowsLaw" (48 : Nat) ({ cls := "ShardRowsModel", name := "groups", desc := "()I" } : Jvm.MethodName)) ∈ TB := List.mem_filter.mpr ⟨List.mem_of_getElem? (i := 610) (by decide +kernel), by decide +kernel⟩
theorem kw_611 : (Jvm.Cond.instanceMethod ({ cls := "ShardRowsModel", name := "groups", desc := "()I" } : Jvm.MethodName)) ∈ TB := List.mem_filter.mpr ⟨List.mem_of_getElem? (i := 611) (by decide +kernel), by decide +kernel⟩
theorem kw_612 : (Jvm.Cond.selects "ShardRowsModel" ({ cls := "ShardRowsModel", name := "groups", desc := "()I" } : Jvm.MethodName) ({ cls := "ShardRowsModel", name := "groups", desc := "()I" } : Jvm.MethodName)) ∈ TB := List.mem_filter.mpr ⟨List.mem_of_getElem? (i := 612) (by decide +kernel), by decide +kernel⟩
theorem kw_613 : (Jvm.Cond.code ({ cls := "ShardRowsModel", name := "groups", desc := "()I" } : Jvm.MethodName) prog_10_method_10_code (3 : Nat) (Option.some Jvm.ClassFile.FieldType.int)) ∈ TB := List.mem_filter.mpr ⟨List.mem_of_getElem? (i := 613) (by decide +kernel), by decide +kernel⟩
theorem kw_614 : (Jvm.Cond.methodLink "ShardRowsLaw" (52 : Nat) ({ cls := "ShardRowsModel", name := "split", desc := "()I" } : Jvm.MethodName)) ∈ TB := List.mem_filter.mpr ⟨List.mem_of_getElem? (i := 614) (by decide +kernel), by decide +kernel⟩
theorem kw_615 : (Jvm.Cond.instanceMethod ({ cls := "ShardRowsModel", name := "split", desc := "()I" } : Jvm.MethodName)) ∈ TB := List.mem_filter.mpr ⟨List.mem_of_getElem? (i := 615) (by decide +kernel), by decide +kernel⟩
theorem kw_616 : (Jvm.Cond.selects "ShardRowsModel" ({ cls := "ShardRowsModel", name := "split", desc := "()I" } : Jvm.MethodName) ({ cls := "ShardRowsModel", name := "split", desc := "()I" } : Jvm.MethodName)) ∈ TB := List.mem_filter.mpr ⟨List.mem_of_getElem? (i := 616) (by decide +kernel), by decide +kernel⟩
theorem kw_617 : (Jvm.Cond.code ({ cls := "ShardRowsModel", name := "split", desc := "()I" } : Jvm.MethodName) prog_10_method_18_code (4 : Nat) (Option.some Jvm.ClassFile.FieldType.int)) ∈ TB := List.mem_filter.mpr ⟨List.mem_of_getElem? (i := 617) (by decide +kernel), by decide +kernel⟩
theorem kw_618 : (Jvm.Cond.methodLink "ShardRowsModel" (92 : Nat) ({ cls := "ShardRowsModel", name := "gathers", desc := "()V" } : Jvm.MethodName)) ∈ TB := List.mem_filter.mpr ⟨List.mem_of_getElem? (i := 618) (by decide +kernel), by decide +kernel⟩
theorem kw_620 : (Jvm.Cond.instanceMethod ({ cls := "ShardRowsModel", name := "gathers", desc := "()V" } : Jvm.MethodName)) ∈ TB := List.mem_filter.mpr ⟨List.mem_of_getElem? (i := 620) (by decide +kernel), by decide +kernel⟩
theorem kw_621 : (Jvm.Cond.code ({ cls := "ShardRowsModel", name := "gathers", desc := "()V" } : Jvm.MethodName) prog_10_method_11_code (4 : Nat) (Option.none : Option Jvm.ClassFile.FieldType)) ∈ TB := List.mem_filter.mpr ⟨List.mem_of_getElem? (i := 621) (by decide +kernel), by decide +kernel⟩
theorem kw_622 : (Jvm.Cond.methodLink "ShardRowsModel" (71 : Nat) ({ cls := "ShardRowsModel", name := "mean", desc := "()I" } : Jvm.MethodName)) ∈ TB := List.mem_filter.mpr ⟨List.mem_of_getElem? (i := 622) (by decide +kernel), by decide +kernel⟩
theorem kw_623 : (Jvm.Cond.methodLink "ShardRowsModel" (95 : Nat) ({ cls := "ShardRowsModel", name := "exact", desc := "()V" } : Jvm.MethodName)) ∈ TB := List.mem_filter.mpr ⟨List.mem_of_getElem? (i := 623) (by decide +kernel), by decide +kernel⟩
theorem kw_625 : (Jvm.Cond.instanceMethod ({ cls := "ShardRowsModel", name := "exact", desc := "()V" } : Jvm.MethodName)) ∈ TB := List.mem_filter.mpr ⟨List.mem_of_getElem? (i := 625) (by decide +kernel), by decide +kernel⟩
theorem kw_626 : (Jvm.Cond.code ({ cls := "ShardRowsModel", name := "exact", desc := "()V" } : Jvm.MethodName) prog_10_method_16_code (7 : Nat) (Option.none : Option Jvm.ClassFile.FieldType)) ∈ TB := List.mem_filter.mpr ⟨List.mem_of_getElem? (i := 626) (by decide +kernel), by decide +kernel⟩
theorem kw_627 : (Jvm.Cond.methodLink "ShardRowsModel" (82 : Nat) ({ cls := "ShardRowsModel", name := "length", desc := "()I" } : Jvm.MethodName)) ∈ TB := List.mem_filter.mpr ⟨List.mem_of_getElem? (i := 627) (by decide +kernel), by decide +kernel⟩
theorem kw_629 : (Jvm.Cond.instanceMethod ({ cls := "ShardRowsModel", name := "length", desc := "()I" } : Jvm.MethodName)) ∈ TB := List.mem_filter.mpr ⟨List.mem_of_getElem? (i := 629) (by decide +kernel), by decide +kernel⟩
theorem kw_630 : (Jvm.Cond.code ({ cls := "ShardRowsModel", name := "length", desc := "()I" } : Jvm.MethodName) prog_10_method_12_code (3 : Nat) (Option.some Jvm.ClassFile.FieldType.int)) ∈ TB := List.mem_filter.mpr ⟨List.mem_of_getElem? (i := 630) (by decide +kernel), by decide +kernel⟩
theorem kw_631 : (Jvm.Cond.methodLink "ShardRowsModel" (85 : Nat) ({ cls := "ShardRowsModel", name := "moves", desc := "()I" } : Jvm.MethodName)) ∈ TB := List.mem_filter.mpr ⟨List.mem_of_getElem? (i := 631) (by decide +kernel), by decide +kernel⟩
theorem kw_633 : (Jvm.Cond.instanceMethod ({ cls := "ShardRowsModel", name := "moves", desc := "()I" } : Jvm.MethodName)) ∈ TB := List.mem_filter.mpr ⟨List.mem_of_getElem? (i := 633) (by decide +kernel), by decide +kernel⟩
theorem kw_634 : (Jvm.Cond.code ({ cls := "ShardRowsModel", name := "moves", desc := "()I" } : Jvm.MethodName) prog_10_method_14_code (3 : Nat) (Option.some Jvm.ClassFile.FieldType.int)) ∈ TB := List.mem_filter.mpr ⟨List.mem_of_getElem? (i := 634) (by decide +kernel), by decide +kernel⟩
theorem kw_635 : (Jvm.Cond.methodLink "ShardRowsModel" (78 : Nat) ({ cls := "ShardRowsModel", name := "movesOf", desc := "(II)I" } : Jvm.MethodName)) ∈ TB := List.mem_filter.mpr ⟨List.mem_of_getElem? (i := 635) (by decide +kernel), by decide +kernel⟩
theorem kw_637 : (Jvm.Cond.instanceMethod ({ cls := "ShardRowsModel", name := "movesOf", desc := "(II)I" } : Jvm.MethodName)) ∈ TB := List.mem_filter.mpr ⟨List.mem_of_getElem? (i := 637) (by decide +kernel), by decide +kernel⟩
theorem kw_638 : (Jvm.Cond.code ({ cls := "ShardRowsModel", name := "movesOf", desc := "(II)I" } : Jvm.MethodName) prog_10_method_13_code (5 : Nat) (Option.some Jvm.ClassFile.FieldType.int)) ∈ TB := List.mem_filter.mpr ⟨List.mem_of_getElem? (i := 638) (by decide +kernel), by decide +kernel⟩
theorem kw_639 : (Jvm.Cond.methodLink "ShardRowsModel" (88 : Nat) ({ cls := "ShardRowsModel", name := "next", desc := "()Z" } : Jvm.MethodName)) ∈ TB := List.mem_filter.mpr ⟨List.mem_of_getElem? (i := 639) (by decide +kernel), by decide +kernel⟩
theorem kw_641 : (Jvm.Cond.instanceMethod ({ cls := "ShardRowsModel", name := "next", desc := "()Z" } : Jvm.MethodName)) ∈ TB := List.mem_filter.mpr ⟨List.mem_of_getElem? (i := 641) (by decide +kernel), by decide +kernel⟩
theorem kw_642 : (Jvm.Cond.code ({ cls := "ShardRowsModel", name := "next", desc := "()Z" } : Jvm.MethodName) prog_10_method_15_code (2 : Nat) (Option.some Jvm.ClassFile.FieldType.boolean)) ∈ TB := List.mem_filter.mpr ⟨List.mem_of_getElem? (i := 642) (by decide +kernel), by decide +kernel⟩
theorem kw_643 : (Jvm.Cond.methodLink "ShardRowsModel" (98 : Nat) ({ cls := "ShardRowsModel", name := "byTimes", desc := "()V" } : Jvm.MethodName)) ∈ TB := List.mem_filter.mpr ⟨List.mem_of_getElem? (i := 643) (by decide +kernel), by decide +kernel⟩
theorem kw_645 : (Jvm.Cond.instanceMethod ({ cls := "ShardRowsModel", name := "byTimes", desc := "()V" } : Jvm.MethodName)) ∈ TB := List.mem_filter.mpr ⟨List.mem_of_getElem? (i := 645) (by decide +kernel), by decide +kernel⟩
theorem kw_646 : (Jvm.Cond.code ({ cls := "ShardRowsModel", name := "byTimes", desc := "()V" } : Jvm.MethodName) prog_10_method_17_code (5 : Nat) (Option.none : Option Jvm.ClassFile.FieldType)) ∈ TB := List.mem_filter.mpr ⟨List.mem_of_getElem? (i := 646) (by decide +kernel), by decide +kernel⟩
theorem kw_647 : (Jvm.Cond.methodLink "ShardRowsLaw" (56 : Nat) ({ cls := "ShardRowsModel", name := "shard", desc := "(I)I" } : Jvm.MethodName)) ∈ TB := List.mem_filter.mpr ⟨List.mem_of_getElem? (i := 647) (by decide +kernel), by decide +kernel⟩
theorem kw_648 : (Jvm.Cond.instanceMethod ({ cls := "ShardRowsModel", name := "shard", desc := "(I)I" } : Jvm.MethodName)) ∈ TB := List.mem_filter.mpr ⟨List.mem_of_getElem? (i := 648) (by decide +kernel), by decide +kernel⟩
theorem kw_649 : (Jvm.Cond.selects "ShardRowsModel" ({ cls := "ShardRowsModel", name := "shard", desc := "(I)I" } : Jvm.MethodName) ({ cls := "ShardRowsModel", name := "shard", desc := "(I)I" } : Jvm.MethodName)) ∈ TB := List.mem_filter.mpr ⟨List.mem_of_getElem? (i := 649) (by decide +kernel), by decide +kernel⟩
theorem kw_650 : (Jvm.Cond.code ({ cls := "ShardRowsModel", name := "shard", desc := "(I)I" } : Jvm.MethodName) prog_10_method_21_code (2 : Nat) (Option.some Jvm.ClassFile.FieldType.int)) ∈ TB := List.mem_filter.mpr ⟨List.mem_of_getElem? (i := 650) (by decide +kernel), by decide +kernel⟩
theorem kw_651 : (Jvm.Cond.methodLink "ShardRowsModel" (117 : Nat) ({ cls := "ShardRowsModel", name := "isIn", desc := "(I)Z" } : Jvm.MethodName)) ∈ TB := List.mem_filter.mpr ⟨List.mem_of_getElem? (i := 651) (by decide +kernel), by decide +kernel⟩
theorem kw_653 : (Jvm.Cond.instanceMethod ({ cls := "ShardRowsModel", name := "isIn", desc := "(I)Z" } : Jvm.MethodName)) ∈ TB := List.mem_filter.mpr ⟨List.mem_of_getElem? (i := 653) (by decide +kernel), by decide +kernel⟩
theorem kw_654 : (Jvm.Cond.code ({ cls := "ShardRowsModel", name := "isIn", desc := "(I)Z" } : Jvm.MethodName) prog_10_method_20_code (2 : Nat) (Option.some Jvm.ClassFile.FieldType.boolean)) ∈ TB := List.mem_filter.mpr ⟨List.mem_of_getElem? (i := 654) (by decide +kernel), by decide +kernel⟩
theorem kw_655 : (Jvm.Cond.methodLink "ShardRowsLaw" (60 : Nat) ({ cls := "ShardRowsModel", name := "sum", desc := "(I)I" } : Jvm.MethodName)) ∈ TB := List.mem_filter.mpr ⟨List.mem_of_getElem? (i := 655) (by decide +kernel), by decide +kernel⟩
theorem kw_656 : (Jvm.Cond.instanceMethod ({ cls := "ShardRowsModel", name := "sum", desc := "(I)I" } : Jvm.MethodName)) ∈ TB := List.mem_filter.mpr ⟨List.mem_of_getElem? (i := 656) (by decide +kernel), by decide +kernel⟩
theorem kw_657 : (Jvm.Cond.selects "ShardRowsModel" ({ cls := "ShardRowsModel", name := "sum", desc := "(I)I" } : Jvm.MethodName) ({ cls := "ShardRowsModel", name := "sum", desc := "(I)I" } : Jvm.MethodName)) ∈ TB := List.mem_filter.mpr ⟨List.mem_of_getElem? (i := 657) (by decide +kernel), by decide +kernel⟩
theorem kw_658 : (Jvm.Cond.code ({ cls := "ShardRowsModel", name := "sum", desc := "(I)I" } : Jvm.MethodName) prog_10_method_22_code (2 : Nat) (Option.some Jvm.ClassFile.FieldType.int)) ∈ TB := List.mem_filter.mpr ⟨List.mem_of_getElem? (i := 658) (by decide +kernel), by decide +kernel⟩
theorem kw_659 : (Jvm.Cond.methodLink "ShardRowsModel" (120 : Nat) ({ cls := "ShardRowsModel", name := "isShard", desc := "(I)Z" } : Jvm.MethodName)) ∈ TB := List.mem_filter.mpr ⟨List.mem_of_getElem? (i := 659) (by decide +kernel), by decide +kernel⟩
theorem kw_661 : (Jvm.Cond.instanceMethod ({ cls := "ShardRowsModel", name := "isShard", desc := "(I)Z" } : Jvm.MethodName)) ∈ TB := List.mem_filter.mpr ⟨List.mem_of_getElem? (i := 661) (by decide +kernel), by decide +kernel⟩
theorem kw_662 : (Jvm.Cond.code ({ cls := "ShardRowsModel", name := "isShard", desc := "(I)Z" } : Jvm.MethodName) prog_10_method_19_code (2 : Nat) (Option.some Jvm.ClassFile.FieldType.boolean)) ∈ TB := List.mem_filter.mpr ⟨List.mem_of_getElem? (i := 662) (by decide +kernel), by decide +kernel⟩
theorem kw_663 : (Jvm.Cond.methodLink "ShardRowsLaw" (64 : Nat) ({ cls := "ShardRowsModel", name := "moved", desc := "()I" } : Jvm.MethodName)) ∈ TB := List.mem_filter.mpr ⟨List.mem_of_getElem? (i := 663) (by decide +kernel), by decide +kernel⟩
theorem kw_664 : (Jvm.Cond.instanceMethod ({ cls := "ShardRowsModel", name := "moved", desc := "()I" } : Jvm.MethodName)) ∈ TB := List.mem_filter.mpr ⟨List.mem_of_getElem? (i := 664) (by decide +kernel), by decide +kernel⟩
theorem kw_665 : (Jvm.Cond.selects "ShardRowsModel" ({ cls := "ShardRowsModel", name := "moved", desc := "()I" } : Jvm.MethodName) ({ cls := "ShardRowsModel", name := "moved", desc := "()I" } : Jvm.MethodName)) ∈ TB := List.mem_filter.mpr ⟨List.mem_of_getElem? (i := 665) (by decide +kernel), by decide +kernel⟩
theorem kw_666 : (Jvm.Cond.code ({ cls := "ShardRowsModel", name := "moved", desc := "()I" } : Jvm.MethodName) prog_10_method_23_code (1 : Nat) (Option.some Jvm.ClassFile.FieldType.int)) ∈ TB := List.mem_filter.mpr ⟨List.mem_of_getElem? (i := 666) (by decide +kernel), by decide +kernel⟩
theorem kw_667 : (Jvm.Cond.methodLink "ShardRowsLaw" (68 : Nat) ({ cls := "ShardRowsModel", name := "empty", desc := "(I)I" } : Jvm.MethodName)) ∈ TB := List.mem_filter.mpr ⟨List.mem_of_getElem? (i := 667) (by decide +kernel), by decide +kernel⟩
theorem kw_668 : (Jvm.Cond.instanceMethod ({ cls := "ShardRowsModel", name := "empty", desc := "(I)I" } : Jvm.MethodName)) ∈ TB := List.mem_filter.mpr ⟨List.mem_of_getElem? (i := 668) (by decide +kernel), by decide +kernel⟩
theorem kw_669 : (Jvm.Cond.selects "ShardRowsModel" ({ cls := "ShardRowsModel", name := "empty", desc := "(I)I" } : Jvm.MethodName) ({ cls := "ShardRowsModel", name := "empty", desc := "(I)I" } : Jvm.MethodName)) ∈ TB := List.mem_filter.mpr ⟨List.mem_of_getElem? (i := 669) (by decide +kernel), by decide +kernel⟩
theorem kw_670 : (Jvm.Cond.code ({ cls := "ShardRowsModel", name := "empty", desc := "(I)I" } : Jvm.MethodName) prog_10_method_25_code (4 : Nat) (Option.some Jvm.ClassFile.FieldType.int)) ∈ TB := List.mem_filter.mpr ⟨List.mem_of_getElem? (i := 670) (by decide +kernel), by decide +kernel⟩
theorem kw_671 : (Jvm.Cond.methodLink "ShardRowsModel" (123 : Nat) ({ cls := "ShardRowsModel", name := "testsOf", desc := "(I)I" } : Jvm.MethodName)) ∈ TB := List.mem_filter.mpr ⟨List.mem_of_getElem? (i := 671) (by decide +kernel), by decide +kernel⟩
theorem kw_673 : (Jvm.Cond.instanceMethod ({ cls := "ShardRowsModel", name := "testsOf", desc := "(I)I" } : Jvm.MethodName)) ∈ TB := List.mem_filter.mpr ⟨List.mem_of_getElem? (i := 673) (by decide +kernel), by decide +kernel⟩
theorem kw_674 : (Jvm.Cond.code ({ cls := "ShardRowsModel", name := "testsOf", desc := "(I)I" } : Jvm.MethodName) prog_10_method_24_code (4 : Nat) (Option.some Jvm.ClassFile.FieldType.int)) ∈ TB := List.mem_filter.mpr ⟨List.mem_of_getElem? (i := 674) (by decide +kernel), by decide +kernel⟩
theorem kw_675 : (Jvm.Cond.methodLink "ShardRowsLaw" (75 : Nat) ({ cls := "ShardRowsModel", name := "draw", desc := "(IJ)I" } : Jvm.MethodName)) ∈ TB := List.mem_filter.mpr ⟨List.mem_of_getElem? (i := 675) (by decide +kernel), by decide +kernel⟩
theorem kw_676 : (Jvm.Cond.instanceMethod ({ cls := "ShardRowsModel", name := "draw", desc := "(IJ)I" } : Jvm.MethodName)) ∈ TB := List.mem_filter.mpr ⟨List.mem_of_getElem? (i := 676) (by decide +kernel), by decide +kernel⟩
theorem kw_677 : (Jvm.Cond.selects "ShardRowsModel" ({ cls := "ShardRowsModel", name := "draw", desc := "(IJ)I" } : Jvm.MethodName) ({ cls := "ShardRowsModel", name := "draw", desc := "(IJ)I" } : Jvm.MethodName)) ∈ TB := List.mem_filter.mpr ⟨List.mem_of_getElem? (i := 677) (by decide +kernel), by decide +kernel⟩
theorem kw_678 : (Jvm.Cond.code ({ cls := "ShardRowsModel", name := "draw", desc := "(IJ)I" } : Jvm.MethodName) prog_10_method_26_code (9 : Nat) (Option.some Jvm.ClassFile.FieldType.int)) ∈ TB := List.mem_filter.mpr ⟨List.mem_of_getElem? (i := 678) (by decide +kernel), by decide +kernel⟩
theorem kw_679 : (Jvm.Cond.constantLong "ShardRowsModel" (130 : Nat) (6364136223846793005 : Int64)) ∈ TB := List.mem_filter.mpr ⟨List.mem_of_getElem? (i := 679) (by decide +kernel), by decide +kernel⟩
theorem kw_680 : (Jvm.Cond.constantLong "ShardRowsModel" (132 : Nat) (1442695040888963407 : Int64)) ∈ TB := List.mem_filter.mpr ⟨List.mem_of_getElem? (i := 680) (by decide +kernel), by decide +kernel⟩
theorem kw_681 : (Jvm.Cond.methodLink "ShardRowsLaw" (79 : Nat) ({ cls := "ShardRowsModel", name := "drawn", desc := "(I)I" } : Jvm.MethodName)) ∈ TB := List.mem_filter.mpr ⟨List.mem_of_getElem? (i := 681) (by decide +kernel), by decide +kernel⟩
theorem kw_682 : (Jvm.Cond.instanceMethod ({ cls := "ShardRowsModel", name := "drawn", desc := "(I)I" } : Jvm.MethodName)) ∈ TB := List.mem_filter.mpr ⟨List.mem_of_getElem? (i := 682) (by decide +kernel), by decide +kernel⟩
theorem kw_683 : (Jvm.Cond.selects "ShardRowsModel" ({ cls := "ShardRowsModel", name := "drawn", desc := "(I)I" } : Jvm.MethodName) ({ cls := "ShardRowsModel", name := "drawn", desc := "(I)I" } : Jvm.MethodName)) ∈ TB := List.mem_filter.mpr ⟨List.mem_of_getElem? (i := 683) (by decide +kernel), by decide +kernel⟩
theorem kw_684 : (Jvm.Cond.code ({ cls := "ShardRowsModel", name := "drawn", desc := "(I)I" } : Jvm.MethodName) prog_10_method_27_code (2 : Nat) (Option.some Jvm.ClassFile.FieldType.int)) ∈ TB := List.mem_filter.mpr ⟨List.mem_of_getElem? (i := 684) (by decide +kernel), by decide +kernel⟩
theorem kw_685 : (Jvm.Cond.methodLink "ShardRowsLaw" (84 : Nat) ({ cls := "ShardRowsModel", name := "result", desc := "(III)I" } : Jvm.MethodName)) ∈ TB := List.mem_filter.mpr ⟨List.mem_of_getElem? (i := 685) (by decide +kernel), by decide +kernel⟩
theorem kw_686 : (Jvm.Cond.instanceMethod ({ cls := "ShardRowsModel", name := "result", desc := "(III)I" } : Jvm.MethodName)) ∈ TB := List.mem_filter.mpr ⟨List.mem_of_getElem? (i := 686) (by decide +kernel), by decide +kernel⟩
theorem kw_687 : (Jvm.Cond.selects "ShardRowsModel" ({ cls := "ShardRowsModel", name := "result", desc := "(III)I" } : Jvm.MethodName) ({ cls := "ShardRowsModel", name := "result", desc := "(III)I" } : Jvm.MethodName)) ∈ TB := List.mem_filter.mpr ⟨List.mem_of_getElem? (i := 687) (by decide +kernel), by decide +kernel⟩
theorem kw_688 : (Jvm.Cond.code ({ cls := "ShardRowsModel", name := "result", desc := "(III)I" } : Jvm.MethodName) prog_10_method_28_code (4 : Nat) (Option.some Jvm.ClassFile.FieldType.int)) ∈ TB := List.mem_filter.mpr ⟨List.mem_of_getElem? (i := 688) (by decide +kernel), by decide +kernel⟩
theorem kw_689 : (Jvm.Cond.methodLink "ShardRowsLaw" (88 : Nat) ({ cls := "ShardRowsModel", name := "again", desc := "(I)Z" } : Jvm.MethodName)) ∈ TB := List.mem_filter.mpr ⟨List.mem_of_getElem? (i := 689) (by decide +kernel), by decide +kernel⟩
theorem kw_690 : (Jvm.Cond.instanceMethod ({ cls := "ShardRowsModel", name := "again", desc := "(I)Z" } : Jvm.MethodName)) ∈ TB := List.mem_filter.mpr ⟨List.mem_of_getElem? (i := 690) (by decide +kernel), by decide +kernel⟩
theorem kw_691 : (Jvm.Cond.selects "ShardRowsModel" ({ cls := "ShardRowsModel", name := "again", desc := "(I)Z" } : Jvm.MethodName) ({ cls := "ShardRowsModel", name := "again", desc := "(I)Z" } : Jvm.MethodName)) ∈ TB := List.mem_filter.mpr ⟨List.mem_of_getElem? (i := 691) (by decide +kernel), by decide +kernel⟩
theorem kw_692 : (Jvm.Cond.code ({ cls := "ShardRowsModel", name := "again", desc := "(I)Z" } : Jvm.MethodName) prog_10_method_29_code (2 : Nat) (Option.some Jvm.ClassFile.FieldType.boolean)) ∈ TB := List.mem_filter.mpr ⟨List.mem_of_getElem? (i := 692) (by decide +kernel), by decide +kernel⟩
theorem kw_693 : (Jvm.Cond.methodLink "ShardRowsLaw" (92 : Nat) ({ cls := "ShardRowsModel", name := "strange", desc := "()I" } : Jvm.MethodName)) ∈ TB := List.mem_filter.mpr ⟨List.mem_of_getElem? (i := 693) (by decide +kernel), by decide +kernel⟩
theorem kw_694 : (Jvm.Cond.instanceMethod ({ cls := "ShardRowsModel", name := "strange", desc := "()I" } : Jvm.MethodName)) ∈ TB := List.mem_filter.mpr ⟨List.mem_of_getElem? (i := 694) (by decide +kernel), by decide +kernel⟩
theorem kw_695 : (Jvm.Cond.selects "ShardRowsModel" ({ cls := "ShardRowsModel", name := "strange", desc := "()I" } : Jvm.MethodName) ({ cls := "ShardRowsModel", name := "strange", desc := "()I" } : Jvm.MethodName)) ∈ TB := List.mem_filter.mpr ⟨List.mem_of_getElem? (i := 695) (by decide +kernel), by decide +kernel⟩
theorem kw_696 : (Jvm.Cond.code ({ cls := "ShardRowsModel", name := "strange", desc := "()I" } : Jvm.MethodName) prog_10_method_30_code (1 : Nat) (Option.some Jvm.ClassFile.FieldType.int)) ∈ TB := List.mem_filter.mpr ⟨List.mem_of_getElem? (i := 696) (by decide +kernel), by decide +kernel⟩
theorem kw_697 : (Jvm.Cond.methodLink "ShardRowsLaw" (96 : Nat) ({ cls := "ShardRowsModel", name := "missing", desc := "(I)I" } : Jvm.MethodName)) ∈ TB := List.mem_filter.mpr ⟨List.mem_of_getElem? (i := 697) (by decide +kernel), by decide +kernel⟩
theorem kw_698 : (Jvm.Cond.instanceMethod ({ cls := "ShardRowsModel", name := "missing", desc := "(I)I" } : Jvm.MethodName)) ∈ TB := List.mem_filter.mpr ⟨List.mem_of_getElem? (i := 698) (by decide +kernel), by decide +kernel⟩
theorem kw_699 : (Jvm.Cond.selects "ShardRowsModel" ({ cls := "ShardRowsModel", name := "missing", desc := "(I)I" } : Jvm.MethodName) ({ cls := "ShardRowsModel", name := "missing", desc := "(I)I" } : Jvm.MethodName)) ∈ TB := List.mem_filter.mpr ⟨List.mem_of_getElem? (i := 699) (by decide +kernel), by decide +kernel⟩
theorem kw_700 : (Jvm.Cond.code ({ cls := "ShardRowsModel", name := "missing", desc := "(I)I" } : Jvm.MethodName) prog_10_method_31_code (4 : Nat) (Option.some Jvm.ClassFile.FieldType.int)) ∈ TB := List.mem_filter.mpr ⟨List.mem_of_getElem? (i := 700) (by decide +kernel), by decide +kernel⟩
theorem kw_701 : (Jvm.Cond.methodLink "ShardRowsLaw" (100 : Nat) ({ cls := "ShardRowsModel", name := "verdict", desc := "()I" } : Jvm.MethodName)) ∈ TB := List.mem_filter.mpr ⟨List.mem_of_getElem? (i := 701) (by decide +kernel), by decide +kernel⟩
theorem kw_702 : (Jvm.Cond.instanceMethod ({ cls := "ShardRowsModel", name := "verdict", desc := "()I" } : Jvm.MethodName)) ∈ TB := List.mem_filter.mpr ⟨List.mem_of_getElem? (i := 702) (by decide +kernel), by decide +kernel⟩
theorem kw_703 : (Jvm.Cond.selects "ShardRowsModel" ({ cls := "ShardRowsModel", name := "verdict", desc := "()I" } : Jvm.MethodName) ({ cls := "ShardRowsModel", name := "verdict", desc := "()I" } : Jvm.MethodName)) ∈ TB := List.mem_filter.mpr ⟨List.mem_of_getElem? (i := 703) (by decide +kernel), by decide +kernel⟩
theorem kw_704 : (Jvm.Cond.code ({ cls := "ShardRowsModel", name := "verdict", desc := "()I" } : Jvm.MethodName) prog_10_method_32_code (4 : Nat) (Option.some Jvm.ClassFile.FieldType.int)) ∈ TB := List.mem_filter.mpr ⟨List.mem_of_getElem? (i := 704) (by decide +kernel), by decide +kernel⟩
theorem kw_705 : (Jvm.Cond.methodLink "ShardRowsLaw" (104 : Nat) ({ cls := "ShardRowsModel", name := "tries", desc := "(I)I" } : Jvm.MethodName)) ∈ TB := List.mem_filter.mpr ⟨List.mem_of_getElem? (i := 705) (by decide +kernel), by decide +kernel⟩
theorem kw_706 : (Jvm.Cond.instanceMethod ({ cls := "ShardRowsModel", name := "tries", desc := "(I)I" } : Jvm.MethodName)) ∈ TB := List.mem_filter.mpr ⟨List.mem_of_getElem? (i := 706) (by decide +kernel), by decide +kernel⟩
theorem kw_707 : (Jvm.Cond.selects "ShardRowsModel" ({ cls := "ShardRowsModel", name := "tries", desc := "(I)I" } : Jvm.MethodName) ({ cls := "ShardRowsModel", name := "tries", desc := "(I)I" } : Jvm.MethodName)) ∈ TB := List.mem_filter.mpr ⟨List.mem_of_getElem? (i := 707) (by decide +kernel), by decide +kernel⟩
theorem kw_708 : (Jvm.Cond.code ({ cls := "ShardRowsModel", name := "tries", desc := "(I)I" } : Jvm.MethodName) prog_10_method_33_code (2 : Nat) (Option.some Jvm.ClassFile.FieldType.int)) ∈ TB := List.mem_filter.mpr ⟨List.mem_of_getElem? (i := 708) (by decide +kernel), by decide +kernel⟩
theorem kw_709 : (Jvm.Cond.constantLong "ShardRowsLaw" (69 : Nat) (4294967295 : Int64)) ∈ TB := List.mem_filter.mpr ⟨List.mem_of_getElem? (i := 709) (by decide +kernel), by decide +kernel⟩
theorem kw_0 : (Jvm.Cond.selects "ShardRows$GroupRows" ({ cls := "ShardRows$GroupRows", name := "open", desc := "(I)I" } : Jvm.MethodName) ({ cls := "ShardRows$GroupRows", name := "open", desc := "(I)I" } : Jvm.MethodName)) ∈ TB := List.mem_filter.mpr ⟨List.mem_of_getElem? (i := 0) (by decide +kernel), by decide +kernel⟩
theorem kw_1 : (Jvm.Cond.selects "ShardRows$Search" ({ cls := "ShardRows$Search", name := "countMoves", desc := "(LShardRows$GroupRows;LShardRows$SplitRows;)V" } : Jvm.MethodName) ({ cls := "ShardRows$Search", name := "countMoves", desc := "(LShardRows$GroupRows;LShardRows$SplitRows;)V" } : Jvm.MethodName)) ∈ TB := List.mem_filter.mpr ⟨List.mem_of_getElem? (i := 1) (by decide +kernel), by decide +kernel⟩
theorem kw_2 : (Jvm.Cond.selects "ShardRows$Search" ({ cls := "ShardRows$Search", name := "addMove", desc := "(II)V" } : Jvm.MethodName) ({ cls := "ShardRows$Search", name := "addMove", desc := "(II)V" } : Jvm.MethodName)) ∈ TB := List.mem_filter.mpr ⟨List.mem_of_getElem? (i := 2) (by decide +kernel), by decide +kernel⟩
theorem kw_3 : (Jvm.Cond.selects "ShardRows$Search" ({ cls := "ShardRows$Search", name := "sumLeastMoves", desc := "()V" } : Jvm.MethodName) ({ cls := "ShardRows$Search", name := "sumLeastMoves", desc := "()V" } : Jvm.MethodName)) ∈ TB := List.mem_filter.mpr ⟨List.mem_of_getElem? (i := 3) (by decide +kernel), by decide +kernel⟩
theorem kw_4 : (Jvm.Cond.selects "ShardRows$Search" ({ cls := "ShardRows$Search", name := "seekLength", desc := "(III)V" } : Jvm.MethodName) ({ cls := "ShardRows$Search", name := "seekLength", desc := "(III)V" } : Jvm.MethodName)) ∈ TB := List.mem_filter.mpr ⟨List.mem_of_getElem? (i := 4) (by decide +kernel), by decide +kernel⟩
theorem kw_5 : (Jvm.Cond.selects "ShardRows$Search" ({ cls := "ShardRows$Search", name := "seekShards", desc := "(II)V" } : Jvm.MethodName) ({ cls := "ShardRows$Search", name := "seekShards", desc := "(II)V" } : Jvm.MethodName)) ∈ TB := List.mem_filter.mpr ⟨List.mem_of_getElem? (i := 5) (by decide +kernel), by decide +kernel⟩
theorem kw_6 : (Jvm.Cond.selects "ShardRows$Greedy" ({ cls := "ShardRows$Greedy", name := "leastShard", desc := "(I)I" } : Jvm.MethodName) ({ cls := "ShardRows$Greedy", name := "leastShard", desc := "(I)I" } : Jvm.MethodName)) ∈ TB := List.mem_filter.mpr ⟨List.mem_of_getElem? (i := 6) (by decide +kernel), by decide +kernel⟩
theorem kw_7 : (Jvm.Cond.selects "ShardRows$SplitRows" ({ cls := "ShardRows$SplitRows", name := "addTime", desc := "(II)V" } : Jvm.MethodName) ({ cls := "ShardRows$SplitRows", name := "addTime", desc := "(II)V" } : Jvm.MethodName)) ∈ TB := List.mem_filter.mpr ⟨List.mem_of_getElem? (i := 7) (by decide +kernel), by decide +kernel⟩
theorem kw_8 : (Jvm.Cond.selects "ShardRows$SplitRows" ({ cls := "ShardRows$SplitRows", name := "give", desc := "(II)V" } : Jvm.MethodName) ({ cls := "ShardRows$SplitRows", name := "give", desc := "(II)V" } : Jvm.MethodName)) ∈ TB := List.mem_filter.mpr ⟨List.mem_of_getElem? (i := 8) (by decide +kernel), by decide +kernel⟩
theorem kw_9 : (Jvm.Cond.selects "ShardRows$ResultRows" ({ cls := "ShardRows$ResultRows", name := "isBad", desc := "(I)Z" } : Jvm.MethodName) ({ cls := "ShardRows$ResultRows", name := "isBad", desc := "(I)Z" } : Jvm.MethodName)) ∈ TB := List.mem_filter.mpr ⟨List.mem_of_getElem? (i := 9) (by decide +kernel), by decide +kernel⟩
theorem kw_10 : (Jvm.Cond.selects "ShardRows" ({ cls := "ShardRows", name := "isMissing", desc := "(I)Z" } : Jvm.MethodName) ({ cls := "ShardRows", name := "isMissing", desc := "(I)Z" } : Jvm.MethodName)) ∈ TB := List.mem_filter.mpr ⟨List.mem_of_getElem? (i := 10) (by decide +kernel), by decide +kernel⟩
theorem kw_11 : (Jvm.Cond.selects "ShardRowsModel" ({ cls := "ShardRowsModel", name := "isTest", desc := "(I)Z" } : Jvm.MethodName) ({ cls := "ShardRowsModel", name := "isTest", desc := "(I)Z" } : Jvm.MethodName)) ∈ TB := List.mem_filter.mpr ⟨List.mem_of_getElem? (i := 11) (by decide +kernel), by decide +kernel⟩
theorem kw_12 : (Jvm.Cond.selects "ShardRowsModel" ({ cls := "ShardRowsModel", name := "gathers", desc := "()V" } : Jvm.MethodName) ({ cls := "ShardRowsModel", name := "gathers", desc := "()V" } : Jvm.MethodName)) ∈ TB := List.mem_filter.mpr ⟨List.mem_of_getElem? (i := 12) (by decide +kernel), by decide +kernel⟩
theorem kw_13 : (Jvm.Cond.selects "ShardRowsModel" ({ cls := "ShardRowsModel", name := "exact", desc := "()V" } : Jvm.MethodName) ({ cls := "ShardRowsModel", name := "exact", desc := "()V" } : Jvm.MethodName)) ∈ TB := List.mem_filter.mpr ⟨List.mem_of_getElem? (i := 13) (by decide +kernel), by decide +kernel⟩
theorem kw_14 : (Jvm.Cond.selects "ShardRowsModel" ({ cls := "ShardRowsModel", name := "length", desc := "()I" } : Jvm.MethodName) ({ cls := "ShardRowsModel", name := "length", desc := "()I" } : Jvm.MethodName)) ∈ TB := List.mem_filter.mpr ⟨List.mem_of_getElem? (i := 14) (by decide +kernel), by decide +kernel⟩
theorem kw_15 : (Jvm.Cond.selects "ShardRowsModel" ({ cls := "ShardRowsModel", name := "moves", desc := "()I" } : Jvm.MethodName) ({ cls := "ShardRowsModel", name := "moves", desc := "()I" } : Jvm.MethodName)) ∈ TB := List.mem_filter.mpr ⟨List.mem_of_getElem? (i := 15) (by decide +kernel), by decide +kernel⟩
theorem kw_16 : (Jvm.Cond.selects "ShardRowsModel" ({ cls := "ShardRowsModel", name := "movesOf", desc := "(II)I" } : Jvm.MethodName) ({ cls := "ShardRowsModel", name := "movesOf", desc := "(II)I" } : Jvm.MethodName)) ∈ TB := List.mem_filter.mpr ⟨List.mem_of_getElem? (i := 16) (by decide +kernel), by decide +kernel⟩
theorem kw_17 : (Jvm.Cond.selects "ShardRowsModel" ({ cls := "ShardRowsModel", name := "next", desc := "()Z" } : Jvm.MethodName) ({ cls := "ShardRowsModel", name := "next", desc := "()Z" } : Jvm.MethodName)) ∈ TB := List.mem_filter.mpr ⟨List.mem_of_getElem? (i := 17) (by decide +kernel), by decide +kernel⟩
theorem kw_18 : (Jvm.Cond.selects "ShardRowsModel" ({ cls := "ShardRowsModel", name := "byTimes", desc := "()V" } : Jvm.MethodName) ({ cls := "ShardRowsModel", name := "byTimes", desc := "()V" } : Jvm.MethodName)) ∈ TB := List.mem_filter.mpr ⟨List.mem_of_getElem? (i := 18) (by decide +kernel), by decide +kernel⟩
theorem kw_19 : (Jvm.Cond.selects "ShardRowsModel" ({ cls := "ShardRowsModel", name := "isIn", desc := "(I)Z" } : Jvm.MethodName) ({ cls := "ShardRowsModel", name := "isIn", desc := "(I)Z" } : Jvm.MethodName)) ∈ TB := List.mem_filter.mpr ⟨List.mem_of_getElem? (i := 19) (by decide +kernel), by decide +kernel⟩
theorem kw_20 : (Jvm.Cond.selects "ShardRowsModel" ({ cls := "ShardRowsModel", name := "isShard", desc := "(I)Z" } : Jvm.MethodName) ({ cls := "ShardRowsModel", name := "isShard", desc := "(I)Z" } : Jvm.MethodName)) ∈ TB := List.mem_filter.mpr ⟨List.mem_of_getElem? (i := 20) (by decide +kernel), by decide +kernel⟩
theorem kw_21 : (Jvm.Cond.selects "ShardRowsModel" ({ cls := "ShardRowsModel", name := "testsOf", desc := "(I)I" } : Jvm.MethodName) ({ cls := "ShardRowsModel", name := "testsOf", desc := "(I)I" } : Jvm.MethodName)) ∈ TB := List.mem_filter.mpr ⟨List.mem_of_getElem? (i := 21) (by decide +kernel), by decide +kernel⟩
abbrev cSR_init : ByteArray := prog_1_method_1_code
def ySR_init : MethodName := ⟨"ShardRows", "<init>", "(I)V"⟩
abbrev wsSR_init : List Cond := .code ySR_init cSR_init 2 (Option.none : Option Jvm.ClassFile.FieldType) :: TB
abbrev cTR_init : ByteArray := prog_8_method_1_code
def yTR_init : MethodName := ⟨"ShardRows$TestRows", "<init>", "()V"⟩
abbrev wsTR_init : List Cond := .code yTR_init cTR_init 1 (Option.none : Option Jvm.ClassFile.FieldType) :: TB
abbrev cGR_init : ByteArray := prog_4_method_1_code
def yGR_init : MethodName := ⟨"ShardRows$GroupRows", "<init>", "()V"⟩
abbrev wsGR_init : List Cond := .code yGR_init cGR_init 1 (Option.none : Option Jvm.ClassFile.FieldType) :: TB
abbrev cSE_init : ByteArray := prog_6_method_1_code
def ySE_init : MethodName := ⟨"ShardRows$Search", "<init>", "()V"⟩
abbrev wsSE_init : List Cond := .code ySE_init cSE_init 1 (Option.none : Option Jvm.ClassFile.FieldType) :: TB
abbrev cGY_init : ByteArray := prog_3_method_1_code
def yGY_init : MethodName := ⟨"ShardRows$Greedy", "<init>", "()V"⟩
abbrev wsGY_init : List Cond := .code yGY_init cGY_init 1 (Option.none : Option Jvm.ClassFile.FieldType) :: TB
abbrev cSP_init : ByteArray := prog_7_method_1_code
def ySP_init : MethodName := ⟨"ShardRows$SplitRows", "<init>", "()V"⟩
abbrev wsSP_init : List Cond := .code ySP_init cSP_init 1 (Option.none : Option Jvm.ClassFile.FieldType) :: TB
abbrev cAR_fill : ByteArray := prog_13_method_103_code
def yAR_fill : MethodName := ⟨"java/util/Arrays", "fill", "([II)V"⟩
abbrev wsAR_fill : List Cond := .code yAR_fill cAR_fill 4 (Option.none : Option Jvm.ClassFile.FieldType) :: TB
abbrev cRR_init : ByteArray := prog_5_method_1_code
def yRR_init : MethodName := ⟨"ShardRows$ResultRows", "<init>", "()V"⟩
abbrev wsRR_init : List Cond := .code yRR_init cRR_init 1 (Option.none : Option Jvm.ClassFile.FieldType) :: TB
abbrev cDR_init : ByteArray := prog_2_method_1_code
def yDR_init : MethodName := ⟨"ShardRows$DrawRow", "<init>", "()V"⟩
abbrev wsDR_init : List Cond := .code yDR_init cDR_init 1 (Option.none : Option Jvm.ClassFile.FieldType) :: TB
abbrev cSR_test : ByteArray := prog_1_method_2_code
def ySR_test : MethodName := ⟨"ShardRows", "test", "(I)I"⟩
abbrev wsSR_test : List Cond := .code ySR_test cSR_test 2 (Option.some Jvm.ClassFile.FieldType.int) :: TB
abbrev cTR_add : ByteArray := prog_8_method_3_code
def yTR_add : MethodName := ⟨"ShardRows$TestRows", "add", "(I)I"⟩
abbrev wsTR_add : List Cond := .code yTR_add cTR_add 3 (Option.some Jvm.ClassFile.FieldType.int) :: TB
abbrev cTR_isTime : ByteArray := prog_8_method_8_code
def yTR_isTime : MethodName := ⟨"ShardRows$TestRows", "isTime", "(I)Z"⟩
abbrev wsTR_isTime : List Cond := .code yTR_isTime cTR_isTime 1 (Option.some Jvm.ClassFile.FieldType.boolean) :: TB
abbrev cSR_time : ByteArray := prog_1_method_3_code
def ySR_time : MethodName := ⟨"ShardRows", "time", "(II)Z"⟩
abbrev wsSR_time : List Cond := .code ySR_time cSR_time 3 (Option.some Jvm.ClassFile.FieldType.boolean) :: TB
abbrev cTR_retime : ByteArray := prog_8_method_4_code
def yTR_retime : MethodName := ⟨"ShardRows$TestRows", "retime", "(II)Z"⟩
abbrev wsTR_retime : List Cond := .code yTR_retime cTR_retime 3 (Option.some Jvm.ClassFile.FieldType.boolean) :: TB
abbrev cTR_has : ByteArray := prog_8_method_2_code
def yTR_has : MethodName := ⟨"ShardRows$TestRows", "has", "(I)Z"⟩
abbrev wsTR_has : List Cond := .code yTR_has cTR_has 2 (Option.some Jvm.ClassFile.FieldType.boolean) :: TB
abbrev cSR_join : ByteArray := prog_1_method_4_code
def ySR_join : MethodName := ⟨"ShardRows", "join", "(II)Z"⟩
abbrev wsSR_join : List Cond := .code ySR_join cSR_join 3 (Option.some Jvm.ClassFile.FieldType.boolean) :: TB
abbrev cTR_unite : ByteArray := prog_8_method_5_code
def yTR_unite : MethodName := ⟨"ShardRows$TestRows", "unite", "(II)Z"⟩
abbrev wsTR_unite : List Cond := .code yTR_unite cTR_unite 6 (Option.some Jvm.ClassFile.FieldType.boolean) :: TB
abbrev cSR_shards : ByteArray := prog_1_method_5_code
def ySR_shards : MethodName := ⟨"ShardRows", "shards", "(I)Z"⟩
abbrev wsSR_shards : List Cond := .code ySR_shards cSR_shards 2 (Option.some Jvm.ClassFile.FieldType.boolean) :: TB
abbrev cSR_mean : ByteArray := prog_1_method_6_code
def ySR_mean : MethodName := ⟨"ShardRows", "mean", "()I"⟩
abbrev wsSR_mean : List Cond := .code ySR_mean cSR_mean 1 (Option.some Jvm.ClassFile.FieldType.int) :: TB
abbrev cTR_meanTime : ByteArray := prog_8_method_6_code
def yTR_meanTime : MethodName := ⟨"ShardRows$TestRows", "meanTime", "()I"⟩
abbrev wsTR_meanTime : List Cond := .code yTR_meanTime cTR_meanTime 4 (Option.some Jvm.ClassFile.FieldType.int) :: TB
abbrev cSR_groups : ByteArray := prog_1_method_7_code
def ySR_groups : MethodName := ⟨"ShardRows", "groups", "()I"⟩
abbrev wsSR_groups : List Cond := .code ySR_groups cSR_groups 1 (Option.some Jvm.ClassFile.FieldType.int) :: TB
abbrev cTR_countGroups : ByteArray := prog_8_method_7_code
def yTR_countGroups : MethodName := ⟨"ShardRows$TestRows", "countGroups", "()I"⟩
abbrev wsTR_countGroups : List Cond := .code yTR_countGroups cTR_countGroups 3 (Option.some Jvm.ClassFile.FieldType.int) :: TB
abbrev cSR_split : ByteArray := prog_1_method_8_code
def ySR_split : MethodName := ⟨"ShardRows", "split", "()I"⟩
abbrev wsSR_split : List Cond := .code ySR_split cSR_split 1 (Option.some Jvm.ClassFile.FieldType.int) :: TB
abbrev cGR_gather : ByteArray := prog_4_method_2_code
def yGR_gather : MethodName := ⟨"ShardRows$GroupRows", "gather", "(LShardRows$TestRows;)V"⟩
abbrev wsGR_gather : List Cond := .code yGR_gather cGR_gather 6 (Option.none : Option Jvm.ClassFile.FieldType) :: TB
abbrev cGR_open : ByteArray := prog_4_method_5_code
def yGR_open : MethodName := ⟨"ShardRows$GroupRows", "open", "(I)I"⟩
abbrev wsGR_open : List Cond := .code yGR_open cGR_open 3 (Option.some Jvm.ClassFile.FieldType.int) :: TB
abbrev cGR_groupAt : ByteArray := prog_4_method_3_code
def yGR_groupAt : MethodName := ⟨"ShardRows$GroupRows", "groupAt", "(I)I"⟩
abbrev wsGR_groupAt : List Cond := .code yGR_groupAt cGR_groupAt 2 (Option.some Jvm.ClassFile.FieldType.int) :: TB
abbrev cSE_place : ByteArray := prog_6_method_2_code
def ySE_place : MethodName := ⟨"ShardRows$Search", "place", "(LShardRows$GroupRows;LShardRows$SplitRows;I)V"⟩
abbrev wsSE_place : List Cond := .code ySE_place cSE_place 4 (Option.none : Option Jvm.ClassFile.FieldType) :: TB
abbrev cSE_countMoves : ByteArray := prog_6_method_3_code
def ySE_countMoves : MethodName := ⟨"ShardRows$Search", "countMoves", "(LShardRows$GroupRows;LShardRows$SplitRows;)V"⟩
abbrev wsSE_countMoves : List Cond := .code ySE_countMoves cSE_countMoves 6 (Option.none : Option Jvm.ClassFile.FieldType) :: TB
abbrev cSP_shardAt : ByteArray := prog_7_method_3_code
def ySP_shardAt : MethodName := ⟨"ShardRows$SplitRows", "shardAt", "(I)I"⟩
abbrev wsSP_shardAt : List Cond := .code ySP_shardAt cSP_shardAt 2 (Option.some Jvm.ClassFile.FieldType.int) :: TB
abbrev cSR_isTestNumber : ByteArray := prog_1_method_22_code
def ySR_isTestNumber : MethodName := ⟨"ShardRows", "isTestNumber", "(I)Z"⟩
abbrev wsSR_isTestNumber : List Cond := .code ySR_isTestNumber cSR_isTestNumber 1 (Option.some Jvm.ClassFile.FieldType.boolean) :: TB
abbrev cSE_addMove : ByteArray := prog_6_method_4_code
def ySE_addMove : MethodName := ⟨"ShardRows$Search", "addMove", "(II)V"⟩
abbrev wsSE_addMove : List Cond := .code ySE_addMove cSE_addMove 4 (Option.none : Option Jvm.ClassFile.FieldType) :: TB
abbrev cSE_sumLeastMoves : ByteArray := prog_6_method_5_code
def ySE_sumLeastMoves : MethodName := ⟨"ShardRows$Search", "sumLeastMoves", "()V"⟩
abbrev wsSE_sumLeastMoves : List Cond := .code ySE_sumLeastMoves cSE_sumLeastMoves 4 (Option.none : Option Jvm.ClassFile.FieldType) :: TB
abbrev cSE_seekLength : ByteArray := prog_6_method_6_code
def ySE_seekLength : MethodName := ⟨"ShardRows$Search", "seekLength", "(III)V"⟩
abbrev wsSE_seekLength : List Cond := .code ySE_seekLength cSE_seekLength 6 (Option.none : Option Jvm.ClassFile.FieldType) :: TB
abbrev cSE_seekShards : ByteArray := prog_6_method_7_code
def ySE_seekShards : MethodName := ⟨"ShardRows$Search", "seekShards", "(II)V"⟩
abbrev wsSE_seekShards : List Cond := .code ySE_seekShards cSE_seekShards 4 (Option.none : Option Jvm.ClassFile.FieldType) :: TB
abbrev cGY_place : ByteArray := prog_3_method_2_code
def yGY_place : MethodName := ⟨"ShardRows$Greedy", "place", "(LShardRows$GroupRows;LShardRows$SplitRows;I)V"⟩
abbrev wsGY_place : List Cond := .code yGY_place cGY_place 7 (Option.none : Option Jvm.ClassFile.FieldType) :: TB
abbrev cGY_longestUnplaced : ByteArray := prog_3_method_3_code
def yGY_longestUnplaced : MethodName := ⟨"ShardRows$Greedy", "longestUnplaced", "(LShardRows$GroupRows;)I"⟩
abbrev wsGY_longestUnplaced : List Cond := .code yGY_longestUnplaced cGY_longestUnplaced 4 (Option.some Jvm.ClassFile.FieldType.int) :: TB
abbrev cGY_leastShard : ByteArray := prog_3_method_4_code
def yGY_leastShard : MethodName := ⟨"ShardRows$Greedy", "leastShard", "(I)I"⟩
abbrev wsGY_leastShard : List Cond := .code yGY_leastShard cGY_leastShard 4 (Option.some Jvm.ClassFile.FieldType.int) :: TB
abbrev cSP_take : ByteArray := prog_7_method_5_code
def ySP_take : MethodName := ⟨"ShardRows$SplitRows", "take", "(LShardRows$GroupRows;I)V"⟩
abbrev wsSP_take : List Cond := .code ySP_take cSP_take 4 (Option.none : Option Jvm.ClassFile.FieldType) :: TB
abbrev cSP_addTime : ByteArray := prog_7_method_6_code
def ySP_addTime : MethodName := ⟨"ShardRows$SplitRows", "addTime", "(II)V"⟩
abbrev wsSP_addTime : List Cond := .code ySP_addTime cSP_addTime 3 (Option.none : Option Jvm.ClassFile.FieldType) :: TB
abbrev cSP_hasShard : ByteArray := prog_7_method_2_code
def ySP_hasShard : MethodName := ⟨"ShardRows$SplitRows", "hasShard", "(I)Z"⟩
abbrev wsSP_hasShard : List Cond := .code ySP_hasShard cSP_hasShard 2 (Option.some Jvm.ClassFile.FieldType.boolean) :: TB
abbrev cGR_shardFor : ByteArray := prog_4_method_4_code
def yGR_shardFor : MethodName := ⟨"ShardRows$GroupRows", "shardFor", "(I)I"⟩
abbrev wsGR_shardFor : List Cond := .code yGR_shardFor cGR_shardFor 3 (Option.some Jvm.ClassFile.FieldType.int) :: TB
abbrev cSP_give : ByteArray := prog_7_method_7_code
def ySP_give : MethodName := ⟨"ShardRows$SplitRows", "give", "(II)V"⟩
abbrev wsSP_give : List Cond := .code ySP_give cSP_give 3 (Option.none : Option Jvm.ClassFile.FieldType) :: TB
abbrev cRR_forget : ByteArray := prog_5_method_2_code
def yRR_forget : MethodName := ⟨"ShardRows$ResultRows", "forget", "()V"⟩
abbrev wsRR_forget : List Cond := .code yRR_forget cRR_forget 2 (Option.none : Option Jvm.ClassFile.FieldType) :: TB
abbrev cSP_longest : ByteArray := prog_7_method_4_code
def ySP_longest : MethodName := ⟨"ShardRows$SplitRows", "longest", "()I"⟩
abbrev wsSP_longest : List Cond := .code ySP_longest cSP_longest 3 (Option.some Jvm.ClassFile.FieldType.int) :: TB
abbrev cSR_shard : ByteArray := prog_1_method_9_code
def ySR_shard : MethodName := ⟨"ShardRows", "shard", "(I)I"⟩
abbrev wsSR_shard : List Cond := .code ySR_shard cSR_shard 2 (Option.some Jvm.ClassFile.FieldType.int) :: TB
abbrev cSR_sum : ByteArray := prog_1_method_10_code
def ySR_sum : MethodName := ⟨"ShardRows", "sum", "(I)I"⟩
abbrev wsSR_sum : List Cond := .code ySR_sum cSR_sum 2 (Option.some Jvm.ClassFile.FieldType.int) :: TB
abbrev cSR_moved : ByteArray := prog_1_method_11_code
def ySR_moved : MethodName := ⟨"ShardRows", "moved", "()I"⟩
abbrev wsSR_moved : List Cond := .code ySR_moved cSR_moved 1 (Option.some Jvm.ClassFile.FieldType.int) :: TB
abbrev cSR_empty : ByteArray := prog_1_method_12_code
def ySR_empty : MethodName := ⟨"ShardRows", "empty", "(I)I"⟩
abbrev wsSR_empty : List Cond := .code ySR_empty cSR_empty 4 (Option.some Jvm.ClassFile.FieldType.int) :: TB
abbrev cSR_draw : ByteArray := prog_1_method_13_code
def ySR_draw : MethodName := ⟨"ShardRows", "draw", "(IJ)I"⟩
abbrev wsSR_draw : List Cond := .code ySR_draw cSR_draw 4 (Option.some Jvm.ClassFile.FieldType.int) :: TB
abbrev cDR_gather : ByteArray := prog_2_method_3_code
def yDR_gather : MethodName := ⟨"ShardRows$DrawRow", "gather", "(LShardRows$SplitRows;I)V"⟩
abbrev wsDR_gather : List Cond := .code yDR_gather cDR_gather 4 (Option.none : Option Jvm.ClassFile.FieldType) :: TB
abbrev cDR_shuffle : ByteArray := prog_2_method_4_code
def yDR_shuffle : MethodName := ⟨"ShardRows$DrawRow", "shuffle", "(J)V"⟩
abbrev wsDR_shuffle : List Cond := .code yDR_shuffle cDR_shuffle 8 (Option.none : Option Jvm.ClassFile.FieldType) :: TB
abbrev cSR_drawn : ByteArray := prog_1_method_14_code
def ySR_drawn : MethodName := ⟨"ShardRows", "drawn", "(I)I"⟩
abbrev wsSR_drawn : List Cond := .code ySR_drawn cSR_drawn 2 (Option.some Jvm.ClassFile.FieldType.int) :: TB
abbrev cDR_at : ByteArray := prog_2_method_2_code
def yDR_at : MethodName := ⟨"ShardRows$DrawRow", "at", "(I)I"⟩
abbrev wsDR_at : List Cond := .code yDR_at cDR_at 2 (Option.some Jvm.ClassFile.FieldType.int) :: TB
abbrev cSR_result : ByteArray := prog_1_method_15_code
def ySR_result : MethodName := ⟨"ShardRows", "result", "(III)I"⟩
abbrev wsSR_result : List Cond := .code ySR_result cSR_result 5 (Option.some Jvm.ClassFile.FieldType.int) :: TB
abbrev cRR_put : ByteArray := prog_5_method_4_code
def yRR_put : MethodName := ⟨"ShardRows$ResultRows", "put", "(II)Z"⟩
abbrev wsRR_put : List Cond := .code yRR_put cRR_put 3 (Option.some Jvm.ClassFile.FieldType.boolean) :: TB
abbrev cSR_again : ByteArray := prog_1_method_16_code
def ySR_again : MethodName := ⟨"ShardRows", "again", "(I)Z"⟩
abbrev wsSR_again : List Cond := .code ySR_again cSR_again 2 (Option.some Jvm.ClassFile.FieldType.boolean) :: TB
abbrev cRR_dropBad : ByteArray := prog_5_method_5_code
def yRR_dropBad : MethodName := ⟨"ShardRows$ResultRows", "dropBad", "(I)Z"⟩
abbrev wsRR_dropBad : List Cond := .code yRR_dropBad cRR_dropBad 2 (Option.some Jvm.ClassFile.FieldType.boolean) :: TB
abbrev cRR_isBad : ByteArray := prog_5_method_8_code
def yRR_isBad : MethodName := ⟨"ShardRows$ResultRows", "isBad", "(I)Z"⟩
abbrev wsRR_isBad : List Cond := .code yRR_isBad cRR_isBad 2 (Option.some Jvm.ClassFile.FieldType.boolean) :: TB
abbrev cRR_has : ByteArray := prog_5_method_3_code
def yRR_has : MethodName := ⟨"ShardRows$ResultRows", "has", "(I)Z"⟩
abbrev wsRR_has : List Cond := .code yRR_has cRR_has 2 (Option.some Jvm.ClassFile.FieldType.boolean) :: TB
abbrev cSR_strange : ByteArray := prog_1_method_17_code
def ySR_strange : MethodName := ⟨"ShardRows", "strange", "()I"⟩
abbrev wsSR_strange : List Cond := .code ySR_strange cSR_strange 1 (Option.some Jvm.ClassFile.FieldType.int) :: TB
abbrev cSR_missing : ByteArray := prog_1_method_18_code
def ySR_missing : MethodName := ⟨"ShardRows", "missing", "(I)I"⟩
abbrev wsSR_missing : List Cond := .code ySR_missing cSR_missing 4 (Option.some Jvm.ClassFile.FieldType.int) :: TB
abbrev cSR_isMissing : ByteArray := prog_1_method_21_code
def ySR_isMissing : MethodName := ⟨"ShardRows", "isMissing", "(I)Z"⟩
abbrev wsSR_isMissing : List Cond := .code ySR_isMissing cSR_isMissing 2 (Option.some Jvm.ClassFile.FieldType.boolean) :: TB
abbrev cSR_verdict : ByteArray := prog_1_method_19_code
def ySR_verdict : MethodName := ⟨"ShardRows", "verdict", "()I"⟩
abbrev wsSR_verdict : List Cond := .code ySR_verdict cSR_verdict 1 (Option.some Jvm.ClassFile.FieldType.int) :: TB
abbrev cRR_anyBad : ByteArray := prog_5_method_6_code
def yRR_anyBad : MethodName := ⟨"ShardRows$ResultRows", "anyBad", "()Z"⟩
abbrev wsRR_anyBad : List Cond := .code yRR_anyBad cRR_anyBad 2 (Option.some Jvm.ClassFile.FieldType.boolean) :: TB
abbrev cSR_tries : ByteArray := prog_1_method_20_code
def ySR_tries : MethodName := ⟨"ShardRows", "tries", "(I)I"⟩
abbrev wsSR_tries : List Cond := .code ySR_tries cSR_tries 2 (Option.some Jvm.ClassFile.FieldType.int) :: TB
abbrev cRR_triesOf : ByteArray := prog_5_method_7_code
def yRR_triesOf : MethodName := ⟨"ShardRows$ResultRows", "triesOf", "(I)I"⟩
abbrev wsRR_triesOf : List Cond := .code yRR_triesOf cRR_triesOf 2 (Option.some Jvm.ClassFile.FieldType.int) :: TB
abbrev cLW_cell : ByteArray := method_2_code
def yLW_cell : MethodName := ⟨"ShardRowsLaw", "cell", "([II)I"⟩
abbrev wsLW_cell : List Cond := .code yLW_cell cLW_cell 2 (Option.some Jvm.ClassFile.FieldType.int) :: TB
abbrev cMO_init : ByteArray := prog_10_method_1_code
def yMO_init : MethodName := ⟨"ShardRowsModel", "<init>", "(I)V"⟩
abbrev wsMO_init : List Cond := .code yMO_init cMO_init 3 (Option.none : Option Jvm.ClassFile.FieldType) :: TB
abbrev cMO_test : ByteArray := prog_10_method_5_code
def yMO_test : MethodName := ⟨"ShardRowsModel", "test", "(I)I"⟩
abbrev wsMO_test : List Cond := .code yMO_test cMO_test 2 (Option.some Jvm.ClassFile.FieldType.int) :: TB
abbrev cMO_isTime : ByteArray := prog_10_method_4_code
def yMO_isTime : MethodName := ⟨"ShardRowsModel", "isTime", "(I)Z"⟩
abbrev wsMO_isTime : List Cond := .code yMO_isTime cMO_isTime 1 (Option.some Jvm.ClassFile.FieldType.boolean) :: TB
abbrev cMO_time : ByteArray := prog_10_method_6_code
def yMO_time : MethodName := ⟨"ShardRowsModel", "time", "(II)Z"⟩
abbrev wsMO_time : List Cond := .code yMO_time cMO_time 3 (Option.some Jvm.ClassFile.FieldType.boolean) :: TB
abbrev cMO_isTest : ByteArray := prog_10_method_3_code
def yMO_isTest : MethodName := ⟨"ShardRowsModel", "isTest", "(I)Z"⟩
abbrev wsMO_isTest : List Cond := .code yMO_isTest cMO_isTest 2 (Option.some Jvm.ClassFile.FieldType.boolean) :: TB
abbrev cMO_join : ByteArray := prog_10_method_7_code
def yMO_join : MethodName := ⟨"ShardRowsModel", "join", "(II)Z"⟩
abbrev wsMO_join : List Cond := .code yMO_join cMO_join 6 (Option.some Jvm.ClassFile.FieldType.boolean) :: TB
abbrev cMO_shards : ByteArray := prog_10_method_8_code
def yMO_shards : MethodName := ⟨"ShardRowsModel", "shards", "(I)Z"⟩
abbrev wsMO_shards : List Cond := .code yMO_shards cMO_shards 2 (Option.some Jvm.ClassFile.FieldType.boolean) :: TB
abbrev cMO_mean : ByteArray := prog_10_method_9_code
def yMO_mean : MethodName := ⟨"ShardRowsModel", "mean", "()I"⟩
abbrev wsMO_mean : List Cond := .code yMO_mean cMO_mean 4 (Option.some Jvm.ClassFile.FieldType.int) :: TB
abbrev cMO_groups : ByteArray := prog_10_method_10_code
def yMO_groups : MethodName := ⟨"ShardRowsModel", "groups", "()I"⟩
abbrev wsMO_groups : List Cond := .code yMO_groups cMO_groups 3 (Option.some Jvm.ClassFile.FieldType.int) :: TB
abbrev cMO_split : ByteArray := prog_10_method_18_code
def yMO_split : MethodName := ⟨"ShardRowsModel", "split", "()I"⟩
abbrev wsMO_split : List Cond := .code yMO_split cMO_split 4 (Option.some Jvm.ClassFile.FieldType.int) :: TB
abbrev cMO_gathers : ByteArray := prog_10_method_11_code
def yMO_gathers : MethodName := ⟨"ShardRowsModel", "gathers", "()V"⟩
abbrev wsMO_gathers : List Cond := .code yMO_gathers cMO_gathers 4 (Option.none : Option Jvm.ClassFile.FieldType) :: TB
abbrev cMO_exact : ByteArray := prog_10_method_16_code
def yMO_exact : MethodName := ⟨"ShardRowsModel", "exact", "()V"⟩
abbrev wsMO_exact : List Cond := .code yMO_exact cMO_exact 7 (Option.none : Option Jvm.ClassFile.FieldType) :: TB
abbrev cMO_length : ByteArray := prog_10_method_12_code
def yMO_length : MethodName := ⟨"ShardRowsModel", "length", "()I"⟩
abbrev wsMO_length : List Cond := .code yMO_length cMO_length 3 (Option.some Jvm.ClassFile.FieldType.int) :: TB
abbrev cMO_moves : ByteArray := prog_10_method_14_code
def yMO_moves : MethodName := ⟨"ShardRowsModel", "moves", "()I"⟩
abbrev wsMO_moves : List Cond := .code yMO_moves cMO_moves 3 (Option.some Jvm.ClassFile.FieldType.int) :: TB
abbrev cMO_movesOf : ByteArray := prog_10_method_13_code
def yMO_movesOf : MethodName := ⟨"ShardRowsModel", "movesOf", "(II)I"⟩
abbrev wsMO_movesOf : List Cond := .code yMO_movesOf cMO_movesOf 5 (Option.some Jvm.ClassFile.FieldType.int) :: TB
abbrev cMO_next : ByteArray := prog_10_method_15_code
def yMO_next : MethodName := ⟨"ShardRowsModel", "next", "()Z"⟩
abbrev wsMO_next : List Cond := .code yMO_next cMO_next 2 (Option.some Jvm.ClassFile.FieldType.boolean) :: TB
abbrev cMO_byTimes : ByteArray := prog_10_method_17_code
def yMO_byTimes : MethodName := ⟨"ShardRowsModel", "byTimes", "()V"⟩
abbrev wsMO_byTimes : List Cond := .code yMO_byTimes cMO_byTimes 5 (Option.none : Option Jvm.ClassFile.FieldType) :: TB
abbrev cMO_shard : ByteArray := prog_10_method_21_code
def yMO_shard : MethodName := ⟨"ShardRowsModel", "shard", "(I)I"⟩
abbrev wsMO_shard : List Cond := .code yMO_shard cMO_shard 2 (Option.some Jvm.ClassFile.FieldType.int) :: TB
abbrev cMO_isIn : ByteArray := prog_10_method_20_code
def yMO_isIn : MethodName := ⟨"ShardRowsModel", "isIn", "(I)Z"⟩
abbrev wsMO_isIn : List Cond := .code yMO_isIn cMO_isIn 2 (Option.some Jvm.ClassFile.FieldType.boolean) :: TB
abbrev cMO_sum : ByteArray := prog_10_method_22_code
def yMO_sum : MethodName := ⟨"ShardRowsModel", "sum", "(I)I"⟩
abbrev wsMO_sum : List Cond := .code yMO_sum cMO_sum 2 (Option.some Jvm.ClassFile.FieldType.int) :: TB
abbrev cMO_isShard : ByteArray := prog_10_method_19_code
def yMO_isShard : MethodName := ⟨"ShardRowsModel", "isShard", "(I)Z"⟩
abbrev wsMO_isShard : List Cond := .code yMO_isShard cMO_isShard 2 (Option.some Jvm.ClassFile.FieldType.boolean) :: TB
abbrev cMO_moved : ByteArray := prog_10_method_23_code
def yMO_moved : MethodName := ⟨"ShardRowsModel", "moved", "()I"⟩
abbrev wsMO_moved : List Cond := .code yMO_moved cMO_moved 1 (Option.some Jvm.ClassFile.FieldType.int) :: TB
abbrev cMO_empty : ByteArray := prog_10_method_25_code
def yMO_empty : MethodName := ⟨"ShardRowsModel", "empty", "(I)I"⟩
abbrev wsMO_empty : List Cond := .code yMO_empty cMO_empty 4 (Option.some Jvm.ClassFile.FieldType.int) :: TB
abbrev cMO_testsOf : ByteArray := prog_10_method_24_code
def yMO_testsOf : MethodName := ⟨"ShardRowsModel", "testsOf", "(I)I"⟩
abbrev wsMO_testsOf : List Cond := .code yMO_testsOf cMO_testsOf 4 (Option.some Jvm.ClassFile.FieldType.int) :: TB
abbrev cMO_draw : ByteArray := prog_10_method_26_code
def yMO_draw : MethodName := ⟨"ShardRowsModel", "draw", "(IJ)I"⟩
abbrev wsMO_draw : List Cond := .code yMO_draw cMO_draw 9 (Option.some Jvm.ClassFile.FieldType.int) :: TB
abbrev cMO_drawn : ByteArray := prog_10_method_27_code
def yMO_drawn : MethodName := ⟨"ShardRowsModel", "drawn", "(I)I"⟩
abbrev wsMO_drawn : List Cond := .code yMO_drawn cMO_drawn 2 (Option.some Jvm.ClassFile.FieldType.int) :: TB
abbrev cMO_result : ByteArray := prog_10_method_28_code
def yMO_result : MethodName := ⟨"ShardRowsModel", "result", "(III)I"⟩
abbrev wsMO_result : List Cond := .code yMO_result cMO_result 4 (Option.some Jvm.ClassFile.FieldType.int) :: TB
abbrev cMO_again : ByteArray := prog_10_method_29_code
def yMO_again : MethodName := ⟨"ShardRowsModel", "again", "(I)Z"⟩
abbrev wsMO_again : List Cond := .code yMO_again cMO_again 2 (Option.some Jvm.ClassFile.FieldType.boolean) :: TB
abbrev cMO_strange : ByteArray := prog_10_method_30_code
def yMO_strange : MethodName := ⟨"ShardRowsModel", "strange", "()I"⟩
abbrev wsMO_strange : List Cond := .code yMO_strange cMO_strange 1 (Option.some Jvm.ClassFile.FieldType.int) :: TB
abbrev cMO_missing : ByteArray := prog_10_method_31_code
def yMO_missing : MethodName := ⟨"ShardRowsModel", "missing", "(I)I"⟩
abbrev wsMO_missing : List Cond := .code yMO_missing cMO_missing 4 (Option.some Jvm.ClassFile.FieldType.int) :: TB
abbrev cMO_verdict : ByteArray := prog_10_method_32_code
def yMO_verdict : MethodName := ⟨"ShardRowsModel", "verdict", "()I"⟩
abbrev wsMO_verdict : List Cond := .code yMO_verdict cMO_verdict 4 (Option.some Jvm.ClassFile.FieldType.int) :: TB
abbrev cMO_tries : ByteArray := prog_10_method_33_code
def yMO_tries : MethodName := ⟨"ShardRowsModel", "tries", "(I)I"⟩
abbrev wsMO_tries : List Cond := .code yMO_tries cMO_tries 2 (Option.some Jvm.ClassFile.FieldType.int) :: TB
end
section
theorem dSR_init_0 : decode cSR_init 0 = .ok (.aload_n 0, 1) := by decide +kernel
theorem dSR_init_1 : decode cSR_init 1 = .ok (.invokespecial 1, 3) := by decide +kernel
theorem dSR_init_4 : decode cSR_init 4 = .ok (.aload_n 0, 1) := by decide +kernel
theorem dSR_init_5 : decode cSR_init 5 = .ok (.iconst 1, 1) := by decide +kernel
theorem dSR_init_6 : decode cSR_init 6 = .ok (.iconst 4, 1) := by decide +kernel
theorem dSR_init_7 : decode cSR_init 7 = .ok (.iload_n 1, 1) := by decide +kernel
theorem dSR_init_8 : decode cSR_init 8 = .ok (.invokestatic 9, 3) := by decide +kernel
theorem dSR_init_11 : decode cSR_init 11 = .ok (.invokestatic 15, 3) := by decide +kernel
theorem dSR_init_14 : decode cSR_init 14 = .ok (.putfield 18, 3) := by decide +kernel
theorem dSR_init_17 : decode cSR_init 17 = .ok (.aload_n 0, 1) := by decide +kernel
theorem dSR_init_18 : decode cSR_init 18 = .ok (.new 22, 3) := by decide +kernel
theorem dSR_init_21 : decode cSR_init 21 = .ok (.dup, 1) := by decide +kernel
theorem dSR_init_22 : decode cSR_init 22 = .ok (.invokespecial 24, 3) := by decide +kernel
theorem dSR_init_25 : decode cSR_init 25 = .ok (.putfield 25, 3) := by decide +kernel
theorem dSR_init_28 : decode cSR_init 28 = .ok (.aload_n 0, 1) := by decide +kernel
theorem dSR_init_29 : decode cSR_init 29 = .ok (.new 29, 3) := by decide +kernel
theorem dSR_init_32 : decode cSR_init 32 = .ok (.dup, 1) := by decide +kernel
theorem dSR_init_33 : decode cSR_init 33 = .ok (.invokespecial 31, 3) := by decide +kernel
theorem dSR_init_36 : decode cSR_init 36 = .ok (.putfield 32, 3) := by decide +kernel
theorem dSR_init_39 : decode cSR_init 39 = .ok (.aload_n 0, 1) := by decide +kernel
theorem dSR_init_40 : decode cSR_init 40 = .ok (.new 36, 3) := by decide +kernel
theorem dSR_init_43 : decode cSR_init 43 = .ok (.dup, 1) := by decide +kernel
theorem dSR_init_44 : decode cSR_init 44 = .ok (.invokespecial 38, 3) := by decide +kernel
theorem dSR_init_47 : decode cSR_init 47 = .ok (.putfield 39, 3) := by decide +kernel
theorem dSR_init_50 : decode cSR_init 50 = .ok (.aload_n 0, 1) := by decide +kernel
theorem dSR_init_51 : decode cSR_init 51 = .ok (.new 43, 3) := by decide +kernel
theorem dSR_init_54 : decode cSR_init 54 = .ok (.dup, 1) := by decide +kernel
theorem dSR_init_55 : decode cSR_init 55 = .ok (.invokespecial 45, 3) := by decide +kernel
theorem dSR_init_58 : decode cSR_init 58 = .ok (.putfield 46, 3) := by decide +kernel
theorem dSR_init_61 : decode cSR_init 61 = .ok (.aload_n 0, 1) := by decide +kernel
theorem dSR_init_62 : decode cSR_init 62 = .ok (.new 50, 3) := by decide +kernel
theorem dSR_init_65 : decode cSR_init 65 = .ok (.dup, 1) := by decide +kernel
theorem dSR_init_66 : decode cSR_init 66 = .ok (.invokespecial 52, 3) := by decide +kernel
theorem dSR_init_69 : decode cSR_init 69 = .ok (.putfield 53, 3) := by decide +kernel
theorem dSR_init_72 : decode cSR_init 72 = .ok (.aload_n 0, 1) := by decide +kernel
theorem dSR_init_73 : decode cSR_init 73 = .ok (.new 57, 3) := by decide +kernel
theorem dSR_init_76 : decode cSR_init 76 = .ok (.dup, 1) := by decide +kernel
theorem dSR_init_77 : decode cSR_init 77 = .ok (.invokespecial 59, 3) := by decide +kernel
theorem dSR_init_80 : decode cSR_init 80 = .ok (.putfield 60, 3) := by decide +kernel
theorem dSR_init_83 : decode cSR_init 83 = .ok (.aload_n 0, 1) := by decide +kernel
theorem dSR_init_84 : decode cSR_init 84 = .ok (.new 64, 3) := by decide +kernel
theorem dSR_init_87 : decode cSR_init 87 = .ok (.dup, 1) := by decide +kernel
theorem dSR_init_88 : decode cSR_init 88 = .ok (.invokespecial 66, 3) := by decide +kernel
theorem dSR_init_91 : decode cSR_init 91 = .ok (.putfield 67, 3) := by decide +kernel
theorem dSR_init_94 : decode cSR_init 94 = .ok (.return_, 1) := by decide +kernel
theorem dTR_init_0 : decode cTR_init 0 = .ok (.aload_n 0, 1) := by decide +kernel
theorem dTR_init_1 : decode cTR_init 1 = .ok (.invokespecial 3, 3) := by decide +kernel
theorem dTR_init_4 : decode cTR_init 4 = .ok (.aload_n 0, 1) := by decide +kernel
theorem dTR_init_5 : decode cTR_init 5 = .ok (.bipush 24, 2) := by decide +kernel
theorem dTR_init_7 : decode cTR_init 7 = .ok (.newarray .int, 2) := by decide +kernel
theorem dTR_init_9 : decode cTR_init 9 = .ok (.putfield 9, 3) := by decide +kernel
theorem dTR_init_12 : decode cTR_init 12 = .ok (.aload_n 0, 1) := by decide +kernel
theorem dTR_init_13 : decode cTR_init 13 = .ok (.bipush 24, 2) := by decide +kernel
theorem dTR_init_15 : decode cTR_init 15 = .ok (.newarray .int, 2) := by decide +kernel
theorem dTR_init_17 : decode cTR_init 17 = .ok (.putfield 15, 3) := by decide +kernel
theorem dTR_init_20 : decode cTR_init 20 = .ok (.return_, 1) := by decide +kernel
theorem dGR_init_0 : decode cGR_init 0 = .ok (.aload_n 0, 1) := by decide +kernel
theorem dGR_init_1 : decode cGR_init 1 = .ok (.invokespecial 3, 3) := by decide +kernel
theorem dGR_init_4 : decode cGR_init 4 = .ok (.aload_n 0, 1) := by decide +kernel
theorem dGR_init_5 : decode cGR_init 5 = .ok (.bipush 24, 2) := by decide +kernel
theorem dGR_init_7 : decode cGR_init 7 = .ok (.newarray .int, 2) := by decide +kernel
theorem dGR_init_9 : decode cGR_init 9 = .ok (.putfield 9, 3) := by decide +kernel
theorem dGR_init_12 : decode cGR_init 12 = .ok (.aload_n 0, 1) := by decide +kernel
theorem dGR_init_13 : decode cGR_init 13 = .ok (.bipush 24, 2) := by decide +kernel
theorem dGR_init_15 : decode cGR_init 15 = .ok (.newarray .int, 2) := by decide +kernel
theorem dGR_init_17 : decode cGR_init 17 = .ok (.putfield 15, 3) := by decide +kernel
theorem dGR_init_20 : decode cGR_init 20 = .ok (.aload_n 0, 1) := by decide +kernel
theorem dGR_init_21 : decode cGR_init 21 = .ok (.bipush 24, 2) := by decide +kernel
theorem dGR_init_23 : decode cGR_init 23 = .ok (.newarray .int, 2) := by decide +kernel
theorem dGR_init_25 : decode cGR_init 25 = .ok (.putfield 18, 3) := by decide +kernel
theorem dGR_init_28 : decode cGR_init 28 = .ok (.aload_n 0, 1) := by decide +kernel
theorem dGR_init_29 : decode cGR_init 29 = .ok (.bipush 24, 2) := by decide +kernel
theorem dGR_init_31 : decode cGR_init 31 = .ok (.newarray .int, 2) := by decide +kernel
theorem dGR_init_33 : decode cGR_init 33 = .ok (.putfield 21, 3) := by decide +kernel
theorem dGR_init_36 : decode cGR_init 36 = .ok (.return_, 1) := by decide +kernel
theorem dSE_init_0 : decode cSE_init 0 = .ok (.aload_n 0, 1) := by decide +kernel
theorem dSE_init_1 : decode cSE_init 1 = .ok (.invokespecial 3, 3) := by decide +kernel
theorem dSE_init_4 : decode cSE_init 4 = .ok (.aload_n 0, 1) := by decide +kernel
theorem dSE_init_5 : decode cSE_init 5 = .ok (.bipush 8, 2) := by decide +kernel
theorem dSE_init_7 : decode cSE_init 7 = .ok (.newarray .int, 2) := by decide +kernel
theorem dSE_init_9 : decode cSE_init 9 = .ok (.putfield 9, 3) := by decide +kernel
theorem dSE_init_12 : decode cSE_init 12 = .ok (.aload_n 0, 1) := by decide +kernel
theorem dSE_init_13 : decode cSE_init 13 = .ok (.iconst 4, 1) := by decide +kernel
theorem dSE_init_14 : decode cSE_init 14 = .ok (.newarray .int, 2) := by decide +kernel
theorem dSE_init_16 : decode cSE_init 16 = .ok (.putfield 15, 3) := by decide +kernel
theorem dSE_init_19 : decode cSE_init 19 = .ok (.aload_n 0, 1) := by decide +kernel
theorem dSE_init_20 : decode cSE_init 20 = .ok (.bipush 8, 2) := by decide +kernel
theorem dSE_init_22 : decode cSE_init 22 = .ok (.newarray .int, 2) := by decide +kernel
theorem dSE_init_24 : decode cSE_init 24 = .ok (.putfield 18, 3) := by decide +kernel
theorem dSE_init_27 : decode cSE_init 27 = .ok (.aload_n 0, 1) := by decide +kernel
theorem dSE_init_28 : decode cSE_init 28 = .ok (.bipush 8, 2) := by decide +kernel
theorem dSE_init_30 : decode cSE_init 30 = .ok (.newarray .int, 2) := by decide +kernel
theorem dSE_init_32 : decode cSE_init 32 = .ok (.putfield 21, 3) := by decide +kernel
theorem dSE_init_35 : decode cSE_init 35 = .ok (.aload_n 0, 1) := by decide +kernel
theorem dSE_init_36 : decode cSE_init 36 = .ok (.bipush 8, 2) := by decide +kernel
theorem dSE_init_38 : decode cSE_init 38 = .ok (.iconst 4, 1) := by decide +kernel
theorem dSE_init_39 : decode cSE_init 39 = .ok (.multianewarray 24 2, 4) := by decide +kernel
theorem dSE_init_43 : decode cSE_init 43 = .ok (.putfield 26, 3) := by decide +kernel
theorem dSE_init_46 : decode cSE_init 46 = .ok (.aload_n 0, 1) := by decide +kernel
theorem dSE_init_47 : decode cSE_init 47 = .ok (.bipush 9, 2) := by decide +kernel
theorem dSE_init_49 : decode cSE_init 49 = .ok (.newarray .int, 2) := by decide +kernel
theorem dSE_init_51 : decode cSE_init 51 = .ok (.putfield 29, 3) := by decide +kernel
theorem dSE_init_54 : decode cSE_init 54 = .ok (.return_, 1) := by decide +kernel
theorem dGY_init_0 : decode cGY_init 0 = .ok (.aload_n 0, 1) := by decide +kernel
theorem dGY_init_1 : decode cGY_init 1 = .ok (.invokespecial 3, 3) := by decide +kernel
theorem dGY_init_4 : decode cGY_init 4 = .ok (.aload_n 0, 1) := by decide +kernel
theorem dGY_init_5 : decode cGY_init 5 = .ok (.iconst 4, 1) := by decide +kernel
theorem dGY_init_6 : decode cGY_init 6 = .ok (.newarray .int, 2) := by decide +kernel
theorem dGY_init_8 : decode cGY_init 8 = .ok (.putfield 9, 3) := by decide +kernel
theorem dGY_init_11 : decode cGY_init 11 = .ok (.return_, 1) := by decide +kernel
theorem dSP_init_0 : decode cSP_init 0 = .ok (.aload_n 0, 1) := by decide +kernel
theorem dSP_init_1 : decode cSP_init 1 = .ok (.invokespecial 3, 3) := by decide +kernel
theorem dSP_init_4 : decode cSP_init 4 = .ok (.aload_n 0, 1) := by decide +kernel
theorem dSP_init_5 : decode cSP_init 5 = .ok (.iconst 4, 1) := by decide +kernel
theorem dSP_init_6 : decode cSP_init 6 = .ok (.newarray .int, 2) := by decide +kernel
theorem dSP_init_8 : decode cSP_init 8 = .ok (.putfield 9, 3) := by decide +kernel
theorem dSP_init_11 : decode cSP_init 11 = .ok (.aload_n 0, 1) := by decide +kernel
theorem dSP_init_12 : decode cSP_init 12 = .ok (.iconst 4, 1) := by decide +kernel
theorem dSP_init_13 : decode cSP_init 13 = .ok (.newarray .int, 2) := by decide +kernel
theorem dSP_init_15 : decode cSP_init 15 = .ok (.putfield 15, 3) := by decide +kernel
theorem dSP_init_18 : decode cSP_init 18 = .ok (.aload_n 0, 1) := by decide +kernel
theorem dSP_init_19 : decode cSP_init 19 = .ok (.bipush 24, 2) := by decide +kernel
theorem dSP_init_21 : decode cSP_init 21 = .ok (.newarray .int, 2) := by decide +kernel
theorem dSP_init_23 : decode cSP_init 23 = .ok (.putfield 18, 3) := by decide +kernel
theorem dSP_init_26 : decode cSP_init 26 = .ok (.aload_n 0, 1) := by decide +kernel
theorem dSP_init_27 : decode cSP_init 27 = .ok (.getfield 18, 3) := by decide +kernel
theorem dSP_init_30 : decode cSP_init 30 = .ok (.iconst (-1), 1) := by decide +kernel
theorem dSP_init_31 : decode cSP_init 31 = .ok (.invokestatic 21, 3) := by decide +kernel
theorem dSP_init_34 : decode cSP_init 34 = .ok (.return_, 1) := by decide +kernel
theorem dAR_fill_0 : decode cAR_fill 0 = .ok (.iconst 0, 1) := by decide +kernel
theorem dAR_fill_1 : decode cAR_fill 1 = .ok (.istore_n 2, 1) := by decide +kernel
theorem dAR_fill_2 : decode cAR_fill 2 = .ok (.aload_n 0, 1) := by decide +kernel
theorem dAR_fill_3 : decode cAR_fill 3 = .ok (.arraylength, 1) := by decide +kernel
theorem dAR_fill_4 : decode cAR_fill 4 = .ok (.istore_n 3, 1) := by decide +kernel
theorem dAR_fill_5 : decode cAR_fill 5 = .ok (.iload_n 2, 1) := by decide +kernel
theorem dAR_fill_6 : decode cAR_fill 6 = .ok (.iload_n 3, 1) := by decide +kernel
theorem dAR_fill_7 : decode cAR_fill 7 = .ok (.if_icmp .ge 13, 3) := by decide +kernel
theorem dAR_fill_10 : decode cAR_fill 10 = .ok (.aload_n 0, 1) := by decide +kernel
theorem dAR_fill_11 : decode cAR_fill 11 = .ok (.iload_n 2, 1) := by decide +kernel
theorem dAR_fill_12 : decode cAR_fill 12 = .ok (.iload_n 1, 1) := by decide +kernel
theorem dAR_fill_13 : decode cAR_fill 13 = .ok (.iastore, 1) := by decide +kernel
theorem dAR_fill_14 : decode cAR_fill 14 = .ok (.iinc 2 1, 3) := by decide +kernel
theorem dAR_fill_17 : decode cAR_fill 17 = .ok (.goto (-12), 3) := by decide +kernel
theorem dAR_fill_20 : decode cAR_fill 20 = .ok (.return_, 1) := by decide +kernel
theorem dRR_init_0 : decode cRR_init 0 = .ok (.aload_n 0, 1) := by decide +kernel
theorem dRR_init_1 : decode cRR_init 1 = .ok (.invokespecial 3, 3) := by decide +kernel
theorem dRR_init_4 : decode cRR_init 4 = .ok (.aload_n 0, 1) := by decide +kernel
theorem dRR_init_5 : decode cRR_init 5 = .ok (.bipush 24, 2) := by decide +kernel
theorem dRR_init_7 : decode cRR_init 7 = .ok (.newarray .boolean, 2) := by decide +kernel
theorem dRR_init_9 : decode cRR_init 9 = .ok (.putfield 9, 3) := by decide +kernel
theorem dRR_init_12 : decode cRR_init 12 = .ok (.aload_n 0, 1) := by decide +kernel
theorem dRR_init_13 : decode cRR_init 13 = .ok (.bipush 24, 2) := by decide +kernel
theorem dRR_init_15 : decode cRR_init 15 = .ok (.newarray .int, 2) := by decide +kernel
theorem dRR_init_17 : decode cRR_init 17 = .ok (.putfield 15, 3) := by decide +kernel
theorem dRR_init_20 : decode cRR_init 20 = .ok (.aload_n 0, 1) := by decide +kernel
theorem dRR_init_21 : decode cRR_init 21 = .ok (.bipush 24, 2) := by decide +kernel
theorem dRR_init_23 : decode cRR_init 23 = .ok (.newarray .int, 2) := by decide +kernel
theorem dRR_init_25 : decode cRR_init 25 = .ok (.putfield 19, 3) := by decide +kernel
theorem dRR_init_28 : decode cRR_init 28 = .ok (.return_, 1) := by decide +kernel
theorem dDR_init_0 : decode cDR_init 0 = .ok (.aload_n 0, 1) := by decide +kernel
theorem dDR_init_1 : decode cDR_init 1 = .ok (.invokespecial 3, 3) := by decide +kernel
theorem dDR_init_4 : decode cDR_init 4 = .ok (.aload_n 0, 1) := by decide +kernel
theorem dDR_init_5 : decode cDR_init 5 = .ok (.bipush 24, 2) := by decide +kernel
theorem dDR_init_7 : decode cDR_init 7 = .ok (.newarray .int, 2) := by decide +kernel
theorem dDR_init_9 : decode cDR_init 9 = .ok (.putfield 9, 3) := by decide +kernel
theorem dDR_init_12 : decode cDR_init 12 = .ok (.return_, 1) := by decide +kernel
theorem dSR_test_0 : decode cSR_test 0 = .ok (.aload_n 0, 1) := by decide +kernel
theorem dSR_test_1 : decode cSR_test 1 = .ok (.getfield 25, 3) := by decide +kernel
theorem dSR_test_4 : decode cSR_test 4 = .ok (.iload_n 1, 1) := by decide +kernel
theorem dSR_test_5 : decode cSR_test 5 = .ok (.invokevirtual 71, 3) := by decide +kernel
theorem dSR_test_8 : decode cSR_test 8 = .ok (.ireturn, 1) := by decide +kernel
theorem dTR_add_0 : decode cTR_add 0 = .ok (.aload_n 0, 1) := by decide +kernel
theorem dTR_add_1 : decode cTR_add 1 = .ok (.getfield 18, 3) := by decide +kernel
theorem dTR_add_4 : decode cTR_add 4 = .ok (.bipush 24, 2) := by decide +kernel
theorem dTR_add_6 : decode cTR_add 6 = .ok (.if_icmp .ge 10, 3) := by decide +kernel
theorem dTR_add_9 : decode cTR_add 9 = .ok (.iload_n 1, 1) := by decide +kernel
theorem dTR_add_10 : decode cTR_add 10 = .ok (.invokestatic 22, 3) := by decide +kernel
theorem dTR_add_13 : decode cTR_add 13 = .ok (.ifCond .ne 5, 3) := by decide +kernel
theorem dTR_add_16 : decode cTR_add 16 = .ok (.iconst (-1), 1) := by decide +kernel
theorem dTR_add_17 : decode cTR_add 17 = .ok (.ireturn, 1) := by decide +kernel
theorem dTR_add_18 : decode cTR_add 18 = .ok (.aload_n 0, 1) := by decide +kernel
theorem dTR_add_19 : decode cTR_add 19 = .ok (.getfield 18, 3) := by decide +kernel
theorem dTR_add_22 : decode cTR_add 22 = .ok (.istore_n 2, 1) := by decide +kernel
theorem dTR_add_23 : decode cTR_add 23 = .ok (.aload_n 0, 1) := by decide +kernel
theorem dTR_add_24 : decode cTR_add 24 = .ok (.getfield 9, 3) := by decide +kernel
theorem dTR_add_27 : decode cTR_add 27 = .ok (.iload_n 2, 1) := by decide +kernel
theorem dTR_add_28 : decode cTR_add 28 = .ok (.iload_n 1, 1) := by decide +kernel
theorem dTR_add_29 : decode cTR_add 29 = .ok (.iastore, 1) := by decide +kernel
theorem dTR_add_30 : decode cTR_add 30 = .ok (.aload_n 0, 1) := by decide +kernel
theorem dTR_add_31 : decode cTR_add 31 = .ok (.getfield 15, 3) := by decide +kernel
theorem dTR_add_34 : decode cTR_add 34 = .ok (.iload_n 2, 1) := by decide +kernel
theorem dTR_add_35 : decode cTR_add 35 = .ok (.iload_n 2, 1) := by decide +kernel
theorem dTR_add_36 : decode cTR_add 36 = .ok (.iastore, 1) := by decide +kernel
theorem dTR_add_37 : decode cTR_add 37 = .ok (.aload_n 0, 1) := by decide +kernel
theorem dTR_add_38 : decode cTR_add 38 = .ok (.dup, 1) := by decide +kernel
theorem dTR_add_39 : decode cTR_add 39 = .ok (.getfield 18, 3) := by decide +kernel
theorem dTR_add_42 : decode cTR_add 42 = .ok (.iconst 1, 1) := by decide +kernel
theorem dTR_add_43 : decode cTR_add 43 = .ok (.iadd, 1) := by decide +kernel
theorem dTR_add_44 : decode cTR_add 44 = .ok (.putfield 18, 3) := by decide +kernel
theorem dTR_add_47 : decode cTR_add 47 = .ok (.iload_n 2, 1) := by decide +kernel
theorem dTR_add_48 : decode cTR_add 48 = .ok (.ireturn, 1) := by decide +kernel
theorem dTR_isTime_0 : decode cTR_isTime 0 = .ok (.iload_n 0, 1) := by decide +kernel
theorem dTR_isTime_1 : decode cTR_isTime 1 = .ok (.ifCond .lt 13, 3) := by decide +kernel
theorem dTR_isTime_4 : decode cTR_isTime 4 = .ok (.iload_n 0, 1) := by decide +kernel
theorem dTR_isTime_5 : decode cTR_isTime 5 = .ok (.ldc 38, 2) := by decide +kernel
theorem dTR_isTime_7 : decode cTR_isTime 7 = .ok (.if_icmp .gt 7, 3) := by decide +kernel
theorem dTR_isTime_10 : decode cTR_isTime 10 = .ok (.iconst 1, 1) := by decide +kernel
theorem dTR_isTime_11 : decode cTR_isTime 11 = .ok (.goto 4, 3) := by decide +kernel
theorem dTR_isTime_14 : decode cTR_isTime 14 = .ok (.iconst 0, 1) := by decide +kernel
theorem dTR_isTime_15 : decode cTR_isTime 15 = .ok (.ireturn, 1) := by decide +kernel
theorem dSR_time_0 : decode cSR_time 0 = .ok (.aload_n 0, 1) := by decide +kernel
theorem dSR_time_1 : decode cSR_time 1 = .ok (.getfield 25, 3) := by decide +kernel
theorem dSR_time_4 : decode cSR_time 4 = .ok (.iload_n 1, 1) := by decide +kernel
theorem dSR_time_5 : decode cSR_time 5 = .ok (.iload_n 2, 1) := by decide +kernel
theorem dSR_time_6 : decode cSR_time 6 = .ok (.invokevirtual 75, 3) := by decide +kernel
theorem dSR_time_9 : decode cSR_time 9 = .ok (.ireturn, 1) := by decide +kernel
theorem dTR_retime_0 : decode cTR_retime 0 = .ok (.aload_n 0, 1) := by decide +kernel
theorem dTR_retime_1 : decode cTR_retime 1 = .ok (.iload_n 1, 1) := by decide +kernel
theorem dTR_retime_2 : decode cTR_retime 2 = .ok (.invokevirtual 26, 3) := by decide +kernel
theorem dTR_retime_5 : decode cTR_retime 5 = .ok (.ifCond .eq 10, 3) := by decide +kernel
theorem dTR_retime_8 : decode cTR_retime 8 = .ok (.iload_n 2, 1) := by decide +kernel
theorem dTR_retime_9 : decode cTR_retime 9 = .ok (.invokestatic 22, 3) := by decide +kernel
theorem dTR_retime_12 : decode cTR_retime 12 = .ok (.ifCond .ne 5, 3) := by decide +kernel
theorem dTR_retime_15 : decode cTR_retime 15 = .ok (.iconst 0, 1) := by decide +kernel
theorem dTR_retime_16 : decode cTR_retime 16 = .ok (.ireturn, 1) := by decide +kernel
theorem dTR_retime_17 : decode cTR_retime 17 = .ok (.aload_n 0, 1) := by decide +kernel
theorem dTR_retime_18 : decode cTR_retime 18 = .ok (.getfield 9, 3) := by decide +kernel
theorem dTR_retime_21 : decode cTR_retime 21 = .ok (.iload_n 1, 1) := by decide +kernel
theorem dTR_retime_22 : decode cTR_retime 22 = .ok (.iload_n 2, 1) := by decide +kernel
theorem dTR_retime_23 : decode cTR_retime 23 = .ok (.iastore, 1) := by decide +kernel
theorem dTR_retime_24 : decode cTR_retime 24 = .ok (.iconst 1, 1) := by decide +kernel
theorem dTR_retime_25 : decode cTR_retime 25 = .ok (.ireturn, 1) := by decide +kernel
theorem dTR_has_0 : decode cTR_has 0 = .ok (.iload_n 1, 1) := by decide +kernel
theorem dTR_has_1 : decode cTR_has 1 = .ok (.ifCond .lt 15, 3) := by decide +kernel
theorem dTR_has_4 : decode cTR_has 4 = .ok (.iload_n 1, 1) := by decide +kernel
theorem dTR_has_5 : decode cTR_has 5 = .ok (.aload_n 0, 1) := by decide +kernel
theorem dTR_has_6 : decode cTR_has 6 = .ok (.getfield 18, 3) := by decide +kernel
theorem dTR_has_9 : decode cTR_has 9 = .ok (.if_icmp .ge 7, 3) := by decide +kernel
theorem dTR_has_12 : decode cTR_has 12 = .ok (.iconst 1, 1) := by decide +kernel
theorem dTR_has_13 : decode cTR_has 13 = .ok (.goto 4, 3) := by decide +kernel
theorem dTR_has_16 : decode cTR_has 16 = .ok (.iconst 0, 1) := by decide +kernel
theorem dTR_has_17 : decode cTR_has 17 = .ok (.ireturn, 1) := by decide +kernel
theorem dSR_join_0 : decode cSR_join 0 = .ok (.aload_n 0, 1) := by decide +kernel
theorem dSR_join_1 : decode cSR_join 1 = .ok (.getfield 25, 3) := by decide +kernel
theorem dSR_join_4 : decode cSR_join 4 = .ok (.iload_n 1, 1) := by decide +kernel
theorem dSR_join_5 : decode cSR_join 5 = .ok (.iload_n 2, 1) := by decide +kernel
theorem dSR_join_6 : decode cSR_join 6 = .ok (.invokevirtual 79, 3) := by decide +kernel
theorem dSR_join_9 : decode cSR_join 9 = .ok (.ireturn, 1) := by decide +kernel
theorem dTR_unite_0 : decode cTR_unite 0 = .ok (.aload_n 0, 1) := by decide +kernel
theorem dTR_unite_1 : decode cTR_unite 1 = .ok (.iload_n 1, 1) := by decide +kernel
theorem dTR_unite_2 : decode cTR_unite 2 = .ok (.invokevirtual 26, 3) := by decide +kernel
theorem dTR_unite_5 : decode cTR_unite 5 = .ok (.ifCond .eq 26, 3) := by decide +kernel
theorem dTR_unite_8 : decode cTR_unite 8 = .ok (.aload_n 0, 1) := by decide +kernel
theorem dTR_unite_9 : decode cTR_unite 9 = .ok (.iload_n 2, 1) := by decide +kernel
theorem dTR_unite_10 : decode cTR_unite 10 = .ok (.invokevirtual 26, 3) := by decide +kernel
theorem dTR_unite_13 : decode cTR_unite 13 = .ok (.ifCond .eq 18, 3) := by decide +kernel
theorem dTR_unite_16 : decode cTR_unite 16 = .ok (.aload_n 0, 1) := by decide +kernel
theorem dTR_unite_17 : decode cTR_unite 17 = .ok (.getfield 15, 3) := by decide +kernel
theorem dTR_unite_20 : decode cTR_unite 20 = .ok (.iload_n 1, 1) := by decide +kernel
theorem dTR_unite_21 : decode cTR_unite 21 = .ok (.iaload, 1) := by decide +kernel
theorem dTR_unite_22 : decode cTR_unite 22 = .ok (.aload_n 0, 1) := by decide +kernel
theorem dTR_unite_23 : decode cTR_unite 23 = .ok (.getfield 15, 3) := by decide +kernel
theorem dTR_unite_26 : decode cTR_unite 26 = .ok (.iload_n 2, 1) := by decide +kernel
theorem dTR_unite_27 : decode cTR_unite 27 = .ok (.iaload, 1) := by decide +kernel
theorem dTR_unite_28 : decode cTR_unite 28 = .ok (.if_icmp .ne 5, 3) := by decide +kernel
theorem dTR_unite_31 : decode cTR_unite 31 = .ok (.iconst 0, 1) := by decide +kernel
theorem dTR_unite_32 : decode cTR_unite 32 = .ok (.ireturn, 1) := by decide +kernel
theorem dTR_unite_33 : decode cTR_unite 33 = .ok (.aload_n 0, 1) := by decide +kernel
theorem dTR_unite_34 : decode cTR_unite 34 = .ok (.getfield 15, 3) := by decide +kernel
theorem dTR_unite_37 : decode cTR_unite 37 = .ok (.iload_n 1, 1) := by decide +kernel
theorem dTR_unite_38 : decode cTR_unite 38 = .ok (.iaload, 1) := by decide +kernel
theorem dTR_unite_39 : decode cTR_unite 39 = .ok (.aload_n 0, 1) := by decide +kernel
theorem dTR_unite_40 : decode cTR_unite 40 = .ok (.getfield 15, 3) := by decide +kernel
theorem dTR_unite_43 : decode cTR_unite 43 = .ok (.iload_n 2, 1) := by decide +kernel
theorem dTR_unite_44 : decode cTR_unite 44 = .ok (.iaload, 1) := by decide +kernel
theorem dTR_unite_45 : decode cTR_unite 45 = .ok (.invokestatic 29, 3) := by decide +kernel
theorem dTR_unite_48 : decode cTR_unite 48 = .ok (.istore_n 3, 1) := by decide +kernel
theorem dTR_unite_49 : decode cTR_unite 49 = .ok (.aload_n 0, 1) := by decide +kernel
theorem dTR_unite_50 : decode cTR_unite 50 = .ok (.getfield 15, 3) := by decide +kernel
theorem dTR_unite_53 : decode cTR_unite 53 = .ok (.iload_n 1, 1) := by decide +kernel
theorem dTR_unite_54 : decode cTR_unite 54 = .ok (.iaload, 1) := by decide +kernel
theorem dTR_unite_55 : decode cTR_unite 55 = .ok (.aload_n 0, 1) := by decide +kernel
theorem dTR_unite_56 : decode cTR_unite 56 = .ok (.getfield 15, 3) := by decide +kernel
theorem dTR_unite_59 : decode cTR_unite 59 = .ok (.iload_n 2, 1) := by decide +kernel
theorem dTR_unite_60 : decode cTR_unite 60 = .ok (.iaload, 1) := by decide +kernel
theorem dTR_unite_61 : decode cTR_unite 61 = .ok (.invokestatic 35, 3) := by decide +kernel
theorem dTR_unite_64 : decode cTR_unite 64 = .ok (.istore 4, 2) := by decide +kernel
theorem dTR_unite_66 : decode cTR_unite 66 = .ok (.iconst 0, 1) := by decide +kernel
theorem dTR_unite_67 : decode cTR_unite 67 = .ok (.istore 5, 2) := by decide +kernel
theorem dTR_unite_69 : decode cTR_unite 69 = .ok (.iload 5, 2) := by decide +kernel
theorem dTR_unite_71 : decode cTR_unite 71 = .ok (.aload_n 0, 1) := by decide +kernel
theorem dTR_unite_72 : decode cTR_unite 72 = .ok (.getfield 18, 3) := by decide +kernel
theorem dTR_unite_75 : decode cTR_unite 75 = .ok (.if_icmp .ge 29, 3) := by decide +kernel
theorem dTR_unite_78 : decode cTR_unite 78 = .ok (.aload_n 0, 1) := by decide +kernel
theorem dTR_unite_79 : decode cTR_unite 79 = .ok (.getfield 15, 3) := by decide +kernel
theorem dTR_unite_82 : decode cTR_unite 82 = .ok (.iload 5, 2) := by decide +kernel
theorem dTR_unite_84 : decode cTR_unite 84 = .ok (.iaload, 1) := by decide +kernel
theorem dTR_unite_85 : decode cTR_unite 85 = .ok (.iload 4, 2) := by decide +kernel
theorem dTR_unite_87 : decode cTR_unite 87 = .ok (.if_icmp .ne 11, 3) := by decide +kernel
theorem dTR_unite_90 : decode cTR_unite 90 = .ok (.aload_n 0, 1) := by decide +kernel
theorem dTR_unite_91 : decode cTR_unite 91 = .ok (.getfield 15, 3) := by decide +kernel
theorem dTR_unite_94 : decode cTR_unite 94 = .ok (.iload 5, 2) := by decide +kernel
theorem dTR_unite_96 : decode cTR_unite 96 = .ok (.iload_n 3, 1) := by decide +kernel
theorem dTR_unite_97 : decode cTR_unite 97 = .ok (.iastore, 1) := by decide +kernel
theorem dTR_unite_98 : decode cTR_unite 98 = .ok (.iinc 5 1, 3) := by decide +kernel
theorem dTR_unite_101 : decode cTR_unite 101 = .ok (.goto (-32), 3) := by decide +kernel
theorem dTR_unite_104 : decode cTR_unite 104 = .ok (.iconst 1, 1) := by decide +kernel
theorem dTR_unite_105 : decode cTR_unite 105 = .ok (.ireturn, 1) := by decide +kernel
theorem dSR_shards_0 : decode cSR_shards 0 = .ok (.iload_n 1, 1) := by decide +kernel
theorem dSR_shards_1 : decode cSR_shards 1 = .ok (.iconst 1, 1) := by decide +kernel
theorem dSR_shards_2 : decode cSR_shards 2 = .ok (.if_icmp .lt 8, 3) := by decide +kernel
theorem dSR_shards_5 : decode cSR_shards 5 = .ok (.iload_n 1, 1) := by decide +kernel
theorem dSR_shards_6 : decode cSR_shards 6 = .ok (.iconst 4, 1) := by decide +kernel
theorem dSR_shards_7 : decode cSR_shards 7 = .ok (.if_icmp .le 5, 3) := by decide +kernel
theorem dSR_shards_10 : decode cSR_shards 10 = .ok (.iconst 0, 1) := by decide +kernel
theorem dSR_shards_11 : decode cSR_shards 11 = .ok (.ireturn, 1) := by decide +kernel
theorem dSR_shards_12 : decode cSR_shards 12 = .ok (.aload_n 0, 1) := by decide +kernel
theorem dSR_shards_13 : decode cSR_shards 13 = .ok (.iload_n 1, 1) := by decide +kernel
theorem dSR_shards_14 : decode cSR_shards 14 = .ok (.putfield 18, 3) := by decide +kernel
theorem dSR_shards_17 : decode cSR_shards 17 = .ok (.iconst 1, 1) := by decide +kernel
theorem dSR_shards_18 : decode cSR_shards 18 = .ok (.ireturn, 1) := by decide +kernel
theorem dSR_mean_0 : decode cSR_mean 0 = .ok (.aload_n 0, 1) := by decide +kernel
theorem dSR_mean_1 : decode cSR_mean 1 = .ok (.getfield 25, 3) := by decide +kernel
theorem dSR_mean_4 : decode cSR_mean 4 = .ok (.invokevirtual 82, 3) := by decide +kernel
theorem dSR_mean_7 : decode cSR_mean 7 = .ok (.ireturn, 1) := by decide +kernel
theorem dTR_meanTime_0 : decode cTR_meanTime 0 = .ok (.iconst 0, 1) := by decide +kernel
theorem dTR_meanTime_1 : decode cTR_meanTime 1 = .ok (.istore_n 1, 1) := by decide +kernel
theorem dTR_meanTime_2 : decode cTR_meanTime 2 = .ok (.iconst 0, 1) := by decide +kernel
theorem dTR_meanTime_3 : decode cTR_meanTime 3 = .ok (.istore_n 2, 1) := by decide +kernel
theorem dTR_meanTime_4 : decode cTR_meanTime 4 = .ok (.iconst 0, 1) := by decide +kernel
theorem dTR_meanTime_5 : decode cTR_meanTime 5 = .ok (.istore_n 3, 1) := by decide +kernel
theorem dTR_meanTime_6 : decode cTR_meanTime 6 = .ok (.iload_n 3, 1) := by decide +kernel
theorem dTR_meanTime_7 : decode cTR_meanTime 7 = .ok (.aload_n 0, 1) := by decide +kernel
theorem dTR_meanTime_8 : decode cTR_meanTime 8 = .ok (.getfield 18, 3) := by decide +kernel
theorem dTR_meanTime_11 : decode cTR_meanTime 11 = .ok (.if_icmp .ge 35, 3) := by decide +kernel
theorem dTR_meanTime_14 : decode cTR_meanTime 14 = .ok (.iload_n 1, 1) := by decide +kernel
theorem dTR_meanTime_15 : decode cTR_meanTime 15 = .ok (.aload_n 0, 1) := by decide +kernel
theorem dTR_meanTime_16 : decode cTR_meanTime 16 = .ok (.getfield 9, 3) := by decide +kernel
theorem dTR_meanTime_19 : decode cTR_meanTime 19 = .ok (.iload_n 3, 1) := by decide +kernel
theorem dTR_meanTime_20 : decode cTR_meanTime 20 = .ok (.iaload, 1) := by decide +kernel
theorem dTR_meanTime_21 : decode cTR_meanTime 21 = .ok (.iadd, 1) := by decide +kernel
theorem dTR_meanTime_22 : decode cTR_meanTime 22 = .ok (.istore_n 1, 1) := by decide +kernel
theorem dTR_meanTime_23 : decode cTR_meanTime 23 = .ok (.iload_n 2, 1) := by decide +kernel
theorem dTR_meanTime_24 : decode cTR_meanTime 24 = .ok (.aload_n 0, 1) := by decide +kernel
theorem dTR_meanTime_25 : decode cTR_meanTime 25 = .ok (.getfield 9, 3) := by decide +kernel
theorem dTR_meanTime_28 : decode cTR_meanTime 28 = .ok (.iload_n 3, 1) := by decide +kernel
theorem dTR_meanTime_29 : decode cTR_meanTime 29 = .ok (.iaload, 1) := by decide +kernel
theorem dTR_meanTime_30 : decode cTR_meanTime 30 = .ok (.ifCond .ne 7, 3) := by decide +kernel
theorem dTR_meanTime_33 : decode cTR_meanTime 33 = .ok (.iconst 0, 1) := by decide +kernel
theorem dTR_meanTime_34 : decode cTR_meanTime 34 = .ok (.goto 4, 3) := by decide +kernel
theorem dTR_meanTime_37 : decode cTR_meanTime 37 = .ok (.iconst 1, 1) := by decide +kernel
theorem dTR_meanTime_38 : decode cTR_meanTime 38 = .ok (.iadd, 1) := by decide +kernel
theorem dTR_meanTime_39 : decode cTR_meanTime 39 = .ok (.istore_n 2, 1) := by decide +kernel
theorem dTR_meanTime_40 : decode cTR_meanTime 40 = .ok (.iinc 3 1, 3) := by decide +kernel
theorem dTR_meanTime_43 : decode cTR_meanTime 43 = .ok (.goto (-37), 3) := by decide +kernel
theorem dTR_meanTime_46 : decode cTR_meanTime 46 = .ok (.iload_n 2, 1) := by decide +kernel
theorem dTR_meanTime_47 : decode cTR_meanTime 47 = .ok (.ifCond .ne 7, 3) := by decide +kernel
theorem dTR_meanTime_50 : decode cTR_meanTime 50 = .ok (.iconst 1, 1) := by decide +kernel
theorem dTR_meanTime_51 : decode cTR_meanTime 51 = .ok (.goto 10, 3) := by decide +kernel
theorem dTR_meanTime_54 : decode cTR_meanTime 54 = .ok (.iload_n 1, 1) := by decide +kernel
theorem dTR_meanTime_55 : decode cTR_meanTime 55 = .ok (.iload_n 2, 1) := by decide +kernel
theorem dTR_meanTime_56 : decode cTR_meanTime 56 = .ok (.iadd, 1) := by decide +kernel
theorem dTR_meanTime_57 : decode cTR_meanTime 57 = .ok (.iconst 1, 1) := by decide +kernel
theorem dTR_meanTime_58 : decode cTR_meanTime 58 = .ok (.isub, 1) := by decide +kernel
theorem dTR_meanTime_59 : decode cTR_meanTime 59 = .ok (.iload_n 2, 1) := by decide +kernel
theorem dTR_meanTime_60 : decode cTR_meanTime 60 = .ok (.idiv, 1) := by decide +kernel
theorem dTR_meanTime_61 : decode cTR_meanTime 61 = .ok (.ireturn, 1) := by decide +kernel
theorem dSR_groups_0 : decode cSR_groups 0 = .ok (.aload_n 0, 1) := by decide +kernel
theorem dSR_groups_1 : decode cSR_groups 1 = .ok (.getfield 25, 3) := by decide +kernel
theorem dSR_groups_4 : decode cSR_groups 4 = .ok (.invokevirtual 86, 3) := by decide +kernel
theorem dSR_groups_7 : decode cSR_groups 7 = .ok (.ireturn, 1) := by decide +kernel
theorem dTR_countGroups_0 : decode cTR_countGroups 0 = .ok (.iconst 0, 1) := by decide +kernel
theorem dTR_countGroups_1 : decode cTR_countGroups 1 = .ok (.istore_n 1, 1) := by decide +kernel
theorem dTR_countGroups_2 : decode cTR_countGroups 2 = .ok (.iconst 0, 1) := by decide +kernel
theorem dTR_countGroups_3 : decode cTR_countGroups 3 = .ok (.istore_n 2, 1) := by decide +kernel
theorem dTR_countGroups_4 : decode cTR_countGroups 4 = .ok (.iload_n 2, 1) := by decide +kernel
theorem dTR_countGroups_5 : decode cTR_countGroups 5 = .ok (.aload_n 0, 1) := by decide +kernel
theorem dTR_countGroups_6 : decode cTR_countGroups 6 = .ok (.getfield 18, 3) := by decide +kernel
theorem dTR_countGroups_9 : decode cTR_countGroups 9 = .ok (.if_icmp .ge 27, 3) := by decide +kernel
theorem dTR_countGroups_12 : decode cTR_countGroups 12 = .ok (.iload_n 1, 1) := by decide +kernel
theorem dTR_countGroups_13 : decode cTR_countGroups 13 = .ok (.aload_n 0, 1) := by decide +kernel
theorem dTR_countGroups_14 : decode cTR_countGroups 14 = .ok (.getfield 15, 3) := by decide +kernel
theorem dTR_countGroups_17 : decode cTR_countGroups 17 = .ok (.iload_n 2, 1) := by decide +kernel
theorem dTR_countGroups_18 : decode cTR_countGroups 18 = .ok (.iaload, 1) := by decide +kernel
theorem dTR_countGroups_19 : decode cTR_countGroups 19 = .ok (.iload_n 2, 1) := by decide +kernel
theorem dTR_countGroups_20 : decode cTR_countGroups 20 = .ok (.if_icmp .ne 7, 3) := by decide +kernel
theorem dTR_countGroups_23 : decode cTR_countGroups 23 = .ok (.iconst 1, 1) := by decide +kernel
theorem dTR_countGroups_24 : decode cTR_countGroups 24 = .ok (.goto 4, 3) := by decide +kernel
theorem dTR_countGroups_27 : decode cTR_countGroups 27 = .ok (.iconst 0, 1) := by decide +kernel
theorem dTR_countGroups_28 : decode cTR_countGroups 28 = .ok (.iadd, 1) := by decide +kernel
theorem dTR_countGroups_29 : decode cTR_countGroups 29 = .ok (.istore_n 1, 1) := by decide +kernel
theorem dTR_countGroups_30 : decode cTR_countGroups 30 = .ok (.iinc 2 1, 3) := by decide +kernel
theorem dTR_countGroups_33 : decode cTR_countGroups 33 = .ok (.goto (-29), 3) := by decide +kernel
theorem dTR_countGroups_36 : decode cTR_countGroups 36 = .ok (.iload_n 1, 1) := by decide +kernel
theorem dTR_countGroups_37 : decode cTR_countGroups 37 = .ok (.ireturn, 1) := by decide +kernel
theorem dSR_split_0 : decode cSR_split 0 = .ok (.aload_n 0, 1) := by decide +kernel
theorem dSR_split_1 : decode cSR_split 1 = .ok (.getfield 32, 3) := by decide +kernel
theorem dSR_split_4 : decode cSR_split 4 = .ok (.aload_n 0, 1) := by decide +kernel
theorem dSR_split_5 : decode cSR_split 5 = .ok (.getfield 25, 3) := by decide +kernel
theorem dSR_split_8 : decode cSR_split 8 = .ok (.invokevirtual 89, 3) := by decide +kernel
theorem dSR_split_11 : decode cSR_split 11 = .ok (.aload_n 0, 1) := by decide +kernel
theorem dSR_split_12 : decode cSR_split 12 = .ok (.getfield 32, 3) := by decide +kernel
theorem dSR_split_15 : decode cSR_split 15 = .ok (.getfield 93, 3) := by decide +kernel
theorem dSR_split_18 : decode cSR_split 18 = .ok (.bipush 8, 2) := by decide +kernel
theorem dSR_split_20 : decode cSR_split 20 = .ok (.if_icmp .gt 25, 3) := by decide +kernel
theorem dSR_split_23 : decode cSR_split 23 = .ok (.aload_n 0, 1) := by decide +kernel
theorem dSR_split_24 : decode cSR_split 24 = .ok (.getfield 39, 3) := by decide +kernel
theorem dSR_split_27 : decode cSR_split 27 = .ok (.aload_n 0, 1) := by decide +kernel
theorem dSR_split_28 : decode cSR_split 28 = .ok (.getfield 32, 3) := by decide +kernel
theorem dSR_split_31 : decode cSR_split 31 = .ok (.aload_n 0, 1) := by decide +kernel
theorem dSR_split_32 : decode cSR_split 32 = .ok (.getfield 53, 3) := by decide +kernel
theorem dSR_split_35 : decode cSR_split 35 = .ok (.aload_n 0, 1) := by decide +kernel
theorem dSR_split_36 : decode cSR_split 36 = .ok (.getfield 18, 3) := by decide +kernel
theorem dSR_split_39 : decode cSR_split 39 = .ok (.invokevirtual 96, 3) := by decide +kernel
theorem dSR_split_42 : decode cSR_split 42 = .ok (.goto 22, 3) := by decide +kernel
theorem dSR_split_45 : decode cSR_split 45 = .ok (.aload_n 0, 1) := by decide +kernel
theorem dSR_split_46 : decode cSR_split 46 = .ok (.getfield 46, 3) := by decide +kernel
theorem dSR_split_49 : decode cSR_split 49 = .ok (.aload_n 0, 1) := by decide +kernel
theorem dSR_split_50 : decode cSR_split 50 = .ok (.getfield 32, 3) := by decide +kernel
theorem dSR_split_53 : decode cSR_split 53 = .ok (.aload_n 0, 1) := by decide +kernel
theorem dSR_split_54 : decode cSR_split 54 = .ok (.getfield 53, 3) := by decide +kernel
theorem dSR_split_57 : decode cSR_split 57 = .ok (.aload_n 0, 1) := by decide +kernel
theorem dSR_split_58 : decode cSR_split 58 = .ok (.getfield 18, 3) := by decide +kernel
theorem dSR_split_61 : decode cSR_split 61 = .ok (.invokevirtual 100, 3) := by decide +kernel
theorem dSR_split_64 : decode cSR_split 64 = .ok (.aload_n 0, 1) := by decide +kernel
theorem dSR_split_65 : decode cSR_split 65 = .ok (.getfield 53, 3) := by decide +kernel
theorem dSR_split_68 : decode cSR_split 68 = .ok (.aload_n 0, 1) := by decide +kernel
theorem dSR_split_69 : decode cSR_split 69 = .ok (.getfield 32, 3) := by decide +kernel
theorem dSR_split_72 : decode cSR_split 72 = .ok (.aload_n 0, 1) := by decide +kernel
theorem dSR_split_73 : decode cSR_split 73 = .ok (.getfield 18, 3) := by decide +kernel
theorem dSR_split_76 : decode cSR_split 76 = .ok (.invokevirtual 101, 3) := by decide +kernel
theorem dSR_split_79 : decode cSR_split 79 = .ok (.aload_n 0, 1) := by decide +kernel
theorem dSR_split_80 : decode cSR_split 80 = .ok (.getfield 60, 3) := by decide +kernel
theorem dSR_split_83 : decode cSR_split 83 = .ok (.invokevirtual 105, 3) := by decide +kernel
theorem dSR_split_86 : decode cSR_split 86 = .ok (.aload_n 0, 1) := by decide +kernel
theorem dSR_split_87 : decode cSR_split 87 = .ok (.getfield 53, 3) := by decide +kernel
theorem dSR_split_90 : decode cSR_split 90 = .ok (.invokevirtual 108, 3) := by decide +kernel
theorem dSR_split_93 : decode cSR_split 93 = .ok (.ireturn, 1) := by decide +kernel
theorem dGR_gather_0 : decode cGR_gather 0 = .ok (.aload_n 1, 1) := by decide +kernel
theorem dGR_gather_1 : decode cGR_gather 1 = .ok (.invokevirtual 24, 3) := by decide +kernel
theorem dGR_gather_4 : decode cGR_gather 4 = .ok (.istore_n 2, 1) := by decide +kernel
theorem dGR_gather_5 : decode cGR_gather 5 = .ok (.aload_n 0, 1) := by decide +kernel
theorem dGR_gather_6 : decode cGR_gather 6 = .ok (.iconst 0, 1) := by decide +kernel
theorem dGR_gather_7 : decode cGR_gather 7 = .ok (.putfield 30, 3) := by decide +kernel
theorem dGR_gather_10 : decode cGR_gather 10 = .ok (.aload_n 0, 1) := by decide +kernel
theorem dGR_gather_11 : decode cGR_gather 11 = .ok (.aload_n 1, 1) := by decide +kernel
theorem dGR_gather_12 : decode cGR_gather 12 = .ok (.getfield 34, 3) := by decide +kernel
theorem dGR_gather_15 : decode cGR_gather 15 = .ok (.putfield 35, 3) := by decide +kernel
theorem dGR_gather_18 : decode cGR_gather 18 = .ok (.iconst 0, 1) := by decide +kernel
theorem dGR_gather_19 : decode cGR_gather 19 = .ok (.istore_n 3, 1) := by decide +kernel
end
section
theorem dGR_gather_20 : decode cGR_gather 20 = .ok (.iload_n 3, 1) := by decide +kernel
theorem dGR_gather_21 : decode cGR_gather 21 = .ok (.aload_n 0, 1) := by decide +kernel
theorem dGR_gather_22 : decode cGR_gather 22 = .ok (.getfield 35, 3) := by decide +kernel
theorem dGR_gather_25 : decode cGR_gather 25 = .ok (.if_icmp .ge 90, 3) := by decide +kernel
theorem dGR_gather_28 : decode cGR_gather 28 = .ok (.aload_n 1, 1) := by decide +kernel
theorem dGR_gather_29 : decode cGR_gather 29 = .ok (.getfield 38, 3) := by decide +kernel
theorem dGR_gather_32 : decode cGR_gather 32 = .ok (.iload_n 3, 1) := by decide +kernel
theorem dGR_gather_33 : decode cGR_gather 33 = .ok (.iaload, 1) := by decide +kernel
theorem dGR_gather_34 : decode cGR_gather 34 = .ok (.istore 4, 2) := by decide +kernel
theorem dGR_gather_36 : decode cGR_gather 36 = .ok (.iload 4, 2) := by decide +kernel
theorem dGR_gather_38 : decode cGR_gather 38 = .ok (.iload_n 3, 1) := by decide +kernel
theorem dGR_gather_39 : decode cGR_gather 39 = .ok (.if_icmp .ne 11, 3) := by decide +kernel
theorem dGR_gather_42 : decode cGR_gather 42 = .ok (.aload_n 0, 1) := by decide +kernel
theorem dGR_gather_43 : decode cGR_gather 43 = .ok (.iload_n 3, 1) := by decide +kernel
theorem dGR_gather_44 : decode cGR_gather 44 = .ok (.invokevirtual 39, 3) := by decide +kernel
theorem dGR_gather_47 : decode cGR_gather 47 = .ok (.goto 9, 3) := by decide +kernel
theorem dGR_gather_50 : decode cGR_gather 50 = .ok (.aload_n 0, 1) := by decide +kernel
theorem dGR_gather_51 : decode cGR_gather 51 = .ok (.iload 4, 2) := by decide +kernel
theorem dGR_gather_53 : decode cGR_gather 53 = .ok (.invokevirtual 43, 3) := by decide +kernel
theorem dGR_gather_56 : decode cGR_gather 56 = .ok (.istore 5, 2) := by decide +kernel
theorem dGR_gather_58 : decode cGR_gather 58 = .ok (.aload_n 0, 1) := by decide +kernel
theorem dGR_gather_59 : decode cGR_gather 59 = .ok (.getfield 21, 3) := by decide +kernel
theorem dGR_gather_62 : decode cGR_gather 62 = .ok (.iload_n 3, 1) := by decide +kernel
theorem dGR_gather_63 : decode cGR_gather 63 = .ok (.iload 5, 2) := by decide +kernel
theorem dGR_gather_65 : decode cGR_gather 65 = .ok (.iastore, 1) := by decide +kernel
theorem dGR_gather_66 : decode cGR_gather 66 = .ok (.iload 5, 2) := by decide +kernel
theorem dGR_gather_68 : decode cGR_gather 68 = .ok (.ifCond .lt 41, 3) := by decide +kernel
theorem dGR_gather_71 : decode cGR_gather 71 = .ok (.iload 5, 2) := by decide +kernel
theorem dGR_gather_73 : decode cGR_gather 73 = .ok (.aload_n 0, 1) := by decide +kernel
theorem dGR_gather_74 : decode cGR_gather 74 = .ok (.getfield 30, 3) := by decide +kernel
theorem dGR_gather_77 : decode cGR_gather 77 = .ok (.if_icmp .ge 32, 3) := by decide +kernel
theorem dGR_gather_80 : decode cGR_gather 80 = .ok (.aload_n 0, 1) := by decide +kernel
theorem dGR_gather_81 : decode cGR_gather 81 = .ok (.getfield 15, 3) := by decide +kernel
theorem dGR_gather_84 : decode cGR_gather 84 = .ok (.iload 5, 2) := by decide +kernel
theorem dGR_gather_86 : decode cGR_gather 86 = .ok (.dup2, 1) := by decide +kernel
theorem dGR_gather_87 : decode cGR_gather 87 = .ok (.iaload, 1) := by decide +kernel
theorem dGR_gather_88 : decode cGR_gather 88 = .ok (.aload_n 1, 1) := by decide +kernel
theorem dGR_gather_89 : decode cGR_gather 89 = .ok (.getfield 46, 3) := by decide +kernel
theorem dGR_gather_92 : decode cGR_gather 92 = .ok (.iload_n 3, 1) := by decide +kernel
theorem dGR_gather_93 : decode cGR_gather 93 = .ok (.iaload, 1) := by decide +kernel
theorem dGR_gather_94 : decode cGR_gather 94 = .ok (.ifCond .ne 7, 3) := by decide +kernel
theorem dGR_gather_97 : decode cGR_gather 97 = .ok (.iload_n 2, 1) := by decide +kernel
theorem dGR_gather_98 : decode cGR_gather 98 = .ok (.goto 9, 3) := by decide +kernel
theorem dGR_gather_101 : decode cGR_gather 101 = .ok (.aload_n 1, 1) := by decide +kernel
theorem dGR_gather_102 : decode cGR_gather 102 = .ok (.getfield 46, 3) := by decide +kernel
theorem dGR_gather_105 : decode cGR_gather 105 = .ok (.iload_n 3, 1) := by decide +kernel
theorem dGR_gather_106 : decode cGR_gather 106 = .ok (.iaload, 1) := by decide +kernel
theorem dGR_gather_107 : decode cGR_gather 107 = .ok (.iadd, 1) := by decide +kernel
theorem dGR_gather_108 : decode cGR_gather 108 = .ok (.iastore, 1) := by decide +kernel
theorem dGR_gather_109 : decode cGR_gather 109 = .ok (.iinc 3 1, 3) := by decide +kernel
theorem dGR_gather_112 : decode cGR_gather 112 = .ok (.goto (-92), 3) := by decide +kernel
theorem dGR_gather_115 : decode cGR_gather 115 = .ok (.return_, 1) := by decide +kernel
theorem dGR_open_0 : decode cGR_open 0 = .ok (.aload_n 0, 1) := by decide +kernel
theorem dGR_open_1 : decode cGR_open 1 = .ok (.getfield 30, 3) := by decide +kernel
theorem dGR_open_4 : decode cGR_open 4 = .ok (.istore_n 2, 1) := by decide +kernel
theorem dGR_open_5 : decode cGR_open 5 = .ok (.aload_n 0, 1) := by decide +kernel
theorem dGR_open_6 : decode cGR_open 6 = .ok (.getfield 9, 3) := by decide +kernel
theorem dGR_open_9 : decode cGR_open 9 = .ok (.iload_n 2, 1) := by decide +kernel
theorem dGR_open_10 : decode cGR_open 10 = .ok (.iload_n 1, 1) := by decide +kernel
theorem dGR_open_11 : decode cGR_open 11 = .ok (.iastore, 1) := by decide +kernel
theorem dGR_open_12 : decode cGR_open 12 = .ok (.aload_n 0, 1) := by decide +kernel
theorem dGR_open_13 : decode cGR_open 13 = .ok (.getfield 15, 3) := by decide +kernel
theorem dGR_open_16 : decode cGR_open 16 = .ok (.iload_n 2, 1) := by decide +kernel
theorem dGR_open_17 : decode cGR_open 17 = .ok (.iconst 0, 1) := by decide +kernel
theorem dGR_open_18 : decode cGR_open 18 = .ok (.iastore, 1) := by decide +kernel
theorem dGR_open_19 : decode cGR_open 19 = .ok (.aload_n 0, 1) := by decide +kernel
theorem dGR_open_20 : decode cGR_open 20 = .ok (.getfield 18, 3) := by decide +kernel
theorem dGR_open_23 : decode cGR_open 23 = .ok (.iload_n 2, 1) := by decide +kernel
theorem dGR_open_24 : decode cGR_open 24 = .ok (.iconst (-1), 1) := by decide +kernel
theorem dGR_open_25 : decode cGR_open 25 = .ok (.iastore, 1) := by decide +kernel
theorem dGR_open_26 : decode cGR_open 26 = .ok (.aload_n 0, 1) := by decide +kernel
theorem dGR_open_27 : decode cGR_open 27 = .ok (.dup, 1) := by decide +kernel
theorem dGR_open_28 : decode cGR_open 28 = .ok (.getfield 30, 3) := by decide +kernel
theorem dGR_open_31 : decode cGR_open 31 = .ok (.iconst 1, 1) := by decide +kernel
theorem dGR_open_32 : decode cGR_open 32 = .ok (.iadd, 1) := by decide +kernel
theorem dGR_open_33 : decode cGR_open 33 = .ok (.putfield 30, 3) := by decide +kernel
theorem dGR_open_36 : decode cGR_open 36 = .ok (.iload_n 2, 1) := by decide +kernel
theorem dGR_open_37 : decode cGR_open 37 = .ok (.ireturn, 1) := by decide +kernel
theorem dGR_groupAt_0 : decode cGR_groupAt 0 = .ok (.iload_n 1, 1) := by decide +kernel
theorem dGR_groupAt_1 : decode cGR_groupAt 1 = .ok (.ifCond .lt 20, 3) := by decide +kernel
theorem dGR_groupAt_4 : decode cGR_groupAt 4 = .ok (.iload_n 1, 1) := by decide +kernel
theorem dGR_groupAt_5 : decode cGR_groupAt 5 = .ok (.aload_n 0, 1) := by decide +kernel
theorem dGR_groupAt_6 : decode cGR_groupAt 6 = .ok (.getfield 35, 3) := by decide +kernel
theorem dGR_groupAt_9 : decode cGR_groupAt 9 = .ok (.if_icmp .ge 12, 3) := by decide +kernel
theorem dGR_groupAt_12 : decode cGR_groupAt 12 = .ok (.aload_n 0, 1) := by decide +kernel
theorem dGR_groupAt_13 : decode cGR_groupAt 13 = .ok (.getfield 21, 3) := by decide +kernel
theorem dGR_groupAt_16 : decode cGR_groupAt 16 = .ok (.iload_n 1, 1) := by decide +kernel
theorem dGR_groupAt_17 : decode cGR_groupAt 17 = .ok (.iaload, 1) := by decide +kernel
theorem dGR_groupAt_18 : decode cGR_groupAt 18 = .ok (.goto 4, 3) := by decide +kernel
theorem dGR_groupAt_21 : decode cGR_groupAt 21 = .ok (.iconst (-1), 1) := by decide +kernel
theorem dGR_groupAt_22 : decode cGR_groupAt 22 = .ok (.ireturn, 1) := by decide +kernel
theorem dSE_place_0 : decode cSE_place 0 = .ok (.aload_n 0, 1) := by decide +kernel
theorem dSE_place_1 : decode cSE_place 1 = .ok (.iload_n 3, 1) := by decide +kernel
theorem dSE_place_2 : decode cSE_place 2 = .ok (.iconst 4, 1) := by decide +kernel
theorem dSE_place_3 : decode cSE_place 3 = .ok (.invokestatic 32, 3) := by decide +kernel
theorem dSE_place_6 : decode cSE_place 6 = .ok (.putfield 38, 3) := by decide +kernel
theorem dSE_place_9 : decode cSE_place 9 = .ok (.aload_n 0, 1) := by decide +kernel
theorem dSE_place_10 : decode cSE_place 10 = .ok (.aload_n 1, 1) := by decide +kernel
theorem dSE_place_11 : decode cSE_place 11 = .ok (.getfield 42, 3) := by decide +kernel
theorem dSE_place_14 : decode cSE_place 14 = .ok (.bipush 8, 2) := by decide +kernel
theorem dSE_place_16 : decode cSE_place 16 = .ok (.invokestatic 32, 3) := by decide +kernel
theorem dSE_place_19 : decode cSE_place 19 = .ok (.putfield 47, 3) := by decide +kernel
theorem dSE_place_22 : decode cSE_place 22 = .ok (.aload_n 1, 1) := by decide +kernel
theorem dSE_place_23 : decode cSE_place 23 = .ok (.getfield 50, 3) := by decide +kernel
theorem dSE_place_26 : decode cSE_place 26 = .ok (.iconst 0, 1) := by decide +kernel
theorem dSE_place_27 : decode cSE_place 27 = .ok (.aload_n 0, 1) := by decide +kernel
theorem dSE_place_28 : decode cSE_place 28 = .ok (.getfield 9, 3) := by decide +kernel
theorem dSE_place_31 : decode cSE_place 31 = .ok (.iconst 0, 1) := by decide +kernel
theorem dSE_place_32 : decode cSE_place 32 = .ok (.aload_n 0, 1) := by decide +kernel
theorem dSE_place_33 : decode cSE_place 33 = .ok (.getfield 47, 3) := by decide +kernel
theorem dSE_place_36 : decode cSE_place 36 = .ok (.invokestatic 51, 3) := by decide +kernel
theorem dSE_place_39 : decode cSE_place 39 = .ok (.aload_n 0, 1) := by decide +kernel
theorem dSE_place_40 : decode cSE_place 40 = .ok (.aload_n 1, 1) := by decide +kernel
theorem dSE_place_41 : decode cSE_place 41 = .ok (.aload_n 2, 1) := by decide +kernel
theorem dSE_place_42 : decode cSE_place 42 = .ok (.invokevirtual 57, 3) := by decide +kernel
theorem dSE_place_45 : decode cSE_place 45 = .ok (.aload_n 0, 1) := by decide +kernel
theorem dSE_place_46 : decode cSE_place 46 = .ok (.invokevirtual 61, 3) := by decide +kernel
theorem dSE_place_49 : decode cSE_place 49 = .ok (.aload_n 0, 1) := by decide +kernel
theorem dSE_place_50 : decode cSE_place 50 = .ok (.getfield 15, 3) := by decide +kernel
theorem dSE_place_53 : decode cSE_place 53 = .ok (.iconst 0, 1) := by decide +kernel
theorem dSE_place_54 : decode cSE_place 54 = .ok (.invokestatic 64, 3) := by decide +kernel
theorem dSE_place_57 : decode cSE_place 57 = .ok (.aload_n 0, 1) := by decide +kernel
theorem dSE_place_58 : decode cSE_place 58 = .ok (.ldc 72, 2) := by decide +kernel
theorem dSE_place_60 : decode cSE_place 60 = .ok (.putfield 73, 3) := by decide +kernel
theorem dSE_place_63 : decode cSE_place 63 = .ok (.aload_n 0, 1) := by decide +kernel
theorem dSE_place_64 : decode cSE_place 64 = .ok (.iconst 0, 1) := by decide +kernel
theorem dSE_place_65 : decode cSE_place 65 = .ok (.iconst 0, 1) := by decide +kernel
theorem dSE_place_66 : decode cSE_place 66 = .ok (.iconst 0, 1) := by decide +kernel
theorem dSE_place_67 : decode cSE_place 67 = .ok (.invokevirtual 76, 3) := by decide +kernel
theorem dSE_place_70 : decode cSE_place 70 = .ok (.aload_n 0, 1) := by decide +kernel
theorem dSE_place_71 : decode cSE_place 71 = .ok (.ldc 72, 2) := by decide +kernel
theorem dSE_place_73 : decode cSE_place 73 = .ok (.putfield 80, 3) := by decide +kernel
theorem dSE_place_76 : decode cSE_place 76 = .ok (.aload_n 0, 1) := by decide +kernel
theorem dSE_place_77 : decode cSE_place 77 = .ok (.iconst 0, 1) := by decide +kernel
theorem dSE_place_78 : decode cSE_place 78 = .ok (.iconst 0, 1) := by decide +kernel
theorem dSE_place_79 : decode cSE_place 79 = .ok (.invokevirtual 83, 3) := by decide +kernel
theorem dSE_place_82 : decode cSE_place 82 = .ok (.aload_n 0, 1) := by decide +kernel
theorem dSE_place_83 : decode cSE_place 83 = .ok (.getfield 21, 3) := by decide +kernel
theorem dSE_place_86 : decode cSE_place 86 = .ok (.iconst 0, 1) := by decide +kernel
theorem dSE_place_87 : decode cSE_place 87 = .ok (.aload_n 1, 1) := by decide +kernel
theorem dSE_place_88 : decode cSE_place 88 = .ok (.getfield 87, 3) := by decide +kernel
theorem dSE_place_91 : decode cSE_place 91 = .ok (.iconst 0, 1) := by decide +kernel
theorem dSE_place_92 : decode cSE_place 92 = .ok (.aload_n 0, 1) := by decide +kernel
theorem dSE_place_93 : decode cSE_place 93 = .ok (.getfield 47, 3) := by decide +kernel
theorem dSE_place_96 : decode cSE_place 96 = .ok (.invokestatic 51, 3) := by decide +kernel
theorem dSE_place_99 : decode cSE_place 99 = .ok (.return_, 1) := by decide +kernel
theorem dSE_countMoves_0 : decode cSE_countMoves 0 = .ok (.iconst 0, 1) := by decide +kernel
theorem dSE_countMoves_1 : decode cSE_countMoves 1 = .ok (.istore_n 3, 1) := by decide +kernel
theorem dSE_countMoves_2 : decode cSE_countMoves 2 = .ok (.iload_n 3, 1) := by decide +kernel
theorem dSE_countMoves_3 : decode cSE_countMoves 3 = .ok (.aload_n 0, 1) := by decide +kernel
theorem dSE_countMoves_4 : decode cSE_countMoves 4 = .ok (.getfield 47, 3) := by decide +kernel
theorem dSE_countMoves_7 : decode cSE_countMoves 7 = .ok (.if_icmp .ge 73, 3) := by decide +kernel
theorem dSE_countMoves_10 : decode cSE_countMoves 10 = .ok (.aload_n 0, 1) := by decide +kernel
theorem dSE_countMoves_11 : decode cSE_countMoves 11 = .ok (.getfield 26, 3) := by decide +kernel
theorem dSE_countMoves_14 : decode cSE_countMoves 14 = .ok (.iload_n 3, 1) := by decide +kernel
theorem dSE_countMoves_15 : decode cSE_countMoves 15 = .ok (.aaload, 1) := by decide +kernel
theorem dSE_countMoves_16 : decode cSE_countMoves 16 = .ok (.iconst 0, 1) := by decide +kernel
theorem dSE_countMoves_17 : decode cSE_countMoves 17 = .ok (.invokestatic 64, 3) := by decide +kernel
theorem dSE_countMoves_20 : decode cSE_countMoves 20 = .ok (.aload_n 1, 1) := by decide +kernel
theorem dSE_countMoves_21 : decode cSE_countMoves 21 = .ok (.getfield 90, 3) := by decide +kernel
theorem dSE_countMoves_24 : decode cSE_countMoves 24 = .ok (.iload_n 3, 1) := by decide +kernel
theorem dSE_countMoves_25 : decode cSE_countMoves 25 = .ok (.iaload, 1) := by decide +kernel
theorem dSE_countMoves_26 : decode cSE_countMoves 26 = .ok (.istore 4, 2) := by decide +kernel
theorem dSE_countMoves_28 : decode cSE_countMoves 28 = .ok (.iload 4, 2) := by decide +kernel
theorem dSE_countMoves_30 : decode cSE_countMoves 30 = .ok (.aload_n 1, 1) := by decide +kernel
theorem dSE_countMoves_31 : decode cSE_countMoves 31 = .ok (.getfield 93, 3) := by decide +kernel
theorem dSE_countMoves_34 : decode cSE_countMoves 34 = .ok (.if_icmp .ge 40, 3) := by decide +kernel
theorem dSE_countMoves_37 : decode cSE_countMoves 37 = .ok (.aload_n 2, 1) := by decide +kernel
theorem dSE_countMoves_38 : decode cSE_countMoves 38 = .ok (.iload 4, 2) := by decide +kernel
theorem dSE_countMoves_40 : decode cSE_countMoves 40 = .ok (.invokevirtual 96, 3) := by decide +kernel
theorem dSE_countMoves_43 : decode cSE_countMoves 43 = .ok (.istore 5, 2) := by decide +kernel
theorem dSE_countMoves_45 : decode cSE_countMoves 45 = .ok (.iload 5, 2) := by decide +kernel
theorem dSE_countMoves_47 : decode cSE_countMoves 47 = .ok (.iconst (-1), 1) := by decide +kernel
theorem dSE_countMoves_48 : decode cSE_countMoves 48 = .ok (.if_icmp .eq 20, 3) := by decide +kernel
theorem dSE_countMoves_51 : decode cSE_countMoves 51 = .ok (.aload_n 1, 1) := by decide +kernel
theorem dSE_countMoves_52 : decode cSE_countMoves 52 = .ok (.iload 4, 2) := by decide +kernel
theorem dSE_countMoves_54 : decode cSE_countMoves 54 = .ok (.invokevirtual 102, 3) := by decide +kernel
theorem dSE_countMoves_57 : decode cSE_countMoves 57 = .ok (.iload_n 3, 1) := by decide +kernel
theorem dSE_countMoves_58 : decode cSE_countMoves 58 = .ok (.if_icmp .ne 10, 3) := by decide +kernel
theorem dSE_countMoves_61 : decode cSE_countMoves 61 = .ok (.aload_n 0, 1) := by decide +kernel
theorem dSE_countMoves_62 : decode cSE_countMoves 62 = .ok (.iload_n 3, 1) := by decide +kernel
theorem dSE_countMoves_63 : decode cSE_countMoves 63 = .ok (.iload 5, 2) := by decide +kernel
theorem dSE_countMoves_65 : decode cSE_countMoves 65 = .ok (.invokevirtual 105, 3) := by decide +kernel
theorem dSE_countMoves_68 : decode cSE_countMoves 68 = .ok (.iinc 4 1, 3) := by decide +kernel
theorem dSE_countMoves_71 : decode cSE_countMoves 71 = .ok (.goto (-43), 3) := by decide +kernel
theorem dSE_countMoves_74 : decode cSE_countMoves 74 = .ok (.iinc 3 1, 3) := by decide +kernel
theorem dSE_countMoves_77 : decode cSE_countMoves 77 = .ok (.goto (-75), 3) := by decide +kernel
theorem dSE_countMoves_80 : decode cSE_countMoves 80 = .ok (.return_, 1) := by decide +kernel
theorem dSP_shardAt_0 : decode cSP_shardAt 0 = .ok (.iload_n 1, 1) := by decide +kernel
theorem dSP_shardAt_1 : decode cSP_shardAt 1 = .ok (.invokestatic 31, 3) := by decide +kernel
theorem dSP_shardAt_4 : decode cSP_shardAt 4 = .ok (.ifCond .eq 12, 3) := by decide +kernel
theorem dSP_shardAt_7 : decode cSP_shardAt 7 = .ok (.aload_n 0, 1) := by decide +kernel
theorem dSP_shardAt_8 : decode cSP_shardAt 8 = .ok (.getfield 18, 3) := by decide +kernel
theorem dSP_shardAt_11 : decode cSP_shardAt 11 = .ok (.iload_n 1, 1) := by decide +kernel
theorem dSP_shardAt_12 : decode cSP_shardAt 12 = .ok (.iaload, 1) := by decide +kernel
theorem dSP_shardAt_13 : decode cSP_shardAt 13 = .ok (.goto 4, 3) := by decide +kernel
theorem dSP_shardAt_16 : decode cSP_shardAt 16 = .ok (.iconst (-1), 1) := by decide +kernel
theorem dSP_shardAt_17 : decode cSP_shardAt 17 = .ok (.ireturn, 1) := by decide +kernel
theorem dSR_isTestNumber_0 : decode cSR_isTestNumber 0 = .ok (.iload_n 0, 1) := by decide +kernel
theorem dSR_isTestNumber_1 : decode cSR_isTestNumber 1 = .ok (.ifCond .lt 13, 3) := by decide +kernel
theorem dSR_isTestNumber_4 : decode cSR_isTestNumber 4 = .ok (.iload_n 0, 1) := by decide +kernel
theorem dSR_isTestNumber_5 : decode cSR_isTestNumber 5 = .ok (.bipush 24, 2) := by decide +kernel
theorem dSR_isTestNumber_7 : decode cSR_isTestNumber 7 = .ok (.if_icmp .ge 7, 3) := by decide +kernel
theorem dSR_isTestNumber_10 : decode cSR_isTestNumber 10 = .ok (.iconst 1, 1) := by decide +kernel
theorem dSR_isTestNumber_11 : decode cSR_isTestNumber 11 = .ok (.goto 4, 3) := by decide +kernel
theorem dSR_isTestNumber_14 : decode cSR_isTestNumber 14 = .ok (.iconst 0, 1) := by decide +kernel
theorem dSR_isTestNumber_15 : decode cSR_isTestNumber 15 = .ok (.ireturn, 1) := by decide +kernel
theorem dSE_addMove_0 : decode cSE_addMove 0 = .ok (.iconst 0, 1) := by decide +kernel
theorem dSE_addMove_1 : decode cSE_addMove 1 = .ok (.istore_n 3, 1) := by decide +kernel
theorem dSE_addMove_2 : decode cSE_addMove 2 = .ok (.iload_n 3, 1) := by decide +kernel
theorem dSE_addMove_3 : decode cSE_addMove 3 = .ok (.aload_n 0, 1) := by decide +kernel
theorem dSE_addMove_4 : decode cSE_addMove 4 = .ok (.getfield 38, 3) := by decide +kernel
theorem dSE_addMove_7 : decode cSE_addMove 7 = .ok (.if_icmp .ge 30, 3) := by decide +kernel
theorem dSE_addMove_10 : decode cSE_addMove 10 = .ok (.aload_n 0, 1) := by decide +kernel
theorem dSE_addMove_11 : decode cSE_addMove 11 = .ok (.getfield 26, 3) := by decide +kernel
theorem dSE_addMove_14 : decode cSE_addMove 14 = .ok (.iload_n 1, 1) := by decide +kernel
theorem dSE_addMove_15 : decode cSE_addMove 15 = .ok (.aaload, 1) := by decide +kernel
theorem dSE_addMove_16 : decode cSE_addMove 16 = .ok (.iload_n 3, 1) := by decide +kernel
theorem dSE_addMove_17 : decode cSE_addMove 17 = .ok (.dup2, 1) := by decide +kernel
theorem dSE_addMove_18 : decode cSE_addMove 18 = .ok (.iaload, 1) := by decide +kernel
theorem dSE_addMove_19 : decode cSE_addMove 19 = .ok (.iload_n 3, 1) := by decide +kernel
theorem dSE_addMove_20 : decode cSE_addMove 20 = .ok (.iload_n 2, 1) := by decide +kernel
theorem dSE_addMove_21 : decode cSE_addMove 21 = .ok (.if_icmp .ne 7, 3) := by decide +kernel
theorem dSE_addMove_24 : decode cSE_addMove 24 = .ok (.iconst 0, 1) := by decide +kernel
theorem dSE_addMove_25 : decode cSE_addMove 25 = .ok (.goto 4, 3) := by decide +kernel
theorem dSE_addMove_28 : decode cSE_addMove 28 = .ok (.iconst 1, 1) := by decide +kernel
theorem dSE_addMove_29 : decode cSE_addMove 29 = .ok (.iadd, 1) := by decide +kernel
theorem dSE_addMove_30 : decode cSE_addMove 30 = .ok (.iastore, 1) := by decide +kernel
theorem dSE_addMove_31 : decode cSE_addMove 31 = .ok (.iinc 3 1, 3) := by decide +kernel
theorem dSE_addMove_34 : decode cSE_addMove 34 = .ok (.goto (-32), 3) := by decide +kernel
theorem dSE_addMove_37 : decode cSE_addMove 37 = .ok (.return_, 1) := by decide +kernel
theorem dSE_sumLeastMoves_0 : decode cSE_sumLeastMoves 0 = .ok (.aload_n 0, 1) := by decide +kernel
theorem dSE_sumLeastMoves_1 : decode cSE_sumLeastMoves 1 = .ok (.getfield 29, 3) := by decide +kernel
theorem dSE_sumLeastMoves_4 : decode cSE_sumLeastMoves 4 = .ok (.aload_n 0, 1) := by decide +kernel
theorem dSE_sumLeastMoves_5 : decode cSE_sumLeastMoves 5 = .ok (.getfield 47, 3) := by decide +kernel
theorem dSE_sumLeastMoves_8 : decode cSE_sumLeastMoves 8 = .ok (.iconst 0, 1) := by decide +kernel
theorem dSE_sumLeastMoves_9 : decode cSE_sumLeastMoves 9 = .ok (.iastore, 1) := by decide +kernel
theorem dSE_sumLeastMoves_10 : decode cSE_sumLeastMoves 10 = .ok (.aload_n 0, 1) := by decide +kernel
theorem dSE_sumLeastMoves_11 : decode cSE_sumLeastMoves 11 = .ok (.getfield 47, 3) := by decide +kernel
theorem dSE_sumLeastMoves_14 : decode cSE_sumLeastMoves 14 = .ok (.iconst 1, 1) := by decide +kernel
theorem dSE_sumLeastMoves_15 : decode cSE_sumLeastMoves 15 = .ok (.isub, 1) := by decide +kernel
theorem dSE_sumLeastMoves_16 : decode cSE_sumLeastMoves 16 = .ok (.istore_n 1, 1) := by decide +kernel
theorem dSE_sumLeastMoves_17 : decode cSE_sumLeastMoves 17 = .ok (.iload_n 1, 1) := by decide +kernel
theorem dSE_sumLeastMoves_18 : decode cSE_sumLeastMoves 18 = .ok (.ifCond .lt 63, 3) := by decide +kernel
theorem dSE_sumLeastMoves_21 : decode cSE_sumLeastMoves 21 = .ok (.aload_n 0, 1) := by decide +kernel
theorem dSE_sumLeastMoves_22 : decode cSE_sumLeastMoves 22 = .ok (.getfield 26, 3) := by decide +kernel
theorem dSE_sumLeastMoves_25 : decode cSE_sumLeastMoves 25 = .ok (.iload_n 1, 1) := by decide +kernel
theorem dSE_sumLeastMoves_26 : decode cSE_sumLeastMoves 26 = .ok (.aaload, 1) := by decide +kernel
theorem dSE_sumLeastMoves_27 : decode cSE_sumLeastMoves 27 = .ok (.iconst 0, 1) := by decide +kernel
theorem dSE_sumLeastMoves_28 : decode cSE_sumLeastMoves 28 = .ok (.iaload, 1) := by decide +kernel
theorem dSE_sumLeastMoves_29 : decode cSE_sumLeastMoves 29 = .ok (.istore_n 2, 1) := by decide +kernel
theorem dSE_sumLeastMoves_30 : decode cSE_sumLeastMoves 30 = .ok (.iconst 1, 1) := by decide +kernel
theorem dSE_sumLeastMoves_31 : decode cSE_sumLeastMoves 31 = .ok (.istore_n 3, 1) := by decide +kernel
theorem dSE_sumLeastMoves_32 : decode cSE_sumLeastMoves 32 = .ok (.iload_n 3, 1) := by decide +kernel
theorem dSE_sumLeastMoves_33 : decode cSE_sumLeastMoves 33 = .ok (.aload_n 0, 1) := by decide +kernel
theorem dSE_sumLeastMoves_34 : decode cSE_sumLeastMoves 34 = .ok (.getfield 38, 3) := by decide +kernel
theorem dSE_sumLeastMoves_37 : decode cSE_sumLeastMoves 37 = .ok (.if_icmp .ge 22, 3) := by decide +kernel
theorem dSE_sumLeastMoves_40 : decode cSE_sumLeastMoves 40 = .ok (.iload_n 2, 1) := by decide +kernel
theorem dSE_sumLeastMoves_41 : decode cSE_sumLeastMoves 41 = .ok (.aload_n 0, 1) := by decide +kernel
theorem dSE_sumLeastMoves_42 : decode cSE_sumLeastMoves 42 = .ok (.getfield 26, 3) := by decide +kernel
theorem dSE_sumLeastMoves_45 : decode cSE_sumLeastMoves 45 = .ok (.iload_n 1, 1) := by decide +kernel
theorem dSE_sumLeastMoves_46 : decode cSE_sumLeastMoves 46 = .ok (.aaload, 1) := by decide +kernel
theorem dSE_sumLeastMoves_47 : decode cSE_sumLeastMoves 47 = .ok (.iload_n 3, 1) := by decide +kernel
theorem dSE_sumLeastMoves_48 : decode cSE_sumLeastMoves 48 = .ok (.iaload, 1) := by decide +kernel
theorem dSE_sumLeastMoves_49 : decode cSE_sumLeastMoves 49 = .ok (.invokestatic 32, 3) := by decide +kernel
theorem dSE_sumLeastMoves_52 : decode cSE_sumLeastMoves 52 = .ok (.istore_n 2, 1) := by decide +kernel
theorem dSE_sumLeastMoves_53 : decode cSE_sumLeastMoves 53 = .ok (.iinc 3 1, 3) := by decide +kernel
theorem dSE_sumLeastMoves_56 : decode cSE_sumLeastMoves 56 = .ok (.goto (-24), 3) := by decide +kernel
theorem dSE_sumLeastMoves_59 : decode cSE_sumLeastMoves 59 = .ok (.aload_n 0, 1) := by decide +kernel
theorem dSE_sumLeastMoves_60 : decode cSE_sumLeastMoves 60 = .ok (.getfield 29, 3) := by decide +kernel
theorem dSE_sumLeastMoves_63 : decode cSE_sumLeastMoves 63 = .ok (.iload_n 1, 1) := by decide +kernel
theorem dSE_sumLeastMoves_64 : decode cSE_sumLeastMoves 64 = .ok (.aload_n 0, 1) := by decide +kernel
theorem dSE_sumLeastMoves_65 : decode cSE_sumLeastMoves 65 = .ok (.getfield 29, 3) := by decide +kernel
theorem dSE_sumLeastMoves_68 : decode cSE_sumLeastMoves 68 = .ok (.iload_n 1, 1) := by decide +kernel
theorem dSE_sumLeastMoves_69 : decode cSE_sumLeastMoves 69 = .ok (.iconst 1, 1) := by decide +kernel
theorem dSE_sumLeastMoves_70 : decode cSE_sumLeastMoves 70 = .ok (.iadd, 1) := by decide +kernel
theorem dSE_sumLeastMoves_71 : decode cSE_sumLeastMoves 71 = .ok (.iaload, 1) := by decide +kernel
theorem dSE_sumLeastMoves_72 : decode cSE_sumLeastMoves 72 = .ok (.iload_n 2, 1) := by decide +kernel
theorem dSE_sumLeastMoves_73 : decode cSE_sumLeastMoves 73 = .ok (.iadd, 1) := by decide +kernel
theorem dSE_sumLeastMoves_74 : decode cSE_sumLeastMoves 74 = .ok (.iastore, 1) := by decide +kernel
theorem dSE_sumLeastMoves_75 : decode cSE_sumLeastMoves 75 = .ok (.iinc 1 (-1), 3) := by decide +kernel
theorem dSE_sumLeastMoves_78 : decode cSE_sumLeastMoves 78 = .ok (.goto (-61), 3) := by decide +kernel
theorem dSE_sumLeastMoves_81 : decode cSE_sumLeastMoves 81 = .ok (.return_, 1) := by decide +kernel
theorem dSE_seekLength_0 : decode cSE_seekLength 0 = .ok (.iload_n 3, 1) := by decide +kernel
theorem dSE_seekLength_1 : decode cSE_seekLength 1 = .ok (.aload_n 0, 1) := by decide +kernel
theorem dSE_seekLength_2 : decode cSE_seekLength 2 = .ok (.getfield 73, 3) := by decide +kernel
theorem dSE_seekLength_5 : decode cSE_seekLength 5 = .ok (.if_icmp .lt 4, 3) := by decide +kernel
theorem dSE_seekLength_8 : decode cSE_seekLength 8 = .ok (.return_, 1) := by decide +kernel
theorem dSE_seekLength_9 : decode cSE_seekLength 9 = .ok (.iload_n 1, 1) := by decide +kernel
theorem dSE_seekLength_10 : decode cSE_seekLength 10 = .ok (.aload_n 0, 1) := by decide +kernel
theorem dSE_seekLength_11 : decode cSE_seekLength 11 = .ok (.getfield 47, 3) := by decide +kernel
theorem dSE_seekLength_14 : decode cSE_seekLength 14 = .ok (.if_icmp .lt 9, 3) := by decide +kernel
theorem dSE_seekLength_17 : decode cSE_seekLength 17 = .ok (.aload_n 0, 1) := by decide +kernel
theorem dSE_seekLength_18 : decode cSE_seekLength 18 = .ok (.iload_n 3, 1) := by decide +kernel
theorem dSE_seekLength_19 : decode cSE_seekLength 19 = .ok (.putfield 73, 3) := by decide +kernel
theorem dSE_seekLength_22 : decode cSE_seekLength 22 = .ok (.return_, 1) := by decide +kernel
theorem dSE_seekLength_23 : decode cSE_seekLength 23 = .ok (.iload_n 2, 1) := by decide +kernel
theorem dSE_seekLength_24 : decode cSE_seekLength 24 = .ok (.iconst 1, 1) := by decide +kernel
theorem dSE_seekLength_25 : decode cSE_seekLength 25 = .ok (.iadd, 1) := by decide +kernel
theorem dSE_seekLength_26 : decode cSE_seekLength 26 = .ok (.aload_n 0, 1) := by decide +kernel
theorem dSE_seekLength_27 : decode cSE_seekLength 27 = .ok (.getfield 38, 3) := by decide +kernel
theorem dSE_seekLength_30 : decode cSE_seekLength 30 = .ok (.invokestatic 32, 3) := by decide +kernel
theorem dSE_seekLength_33 : decode cSE_seekLength 33 = .ok (.istore 4, 2) := by decide +kernel
theorem dSE_seekLength_35 : decode cSE_seekLength 35 = .ok (.iconst 0, 1) := by decide +kernel
theorem dSE_seekLength_36 : decode cSE_seekLength 36 = .ok (.istore 5, 2) := by decide +kernel
theorem dSE_seekLength_38 : decode cSE_seekLength 38 = .ok (.iload 5, 2) := by decide +kernel
theorem dSE_seekLength_40 : decode cSE_seekLength 40 = .ok (.iload 4, 2) := by decide +kernel
theorem dSE_seekLength_42 : decode cSE_seekLength 42 = .ok (.if_icmp .ge 67, 3) := by decide +kernel
theorem dSE_seekLength_45 : decode cSE_seekLength 45 = .ok (.aload_n 0, 1) := by decide +kernel
theorem dSE_seekLength_46 : decode cSE_seekLength 46 = .ok (.getfield 15, 3) := by decide +kernel
theorem dSE_seekLength_49 : decode cSE_seekLength 49 = .ok (.iload 5, 2) := by decide +kernel
theorem dSE_seekLength_51 : decode cSE_seekLength 51 = .ok (.dup2, 1) := by decide +kernel
theorem dSE_seekLength_52 : decode cSE_seekLength 52 = .ok (.iaload, 1) := by decide +kernel
theorem dSE_seekLength_53 : decode cSE_seekLength 53 = .ok (.aload_n 0, 1) := by decide +kernel
theorem dSE_seekLength_54 : decode cSE_seekLength 54 = .ok (.getfield 9, 3) := by decide +kernel
theorem dSE_seekLength_57 : decode cSE_seekLength 57 = .ok (.iload_n 1, 1) := by decide +kernel
theorem dSE_seekLength_58 : decode cSE_seekLength 58 = .ok (.iaload, 1) := by decide +kernel
theorem dSE_seekLength_59 : decode cSE_seekLength 59 = .ok (.iadd, 1) := by decide +kernel
theorem dSE_seekLength_60 : decode cSE_seekLength 60 = .ok (.iastore, 1) := by decide +kernel
theorem dSE_seekLength_61 : decode cSE_seekLength 61 = .ok (.aload_n 0, 1) := by decide +kernel
theorem dSE_seekLength_62 : decode cSE_seekLength 62 = .ok (.iload_n 1, 1) := by decide +kernel
theorem dSE_seekLength_63 : decode cSE_seekLength 63 = .ok (.iconst 1, 1) := by decide +kernel
theorem dSE_seekLength_64 : decode cSE_seekLength 64 = .ok (.iadd, 1) := by decide +kernel
theorem dSE_seekLength_65 : decode cSE_seekLength 65 = .ok (.iload_n 2, 1) := by decide +kernel
theorem dSE_seekLength_66 : decode cSE_seekLength 66 = .ok (.iload 5, 2) := by decide +kernel
theorem dSE_seekLength_68 : decode cSE_seekLength 68 = .ok (.iconst 1, 1) := by decide +kernel
theorem dSE_seekLength_69 : decode cSE_seekLength 69 = .ok (.iadd, 1) := by decide +kernel
theorem dSE_seekLength_70 : decode cSE_seekLength 70 = .ok (.invokestatic 108, 3) := by decide +kernel
theorem dSE_seekLength_73 : decode cSE_seekLength 73 = .ok (.iload_n 3, 1) := by decide +kernel
theorem dSE_seekLength_74 : decode cSE_seekLength 74 = .ok (.aload_n 0, 1) := by decide +kernel
theorem dSE_seekLength_75 : decode cSE_seekLength 75 = .ok (.getfield 15, 3) := by decide +kernel
theorem dSE_seekLength_78 : decode cSE_seekLength 78 = .ok (.iload 5, 2) := by decide +kernel
theorem dSE_seekLength_80 : decode cSE_seekLength 80 = .ok (.iaload, 1) := by decide +kernel
theorem dSE_seekLength_81 : decode cSE_seekLength 81 = .ok (.invokestatic 108, 3) := by decide +kernel
theorem dSE_seekLength_84 : decode cSE_seekLength 84 = .ok (.invokevirtual 76, 3) := by decide +kernel
theorem dSE_seekLength_87 : decode cSE_seekLength 87 = .ok (.aload_n 0, 1) := by decide +kernel
theorem dSE_seekLength_88 : decode cSE_seekLength 88 = .ok (.getfield 15, 3) := by decide +kernel
theorem dSE_seekLength_91 : decode cSE_seekLength 91 = .ok (.iload 5, 2) := by decide +kernel
theorem dSE_seekLength_93 : decode cSE_seekLength 93 = .ok (.dup2, 1) := by decide +kernel
theorem dSE_seekLength_94 : decode cSE_seekLength 94 = .ok (.iaload, 1) := by decide +kernel
theorem dSE_seekLength_95 : decode cSE_seekLength 95 = .ok (.aload_n 0, 1) := by decide +kernel
theorem dSE_seekLength_96 : decode cSE_seekLength 96 = .ok (.getfield 9, 3) := by decide +kernel
theorem dSE_seekLength_99 : decode cSE_seekLength 99 = .ok (.iload_n 1, 1) := by decide +kernel
theorem dSE_seekLength_100 : decode cSE_seekLength 100 = .ok (.iaload, 1) := by decide +kernel
theorem dSE_seekLength_101 : decode cSE_seekLength 101 = .ok (.isub, 1) := by decide +kernel
theorem dSE_seekLength_102 : decode cSE_seekLength 102 = .ok (.iastore, 1) := by decide +kernel
theorem dSE_seekLength_103 : decode cSE_seekLength 103 = .ok (.iinc 5 1, 3) := by decide +kernel
theorem dSE_seekLength_106 : decode cSE_seekLength 106 = .ok (.goto (-68), 3) := by decide +kernel
theorem dSE_seekLength_109 : decode cSE_seekLength 109 = .ok (.return_, 1) := by decide +kernel
theorem dSE_seekShards_0 : decode cSE_seekShards 0 = .ok (.iload_n 2, 1) := by decide +kernel
theorem dSE_seekShards_1 : decode cSE_seekShards 1 = .ok (.aload_n 0, 1) := by decide +kernel
theorem dSE_seekShards_2 : decode cSE_seekShards 2 = .ok (.getfield 29, 3) := by decide +kernel
theorem dSE_seekShards_5 : decode cSE_seekShards 5 = .ok (.iload_n 1, 1) := by decide +kernel
theorem dSE_seekShards_6 : decode cSE_seekShards 6 = .ok (.iaload, 1) := by decide +kernel
theorem dSE_seekShards_7 : decode cSE_seekShards 7 = .ok (.iadd, 1) := by decide +kernel
theorem dSE_seekShards_8 : decode cSE_seekShards 8 = .ok (.aload_n 0, 1) := by decide +kernel
theorem dSE_seekShards_9 : decode cSE_seekShards 9 = .ok (.getfield 80, 3) := by decide +kernel
theorem dSE_seekShards_12 : decode cSE_seekShards 12 = .ok (.if_icmp .lt 4, 3) := by decide +kernel
theorem dSE_seekShards_15 : decode cSE_seekShards 15 = .ok (.return_, 1) := by decide +kernel
theorem dSE_seekShards_16 : decode cSE_seekShards 16 = .ok (.iload_n 1, 1) := by decide +kernel
theorem dSE_seekShards_17 : decode cSE_seekShards 17 = .ok (.aload_n 0, 1) := by decide +kernel
theorem dSE_seekShards_18 : decode cSE_seekShards 18 = .ok (.getfield 47, 3) := by decide +kernel
theorem dSE_seekShards_21 : decode cSE_seekShards 21 = .ok (.if_icmp .lt 26, 3) := by decide +kernel
theorem dSE_seekShards_24 : decode cSE_seekShards 24 = .ok (.aload_n 0, 1) := by decide +kernel
theorem dSE_seekShards_25 : decode cSE_seekShards 25 = .ok (.iload_n 2, 1) := by decide +kernel
theorem dSE_seekShards_26 : decode cSE_seekShards 26 = .ok (.putfield 80, 3) := by decide +kernel
theorem dSE_seekShards_29 : decode cSE_seekShards 29 = .ok (.aload_n 0, 1) := by decide +kernel
theorem dSE_seekShards_30 : decode cSE_seekShards 30 = .ok (.getfield 18, 3) := by decide +kernel
theorem dSE_seekShards_33 : decode cSE_seekShards 33 = .ok (.iconst 0, 1) := by decide +kernel
theorem dSE_seekShards_34 : decode cSE_seekShards 34 = .ok (.aload_n 0, 1) := by decide +kernel
theorem dSE_seekShards_35 : decode cSE_seekShards 35 = .ok (.getfield 21, 3) := by decide +kernel
theorem dSE_seekShards_38 : decode cSE_seekShards 38 = .ok (.iconst 0, 1) := by decide +kernel
theorem dSE_seekShards_39 : decode cSE_seekShards 39 = .ok (.aload_n 0, 1) := by decide +kernel
theorem dSE_seekShards_40 : decode cSE_seekShards 40 = .ok (.getfield 47, 3) := by decide +kernel
theorem dSE_seekShards_43 : decode cSE_seekShards 43 = .ok (.invokestatic 51, 3) := by decide +kernel
theorem dSE_seekShards_46 : decode cSE_seekShards 46 = .ok (.return_, 1) := by decide +kernel
theorem dSE_seekShards_47 : decode cSE_seekShards 47 = .ok (.iconst 0, 1) := by decide +kernel
theorem dSE_seekShards_48 : decode cSE_seekShards 48 = .ok (.istore_n 3, 1) := by decide +kernel
theorem dSE_seekShards_49 : decode cSE_seekShards 49 = .ok (.iload_n 3, 1) := by decide +kernel
theorem dSE_seekShards_50 : decode cSE_seekShards 50 = .ok (.aload_n 0, 1) := by decide +kernel
theorem dSE_seekShards_51 : decode cSE_seekShards 51 = .ok (.getfield 38, 3) := by decide +kernel
theorem dSE_seekShards_54 : decode cSE_seekShards 54 = .ok (.if_icmp .ge 83, 3) := by decide +kernel
theorem dSE_seekShards_57 : decode cSE_seekShards 57 = .ok (.aload_n 0, 1) := by decide +kernel
theorem dSE_seekShards_58 : decode cSE_seekShards 58 = .ok (.getfield 15, 3) := by decide +kernel
theorem dSE_seekShards_61 : decode cSE_seekShards 61 = .ok (.iload_n 3, 1) := by decide +kernel
theorem dSE_seekShards_62 : decode cSE_seekShards 62 = .ok (.iaload, 1) := by decide +kernel
theorem dSE_seekShards_63 : decode cSE_seekShards 63 = .ok (.aload_n 0, 1) := by decide +kernel
theorem dSE_seekShards_64 : decode cSE_seekShards 64 = .ok (.getfield 9, 3) := by decide +kernel
theorem dSE_seekShards_67 : decode cSE_seekShards 67 = .ok (.iload_n 1, 1) := by decide +kernel
theorem dSE_seekShards_68 : decode cSE_seekShards 68 = .ok (.iaload, 1) := by decide +kernel
theorem dSE_seekShards_69 : decode cSE_seekShards 69 = .ok (.iadd, 1) := by decide +kernel
theorem dSE_seekShards_70 : decode cSE_seekShards 70 = .ok (.aload_n 0, 1) := by decide +kernel
theorem dSE_seekShards_71 : decode cSE_seekShards 71 = .ok (.getfield 73, 3) := by decide +kernel
theorem dSE_seekShards_74 : decode cSE_seekShards 74 = .ok (.if_icmp .gt 57, 3) := by decide +kernel
theorem dSE_seekShards_77 : decode cSE_seekShards 77 = .ok (.aload_n 0, 1) := by decide +kernel
theorem dSE_seekShards_78 : decode cSE_seekShards 78 = .ok (.getfield 15, 3) := by decide +kernel
theorem dSE_seekShards_81 : decode cSE_seekShards 81 = .ok (.iload_n 3, 1) := by decide +kernel
theorem dSE_seekShards_82 : decode cSE_seekShards 82 = .ok (.dup2, 1) := by decide +kernel
theorem dSE_seekShards_83 : decode cSE_seekShards 83 = .ok (.iaload, 1) := by decide +kernel
theorem dSE_seekShards_84 : decode cSE_seekShards 84 = .ok (.aload_n 0, 1) := by decide +kernel
theorem dSE_seekShards_85 : decode cSE_seekShards 85 = .ok (.getfield 9, 3) := by decide +kernel
theorem dSE_seekShards_88 : decode cSE_seekShards 88 = .ok (.iload_n 1, 1) := by decide +kernel
theorem dSE_seekShards_89 : decode cSE_seekShards 89 = .ok (.iaload, 1) := by decide +kernel
theorem dSE_seekShards_90 : decode cSE_seekShards 90 = .ok (.iadd, 1) := by decide +kernel
theorem dSE_seekShards_91 : decode cSE_seekShards 91 = .ok (.iastore, 1) := by decide +kernel
theorem dSE_seekShards_92 : decode cSE_seekShards 92 = .ok (.aload_n 0, 1) := by decide +kernel
theorem dSE_seekShards_93 : decode cSE_seekShards 93 = .ok (.getfield 18, 3) := by decide +kernel
theorem dSE_seekShards_96 : decode cSE_seekShards 96 = .ok (.iload_n 1, 1) := by decide +kernel
theorem dSE_seekShards_97 : decode cSE_seekShards 97 = .ok (.iload_n 3, 1) := by decide +kernel
theorem dSE_seekShards_98 : decode cSE_seekShards 98 = .ok (.iastore, 1) := by decide +kernel
theorem dSE_seekShards_99 : decode cSE_seekShards 99 = .ok (.aload_n 0, 1) := by decide +kernel
theorem dSE_seekShards_100 : decode cSE_seekShards 100 = .ok (.iload_n 1, 1) := by decide +kernel
theorem dSE_seekShards_101 : decode cSE_seekShards 101 = .ok (.iconst 1, 1) := by decide +kernel
theorem dSE_seekShards_102 : decode cSE_seekShards 102 = .ok (.iadd, 1) := by decide +kernel
theorem dSE_seekShards_103 : decode cSE_seekShards 103 = .ok (.iload_n 2, 1) := by decide +kernel
theorem dSE_seekShards_104 : decode cSE_seekShards 104 = .ok (.aload_n 0, 1) := by decide +kernel
theorem dSE_seekShards_105 : decode cSE_seekShards 105 = .ok (.getfield 26, 3) := by decide +kernel
theorem dSE_seekShards_108 : decode cSE_seekShards 108 = .ok (.iload_n 1, 1) := by decide +kernel
theorem dSE_seekShards_109 : decode cSE_seekShards 109 = .ok (.aaload, 1) := by decide +kernel
theorem dSE_seekShards_110 : decode cSE_seekShards 110 = .ok (.iload_n 3, 1) := by decide +kernel
theorem dSE_seekShards_111 : decode cSE_seekShards 111 = .ok (.iaload, 1) := by decide +kernel
theorem dSE_seekShards_112 : decode cSE_seekShards 112 = .ok (.iadd, 1) := by decide +kernel
theorem dSE_seekShards_113 : decode cSE_seekShards 113 = .ok (.invokevirtual 83, 3) := by decide +kernel
theorem dSE_seekShards_116 : decode cSE_seekShards 116 = .ok (.aload_n 0, 1) := by decide +kernel
theorem dSE_seekShards_117 : decode cSE_seekShards 117 = .ok (.getfield 15, 3) := by decide +kernel
theorem dSE_seekShards_120 : decode cSE_seekShards 120 = .ok (.iload_n 3, 1) := by decide +kernel
theorem dSE_seekShards_121 : decode cSE_seekShards 121 = .ok (.dup2, 1) := by decide +kernel
theorem dSE_seekShards_122 : decode cSE_seekShards 122 = .ok (.iaload, 1) := by decide +kernel
theorem dSE_seekShards_123 : decode cSE_seekShards 123 = .ok (.aload_n 0, 1) := by decide +kernel
theorem dSE_seekShards_124 : decode cSE_seekShards 124 = .ok (.getfield 9, 3) := by decide +kernel
theorem dSE_seekShards_127 : decode cSE_seekShards 127 = .ok (.iload_n 1, 1) := by decide +kernel
theorem dSE_seekShards_128 : decode cSE_seekShards 128 = .ok (.iaload, 1) := by decide +kernel
theorem dSE_seekShards_129 : decode cSE_seekShards 129 = .ok (.isub, 1) := by decide +kernel
theorem dSE_seekShards_130 : decode cSE_seekShards 130 = .ok (.iastore, 1) := by decide +kernel
theorem dSE_seekShards_131 : decode cSE_seekShards 131 = .ok (.iinc 3 1, 3) := by decide +kernel
theorem dSE_seekShards_134 : decode cSE_seekShards 134 = .ok (.goto (-85), 3) := by decide +kernel
theorem dSE_seekShards_137 : decode cSE_seekShards 137 = .ok (.return_, 1) := by decide +kernel
theorem dGY_place_0 : decode cGY_place 0 = .ok (.aload_n 0, 1) := by decide +kernel
theorem dGY_place_1 : decode cGY_place 1 = .ok (.iload_n 3, 1) := by decide +kernel
theorem dGY_place_2 : decode cGY_place 2 = .ok (.iconst 4, 1) := by decide +kernel
theorem dGY_place_3 : decode cGY_place 3 = .ok (.invokestatic 15, 3) := by decide +kernel
theorem dGY_place_6 : decode cGY_place 6 = .ok (.putfield 21, 3) := by decide +kernel
theorem dGY_place_9 : decode cGY_place 9 = .ok (.aload_n 0, 1) := by decide +kernel
theorem dGY_place_10 : decode cGY_place 10 = .ok (.getfield 9, 3) := by decide +kernel
theorem dGY_place_13 : decode cGY_place 13 = .ok (.iconst 0, 1) := by decide +kernel
theorem dGY_place_14 : decode cGY_place 14 = .ok (.invokestatic 25, 3) := by decide +kernel
theorem dGY_place_17 : decode cGY_place 17 = .ok (.iconst 0, 1) := by decide +kernel
theorem dGY_place_18 : decode cGY_place 18 = .ok (.istore 4, 2) := by decide +kernel
theorem dGY_place_20 : decode cGY_place 20 = .ok (.iload 4, 2) := by decide +kernel
theorem dGY_place_22 : decode cGY_place 22 = .ok (.aload_n 1, 1) := by decide +kernel
end
section
theorem dGY_place_23 : decode cGY_place 23 = .ok (.getfield 31, 3) := by decide +kernel
theorem dGY_place_26 : decode cGY_place 26 = .ok (.if_icmp .ge 58, 3) := by decide +kernel
theorem dGY_place_29 : decode cGY_place 29 = .ok (.aload_n 1, 1) := by decide +kernel
theorem dGY_place_30 : decode cGY_place 30 = .ok (.invokestatic 36, 3) := by decide +kernel
theorem dGY_place_33 : decode cGY_place 33 = .ok (.istore 5, 2) := by decide +kernel
theorem dGY_place_35 : decode cGY_place 35 = .ok (.aload_n 0, 1) := by decide +kernel
theorem dGY_place_36 : decode cGY_place 36 = .ok (.aload_n 2, 1) := by decide +kernel
theorem dGY_place_37 : decode cGY_place 37 = .ok (.aload_n 1, 1) := by decide +kernel
theorem dGY_place_38 : decode cGY_place 38 = .ok (.getfield 40, 3) := by decide +kernel
theorem dGY_place_41 : decode cGY_place 41 = .ok (.iload 5, 2) := by decide +kernel
theorem dGY_place_43 : decode cGY_place 43 = .ok (.iaload, 1) := by decide +kernel
theorem dGY_place_44 : decode cGY_place 44 = .ok (.invokevirtual 43, 3) := by decide +kernel
theorem dGY_place_47 : decode cGY_place 47 = .ok (.invokevirtual 49, 3) := by decide +kernel
theorem dGY_place_50 : decode cGY_place 50 = .ok (.istore 6, 2) := by decide +kernel
theorem dGY_place_52 : decode cGY_place 52 = .ok (.aload_n 1, 1) := by decide +kernel
theorem dGY_place_53 : decode cGY_place 53 = .ok (.getfield 52, 3) := by decide +kernel
theorem dGY_place_56 : decode cGY_place 56 = .ok (.iload 5, 2) := by decide +kernel
theorem dGY_place_58 : decode cGY_place 58 = .ok (.iload 6, 2) := by decide +kernel
theorem dGY_place_60 : decode cGY_place 60 = .ok (.iastore, 1) := by decide +kernel
theorem dGY_place_61 : decode cGY_place 61 = .ok (.aload_n 0, 1) := by decide +kernel
theorem dGY_place_62 : decode cGY_place 62 = .ok (.getfield 9, 3) := by decide +kernel
theorem dGY_place_65 : decode cGY_place 65 = .ok (.iload 6, 2) := by decide +kernel
theorem dGY_place_67 : decode cGY_place 67 = .ok (.dup2, 1) := by decide +kernel
theorem dGY_place_68 : decode cGY_place 68 = .ok (.iaload, 1) := by decide +kernel
theorem dGY_place_69 : decode cGY_place 69 = .ok (.aload_n 1, 1) := by decide +kernel
theorem dGY_place_70 : decode cGY_place 70 = .ok (.getfield 55, 3) := by decide +kernel
theorem dGY_place_73 : decode cGY_place 73 = .ok (.iload 5, 2) := by decide +kernel
theorem dGY_place_75 : decode cGY_place 75 = .ok (.iaload, 1) := by decide +kernel
theorem dGY_place_76 : decode cGY_place 76 = .ok (.iadd, 1) := by decide +kernel
theorem dGY_place_77 : decode cGY_place 77 = .ok (.iastore, 1) := by decide +kernel
theorem dGY_place_78 : decode cGY_place 78 = .ok (.iinc 4 1, 3) := by decide +kernel
theorem dGY_place_81 : decode cGY_place 81 = .ok (.goto (-61), 3) := by decide +kernel
theorem dGY_place_84 : decode cGY_place 84 = .ok (.return_, 1) := by decide +kernel
theorem dGY_longestUnplaced_0 : decode cGY_longestUnplaced 0 = .ok (.iconst 0, 1) := by decide +kernel
theorem dGY_longestUnplaced_1 : decode cGY_longestUnplaced 1 = .ok (.istore_n 1, 1) := by decide +kernel
theorem dGY_longestUnplaced_2 : decode cGY_longestUnplaced 2 = .ok (.iconst 0, 1) := by decide +kernel
theorem dGY_longestUnplaced_3 : decode cGY_longestUnplaced 3 = .ok (.istore_n 2, 1) := by decide +kernel
theorem dGY_longestUnplaced_4 : decode cGY_longestUnplaced 4 = .ok (.iconst 0, 1) := by decide +kernel
theorem dGY_longestUnplaced_5 : decode cGY_longestUnplaced 5 = .ok (.istore_n 3, 1) := by decide +kernel
theorem dGY_longestUnplaced_6 : decode cGY_longestUnplaced 6 = .ok (.iload_n 3, 1) := by decide +kernel
theorem dGY_longestUnplaced_7 : decode cGY_longestUnplaced 7 = .ok (.aload_n 0, 1) := by decide +kernel
theorem dGY_longestUnplaced_8 : decode cGY_longestUnplaced 8 = .ok (.getfield 31, 3) := by decide +kernel
theorem dGY_longestUnplaced_11 : decode cGY_longestUnplaced 11 = .ok (.if_icmp .ge 38, 3) := by decide +kernel
theorem dGY_longestUnplaced_14 : decode cGY_longestUnplaced 14 = .ok (.aload_n 0, 1) := by decide +kernel
theorem dGY_longestUnplaced_15 : decode cGY_longestUnplaced 15 = .ok (.getfield 52, 3) := by decide +kernel
theorem dGY_longestUnplaced_18 : decode cGY_longestUnplaced 18 = .ok (.iload_n 3, 1) := by decide +kernel
theorem dGY_longestUnplaced_19 : decode cGY_longestUnplaced 19 = .ok (.iaload, 1) := by decide +kernel
theorem dGY_longestUnplaced_20 : decode cGY_longestUnplaced 20 = .ok (.iconst (-1), 1) := by decide +kernel
theorem dGY_longestUnplaced_21 : decode cGY_longestUnplaced 21 = .ok (.if_icmp .ne 22, 3) := by decide +kernel
theorem dGY_longestUnplaced_24 : decode cGY_longestUnplaced 24 = .ok (.aload_n 0, 1) := by decide +kernel
theorem dGY_longestUnplaced_25 : decode cGY_longestUnplaced 25 = .ok (.getfield 55, 3) := by decide +kernel
theorem dGY_longestUnplaced_28 : decode cGY_longestUnplaced 28 = .ok (.iload_n 3, 1) := by decide +kernel
theorem dGY_longestUnplaced_29 : decode cGY_longestUnplaced 29 = .ok (.iaload, 1) := by decide +kernel
theorem dGY_longestUnplaced_30 : decode cGY_longestUnplaced 30 = .ok (.iload_n 2, 1) := by decide +kernel
theorem dGY_longestUnplaced_31 : decode cGY_longestUnplaced 31 = .ok (.if_icmp .le 12, 3) := by decide +kernel
theorem dGY_longestUnplaced_34 : decode cGY_longestUnplaced 34 = .ok (.iload_n 3, 1) := by decide +kernel
theorem dGY_longestUnplaced_35 : decode cGY_longestUnplaced 35 = .ok (.istore_n 1, 1) := by decide +kernel
theorem dGY_longestUnplaced_36 : decode cGY_longestUnplaced 36 = .ok (.aload_n 0, 1) := by decide +kernel
theorem dGY_longestUnplaced_37 : decode cGY_longestUnplaced 37 = .ok (.getfield 55, 3) := by decide +kernel
theorem dGY_longestUnplaced_40 : decode cGY_longestUnplaced 40 = .ok (.iload_n 3, 1) := by decide +kernel
theorem dGY_longestUnplaced_41 : decode cGY_longestUnplaced 41 = .ok (.iaload, 1) := by decide +kernel
theorem dGY_longestUnplaced_42 : decode cGY_longestUnplaced 42 = .ok (.istore_n 2, 1) := by decide +kernel
theorem dGY_longestUnplaced_43 : decode cGY_longestUnplaced 43 = .ok (.iinc 3 1, 3) := by decide +kernel
theorem dGY_longestUnplaced_46 : decode cGY_longestUnplaced 46 = .ok (.goto (-40), 3) := by decide +kernel
theorem dGY_longestUnplaced_49 : decode cGY_longestUnplaced 49 = .ok (.iload_n 1, 1) := by decide +kernel
theorem dGY_longestUnplaced_50 : decode cGY_longestUnplaced 50 = .ok (.ireturn, 1) := by decide +kernel
theorem dGY_leastShard_0 : decode cGY_leastShard 0 = .ok (.iconst 0, 1) := by decide +kernel
theorem dGY_leastShard_1 : decode cGY_leastShard 1 = .ok (.istore_n 2, 1) := by decide +kernel
theorem dGY_leastShard_2 : decode cGY_leastShard 2 = .ok (.iconst 1, 1) := by decide +kernel
theorem dGY_leastShard_3 : decode cGY_leastShard 3 = .ok (.istore_n 3, 1) := by decide +kernel
theorem dGY_leastShard_4 : decode cGY_leastShard 4 = .ok (.iload_n 3, 1) := by decide +kernel
theorem dGY_leastShard_5 : decode cGY_leastShard 5 = .ok (.aload_n 0, 1) := by decide +kernel
theorem dGY_leastShard_6 : decode cGY_leastShard 6 = .ok (.getfield 21, 3) := by decide +kernel
theorem dGY_leastShard_9 : decode cGY_leastShard 9 = .ok (.if_icmp .ge 26, 3) := by decide +kernel
theorem dGY_leastShard_12 : decode cGY_leastShard 12 = .ok (.aload_n 0, 1) := by decide +kernel
theorem dGY_leastShard_13 : decode cGY_leastShard 13 = .ok (.getfield 9, 3) := by decide +kernel
theorem dGY_leastShard_16 : decode cGY_leastShard 16 = .ok (.iload_n 3, 1) := by decide +kernel
theorem dGY_leastShard_17 : decode cGY_leastShard 17 = .ok (.iaload, 1) := by decide +kernel
theorem dGY_leastShard_18 : decode cGY_leastShard 18 = .ok (.aload_n 0, 1) := by decide +kernel
theorem dGY_leastShard_19 : decode cGY_leastShard 19 = .ok (.getfield 9, 3) := by decide +kernel
theorem dGY_leastShard_22 : decode cGY_leastShard 22 = .ok (.iload_n 2, 1) := by decide +kernel
theorem dGY_leastShard_23 : decode cGY_leastShard 23 = .ok (.iaload, 1) := by decide +kernel
theorem dGY_leastShard_24 : decode cGY_leastShard 24 = .ok (.if_icmp .ge 5, 3) := by decide +kernel
theorem dGY_leastShard_27 : decode cGY_leastShard 27 = .ok (.iload_n 3, 1) := by decide +kernel
theorem dGY_leastShard_28 : decode cGY_leastShard 28 = .ok (.istore_n 2, 1) := by decide +kernel
theorem dGY_leastShard_29 : decode cGY_leastShard 29 = .ok (.iinc 3 1, 3) := by decide +kernel
theorem dGY_leastShard_32 : decode cGY_leastShard 32 = .ok (.goto (-28), 3) := by decide +kernel
theorem dGY_leastShard_35 : decode cGY_leastShard 35 = .ok (.iload_n 1, 1) := by decide +kernel
theorem dGY_leastShard_36 : decode cGY_leastShard 36 = .ok (.ifCond .lt 30, 3) := by decide +kernel
theorem dGY_leastShard_39 : decode cGY_leastShard 39 = .ok (.iload_n 1, 1) := by decide +kernel
theorem dGY_leastShard_40 : decode cGY_leastShard 40 = .ok (.aload_n 0, 1) := by decide +kernel
theorem dGY_leastShard_41 : decode cGY_leastShard 41 = .ok (.getfield 21, 3) := by decide +kernel
theorem dGY_leastShard_44 : decode cGY_leastShard 44 = .ok (.if_icmp .ge 22, 3) := by decide +kernel
theorem dGY_leastShard_47 : decode cGY_leastShard 47 = .ok (.aload_n 0, 1) := by decide +kernel
theorem dGY_leastShard_48 : decode cGY_leastShard 48 = .ok (.getfield 9, 3) := by decide +kernel
theorem dGY_leastShard_51 : decode cGY_leastShard 51 = .ok (.iload_n 1, 1) := by decide +kernel
theorem dGY_leastShard_52 : decode cGY_leastShard 52 = .ok (.iaload, 1) := by decide +kernel
theorem dGY_leastShard_53 : decode cGY_leastShard 53 = .ok (.aload_n 0, 1) := by decide +kernel
theorem dGY_leastShard_54 : decode cGY_leastShard 54 = .ok (.getfield 9, 3) := by decide +kernel
theorem dGY_leastShard_57 : decode cGY_leastShard 57 = .ok (.iload_n 2, 1) := by decide +kernel
theorem dGY_leastShard_58 : decode cGY_leastShard 58 = .ok (.iaload, 1) := by decide +kernel
theorem dGY_leastShard_59 : decode cGY_leastShard 59 = .ok (.if_icmp .ne 7, 3) := by decide +kernel
theorem dGY_leastShard_62 : decode cGY_leastShard 62 = .ok (.iconst 1, 1) := by decide +kernel
theorem dGY_leastShard_63 : decode cGY_leastShard 63 = .ok (.goto 4, 3) := by decide +kernel
theorem dGY_leastShard_66 : decode cGY_leastShard 66 = .ok (.iconst 0, 1) := by decide +kernel
theorem dGY_leastShard_67 : decode cGY_leastShard 67 = .ok (.istore_n 3, 1) := by decide +kernel
theorem dGY_leastShard_68 : decode cGY_leastShard 68 = .ok (.iload_n 3, 1) := by decide +kernel
theorem dGY_leastShard_69 : decode cGY_leastShard 69 = .ok (.ifCond .eq 7, 3) := by decide +kernel
theorem dGY_leastShard_72 : decode cGY_leastShard 72 = .ok (.iload_n 1, 1) := by decide +kernel
theorem dGY_leastShard_73 : decode cGY_leastShard 73 = .ok (.goto 4, 3) := by decide +kernel
theorem dGY_leastShard_76 : decode cGY_leastShard 76 = .ok (.iload_n 2, 1) := by decide +kernel
theorem dGY_leastShard_77 : decode cGY_leastShard 77 = .ok (.ireturn, 1) := by decide +kernel
theorem dSP_take_0 : decode cSP_take 0 = .ok (.aload_n 0, 1) := by decide +kernel
theorem dSP_take_1 : decode cSP_take 1 = .ok (.iload_n 2, 1) := by decide +kernel
theorem dSP_take_2 : decode cSP_take 2 = .ok (.iconst 4, 1) := by decide +kernel
theorem dSP_take_3 : decode cSP_take 3 = .ok (.invokestatic 41, 3) := by decide +kernel
theorem dSP_take_6 : decode cSP_take 6 = .ok (.putfield 27, 3) := by decide +kernel
theorem dSP_take_9 : decode cSP_take 9 = .ok (.aload_n 0, 1) := by decide +kernel
theorem dSP_take_10 : decode cSP_take 10 = .ok (.iconst 0, 1) := by decide +kernel
theorem dSP_take_11 : decode cSP_take 11 = .ok (.putfield 44, 3) := by decide +kernel
theorem dSP_take_14 : decode cSP_take 14 = .ok (.aload_n 0, 1) := by decide +kernel
theorem dSP_take_15 : decode cSP_take 15 = .ok (.getfield 9, 3) := by decide +kernel
theorem dSP_take_18 : decode cSP_take 18 = .ok (.iconst 0, 1) := by decide +kernel
theorem dSP_take_19 : decode cSP_take 19 = .ok (.invokestatic 21, 3) := by decide +kernel
theorem dSP_take_22 : decode cSP_take 22 = .ok (.aload_n 0, 1) := by decide +kernel
theorem dSP_take_23 : decode cSP_take 23 = .ok (.getfield 15, 3) := by decide +kernel
theorem dSP_take_26 : decode cSP_take 26 = .ok (.iconst 0, 1) := by decide +kernel
theorem dSP_take_27 : decode cSP_take 27 = .ok (.invokestatic 21, 3) := by decide +kernel
theorem dSP_take_30 : decode cSP_take 30 = .ok (.iconst 0, 1) := by decide +kernel
theorem dSP_take_31 : decode cSP_take 31 = .ok (.istore_n 3, 1) := by decide +kernel
theorem dSP_take_32 : decode cSP_take 32 = .ok (.iload_n 3, 1) := by decide +kernel
theorem dSP_take_33 : decode cSP_take 33 = .ok (.aload_n 1, 1) := by decide +kernel
theorem dSP_take_34 : decode cSP_take 34 = .ok (.getfield 47, 3) := by decide +kernel
theorem dSP_take_37 : decode cSP_take 37 = .ok (.if_icmp .ge 25, 3) := by decide +kernel
theorem dSP_take_40 : decode cSP_take 40 = .ok (.aload_n 0, 1) := by decide +kernel
theorem dSP_take_41 : decode cSP_take 41 = .ok (.aload_n 1, 1) := by decide +kernel
theorem dSP_take_42 : decode cSP_take 42 = .ok (.getfield 52, 3) := by decide +kernel
theorem dSP_take_45 : decode cSP_take 45 = .ok (.iload_n 3, 1) := by decide +kernel
theorem dSP_take_46 : decode cSP_take 46 = .ok (.iaload, 1) := by decide +kernel
theorem dSP_take_47 : decode cSP_take 47 = .ok (.aload_n 1, 1) := by decide +kernel
theorem dSP_take_48 : decode cSP_take 48 = .ok (.getfield 55, 3) := by decide +kernel
theorem dSP_take_51 : decode cSP_take 51 = .ok (.iload_n 3, 1) := by decide +kernel
theorem dSP_take_52 : decode cSP_take 52 = .ok (.iaload, 1) := by decide +kernel
theorem dSP_take_53 : decode cSP_take 53 = .ok (.invokevirtual 58, 3) := by decide +kernel
theorem dSP_take_56 : decode cSP_take 56 = .ok (.iinc 3 1, 3) := by decide +kernel
theorem dSP_take_59 : decode cSP_take 59 = .ok (.goto (-27), 3) := by decide +kernel
theorem dSP_take_62 : decode cSP_take 62 = .ok (.iconst 0, 1) := by decide +kernel
theorem dSP_take_63 : decode cSP_take 63 = .ok (.istore_n 3, 1) := by decide +kernel
theorem dSP_take_64 : decode cSP_take 64 = .ok (.iload_n 3, 1) := by decide +kernel
theorem dSP_take_65 : decode cSP_take 65 = .ok (.aload_n 1, 1) := by decide +kernel
theorem dSP_take_66 : decode cSP_take 66 = .ok (.getfield 62, 3) := by decide +kernel
theorem dSP_take_69 : decode cSP_take 69 = .ok (.if_icmp .ge 19, 3) := by decide +kernel
theorem dSP_take_72 : decode cSP_take 72 = .ok (.aload_n 0, 1) := by decide +kernel
theorem dSP_take_73 : decode cSP_take 73 = .ok (.iload_n 3, 1) := by decide +kernel
theorem dSP_take_74 : decode cSP_take 74 = .ok (.aload_n 1, 1) := by decide +kernel
theorem dSP_take_75 : decode cSP_take 75 = .ok (.iload_n 3, 1) := by decide +kernel
theorem dSP_take_76 : decode cSP_take 76 = .ok (.invokevirtual 65, 3) := by decide +kernel
theorem dSP_take_79 : decode cSP_take 79 = .ok (.invokevirtual 69, 3) := by decide +kernel
theorem dSP_take_82 : decode cSP_take 82 = .ok (.iinc 3 1, 3) := by decide +kernel
theorem dSP_take_85 : decode cSP_take 85 = .ok (.goto (-21), 3) := by decide +kernel
theorem dSP_take_88 : decode cSP_take 88 = .ok (.return_, 1) := by decide +kernel
theorem dSP_addTime_0 : decode cSP_addTime 0 = .ok (.aload_n 0, 1) := by decide +kernel
theorem dSP_addTime_1 : decode cSP_addTime 1 = .ok (.iload_n 1, 1) := by decide +kernel
theorem dSP_addTime_2 : decode cSP_addTime 2 = .ok (.invokevirtual 72, 3) := by decide +kernel
theorem dSP_addTime_5 : decode cSP_addTime 5 = .ok (.ifCond .eq 13, 3) := by decide +kernel
theorem dSP_addTime_8 : decode cSP_addTime 8 = .ok (.aload_n 0, 1) := by decide +kernel
theorem dSP_addTime_9 : decode cSP_addTime 9 = .ok (.getfield 9, 3) := by decide +kernel
theorem dSP_addTime_12 : decode cSP_addTime 12 = .ok (.iload_n 1, 1) := by decide +kernel
theorem dSP_addTime_13 : decode cSP_addTime 13 = .ok (.dup2, 1) := by decide +kernel
theorem dSP_addTime_14 : decode cSP_addTime 14 = .ok (.iaload, 1) := by decide +kernel
theorem dSP_addTime_15 : decode cSP_addTime 15 = .ok (.iload_n 2, 1) := by decide +kernel
theorem dSP_addTime_16 : decode cSP_addTime 16 = .ok (.iadd, 1) := by decide +kernel
theorem dSP_addTime_17 : decode cSP_addTime 17 = .ok (.iastore, 1) := by decide +kernel
theorem dSP_addTime_18 : decode cSP_addTime 18 = .ok (.return_, 1) := by decide +kernel
theorem dSP_hasShard_0 : decode cSP_hasShard 0 = .ok (.iload_n 1, 1) := by decide +kernel
theorem dSP_hasShard_1 : decode cSP_hasShard 1 = .ok (.ifCond .lt 15, 3) := by decide +kernel
theorem dSP_hasShard_4 : decode cSP_hasShard 4 = .ok (.iload_n 1, 1) := by decide +kernel
theorem dSP_hasShard_5 : decode cSP_hasShard 5 = .ok (.aload_n 0, 1) := by decide +kernel
theorem dSP_hasShard_6 : decode cSP_hasShard 6 = .ok (.getfield 27, 3) := by decide +kernel
theorem dSP_hasShard_9 : decode cSP_hasShard 9 = .ok (.if_icmp .ge 7, 3) := by decide +kernel
theorem dSP_hasShard_12 : decode cSP_hasShard 12 = .ok (.iconst 1, 1) := by decide +kernel
theorem dSP_hasShard_13 : decode cSP_hasShard 13 = .ok (.goto 4, 3) := by decide +kernel
theorem dSP_hasShard_16 : decode cSP_hasShard 16 = .ok (.iconst 0, 1) := by decide +kernel
theorem dSP_hasShard_17 : decode cSP_hasShard 17 = .ok (.ireturn, 1) := by decide +kernel
theorem dGR_shardFor_0 : decode cGR_shardFor 0 = .ok (.aload_n 0, 1) := by decide +kernel
theorem dGR_shardFor_1 : decode cGR_shardFor 1 = .ok (.iload_n 1, 1) := by decide +kernel
theorem dGR_shardFor_2 : decode cGR_shardFor 2 = .ok (.invokevirtual 43, 3) := by decide +kernel
theorem dGR_shardFor_5 : decode cGR_shardFor 5 = .ok (.istore_n 2, 1) := by decide +kernel
theorem dGR_shardFor_6 : decode cGR_shardFor 6 = .ok (.iload_n 2, 1) := by decide +kernel
theorem dGR_shardFor_7 : decode cGR_shardFor 7 = .ok (.ifCond .lt 20, 3) := by decide +kernel
theorem dGR_shardFor_10 : decode cGR_shardFor 10 = .ok (.iload_n 2, 1) := by decide +kernel
theorem dGR_shardFor_11 : decode cGR_shardFor 11 = .ok (.aload_n 0, 1) := by decide +kernel
theorem dGR_shardFor_12 : decode cGR_shardFor 12 = .ok (.getfield 30, 3) := by decide +kernel
theorem dGR_shardFor_15 : decode cGR_shardFor 15 = .ok (.if_icmp .ge 12, 3) := by decide +kernel
theorem dGR_shardFor_18 : decode cGR_shardFor 18 = .ok (.aload_n 0, 1) := by decide +kernel
theorem dGR_shardFor_19 : decode cGR_shardFor 19 = .ok (.getfield 18, 3) := by decide +kernel
theorem dGR_shardFor_22 : decode cGR_shardFor 22 = .ok (.iload_n 2, 1) := by decide +kernel
theorem dGR_shardFor_23 : decode cGR_shardFor 23 = .ok (.iaload, 1) := by decide +kernel
theorem dGR_shardFor_24 : decode cGR_shardFor 24 = .ok (.goto 4, 3) := by decide +kernel
theorem dGR_shardFor_27 : decode cGR_shardFor 27 = .ok (.iconst (-1), 1) := by decide +kernel
theorem dGR_shardFor_28 : decode cGR_shardFor 28 = .ok (.ireturn, 1) := by decide +kernel
theorem dSP_give_0 : decode cSP_give 0 = .ok (.iload_n 1, 1) := by decide +kernel
theorem dSP_give_1 : decode cSP_give 1 = .ok (.invokestatic 31, 3) := by decide +kernel
theorem dSP_give_4 : decode cSP_give 4 = .ok (.ifCond .eq 11, 3) := by decide +kernel
theorem dSP_give_7 : decode cSP_give 7 = .ok (.aload_n 0, 1) := by decide +kernel
theorem dSP_give_8 : decode cSP_give 8 = .ok (.iload_n 2, 1) := by decide +kernel
theorem dSP_give_9 : decode cSP_give 9 = .ok (.invokevirtual 72, 3) := by decide +kernel
theorem dSP_give_12 : decode cSP_give 12 = .ok (.ifCond .ne 4, 3) := by decide +kernel
theorem dSP_give_15 : decode cSP_give 15 = .ok (.return_, 1) := by decide +kernel
theorem dSP_give_16 : decode cSP_give 16 = .ok (.aload_n 0, 1) := by decide +kernel
theorem dSP_give_17 : decode cSP_give 17 = .ok (.getfield 18, 3) := by decide +kernel
theorem dSP_give_20 : decode cSP_give 20 = .ok (.iload_n 1, 1) := by decide +kernel
theorem dSP_give_21 : decode cSP_give 21 = .ok (.iaload, 1) := by decide +kernel
theorem dSP_give_22 : decode cSP_give 22 = .ok (.iconst (-1), 1) := by decide +kernel
theorem dSP_give_23 : decode cSP_give 23 = .ok (.if_icmp .eq 23, 3) := by decide +kernel
theorem dSP_give_26 : decode cSP_give 26 = .ok (.aload_n 0, 1) := by decide +kernel
theorem dSP_give_27 : decode cSP_give 27 = .ok (.getfield 18, 3) := by decide +kernel
theorem dSP_give_30 : decode cSP_give 30 = .ok (.iload_n 1, 1) := by decide +kernel
theorem dSP_give_31 : decode cSP_give 31 = .ok (.iaload, 1) := by decide +kernel
theorem dSP_give_32 : decode cSP_give 32 = .ok (.iload_n 2, 1) := by decide +kernel
theorem dSP_give_33 : decode cSP_give 33 = .ok (.if_icmp .eq 13, 3) := by decide +kernel
theorem dSP_give_36 : decode cSP_give 36 = .ok (.aload_n 0, 1) := by decide +kernel
theorem dSP_give_37 : decode cSP_give 37 = .ok (.dup, 1) := by decide +kernel
theorem dSP_give_38 : decode cSP_give 38 = .ok (.getfield 44, 3) := by decide +kernel
theorem dSP_give_41 : decode cSP_give 41 = .ok (.iconst 1, 1) := by decide +kernel
theorem dSP_give_42 : decode cSP_give 42 = .ok (.iadd, 1) := by decide +kernel
theorem dSP_give_43 : decode cSP_give 43 = .ok (.putfield 44, 3) := by decide +kernel
theorem dSP_give_46 : decode cSP_give 46 = .ok (.aload_n 0, 1) := by decide +kernel
theorem dSP_give_47 : decode cSP_give 47 = .ok (.getfield 18, 3) := by decide +kernel
theorem dSP_give_50 : decode cSP_give 50 = .ok (.iload_n 1, 1) := by decide +kernel
theorem dSP_give_51 : decode cSP_give 51 = .ok (.iload_n 2, 1) := by decide +kernel
theorem dSP_give_52 : decode cSP_give 52 = .ok (.iastore, 1) := by decide +kernel
theorem dSP_give_53 : decode cSP_give 53 = .ok (.aload_n 0, 1) := by decide +kernel
theorem dSP_give_54 : decode cSP_give 54 = .ok (.getfield 15, 3) := by decide +kernel
theorem dSP_give_57 : decode cSP_give 57 = .ok (.iload_n 2, 1) := by decide +kernel
theorem dSP_give_58 : decode cSP_give 58 = .ok (.dup2, 1) := by decide +kernel
theorem dSP_give_59 : decode cSP_give 59 = .ok (.iaload, 1) := by decide +kernel
theorem dSP_give_60 : decode cSP_give 60 = .ok (.iconst 1, 1) := by decide +kernel
theorem dSP_give_61 : decode cSP_give 61 = .ok (.iadd, 1) := by decide +kernel
theorem dSP_give_62 : decode cSP_give 62 = .ok (.iastore, 1) := by decide +kernel
theorem dSP_give_63 : decode cSP_give 63 = .ok (.return_, 1) := by decide +kernel
theorem dRR_forget_0 : decode cRR_forget 0 = .ok (.aload_n 0, 1) := by decide +kernel
theorem dRR_forget_1 : decode cRR_forget 1 = .ok (.iconst 0, 1) := by decide +kernel
theorem dRR_forget_2 : decode cRR_forget 2 = .ok (.putfield 22, 3) := by decide +kernel
theorem dRR_forget_5 : decode cRR_forget 5 = .ok (.aload_n 0, 1) := by decide +kernel
theorem dRR_forget_6 : decode cRR_forget 6 = .ok (.getfield 19, 3) := by decide +kernel
theorem dRR_forget_9 : decode cRR_forget 9 = .ok (.iconst 0, 1) := by decide +kernel
theorem dRR_forget_10 : decode cRR_forget 10 = .ok (.invokestatic 26, 3) := by decide +kernel
theorem dRR_forget_13 : decode cRR_forget 13 = .ok (.iconst 0, 1) := by decide +kernel
theorem dRR_forget_14 : decode cRR_forget 14 = .ok (.istore_n 1, 1) := by decide +kernel
theorem dRR_forget_15 : decode cRR_forget 15 = .ok (.iload_n 1, 1) := by decide +kernel
theorem dRR_forget_16 : decode cRR_forget 16 = .ok (.bipush 24, 2) := by decide +kernel
theorem dRR_forget_18 : decode cRR_forget 18 = .ok (.if_icmp .ge 16, 3) := by decide +kernel
theorem dRR_forget_21 : decode cRR_forget 21 = .ok (.aload_n 0, 1) := by decide +kernel
theorem dRR_forget_22 : decode cRR_forget 22 = .ok (.getfield 9, 3) := by decide +kernel
theorem dRR_forget_25 : decode cRR_forget 25 = .ok (.iload_n 1, 1) := by decide +kernel
theorem dRR_forget_26 : decode cRR_forget 26 = .ok (.iconst 0, 1) := by decide +kernel
theorem dRR_forget_27 : decode cRR_forget 27 = .ok (.bastore, 1) := by decide +kernel
theorem dRR_forget_28 : decode cRR_forget 28 = .ok (.iinc 1 1, 3) := by decide +kernel
theorem dRR_forget_31 : decode cRR_forget 31 = .ok (.goto (-16), 3) := by decide +kernel
theorem dRR_forget_34 : decode cRR_forget 34 = .ok (.return_, 1) := by decide +kernel
theorem dSP_longest_0 : decode cSP_longest 0 = .ok (.iconst 0, 1) := by decide +kernel
theorem dSP_longest_1 : decode cSP_longest 1 = .ok (.istore_n 1, 1) := by decide +kernel
theorem dSP_longest_2 : decode cSP_longest 2 = .ok (.iconst 0, 1) := by decide +kernel
theorem dSP_longest_3 : decode cSP_longest 3 = .ok (.istore_n 2, 1) := by decide +kernel
theorem dSP_longest_4 : decode cSP_longest 4 = .ok (.iload_n 2, 1) := by decide +kernel
theorem dSP_longest_5 : decode cSP_longest 5 = .ok (.aload_n 0, 1) := by decide +kernel
theorem dSP_longest_6 : decode cSP_longest 6 = .ok (.getfield 27, 3) := by decide +kernel
theorem dSP_longest_9 : decode cSP_longest 9 = .ok (.if_icmp .ge 20, 3) := by decide +kernel
theorem dSP_longest_12 : decode cSP_longest 12 = .ok (.iload_n 1, 1) := by decide +kernel
theorem dSP_longest_13 : decode cSP_longest 13 = .ok (.aload_n 0, 1) := by decide +kernel
theorem dSP_longest_14 : decode cSP_longest 14 = .ok (.getfield 9, 3) := by decide +kernel
theorem dSP_longest_17 : decode cSP_longest 17 = .ok (.iload_n 2, 1) := by decide +kernel
theorem dSP_longest_18 : decode cSP_longest 18 = .ok (.iaload, 1) := by decide +kernel
theorem dSP_longest_19 : decode cSP_longest 19 = .ok (.invokestatic 35, 3) := by decide +kernel
theorem dSP_longest_22 : decode cSP_longest 22 = .ok (.istore_n 1, 1) := by decide +kernel
theorem dSP_longest_23 : decode cSP_longest 23 = .ok (.iinc 2 1, 3) := by decide +kernel
theorem dSP_longest_26 : decode cSP_longest 26 = .ok (.goto (-22), 3) := by decide +kernel
theorem dSP_longest_29 : decode cSP_longest 29 = .ok (.iload_n 1, 1) := by decide +kernel
theorem dSP_longest_30 : decode cSP_longest 30 = .ok (.ireturn, 1) := by decide +kernel
theorem dSR_shard_0 : decode cSR_shard 0 = .ok (.aload_n 0, 1) := by decide +kernel
theorem dSR_shard_1 : decode cSR_shard 1 = .ok (.getfield 53, 3) := by decide +kernel
theorem dSR_shard_4 : decode cSR_shard 4 = .ok (.iload_n 1, 1) := by decide +kernel
theorem dSR_shard_5 : decode cSR_shard 5 = .ok (.invokevirtual 111, 3) := by decide +kernel
theorem dSR_shard_8 : decode cSR_shard 8 = .ok (.ireturn, 1) := by decide +kernel
theorem dSR_sum_0 : decode cSR_sum 0 = .ok (.aload_n 0, 1) := by decide +kernel
theorem dSR_sum_1 : decode cSR_sum 1 = .ok (.getfield 53, 3) := by decide +kernel
theorem dSR_sum_4 : decode cSR_sum 4 = .ok (.iload_n 1, 1) := by decide +kernel
theorem dSR_sum_5 : decode cSR_sum 5 = .ok (.invokevirtual 114, 3) := by decide +kernel
theorem dSR_sum_8 : decode cSR_sum 8 = .ok (.ifCond .eq 15, 3) := by decide +kernel
theorem dSR_sum_11 : decode cSR_sum 11 = .ok (.aload_n 0, 1) := by decide +kernel
theorem dSR_sum_12 : decode cSR_sum 12 = .ok (.getfield 53, 3) := by decide +kernel
theorem dSR_sum_15 : decode cSR_sum 15 = .ok (.getfield 118, 3) := by decide +kernel
theorem dSR_sum_18 : decode cSR_sum 18 = .ok (.iload_n 1, 1) := by decide +kernel
theorem dSR_sum_19 : decode cSR_sum 19 = .ok (.iaload, 1) := by decide +kernel
theorem dSR_sum_20 : decode cSR_sum 20 = .ok (.goto 4, 3) := by decide +kernel
theorem dSR_sum_23 : decode cSR_sum 23 = .ok (.iconst (-1), 1) := by decide +kernel
theorem dSR_sum_24 : decode cSR_sum 24 = .ok (.ireturn, 1) := by decide +kernel
theorem dSR_moved_0 : decode cSR_moved 0 = .ok (.aload_n 0, 1) := by decide +kernel
theorem dSR_moved_1 : decode cSR_moved 1 = .ok (.getfield 53, 3) := by decide +kernel
theorem dSR_moved_4 : decode cSR_moved 4 = .ok (.getfield 122, 3) := by decide +kernel
theorem dSR_moved_7 : decode cSR_moved 7 = .ok (.ireturn, 1) := by decide +kernel
theorem dSR_empty_0 : decode cSR_empty 0 = .ok (.iconst 0, 1) := by decide +kernel
theorem dSR_empty_1 : decode cSR_empty 1 = .ok (.istore_n 2, 1) := by decide +kernel
theorem dSR_empty_2 : decode cSR_empty 2 = .ok (.iconst 0, 1) := by decide +kernel
theorem dSR_empty_3 : decode cSR_empty 3 = .ok (.istore_n 3, 1) := by decide +kernel
theorem dSR_empty_4 : decode cSR_empty 4 = .ok (.iload_n 3, 1) := by decide +kernel
theorem dSR_empty_5 : decode cSR_empty 5 = .ok (.aload_n 0, 1) := by decide +kernel
theorem dSR_empty_6 : decode cSR_empty 6 = .ok (.getfield 53, 3) := by decide +kernel
theorem dSR_empty_9 : decode cSR_empty 9 = .ok (.getfield 125, 3) := by decide +kernel
theorem dSR_empty_12 : decode cSR_empty 12 = .ok (.if_icmp .ge 31, 3) := by decide +kernel
theorem dSR_empty_15 : decode cSR_empty 15 = .ok (.aload_n 0, 1) := by decide +kernel
theorem dSR_empty_16 : decode cSR_empty 16 = .ok (.getfield 53, 3) := by decide +kernel
theorem dSR_empty_19 : decode cSR_empty 19 = .ok (.getfield 128, 3) := by decide +kernel
theorem dSR_empty_22 : decode cSR_empty 22 = .ok (.iload_n 3, 1) := by decide +kernel
theorem dSR_empty_23 : decode cSR_empty 23 = .ok (.iaload, 1) := by decide +kernel
theorem dSR_empty_24 : decode cSR_empty 24 = .ok (.ifCond .ne 13, 3) := by decide +kernel
theorem dSR_empty_27 : decode cSR_empty 27 = .ok (.iload_n 2, 1) := by decide +kernel
theorem dSR_empty_28 : decode cSR_empty 28 = .ok (.iload_n 1, 1) := by decide +kernel
theorem dSR_empty_29 : decode cSR_empty 29 = .ok (.if_icmp .ne 5, 3) := by decide +kernel
theorem dSR_empty_32 : decode cSR_empty 32 = .ok (.iload_n 3, 1) := by decide +kernel
theorem dSR_empty_33 : decode cSR_empty 33 = .ok (.ireturn, 1) := by decide +kernel
theorem dSR_empty_34 : decode cSR_empty 34 = .ok (.iinc 2 1, 3) := by decide +kernel
theorem dSR_empty_37 : decode cSR_empty 37 = .ok (.iinc 3 1, 3) := by decide +kernel
theorem dSR_empty_40 : decode cSR_empty 40 = .ok (.goto (-36), 3) := by decide +kernel
theorem dSR_empty_43 : decode cSR_empty 43 = .ok (.iconst (-1), 1) := by decide +kernel
theorem dSR_empty_44 : decode cSR_empty 44 = .ok (.ireturn, 1) := by decide +kernel
theorem dSR_draw_0 : decode cSR_draw 0 = .ok (.aload_n 0, 1) := by decide +kernel
theorem dSR_draw_1 : decode cSR_draw 1 = .ok (.getfield 53, 3) := by decide +kernel
theorem dSR_draw_4 : decode cSR_draw 4 = .ok (.iload_n 1, 1) := by decide +kernel
theorem dSR_draw_5 : decode cSR_draw 5 = .ok (.invokevirtual 114, 3) := by decide +kernel
theorem dSR_draw_8 : decode cSR_draw 8 = .ok (.ifCond .ne 5, 3) := by decide +kernel
theorem dSR_draw_11 : decode cSR_draw 11 = .ok (.iconst (-1), 1) := by decide +kernel
theorem dSR_draw_12 : decode cSR_draw 12 = .ok (.ireturn, 1) := by decide +kernel
theorem dSR_draw_13 : decode cSR_draw 13 = .ok (.aload_n 0, 1) := by decide +kernel
theorem dSR_draw_14 : decode cSR_draw 14 = .ok (.getfield 67, 3) := by decide +kernel
theorem dSR_draw_17 : decode cSR_draw 17 = .ok (.aload_n 0, 1) := by decide +kernel
theorem dSR_draw_18 : decode cSR_draw 18 = .ok (.getfield 53, 3) := by decide +kernel
theorem dSR_draw_21 : decode cSR_draw 21 = .ok (.iload_n 1, 1) := by decide +kernel
theorem dSR_draw_22 : decode cSR_draw 22 = .ok (.invokevirtual 131, 3) := by decide +kernel
theorem dSR_draw_25 : decode cSR_draw 25 = .ok (.aload_n 0, 1) := by decide +kernel
theorem dSR_draw_26 : decode cSR_draw 26 = .ok (.getfield 67, 3) := by decide +kernel
theorem dSR_draw_29 : decode cSR_draw 29 = .ok (.lload_n 2, 1) := by decide +kernel
theorem dSR_draw_30 : decode cSR_draw 30 = .ok (.invokevirtual 134, 3) := by decide +kernel
theorem dSR_draw_33 : decode cSR_draw 33 = .ok (.aload_n 0, 1) := by decide +kernel
theorem dSR_draw_34 : decode cSR_draw 34 = .ok (.getfield 67, 3) := by decide +kernel
theorem dSR_draw_37 : decode cSR_draw 37 = .ok (.getfield 138, 3) := by decide +kernel
theorem dSR_draw_40 : decode cSR_draw 40 = .ok (.ireturn, 1) := by decide +kernel
theorem dDR_gather_0 : decode cDR_gather 0 = .ok (.aload_n 0, 1) := by decide +kernel
theorem dDR_gather_1 : decode cDR_gather 1 = .ok (.iconst 0, 1) := by decide +kernel
theorem dDR_gather_2 : decode cDR_gather 2 = .ok (.putfield 15, 3) := by decide +kernel
theorem dDR_gather_5 : decode cDR_gather 5 = .ok (.iconst 0, 1) := by decide +kernel
theorem dDR_gather_6 : decode cDR_gather 6 = .ok (.istore_n 3, 1) := by decide +kernel
theorem dDR_gather_7 : decode cDR_gather 7 = .ok (.iload_n 3, 1) := by decide +kernel
theorem dDR_gather_8 : decode cDR_gather 8 = .ok (.bipush 24, 2) := by decide +kernel
theorem dDR_gather_10 : decode cDR_gather 10 = .ok (.if_icmp .ge 38, 3) := by decide +kernel
theorem dDR_gather_13 : decode cDR_gather 13 = .ok (.aload_n 1, 1) := by decide +kernel
theorem dDR_gather_14 : decode cDR_gather 14 = .ok (.iload_n 3, 1) := by decide +kernel
theorem dDR_gather_15 : decode cDR_gather 15 = .ok (.invokevirtual 19, 3) := by decide +kernel
theorem dDR_gather_18 : decode cDR_gather 18 = .ok (.iload_n 2, 1) := by decide +kernel
theorem dDR_gather_19 : decode cDR_gather 19 = .ok (.if_icmp .ne 23, 3) := by decide +kernel
theorem dDR_gather_22 : decode cDR_gather 22 = .ok (.aload_n 0, 1) := by decide +kernel
theorem dDR_gather_23 : decode cDR_gather 23 = .ok (.getfield 9, 3) := by decide +kernel
theorem dDR_gather_26 : decode cDR_gather 26 = .ok (.aload_n 0, 1) := by decide +kernel
theorem dDR_gather_27 : decode cDR_gather 27 = .ok (.getfield 15, 3) := by decide +kernel
theorem dDR_gather_30 : decode cDR_gather 30 = .ok (.iload_n 3, 1) := by decide +kernel
theorem dDR_gather_31 : decode cDR_gather 31 = .ok (.iastore, 1) := by decide +kernel
theorem dDR_gather_32 : decode cDR_gather 32 = .ok (.aload_n 0, 1) := by decide +kernel
theorem dDR_gather_33 : decode cDR_gather 33 = .ok (.dup, 1) := by decide +kernel
theorem dDR_gather_34 : decode cDR_gather 34 = .ok (.getfield 15, 3) := by decide +kernel
theorem dDR_gather_37 : decode cDR_gather 37 = .ok (.iconst 1, 1) := by decide +kernel
theorem dDR_gather_38 : decode cDR_gather 38 = .ok (.iadd, 1) := by decide +kernel
theorem dDR_gather_39 : decode cDR_gather 39 = .ok (.putfield 15, 3) := by decide +kernel
theorem dDR_gather_42 : decode cDR_gather 42 = .ok (.iinc 3 1, 3) := by decide +kernel
theorem dDR_gather_45 : decode cDR_gather 45 = .ok (.goto (-38), 3) := by decide +kernel
theorem dDR_gather_48 : decode cDR_gather 48 = .ok (.return_, 1) := by decide +kernel
theorem dDR_shuffle_0 : decode cDR_shuffle 0 = .ok (.lload_n 1, 1) := by decide +kernel
theorem dDR_shuffle_1 : decode cDR_shuffle 1 = .ok (.lstore_n 3, 1) := by decide +kernel
theorem dDR_shuffle_2 : decode cDR_shuffle 2 = .ok (.aload_n 0, 1) := by decide +kernel
theorem dDR_shuffle_3 : decode cDR_shuffle 3 = .ok (.getfield 15, 3) := by decide +kernel
theorem dDR_shuffle_6 : decode cDR_shuffle 6 = .ok (.iconst 1, 1) := by decide +kernel
theorem dDR_shuffle_7 : decode cDR_shuffle 7 = .ok (.isub, 1) := by decide +kernel
theorem dDR_shuffle_8 : decode cDR_shuffle 8 = .ok (.istore 5, 2) := by decide +kernel
theorem dDR_shuffle_10 : decode cDR_shuffle 10 = .ok (.iload 5, 2) := by decide +kernel
theorem dDR_shuffle_12 : decode cDR_shuffle 12 = .ok (.iconst 1, 1) := by decide +kernel
theorem dDR_shuffle_13 : decode cDR_shuffle 13 = .ok (.if_icmp .lt 64, 3) := by decide +kernel
theorem dDR_shuffle_16 : decode cDR_shuffle 16 = .ok (.lload_n 3, 1) := by decide +kernel
theorem dDR_shuffle_17 : decode cDR_shuffle 17 = .ok (.ldc2_w 25, 3) := by decide +kernel
theorem dDR_shuffle_20 : decode cDR_shuffle 20 = .ok (.lmul, 1) := by decide +kernel
theorem dDR_shuffle_21 : decode cDR_shuffle 21 = .ok (.ldc2_w 27, 3) := by decide +kernel
theorem dDR_shuffle_24 : decode cDR_shuffle 24 = .ok (.ladd, 1) := by decide +kernel
theorem dDR_shuffle_25 : decode cDR_shuffle 25 = .ok (.lstore_n 3, 1) := by decide +kernel
theorem dDR_shuffle_26 : decode cDR_shuffle 26 = .ok (.lload_n 3, 1) := by decide +kernel
theorem dDR_shuffle_27 : decode cDR_shuffle 27 = .ok (.bipush 33, 2) := by decide +kernel
theorem dDR_shuffle_29 : decode cDR_shuffle 29 = .ok (.lushr, 1) := by decide +kernel
theorem dDR_shuffle_30 : decode cDR_shuffle 30 = .ok (.iload 5, 2) := by decide +kernel
theorem dDR_shuffle_32 : decode cDR_shuffle 32 = .ok (.iconst 1, 1) := by decide +kernel
theorem dDR_shuffle_33 : decode cDR_shuffle 33 = .ok (.iadd, 1) := by decide +kernel
theorem dDR_shuffle_34 : decode cDR_shuffle 34 = .ok (.i2l, 1) := by decide +kernel
theorem dDR_shuffle_35 : decode cDR_shuffle 35 = .ok (.lrem, 1) := by decide +kernel
theorem dDR_shuffle_36 : decode cDR_shuffle 36 = .ok (.l2i, 1) := by decide +kernel
theorem dDR_shuffle_37 : decode cDR_shuffle 37 = .ok (.istore 6, 2) := by decide +kernel
theorem dDR_shuffle_39 : decode cDR_shuffle 39 = .ok (.aload_n 0, 1) := by decide +kernel
theorem dDR_shuffle_40 : decode cDR_shuffle 40 = .ok (.getfield 9, 3) := by decide +kernel
theorem dDR_shuffle_43 : decode cDR_shuffle 43 = .ok (.iload 5, 2) := by decide +kernel
theorem dDR_shuffle_45 : decode cDR_shuffle 45 = .ok (.iaload, 1) := by decide +kernel
theorem dDR_shuffle_46 : decode cDR_shuffle 46 = .ok (.istore 7, 2) := by decide +kernel
theorem dDR_shuffle_48 : decode cDR_shuffle 48 = .ok (.aload_n 0, 1) := by decide +kernel
theorem dDR_shuffle_49 : decode cDR_shuffle 49 = .ok (.getfield 9, 3) := by decide +kernel
theorem dDR_shuffle_52 : decode cDR_shuffle 52 = .ok (.iload 5, 2) := by decide +kernel
theorem dDR_shuffle_54 : decode cDR_shuffle 54 = .ok (.aload_n 0, 1) := by decide +kernel
theorem dDR_shuffle_55 : decode cDR_shuffle 55 = .ok (.getfield 9, 3) := by decide +kernel
theorem dDR_shuffle_58 : decode cDR_shuffle 58 = .ok (.iload 6, 2) := by decide +kernel
theorem dDR_shuffle_60 : decode cDR_shuffle 60 = .ok (.iaload, 1) := by decide +kernel
theorem dDR_shuffle_61 : decode cDR_shuffle 61 = .ok (.iastore, 1) := by decide +kernel
theorem dDR_shuffle_62 : decode cDR_shuffle 62 = .ok (.aload_n 0, 1) := by decide +kernel
theorem dDR_shuffle_63 : decode cDR_shuffle 63 = .ok (.getfield 9, 3) := by decide +kernel
theorem dDR_shuffle_66 : decode cDR_shuffle 66 = .ok (.iload 6, 2) := by decide +kernel
theorem dDR_shuffle_68 : decode cDR_shuffle 68 = .ok (.iload 7, 2) := by decide +kernel
theorem dDR_shuffle_70 : decode cDR_shuffle 70 = .ok (.iastore, 1) := by decide +kernel
theorem dDR_shuffle_71 : decode cDR_shuffle 71 = .ok (.iinc 5 (-1), 3) := by decide +kernel
theorem dDR_shuffle_74 : decode cDR_shuffle 74 = .ok (.goto (-64), 3) := by decide +kernel
theorem dDR_shuffle_77 : decode cDR_shuffle 77 = .ok (.return_, 1) := by decide +kernel
theorem dSR_drawn_0 : decode cSR_drawn 0 = .ok (.aload_n 0, 1) := by decide +kernel
theorem dSR_drawn_1 : decode cSR_drawn 1 = .ok (.getfield 67, 3) := by decide +kernel
theorem dSR_drawn_4 : decode cSR_drawn 4 = .ok (.iload_n 1, 1) := by decide +kernel
theorem dSR_drawn_5 : decode cSR_drawn 5 = .ok (.invokevirtual 139, 3) := by decide +kernel
theorem dSR_drawn_8 : decode cSR_drawn 8 = .ok (.ireturn, 1) := by decide +kernel
theorem dDR_at_0 : decode cDR_at 0 = .ok (.iload_n 1, 1) := by decide +kernel
theorem dDR_at_1 : decode cDR_at 1 = .ok (.ifCond .lt 20, 3) := by decide +kernel
theorem dDR_at_4 : decode cDR_at 4 = .ok (.iload_n 1, 1) := by decide +kernel
theorem dDR_at_5 : decode cDR_at 5 = .ok (.aload_n 0, 1) := by decide +kernel
theorem dDR_at_6 : decode cDR_at 6 = .ok (.getfield 15, 3) := by decide +kernel
theorem dDR_at_9 : decode cDR_at 9 = .ok (.if_icmp .ge 12, 3) := by decide +kernel
theorem dDR_at_12 : decode cDR_at 12 = .ok (.aload_n 0, 1) := by decide +kernel
theorem dDR_at_13 : decode cDR_at 13 = .ok (.getfield 9, 3) := by decide +kernel
theorem dDR_at_16 : decode cDR_at 16 = .ok (.iload_n 1, 1) := by decide +kernel
theorem dDR_at_17 : decode cDR_at 17 = .ok (.iaload, 1) := by decide +kernel
theorem dDR_at_18 : decode cDR_at 18 = .ok (.goto 4, 3) := by decide +kernel
theorem dDR_at_21 : decode cDR_at 21 = .ok (.iconst (-1), 1) := by decide +kernel
theorem dDR_at_22 : decode cDR_at 22 = .ok (.ireturn, 1) := by decide +kernel
theorem dSR_result_0 : decode cSR_result 0 = .ok (.aload_n 0, 1) := by decide +kernel
theorem dSR_result_1 : decode cSR_result 1 = .ok (.getfield 53, 3) := by decide +kernel
theorem dSR_result_4 : decode cSR_result 4 = .ok (.iload_n 1, 1) := by decide +kernel
theorem dSR_result_5 : decode cSR_result 5 = .ok (.invokevirtual 111, 3) := by decide +kernel
theorem dSR_result_8 : decode cSR_result 8 = .ok (.istore 4, 2) := by decide +kernel
theorem dSR_result_10 : decode cSR_result 10 = .ok (.iload 4, 2) := by decide +kernel
theorem dSR_result_12 : decode cSR_result 12 = .ok (.iconst (-1), 1) := by decide +kernel
theorem dSR_result_13 : decode cSR_result 13 = .ok (.if_icmp .eq 14, 3) := by decide +kernel
theorem dSR_result_16 : decode cSR_result 16 = .ok (.aload_n 0, 1) := by decide +kernel
end
section
theorem dSR_result_17 : decode cSR_result 17 = .ok (.getfield 53, 3) := by decide +kernel
theorem dSR_result_20 : decode cSR_result 20 = .ok (.iload_n 2, 1) := by decide +kernel
theorem dSR_result_21 : decode cSR_result 21 = .ok (.invokevirtual 114, 3) := by decide +kernel
theorem dSR_result_24 : decode cSR_result 24 = .ok (.ifCond .ne 5, 3) := by decide +kernel
theorem dSR_result_27 : decode cSR_result 27 = .ok (.iconst (-1), 1) := by decide +kernel
theorem dSR_result_28 : decode cSR_result 28 = .ok (.ireturn, 1) := by decide +kernel
theorem dSR_result_29 : decode cSR_result 29 = .ok (.iload 4, 2) := by decide +kernel
theorem dSR_result_31 : decode cSR_result 31 = .ok (.iload_n 2, 1) := by decide +kernel
theorem dSR_result_32 : decode cSR_result 32 = .ok (.if_icmp .eq 19, 3) := by decide +kernel
theorem dSR_result_35 : decode cSR_result 35 = .ok (.aload_n 0, 1) := by decide +kernel
theorem dSR_result_36 : decode cSR_result 36 = .ok (.getfield 60, 3) := by decide +kernel
theorem dSR_result_39 : decode cSR_result 39 = .ok (.dup, 1) := by decide +kernel
theorem dSR_result_40 : decode cSR_result 40 = .ok (.getfield 142, 3) := by decide +kernel
theorem dSR_result_43 : decode cSR_result 43 = .ok (.iconst 1, 1) := by decide +kernel
theorem dSR_result_44 : decode cSR_result 44 = .ok (.iadd, 1) := by decide +kernel
theorem dSR_result_45 : decode cSR_result 45 = .ok (.putfield 142, 3) := by decide +kernel
theorem dSR_result_48 : decode cSR_result 48 = .ok (.bipush (-2), 2) := by decide +kernel
theorem dSR_result_50 : decode cSR_result 50 = .ok (.ireturn, 1) := by decide +kernel
theorem dSR_result_51 : decode cSR_result 51 = .ok (.aload_n 0, 1) := by decide +kernel
theorem dSR_result_52 : decode cSR_result 52 = .ok (.getfield 60, 3) := by decide +kernel
theorem dSR_result_55 : decode cSR_result 55 = .ok (.iload_n 1, 1) := by decide +kernel
theorem dSR_result_56 : decode cSR_result 56 = .ok (.iload_n 3, 1) := by decide +kernel
theorem dSR_result_57 : decode cSR_result 57 = .ok (.invokevirtual 145, 3) := by decide +kernel
theorem dSR_result_60 : decode cSR_result 60 = .ok (.ifCond .eq 7, 3) := by decide +kernel
theorem dSR_result_63 : decode cSR_result 63 = .ok (.iconst 1, 1) := by decide +kernel
theorem dSR_result_64 : decode cSR_result 64 = .ok (.goto 4, 3) := by decide +kernel
theorem dSR_result_67 : decode cSR_result 67 = .ok (.iconst 0, 1) := by decide +kernel
theorem dSR_result_68 : decode cSR_result 68 = .ok (.ireturn, 1) := by decide +kernel
theorem dRR_put_0 : decode cRR_put 0 = .ok (.iload_n 1, 1) := by decide +kernel
theorem dRR_put_1 : decode cRR_put 1 = .ok (.invokestatic 32, 3) := by decide +kernel
theorem dRR_put_4 : decode cRR_put 4 = .ok (.ifCond .eq 12, 3) := by decide +kernel
theorem dRR_put_7 : decode cRR_put 7 = .ok (.aload_n 0, 1) := by decide +kernel
theorem dRR_put_8 : decode cRR_put 8 = .ok (.getfield 9, 3) := by decide +kernel
theorem dRR_put_11 : decode cRR_put 11 = .ok (.iload_n 1, 1) := by decide +kernel
theorem dRR_put_12 : decode cRR_put 12 = .ok (.baload, 1) := by decide +kernel
theorem dRR_put_13 : decode cRR_put 13 = .ok (.ifCond .eq 5, 3) := by decide +kernel
theorem dRR_put_16 : decode cRR_put 16 = .ok (.iconst 0, 1) := by decide +kernel
theorem dRR_put_17 : decode cRR_put 17 = .ok (.ireturn, 1) := by decide +kernel
theorem dRR_put_18 : decode cRR_put 18 = .ok (.aload_n 0, 1) := by decide +kernel
theorem dRR_put_19 : decode cRR_put 19 = .ok (.getfield 9, 3) := by decide +kernel
theorem dRR_put_22 : decode cRR_put 22 = .ok (.iload_n 1, 1) := by decide +kernel
theorem dRR_put_23 : decode cRR_put 23 = .ok (.iconst 1, 1) := by decide +kernel
theorem dRR_put_24 : decode cRR_put 24 = .ok (.bastore, 1) := by decide +kernel
theorem dRR_put_25 : decode cRR_put 25 = .ok (.aload_n 0, 1) := by decide +kernel
theorem dRR_put_26 : decode cRR_put 26 = .ok (.getfield 15, 3) := by decide +kernel
theorem dRR_put_29 : decode cRR_put 29 = .ok (.iload_n 1, 1) := by decide +kernel
theorem dRR_put_30 : decode cRR_put 30 = .ok (.iload_n 2, 1) := by decide +kernel
theorem dRR_put_31 : decode cRR_put 31 = .ok (.iastore, 1) := by decide +kernel
theorem dRR_put_32 : decode cRR_put 32 = .ok (.aload_n 0, 1) := by decide +kernel
theorem dRR_put_33 : decode cRR_put 33 = .ok (.getfield 19, 3) := by decide +kernel
theorem dRR_put_36 : decode cRR_put 36 = .ok (.iload_n 1, 1) := by decide +kernel
theorem dRR_put_37 : decode cRR_put 37 = .ok (.dup2, 1) := by decide +kernel
theorem dRR_put_38 : decode cRR_put 38 = .ok (.iaload, 1) := by decide +kernel
theorem dRR_put_39 : decode cRR_put 39 = .ok (.iconst 1, 1) := by decide +kernel
theorem dRR_put_40 : decode cRR_put 40 = .ok (.iadd, 1) := by decide +kernel
theorem dRR_put_41 : decode cRR_put 41 = .ok (.iastore, 1) := by decide +kernel
theorem dRR_put_42 : decode cRR_put 42 = .ok (.iconst 1, 1) := by decide +kernel
theorem dRR_put_43 : decode cRR_put 43 = .ok (.ireturn, 1) := by decide +kernel
theorem dSR_again_0 : decode cSR_again 0 = .ok (.aload_n 0, 1) := by decide +kernel
theorem dSR_again_1 : decode cSR_again 1 = .ok (.getfield 60, 3) := by decide +kernel
theorem dSR_again_4 : decode cSR_again 4 = .ok (.iload_n 1, 1) := by decide +kernel
theorem dSR_again_5 : decode cSR_again 5 = .ok (.invokevirtual 148, 3) := by decide +kernel
theorem dSR_again_8 : decode cSR_again 8 = .ok (.ireturn, 1) := by decide +kernel
theorem dRR_dropBad_0 : decode cRR_dropBad 0 = .ok (.aload_n 0, 1) := by decide +kernel
theorem dRR_dropBad_1 : decode cRR_dropBad 1 = .ok (.iload_n 1, 1) := by decide +kernel
theorem dRR_dropBad_2 : decode cRR_dropBad 2 = .ok (.invokevirtual 36, 3) := by decide +kernel
theorem dRR_dropBad_5 : decode cRR_dropBad 5 = .ok (.ifCond .ne 5, 3) := by decide +kernel
theorem dRR_dropBad_8 : decode cRR_dropBad 8 = .ok (.iconst 0, 1) := by decide +kernel
theorem dRR_dropBad_9 : decode cRR_dropBad 9 = .ok (.ireturn, 1) := by decide +kernel
theorem dRR_dropBad_10 : decode cRR_dropBad 10 = .ok (.aload_n 0, 1) := by decide +kernel
theorem dRR_dropBad_11 : decode cRR_dropBad 11 = .ok (.getfield 9, 3) := by decide +kernel
theorem dRR_dropBad_14 : decode cRR_dropBad 14 = .ok (.iload_n 1, 1) := by decide +kernel
theorem dRR_dropBad_15 : decode cRR_dropBad 15 = .ok (.iconst 0, 1) := by decide +kernel
theorem dRR_dropBad_16 : decode cRR_dropBad 16 = .ok (.bastore, 1) := by decide +kernel
theorem dRR_dropBad_17 : decode cRR_dropBad 17 = .ok (.iconst 1, 1) := by decide +kernel
theorem dRR_dropBad_18 : decode cRR_dropBad 18 = .ok (.ireturn, 1) := by decide +kernel
theorem dRR_isBad_0 : decode cRR_isBad 0 = .ok (.aload_n 0, 1) := by decide +kernel
theorem dRR_isBad_1 : decode cRR_isBad 1 = .ok (.iload_n 1, 1) := by decide +kernel
theorem dRR_isBad_2 : decode cRR_isBad 2 = .ok (.invokevirtual 39, 3) := by decide +kernel
theorem dRR_isBad_5 : decode cRR_isBad 5 = .ok (.ifCond .eq 16, 3) := by decide +kernel
theorem dRR_isBad_8 : decode cRR_isBad 8 = .ok (.aload_n 0, 1) := by decide +kernel
theorem dRR_isBad_9 : decode cRR_isBad 9 = .ok (.getfield 15, 3) := by decide +kernel
theorem dRR_isBad_12 : decode cRR_isBad 12 = .ok (.iload_n 1, 1) := by decide +kernel
theorem dRR_isBad_13 : decode cRR_isBad 13 = .ok (.iaload, 1) := by decide +kernel
theorem dRR_isBad_14 : decode cRR_isBad 14 = .ok (.ifCond .eq 7, 3) := by decide +kernel
theorem dRR_isBad_17 : decode cRR_isBad 17 = .ok (.iconst 1, 1) := by decide +kernel
theorem dRR_isBad_18 : decode cRR_isBad 18 = .ok (.goto 4, 3) := by decide +kernel
theorem dRR_isBad_21 : decode cRR_isBad 21 = .ok (.iconst 0, 1) := by decide +kernel
theorem dRR_isBad_22 : decode cRR_isBad 22 = .ok (.ireturn, 1) := by decide +kernel
theorem dRR_has_0 : decode cRR_has 0 = .ok (.iload_n 1, 1) := by decide +kernel
theorem dRR_has_1 : decode cRR_has 1 = .ok (.invokestatic 32, 3) := by decide +kernel
theorem dRR_has_4 : decode cRR_has 4 = .ok (.ifCond .eq 16, 3) := by decide +kernel
theorem dRR_has_7 : decode cRR_has 7 = .ok (.aload_n 0, 1) := by decide +kernel
theorem dRR_has_8 : decode cRR_has 8 = .ok (.getfield 9, 3) := by decide +kernel
theorem dRR_has_11 : decode cRR_has 11 = .ok (.iload_n 1, 1) := by decide +kernel
theorem dRR_has_12 : decode cRR_has 12 = .ok (.baload, 1) := by decide +kernel
theorem dRR_has_13 : decode cRR_has 13 = .ok (.ifCond .eq 7, 3) := by decide +kernel
theorem dRR_has_16 : decode cRR_has 16 = .ok (.iconst 1, 1) := by decide +kernel
theorem dRR_has_17 : decode cRR_has 17 = .ok (.goto 4, 3) := by decide +kernel
theorem dRR_has_20 : decode cRR_has 20 = .ok (.iconst 0, 1) := by decide +kernel
theorem dRR_has_21 : decode cRR_has 21 = .ok (.ireturn, 1) := by decide +kernel
theorem dSR_strange_0 : decode cSR_strange 0 = .ok (.aload_n 0, 1) := by decide +kernel
theorem dSR_strange_1 : decode cSR_strange 1 = .ok (.getfield 60, 3) := by decide +kernel
theorem dSR_strange_4 : decode cSR_strange 4 = .ok (.getfield 142, 3) := by decide +kernel
theorem dSR_strange_7 : decode cSR_strange 7 = .ok (.ireturn, 1) := by decide +kernel
theorem dSR_missing_0 : decode cSR_missing 0 = .ok (.iconst 0, 1) := by decide +kernel
theorem dSR_missing_1 : decode cSR_missing 1 = .ok (.istore_n 2, 1) := by decide +kernel
theorem dSR_missing_2 : decode cSR_missing 2 = .ok (.iconst 0, 1) := by decide +kernel
theorem dSR_missing_3 : decode cSR_missing 3 = .ok (.istore_n 3, 1) := by decide +kernel
theorem dSR_missing_4 : decode cSR_missing 4 = .ok (.iload_n 3, 1) := by decide +kernel
theorem dSR_missing_5 : decode cSR_missing 5 = .ok (.bipush 24, 2) := by decide +kernel
theorem dSR_missing_7 : decode cSR_missing 7 = .ok (.if_icmp .ge 27, 3) := by decide +kernel
theorem dSR_missing_10 : decode cSR_missing 10 = .ok (.aload_n 0, 1) := by decide +kernel
theorem dSR_missing_11 : decode cSR_missing 11 = .ok (.iload_n 3, 1) := by decide +kernel
theorem dSR_missing_12 : decode cSR_missing 12 = .ok (.invokevirtual 151, 3) := by decide +kernel
theorem dSR_missing_15 : decode cSR_missing 15 = .ok (.ifCond .eq 13, 3) := by decide +kernel
theorem dSR_missing_18 : decode cSR_missing 18 = .ok (.iload_n 2, 1) := by decide +kernel
theorem dSR_missing_19 : decode cSR_missing 19 = .ok (.iload_n 1, 1) := by decide +kernel
theorem dSR_missing_20 : decode cSR_missing 20 = .ok (.if_icmp .ne 5, 3) := by decide +kernel
theorem dSR_missing_23 : decode cSR_missing 23 = .ok (.iload_n 3, 1) := by decide +kernel
theorem dSR_missing_24 : decode cSR_missing 24 = .ok (.ireturn, 1) := by decide +kernel
theorem dSR_missing_25 : decode cSR_missing 25 = .ok (.iinc 2 1, 3) := by decide +kernel
theorem dSR_missing_28 : decode cSR_missing 28 = .ok (.iinc 3 1, 3) := by decide +kernel
theorem dSR_missing_31 : decode cSR_missing 31 = .ok (.goto (-27), 3) := by decide +kernel
theorem dSR_missing_34 : decode cSR_missing 34 = .ok (.iconst (-1), 1) := by decide +kernel
theorem dSR_missing_35 : decode cSR_missing 35 = .ok (.ireturn, 1) := by decide +kernel
theorem dSR_isMissing_0 : decode cSR_isMissing 0 = .ok (.aload_n 0, 1) := by decide +kernel
theorem dSR_isMissing_1 : decode cSR_isMissing 1 = .ok (.getfield 53, 3) := by decide +kernel
theorem dSR_isMissing_4 : decode cSR_isMissing 4 = .ok (.iload_n 1, 1) := by decide +kernel
theorem dSR_isMissing_5 : decode cSR_isMissing 5 = .ok (.invokevirtual 111, 3) := by decide +kernel
theorem dSR_isMissing_8 : decode cSR_isMissing 8 = .ok (.iconst (-1), 1) := by decide +kernel
theorem dSR_isMissing_9 : decode cSR_isMissing 9 = .ok (.if_icmp .eq 18, 3) := by decide +kernel
theorem dSR_isMissing_12 : decode cSR_isMissing 12 = .ok (.aload_n 0, 1) := by decide +kernel
theorem dSR_isMissing_13 : decode cSR_isMissing 13 = .ok (.getfield 60, 3) := by decide +kernel
theorem dSR_isMissing_16 : decode cSR_isMissing 16 = .ok (.iload_n 1, 1) := by decide +kernel
theorem dSR_isMissing_17 : decode cSR_isMissing 17 = .ok (.invokevirtual 164, 3) := by decide +kernel
theorem dSR_isMissing_20 : decode cSR_isMissing 20 = .ok (.ifCond .ne 7, 3) := by decide +kernel
theorem dSR_isMissing_23 : decode cSR_isMissing 23 = .ok (.iconst 1, 1) := by decide +kernel
theorem dSR_isMissing_24 : decode cSR_isMissing 24 = .ok (.goto 4, 3) := by decide +kernel
theorem dSR_isMissing_27 : decode cSR_isMissing 27 = .ok (.iconst 0, 1) := by decide +kernel
theorem dSR_isMissing_28 : decode cSR_isMissing 28 = .ok (.ireturn, 1) := by decide +kernel
theorem dSR_verdict_0 : decode cSR_verdict 0 = .ok (.aload_n 0, 1) := by decide +kernel
theorem dSR_verdict_1 : decode cSR_verdict 1 = .ok (.getfield 53, 3) := by decide +kernel
theorem dSR_verdict_4 : decode cSR_verdict 4 = .ok (.getfield 125, 3) := by decide +kernel
theorem dSR_verdict_7 : decode cSR_verdict 7 = .ok (.ifCond .ne 5, 3) := by decide +kernel
theorem dSR_verdict_10 : decode cSR_verdict 10 = .ok (.iconst (-1), 1) := by decide +kernel
theorem dSR_verdict_11 : decode cSR_verdict 11 = .ok (.ireturn, 1) := by decide +kernel
theorem dSR_verdict_12 : decode cSR_verdict 12 = .ok (.aload_n 0, 1) := by decide +kernel
theorem dSR_verdict_13 : decode cSR_verdict 13 = .ok (.iconst 0, 1) := by decide +kernel
theorem dSR_verdict_14 : decode cSR_verdict 14 = .ok (.invokevirtual 154, 3) := by decide +kernel
theorem dSR_verdict_17 : decode cSR_verdict 17 = .ok (.iconst (-1), 1) := by decide +kernel
theorem dSR_verdict_18 : decode cSR_verdict 18 = .ok (.if_icmp .eq 5, 3) := by decide +kernel
theorem dSR_verdict_21 : decode cSR_verdict 21 = .ok (.iconst 0, 1) := by decide +kernel
theorem dSR_verdict_22 : decode cSR_verdict 22 = .ok (.ireturn, 1) := by decide +kernel
theorem dSR_verdict_23 : decode cSR_verdict 23 = .ok (.aload_n 0, 1) := by decide +kernel
theorem dSR_verdict_24 : decode cSR_verdict 24 = .ok (.getfield 60, 3) := by decide +kernel
theorem dSR_verdict_27 : decode cSR_verdict 27 = .ok (.invokevirtual 157, 3) := by decide +kernel
theorem dSR_verdict_30 : decode cSR_verdict 30 = .ok (.ifCond .eq 7, 3) := by decide +kernel
theorem dSR_verdict_33 : decode cSR_verdict 33 = .ok (.iconst 2, 1) := by decide +kernel
theorem dSR_verdict_34 : decode cSR_verdict 34 = .ok (.goto 4, 3) := by decide +kernel
theorem dSR_verdict_37 : decode cSR_verdict 37 = .ok (.iconst 1, 1) := by decide +kernel
theorem dSR_verdict_38 : decode cSR_verdict 38 = .ok (.ireturn, 1) := by decide +kernel
theorem dRR_anyBad_0 : decode cRR_anyBad 0 = .ok (.iconst 0, 1) := by decide +kernel
theorem dRR_anyBad_1 : decode cRR_anyBad 1 = .ok (.istore_n 1, 1) := by decide +kernel
theorem dRR_anyBad_2 : decode cRR_anyBad 2 = .ok (.iload_n 1, 1) := by decide +kernel
theorem dRR_anyBad_3 : decode cRR_anyBad 3 = .ok (.bipush 24, 2) := by decide +kernel
theorem dRR_anyBad_5 : decode cRR_anyBad 5 = .ok (.if_icmp .ge 19, 3) := by decide +kernel
theorem dRR_anyBad_8 : decode cRR_anyBad 8 = .ok (.aload_n 0, 1) := by decide +kernel
theorem dRR_anyBad_9 : decode cRR_anyBad 9 = .ok (.iload_n 1, 1) := by decide +kernel
theorem dRR_anyBad_10 : decode cRR_anyBad 10 = .ok (.invokevirtual 36, 3) := by decide +kernel
theorem dRR_anyBad_13 : decode cRR_anyBad 13 = .ok (.ifCond .eq 5, 3) := by decide +kernel
theorem dRR_anyBad_16 : decode cRR_anyBad 16 = .ok (.iconst 1, 1) := by decide +kernel
theorem dRR_anyBad_17 : decode cRR_anyBad 17 = .ok (.ireturn, 1) := by decide +kernel
theorem dRR_anyBad_18 : decode cRR_anyBad 18 = .ok (.iinc 1 1, 3) := by decide +kernel
theorem dRR_anyBad_21 : decode cRR_anyBad 21 = .ok (.goto (-19), 3) := by decide +kernel
theorem dRR_anyBad_24 : decode cRR_anyBad 24 = .ok (.iconst 0, 1) := by decide +kernel
theorem dRR_anyBad_25 : decode cRR_anyBad 25 = .ok (.ireturn, 1) := by decide +kernel
theorem dSR_tries_0 : decode cSR_tries 0 = .ok (.aload_n 0, 1) := by decide +kernel
theorem dSR_tries_1 : decode cSR_tries 1 = .ok (.getfield 60, 3) := by decide +kernel
theorem dSR_tries_4 : decode cSR_tries 4 = .ok (.iload_n 1, 1) := by decide +kernel
theorem dSR_tries_5 : decode cSR_tries 5 = .ok (.invokevirtual 161, 3) := by decide +kernel
theorem dSR_tries_8 : decode cSR_tries 8 = .ok (.ireturn, 1) := by decide +kernel
theorem dRR_triesOf_0 : decode cRR_triesOf 0 = .ok (.iload_n 1, 1) := by decide +kernel
theorem dRR_triesOf_1 : decode cRR_triesOf 1 = .ok (.invokestatic 32, 3) := by decide +kernel
theorem dRR_triesOf_4 : decode cRR_triesOf 4 = .ok (.ifCond .eq 12, 3) := by decide +kernel
theorem dRR_triesOf_7 : decode cRR_triesOf 7 = .ok (.aload_n 0, 1) := by decide +kernel
theorem dRR_triesOf_8 : decode cRR_triesOf 8 = .ok (.getfield 19, 3) := by decide +kernel
theorem dRR_triesOf_11 : decode cRR_triesOf 11 = .ok (.iload_n 1, 1) := by decide +kernel
theorem dRR_triesOf_12 : decode cRR_triesOf 12 = .ok (.iaload, 1) := by decide +kernel
theorem dRR_triesOf_13 : decode cRR_triesOf 13 = .ok (.goto 4, 3) := by decide +kernel
theorem dRR_triesOf_16 : decode cRR_triesOf 16 = .ok (.iconst 0, 1) := by decide +kernel
theorem dRR_triesOf_17 : decode cRR_triesOf 17 = .ok (.ireturn, 1) := by decide +kernel
theorem dLW_cell_0 : decode cLW_cell 0 = .ok (.iload_n 1, 1) := by decide +kernel
theorem dLW_cell_1 : decode cLW_cell 1 = .ok (.aload_n 0, 1) := by decide +kernel
theorem dLW_cell_2 : decode cLW_cell 2 = .ok (.arraylength, 1) := by decide +kernel
theorem dLW_cell_3 : decode cLW_cell 3 = .ok (.if_icmp .ge 9, 3) := by decide +kernel
theorem dLW_cell_6 : decode cLW_cell 6 = .ok (.aload_n 0, 1) := by decide +kernel
theorem dLW_cell_7 : decode cLW_cell 7 = .ok (.iload_n 1, 1) := by decide +kernel
theorem dLW_cell_8 : decode cLW_cell 8 = .ok (.iaload, 1) := by decide +kernel
theorem dLW_cell_9 : decode cLW_cell 9 = .ok (.goto 4, 3) := by decide +kernel
theorem dLW_cell_12 : decode cLW_cell 12 = .ok (.iconst 0, 1) := by decide +kernel
theorem dLW_cell_13 : decode cLW_cell 13 = .ok (.ireturn, 1) := by decide +kernel
theorem dMO_init_0 : decode cMO_init 0 = .ok (.aload_n 0, 1) := by decide +kernel
theorem dMO_init_1 : decode cMO_init 1 = .ok (.invokespecial 1, 3) := by decide +kernel
theorem dMO_init_4 : decode cMO_init 4 = .ok (.aload_n 0, 1) := by decide +kernel
theorem dMO_init_5 : decode cMO_init 5 = .ok (.bipush 24, 2) := by decide +kernel
theorem dMO_init_7 : decode cMO_init 7 = .ok (.newarray .int, 2) := by decide +kernel
theorem dMO_init_9 : decode cMO_init 9 = .ok (.putfield 7, 3) := by decide +kernel
theorem dMO_init_12 : decode cMO_init 12 = .ok (.aload_n 0, 1) := by decide +kernel
theorem dMO_init_13 : decode cMO_init 13 = .ok (.bipush 24, 2) := by decide +kernel
theorem dMO_init_15 : decode cMO_init 15 = .ok (.newarray .int, 2) := by decide +kernel
theorem dMO_init_17 : decode cMO_init 17 = .ok (.putfield 13, 3) := by decide +kernel
theorem dMO_init_20 : decode cMO_init 20 = .ok (.aload_n 0, 1) := by decide +kernel
theorem dMO_init_21 : decode cMO_init 21 = .ok (.bipush 24, 2) := by decide +kernel
theorem dMO_init_23 : decode cMO_init 23 = .ok (.newarray .int, 2) := by decide +kernel
theorem dMO_init_25 : decode cMO_init 25 = .ok (.putfield 16, 3) := by decide +kernel
theorem dMO_init_28 : decode cMO_init 28 = .ok (.aload_n 0, 1) := by decide +kernel
theorem dMO_init_29 : decode cMO_init 29 = .ok (.iconst 4, 1) := by decide +kernel
theorem dMO_init_30 : decode cMO_init 30 = .ok (.newarray .int, 2) := by decide +kernel
theorem dMO_init_32 : decode cMO_init 32 = .ok (.putfield 19, 3) := by decide +kernel
theorem dMO_init_35 : decode cMO_init 35 = .ok (.aload_n 0, 1) := by decide +kernel
theorem dMO_init_36 : decode cMO_init 36 = .ok (.bipush 24, 2) := by decide +kernel
theorem dMO_init_38 : decode cMO_init 38 = .ok (.newarray .int, 2) := by decide +kernel
theorem dMO_init_40 : decode cMO_init 40 = .ok (.putfield 22, 3) := by decide +kernel
theorem dMO_init_43 : decode cMO_init 43 = .ok (.aload_n 0, 1) := by decide +kernel
theorem dMO_init_44 : decode cMO_init 44 = .ok (.bipush 24, 2) := by decide +kernel
theorem dMO_init_46 : decode cMO_init 46 = .ok (.newarray .boolean, 2) := by decide +kernel
theorem dMO_init_48 : decode cMO_init 48 = .ok (.putfield 25, 3) := by decide +kernel
theorem dMO_init_51 : decode cMO_init 51 = .ok (.aload_n 0, 1) := by decide +kernel
theorem dMO_init_52 : decode cMO_init 52 = .ok (.bipush 24, 2) := by decide +kernel
theorem dMO_init_54 : decode cMO_init 54 = .ok (.newarray .boolean, 2) := by decide +kernel
theorem dMO_init_56 : decode cMO_init 56 = .ok (.putfield 29, 3) := by decide +kernel
theorem dMO_init_59 : decode cMO_init 59 = .ok (.aload_n 0, 1) := by decide +kernel
theorem dMO_init_60 : decode cMO_init 60 = .ok (.bipush 24, 2) := by decide +kernel
theorem dMO_init_62 : decode cMO_init 62 = .ok (.newarray .int, 2) := by decide +kernel
theorem dMO_init_64 : decode cMO_init 64 = .ok (.putfield 32, 3) := by decide +kernel
theorem dMO_init_67 : decode cMO_init 67 = .ok (.aload_n 0, 1) := by decide +kernel
theorem dMO_init_68 : decode cMO_init 68 = .ok (.bipush 24, 2) := by decide +kernel
theorem dMO_init_70 : decode cMO_init 70 = .ok (.newarray .int, 2) := by decide +kernel
theorem dMO_init_72 : decode cMO_init 72 = .ok (.putfield 35, 3) := by decide +kernel
theorem dMO_init_75 : decode cMO_init 75 = .ok (.aload_n 0, 1) := by decide +kernel
theorem dMO_init_76 : decode cMO_init 76 = .ok (.bipush 24, 2) := by decide +kernel
theorem dMO_init_78 : decode cMO_init 78 = .ok (.newarray .int, 2) := by decide +kernel
theorem dMO_init_80 : decode cMO_init 80 = .ok (.putfield 38, 3) := by decide +kernel
theorem dMO_init_83 : decode cMO_init 83 = .ok (.aload_n 0, 1) := by decide +kernel
theorem dMO_init_84 : decode cMO_init 84 = .ok (.bipush 24, 2) := by decide +kernel
theorem dMO_init_86 : decode cMO_init 86 = .ok (.newarray .int, 2) := by decide +kernel
theorem dMO_init_88 : decode cMO_init 88 = .ok (.putfield 41, 3) := by decide +kernel
theorem dMO_init_91 : decode cMO_init 91 = .ok (.aload_n 0, 1) := by decide +kernel
theorem dMO_init_92 : decode cMO_init 92 = .ok (.bipush 24, 2) := by decide +kernel
theorem dMO_init_94 : decode cMO_init 94 = .ok (.newarray .int, 2) := by decide +kernel
theorem dMO_init_96 : decode cMO_init 96 = .ok (.putfield 44, 3) := by decide +kernel
theorem dMO_init_99 : decode cMO_init 99 = .ok (.aload_n 0, 1) := by decide +kernel
theorem dMO_init_100 : decode cMO_init 100 = .ok (.bipush 24, 2) := by decide +kernel
theorem dMO_init_102 : decode cMO_init 102 = .ok (.newarray .int, 2) := by decide +kernel
theorem dMO_init_104 : decode cMO_init 104 = .ok (.putfield 47, 3) := by decide +kernel
theorem dMO_init_107 : decode cMO_init 107 = .ok (.aload_n 0, 1) := by decide +kernel
theorem dMO_init_108 : decode cMO_init 108 = .ok (.bipush 24, 2) := by decide +kernel
theorem dMO_init_110 : decode cMO_init 110 = .ok (.newarray .boolean, 2) := by decide +kernel
theorem dMO_init_112 : decode cMO_init 112 = .ok (.putfield 50, 3) := by decide +kernel
theorem dMO_init_115 : decode cMO_init 115 = .ok (.aload_n 0, 1) := by decide +kernel
theorem dMO_init_116 : decode cMO_init 116 = .ok (.iload_n 1, 1) := by decide +kernel
theorem dMO_init_117 : decode cMO_init 117 = .ok (.iconst 1, 1) := by decide +kernel
theorem dMO_init_118 : decode cMO_init 118 = .ok (.if_icmp .ge 7, 3) := by decide +kernel
theorem dMO_init_121 : decode cMO_init 121 = .ok (.iconst 1, 1) := by decide +kernel
theorem dMO_init_122 : decode cMO_init 122 = .ok (.goto 13, 3) := by decide +kernel
theorem dMO_init_125 : decode cMO_init 125 = .ok (.iload_n 1, 1) := by decide +kernel
theorem dMO_init_126 : decode cMO_init 126 = .ok (.iconst 4, 1) := by decide +kernel
theorem dMO_init_127 : decode cMO_init 127 = .ok (.if_icmp .le 7, 3) := by decide +kernel
theorem dMO_init_130 : decode cMO_init 130 = .ok (.iconst 4, 1) := by decide +kernel
theorem dMO_init_131 : decode cMO_init 131 = .ok (.goto 4, 3) := by decide +kernel
theorem dMO_init_134 : decode cMO_init 134 = .ok (.iload_n 1, 1) := by decide +kernel
theorem dMO_init_135 : decode cMO_init 135 = .ok (.putfield 53, 3) := by decide +kernel
theorem dMO_init_138 : decode cMO_init 138 = .ok (.iconst 0, 1) := by decide +kernel
theorem dMO_init_139 : decode cMO_init 139 = .ok (.istore_n 2, 1) := by decide +kernel
theorem dMO_init_140 : decode cMO_init 140 = .ok (.iload_n 2, 1) := by decide +kernel
theorem dMO_init_141 : decode cMO_init 141 = .ok (.bipush 24, 2) := by decide +kernel
theorem dMO_init_143 : decode cMO_init 143 = .ok (.if_icmp .ge 16, 3) := by decide +kernel
theorem dMO_init_146 : decode cMO_init 146 = .ok (.aload_n 0, 1) := by decide +kernel
theorem dMO_init_147 : decode cMO_init 147 = .ok (.getfield 16, 3) := by decide +kernel
theorem dMO_init_150 : decode cMO_init 150 = .ok (.iload_n 2, 1) := by decide +kernel
theorem dMO_init_151 : decode cMO_init 151 = .ok (.iconst (-1), 1) := by decide +kernel
theorem dMO_init_152 : decode cMO_init 152 = .ok (.iastore, 1) := by decide +kernel
theorem dMO_init_153 : decode cMO_init 153 = .ok (.iinc 2 1, 3) := by decide +kernel
theorem dMO_init_156 : decode cMO_init 156 = .ok (.goto (-16), 3) := by decide +kernel
theorem dMO_init_159 : decode cMO_init 159 = .ok (.return_, 1) := by decide +kernel
theorem dMO_test_0 : decode cMO_test 0 = .ok (.aload_n 0, 1) := by decide +kernel
theorem dMO_test_1 : decode cMO_test 1 = .ok (.iconst 0, 1) := by decide +kernel
theorem dMO_test_2 : decode cMO_test 2 = .ok (.putfield 57, 3) := by decide +kernel
theorem dMO_test_5 : decode cMO_test 5 = .ok (.aload_n 0, 1) := by decide +kernel
theorem dMO_test_6 : decode cMO_test 6 = .ok (.getfield 60, 3) := by decide +kernel
theorem dMO_test_9 : decode cMO_test 9 = .ok (.bipush 24, 2) := by decide +kernel
theorem dMO_test_11 : decode cMO_test 11 = .ok (.if_icmp .eq 10, 3) := by decide +kernel
theorem dMO_test_14 : decode cMO_test 14 = .ok (.iload_n 1, 1) := by decide +kernel
theorem dMO_test_15 : decode cMO_test 15 = .ok (.invokestatic 64, 3) := by decide +kernel
theorem dMO_test_18 : decode cMO_test 18 = .ok (.ifCond .ne 5, 3) := by decide +kernel
theorem dMO_test_21 : decode cMO_test 21 = .ok (.iconst (-1), 1) := by decide +kernel
theorem dMO_test_22 : decode cMO_test 22 = .ok (.ireturn, 1) := by decide +kernel
theorem dMO_test_23 : decode cMO_test 23 = .ok (.aload_n 0, 1) := by decide +kernel
theorem dMO_test_24 : decode cMO_test 24 = .ok (.getfield 7, 3) := by decide +kernel
theorem dMO_test_27 : decode cMO_test 27 = .ok (.aload_n 0, 1) := by decide +kernel
theorem dMO_test_28 : decode cMO_test 28 = .ok (.getfield 60, 3) := by decide +kernel
theorem dMO_test_31 : decode cMO_test 31 = .ok (.iload_n 1, 1) := by decide +kernel
theorem dMO_test_32 : decode cMO_test 32 = .ok (.iastore, 1) := by decide +kernel
theorem dMO_test_33 : decode cMO_test 33 = .ok (.aload_n 0, 1) := by decide +kernel
theorem dMO_test_34 : decode cMO_test 34 = .ok (.getfield 13, 3) := by decide +kernel
theorem dMO_test_37 : decode cMO_test 37 = .ok (.aload_n 0, 1) := by decide +kernel
theorem dMO_test_38 : decode cMO_test 38 = .ok (.getfield 60, 3) := by decide +kernel
theorem dMO_test_41 : decode cMO_test 41 = .ok (.aload_n 0, 1) := by decide +kernel
theorem dMO_test_42 : decode cMO_test 42 = .ok (.getfield 60, 3) := by decide +kernel
theorem dMO_test_45 : decode cMO_test 45 = .ok (.iastore, 1) := by decide +kernel
theorem dMO_test_46 : decode cMO_test 46 = .ok (.aload_n 0, 1) := by decide +kernel
theorem dMO_test_47 : decode cMO_test 47 = .ok (.dup, 1) := by decide +kernel
theorem dMO_test_48 : decode cMO_test 48 = .ok (.getfield 60, 3) := by decide +kernel
theorem dMO_test_51 : decode cMO_test 51 = .ok (.iconst 1, 1) := by decide +kernel
theorem dMO_test_52 : decode cMO_test 52 = .ok (.iadd, 1) := by decide +kernel
theorem dMO_test_53 : decode cMO_test 53 = .ok (.putfield 60, 3) := by decide +kernel
theorem dMO_test_56 : decode cMO_test 56 = .ok (.aload_n 0, 1) := by decide +kernel
theorem dMO_test_57 : decode cMO_test 57 = .ok (.getfield 60, 3) := by decide +kernel
theorem dMO_test_60 : decode cMO_test 60 = .ok (.iconst 1, 1) := by decide +kernel
theorem dMO_test_61 : decode cMO_test 61 = .ok (.isub, 1) := by decide +kernel
theorem dMO_test_62 : decode cMO_test 62 = .ok (.ireturn, 1) := by decide +kernel
theorem dMO_isTime_0 : decode cMO_isTime 0 = .ok (.iload_n 0, 1) := by decide +kernel
theorem dMO_isTime_1 : decode cMO_isTime 1 = .ok (.ifCond .lt 13, 3) := by decide +kernel
theorem dMO_isTime_4 : decode cMO_isTime 4 = .ok (.iload_n 0, 1) := by decide +kernel
theorem dMO_isTime_5 : decode cMO_isTime 5 = .ok (.ldc 63, 2) := by decide +kernel
theorem dMO_isTime_7 : decode cMO_isTime 7 = .ok (.if_icmp .gt 7, 3) := by decide +kernel
theorem dMO_isTime_10 : decode cMO_isTime 10 = .ok (.iconst 1, 1) := by decide +kernel
theorem dMO_isTime_11 : decode cMO_isTime 11 = .ok (.goto 4, 3) := by decide +kernel
theorem dMO_isTime_14 : decode cMO_isTime 14 = .ok (.iconst 0, 1) := by decide +kernel
theorem dMO_isTime_15 : decode cMO_isTime 15 = .ok (.ireturn, 1) := by decide +kernel
theorem dMO_time_0 : decode cMO_time 0 = .ok (.aload_n 0, 1) := by decide +kernel
theorem dMO_time_1 : decode cMO_time 1 = .ok (.iconst 0, 1) := by decide +kernel
theorem dMO_time_2 : decode cMO_time 2 = .ok (.putfield 57, 3) := by decide +kernel
theorem dMO_time_5 : decode cMO_time 5 = .ok (.aload_n 0, 1) := by decide +kernel
theorem dMO_time_6 : decode cMO_time 6 = .ok (.iload_n 1, 1) := by decide +kernel
theorem dMO_time_7 : decode cMO_time 7 = .ok (.invokevirtual 68, 3) := by decide +kernel
theorem dMO_time_10 : decode cMO_time 10 = .ok (.ifCond .eq 10, 3) := by decide +kernel
theorem dMO_time_13 : decode cMO_time 13 = .ok (.iload_n 2, 1) := by decide +kernel
theorem dMO_time_14 : decode cMO_time 14 = .ok (.invokestatic 64, 3) := by decide +kernel
theorem dMO_time_17 : decode cMO_time 17 = .ok (.ifCond .ne 5, 3) := by decide +kernel
theorem dMO_time_20 : decode cMO_time 20 = .ok (.iconst 0, 1) := by decide +kernel
theorem dMO_time_21 : decode cMO_time 21 = .ok (.ireturn, 1) := by decide +kernel
theorem dMO_time_22 : decode cMO_time 22 = .ok (.aload_n 0, 1) := by decide +kernel
theorem dMO_time_23 : decode cMO_time 23 = .ok (.getfield 7, 3) := by decide +kernel
theorem dMO_time_26 : decode cMO_time 26 = .ok (.iload_n 1, 1) := by decide +kernel
theorem dMO_time_27 : decode cMO_time 27 = .ok (.iload_n 2, 1) := by decide +kernel
theorem dMO_time_28 : decode cMO_time 28 = .ok (.iastore, 1) := by decide +kernel
theorem dMO_time_29 : decode cMO_time 29 = .ok (.iconst 1, 1) := by decide +kernel
theorem dMO_time_30 : decode cMO_time 30 = .ok (.ireturn, 1) := by decide +kernel
theorem dMO_isTest_0 : decode cMO_isTest 0 = .ok (.iload_n 1, 1) := by decide +kernel
theorem dMO_isTest_1 : decode cMO_isTest 1 = .ok (.ifCond .lt 15, 3) := by decide +kernel
theorem dMO_isTest_4 : decode cMO_isTest 4 = .ok (.iload_n 1, 1) := by decide +kernel
theorem dMO_isTest_5 : decode cMO_isTest 5 = .ok (.aload_n 0, 1) := by decide +kernel
theorem dMO_isTest_6 : decode cMO_isTest 6 = .ok (.getfield 60, 3) := by decide +kernel
theorem dMO_isTest_9 : decode cMO_isTest 9 = .ok (.if_icmp .ge 7, 3) := by decide +kernel
theorem dMO_isTest_12 : decode cMO_isTest 12 = .ok (.iconst 1, 1) := by decide +kernel
theorem dMO_isTest_13 : decode cMO_isTest 13 = .ok (.goto 4, 3) := by decide +kernel
theorem dMO_isTest_16 : decode cMO_isTest 16 = .ok (.iconst 0, 1) := by decide +kernel
theorem dMO_isTest_17 : decode cMO_isTest 17 = .ok (.ireturn, 1) := by decide +kernel
theorem dMO_join_0 : decode cMO_join 0 = .ok (.aload_n 0, 1) := by decide +kernel
theorem dMO_join_1 : decode cMO_join 1 = .ok (.iconst 0, 1) := by decide +kernel
theorem dMO_join_2 : decode cMO_join 2 = .ok (.putfield 57, 3) := by decide +kernel
theorem dMO_join_5 : decode cMO_join 5 = .ok (.aload_n 0, 1) := by decide +kernel
theorem dMO_join_6 : decode cMO_join 6 = .ok (.iload_n 1, 1) := by decide +kernel
theorem dMO_join_7 : decode cMO_join 7 = .ok (.invokevirtual 68, 3) := by decide +kernel
theorem dMO_join_10 : decode cMO_join 10 = .ok (.ifCond .eq 26, 3) := by decide +kernel
theorem dMO_join_13 : decode cMO_join 13 = .ok (.aload_n 0, 1) := by decide +kernel
theorem dMO_join_14 : decode cMO_join 14 = .ok (.iload_n 2, 1) := by decide +kernel
theorem dMO_join_15 : decode cMO_join 15 = .ok (.invokevirtual 68, 3) := by decide +kernel
theorem dMO_join_18 : decode cMO_join 18 = .ok (.ifCond .eq 18, 3) := by decide +kernel
theorem dMO_join_21 : decode cMO_join 21 = .ok (.aload_n 0, 1) := by decide +kernel
theorem dMO_join_22 : decode cMO_join 22 = .ok (.getfield 13, 3) := by decide +kernel
theorem dMO_join_25 : decode cMO_join 25 = .ok (.iload_n 1, 1) := by decide +kernel
theorem dMO_join_26 : decode cMO_join 26 = .ok (.iaload, 1) := by decide +kernel
theorem dMO_join_27 : decode cMO_join 27 = .ok (.aload_n 0, 1) := by decide +kernel
theorem dMO_join_28 : decode cMO_join 28 = .ok (.getfield 13, 3) := by decide +kernel
theorem dMO_join_31 : decode cMO_join 31 = .ok (.iload_n 2, 1) := by decide +kernel
theorem dMO_join_32 : decode cMO_join 32 = .ok (.iaload, 1) := by decide +kernel
theorem dMO_join_33 : decode cMO_join 33 = .ok (.if_icmp .ne 5, 3) := by decide +kernel
theorem dMO_join_36 : decode cMO_join 36 = .ok (.iconst 0, 1) := by decide +kernel
theorem dMO_join_37 : decode cMO_join 37 = .ok (.ireturn, 1) := by decide +kernel
theorem dMO_join_38 : decode cMO_join 38 = .ok (.aload_n 0, 1) := by decide +kernel
theorem dMO_join_39 : decode cMO_join 39 = .ok (.getfield 13, 3) := by decide +kernel
theorem dMO_join_42 : decode cMO_join 42 = .ok (.iload_n 1, 1) := by decide +kernel
theorem dMO_join_43 : decode cMO_join 43 = .ok (.iaload, 1) := by decide +kernel
theorem dMO_join_44 : decode cMO_join 44 = .ok (.aload_n 0, 1) := by decide +kernel
theorem dMO_join_45 : decode cMO_join 45 = .ok (.getfield 13, 3) := by decide +kernel
theorem dMO_join_48 : decode cMO_join 48 = .ok (.iload_n 2, 1) := by decide +kernel
theorem dMO_join_49 : decode cMO_join 49 = .ok (.iaload, 1) := by decide +kernel
theorem dMO_join_50 : decode cMO_join 50 = .ok (.if_icmp .ge 12, 3) := by decide +kernel
theorem dMO_join_53 : decode cMO_join 53 = .ok (.aload_n 0, 1) := by decide +kernel
theorem dMO_join_54 : decode cMO_join 54 = .ok (.getfield 13, 3) := by decide +kernel
theorem dMO_join_57 : decode cMO_join 57 = .ok (.iload_n 1, 1) := by decide +kernel
theorem dMO_join_58 : decode cMO_join 58 = .ok (.iaload, 1) := by decide +kernel
theorem dMO_join_59 : decode cMO_join 59 = .ok (.goto 9, 3) := by decide +kernel
theorem dMO_join_62 : decode cMO_join 62 = .ok (.aload_n 0, 1) := by decide +kernel
theorem dMO_join_63 : decode cMO_join 63 = .ok (.getfield 13, 3) := by decide +kernel
theorem dMO_join_66 : decode cMO_join 66 = .ok (.iload_n 2, 1) := by decide +kernel
theorem dMO_join_67 : decode cMO_join 67 = .ok (.iaload, 1) := by decide +kernel
theorem dMO_join_68 : decode cMO_join 68 = .ok (.istore_n 3, 1) := by decide +kernel
theorem dMO_join_69 : decode cMO_join 69 = .ok (.aload_n 0, 1) := by decide +kernel
theorem dMO_join_70 : decode cMO_join 70 = .ok (.getfield 13, 3) := by decide +kernel
theorem dMO_join_73 : decode cMO_join 73 = .ok (.iload_n 1, 1) := by decide +kernel
theorem dMO_join_74 : decode cMO_join 74 = .ok (.iaload, 1) := by decide +kernel
theorem dMO_join_75 : decode cMO_join 75 = .ok (.aload_n 0, 1) := by decide +kernel
theorem dMO_join_76 : decode cMO_join 76 = .ok (.getfield 13, 3) := by decide +kernel
theorem dMO_join_79 : decode cMO_join 79 = .ok (.iload_n 2, 1) := by decide +kernel
theorem dMO_join_80 : decode cMO_join 80 = .ok (.iaload, 1) := by decide +kernel
theorem dMO_join_81 : decode cMO_join 81 = .ok (.iadd, 1) := by decide +kernel
theorem dMO_join_82 : decode cMO_join 82 = .ok (.iload_n 3, 1) := by decide +kernel
theorem dMO_join_83 : decode cMO_join 83 = .ok (.isub, 1) := by decide +kernel
theorem dMO_join_84 : decode cMO_join 84 = .ok (.istore 4, 2) := by decide +kernel
theorem dMO_join_86 : decode cMO_join 86 = .ok (.iconst 0, 1) := by decide +kernel
theorem dMO_join_87 : decode cMO_join 87 = .ok (.istore 5, 2) := by decide +kernel
theorem dMO_join_89 : decode cMO_join 89 = .ok (.iload 5, 2) := by decide +kernel
theorem dMO_join_91 : decode cMO_join 91 = .ok (.aload_n 0, 1) := by decide +kernel
theorem dMO_join_92 : decode cMO_join 92 = .ok (.getfield 60, 3) := by decide +kernel
theorem dMO_join_95 : decode cMO_join 95 = .ok (.if_icmp .ge 39, 3) := by decide +kernel
theorem dMO_join_98 : decode cMO_join 98 = .ok (.aload_n 0, 1) := by decide +kernel
theorem dMO_join_99 : decode cMO_join 99 = .ok (.getfield 13, 3) := by decide +kernel
theorem dMO_join_102 : decode cMO_join 102 = .ok (.iload 5, 2) := by decide +kernel
theorem dMO_join_104 : decode cMO_join 104 = .ok (.aload_n 0, 1) := by decide +kernel
theorem dMO_join_105 : decode cMO_join 105 = .ok (.getfield 13, 3) := by decide +kernel
theorem dMO_join_108 : decode cMO_join 108 = .ok (.iload 5, 2) := by decide +kernel
theorem dMO_join_110 : decode cMO_join 110 = .ok (.iaload, 1) := by decide +kernel
theorem dMO_join_111 : decode cMO_join 111 = .ok (.iload 4, 2) := by decide +kernel
theorem dMO_join_113 : decode cMO_join 113 = .ok (.if_icmp .ne 7, 3) := by decide +kernel
theorem dMO_join_116 : decode cMO_join 116 = .ok (.iload_n 3, 1) := by decide +kernel
theorem dMO_join_117 : decode cMO_join 117 = .ok (.goto 10, 3) := by decide +kernel
theorem dMO_join_120 : decode cMO_join 120 = .ok (.aload_n 0, 1) := by decide +kernel
theorem dMO_join_121 : decode cMO_join 121 = .ok (.getfield 13, 3) := by decide +kernel
theorem dMO_join_124 : decode cMO_join 124 = .ok (.iload 5, 2) := by decide +kernel
theorem dMO_join_126 : decode cMO_join 126 = .ok (.iaload, 1) := by decide +kernel
theorem dMO_join_127 : decode cMO_join 127 = .ok (.iastore, 1) := by decide +kernel
theorem dMO_join_128 : decode cMO_join 128 = .ok (.iinc 5 1, 3) := by decide +kernel
theorem dMO_join_131 : decode cMO_join 131 = .ok (.goto (-42), 3) := by decide +kernel
theorem dMO_join_134 : decode cMO_join 134 = .ok (.iconst 1, 1) := by decide +kernel
theorem dMO_join_135 : decode cMO_join 135 = .ok (.ireturn, 1) := by decide +kernel
theorem dMO_shards_0 : decode cMO_shards 0 = .ok (.aload_n 0, 1) := by decide +kernel
theorem dMO_shards_1 : decode cMO_shards 1 = .ok (.iconst 0, 1) := by decide +kernel
theorem dMO_shards_2 : decode cMO_shards 2 = .ok (.putfield 57, 3) := by decide +kernel
theorem dMO_shards_5 : decode cMO_shards 5 = .ok (.iload_n 1, 1) := by decide +kernel
theorem dMO_shards_6 : decode cMO_shards 6 = .ok (.iconst 1, 1) := by decide +kernel
theorem dMO_shards_7 : decode cMO_shards 7 = .ok (.if_icmp .lt 8, 3) := by decide +kernel
theorem dMO_shards_10 : decode cMO_shards 10 = .ok (.iload_n 1, 1) := by decide +kernel
theorem dMO_shards_11 : decode cMO_shards 11 = .ok (.iconst 4, 1) := by decide +kernel
theorem dMO_shards_12 : decode cMO_shards 12 = .ok (.if_icmp .le 5, 3) := by decide +kernel
theorem dMO_shards_15 : decode cMO_shards 15 = .ok (.iconst 0, 1) := by decide +kernel
theorem dMO_shards_16 : decode cMO_shards 16 = .ok (.ireturn, 1) := by decide +kernel
end
section
theorem dMO_shards_17 : decode cMO_shards 17 = .ok (.aload_n 0, 1) := by decide +kernel
theorem dMO_shards_18 : decode cMO_shards 18 = .ok (.iload_n 1, 1) := by decide +kernel
theorem dMO_shards_19 : decode cMO_shards 19 = .ok (.putfield 53, 3) := by decide +kernel
theorem dMO_shards_22 : decode cMO_shards 22 = .ok (.iconst 1, 1) := by decide +kernel
theorem dMO_shards_23 : decode cMO_shards 23 = .ok (.ireturn, 1) := by decide +kernel
theorem dMO_mean_0 : decode cMO_mean 0 = .ok (.aload_n 0, 1) := by decide +kernel
theorem dMO_mean_1 : decode cMO_mean 1 = .ok (.iconst 0, 1) := by decide +kernel
theorem dMO_mean_2 : decode cMO_mean 2 = .ok (.putfield 57, 3) := by decide +kernel
theorem dMO_mean_5 : decode cMO_mean 5 = .ok (.iconst 0, 1) := by decide +kernel
theorem dMO_mean_6 : decode cMO_mean 6 = .ok (.istore_n 1, 1) := by decide +kernel
theorem dMO_mean_7 : decode cMO_mean 7 = .ok (.iconst 0, 1) := by decide +kernel
theorem dMO_mean_8 : decode cMO_mean 8 = .ok (.istore_n 2, 1) := by decide +kernel
theorem dMO_mean_9 : decode cMO_mean 9 = .ok (.iconst 0, 1) := by decide +kernel
theorem dMO_mean_10 : decode cMO_mean 10 = .ok (.istore_n 3, 1) := by decide +kernel
theorem dMO_mean_11 : decode cMO_mean 11 = .ok (.iload_n 3, 1) := by decide +kernel
theorem dMO_mean_12 : decode cMO_mean 12 = .ok (.aload_n 0, 1) := by decide +kernel
theorem dMO_mean_13 : decode cMO_mean 13 = .ok (.getfield 60, 3) := by decide +kernel
theorem dMO_mean_16 : decode cMO_mean 16 = .ok (.if_icmp .ge 35, 3) := by decide +kernel
theorem dMO_mean_19 : decode cMO_mean 19 = .ok (.iload_n 1, 1) := by decide +kernel
theorem dMO_mean_20 : decode cMO_mean 20 = .ok (.aload_n 0, 1) := by decide +kernel
theorem dMO_mean_21 : decode cMO_mean 21 = .ok (.getfield 7, 3) := by decide +kernel
theorem dMO_mean_24 : decode cMO_mean 24 = .ok (.iload_n 3, 1) := by decide +kernel
theorem dMO_mean_25 : decode cMO_mean 25 = .ok (.iaload, 1) := by decide +kernel
theorem dMO_mean_26 : decode cMO_mean 26 = .ok (.iadd, 1) := by decide +kernel
theorem dMO_mean_27 : decode cMO_mean 27 = .ok (.istore_n 1, 1) := by decide +kernel
theorem dMO_mean_28 : decode cMO_mean 28 = .ok (.iload_n 2, 1) := by decide +kernel
theorem dMO_mean_29 : decode cMO_mean 29 = .ok (.aload_n 0, 1) := by decide +kernel
theorem dMO_mean_30 : decode cMO_mean 30 = .ok (.getfield 7, 3) := by decide +kernel
theorem dMO_mean_33 : decode cMO_mean 33 = .ok (.iload_n 3, 1) := by decide +kernel
theorem dMO_mean_34 : decode cMO_mean 34 = .ok (.iaload, 1) := by decide +kernel
theorem dMO_mean_35 : decode cMO_mean 35 = .ok (.ifCond .le 7, 3) := by decide +kernel
theorem dMO_mean_38 : decode cMO_mean 38 = .ok (.iconst 1, 1) := by decide +kernel
theorem dMO_mean_39 : decode cMO_mean 39 = .ok (.goto 4, 3) := by decide +kernel
theorem dMO_mean_42 : decode cMO_mean 42 = .ok (.iconst 0, 1) := by decide +kernel
theorem dMO_mean_43 : decode cMO_mean 43 = .ok (.iadd, 1) := by decide +kernel
theorem dMO_mean_44 : decode cMO_mean 44 = .ok (.istore_n 2, 1) := by decide +kernel
theorem dMO_mean_45 : decode cMO_mean 45 = .ok (.iinc 3 1, 3) := by decide +kernel
theorem dMO_mean_48 : decode cMO_mean 48 = .ok (.goto (-37), 3) := by decide +kernel
theorem dMO_mean_51 : decode cMO_mean 51 = .ok (.iload_n 2, 1) := by decide +kernel
theorem dMO_mean_52 : decode cMO_mean 52 = .ok (.ifCond .ne 7, 3) := by decide +kernel
theorem dMO_mean_55 : decode cMO_mean 55 = .ok (.iconst 1, 1) := by decide +kernel
theorem dMO_mean_56 : decode cMO_mean 56 = .ok (.goto 10, 3) := by decide +kernel
theorem dMO_mean_59 : decode cMO_mean 59 = .ok (.iload_n 1, 1) := by decide +kernel
theorem dMO_mean_60 : decode cMO_mean 60 = .ok (.iload_n 2, 1) := by decide +kernel
theorem dMO_mean_61 : decode cMO_mean 61 = .ok (.iadd, 1) := by decide +kernel
theorem dMO_mean_62 : decode cMO_mean 62 = .ok (.iconst 1, 1) := by decide +kernel
theorem dMO_mean_63 : decode cMO_mean 63 = .ok (.isub, 1) := by decide +kernel
theorem dMO_mean_64 : decode cMO_mean 64 = .ok (.iload_n 2, 1) := by decide +kernel
theorem dMO_mean_65 : decode cMO_mean 65 = .ok (.idiv, 1) := by decide +kernel
theorem dMO_mean_66 : decode cMO_mean 66 = .ok (.ireturn, 1) := by decide +kernel
theorem dMO_groups_0 : decode cMO_groups 0 = .ok (.aload_n 0, 1) := by decide +kernel
theorem dMO_groups_1 : decode cMO_groups 1 = .ok (.iconst 0, 1) := by decide +kernel
theorem dMO_groups_2 : decode cMO_groups 2 = .ok (.putfield 57, 3) := by decide +kernel
theorem dMO_groups_5 : decode cMO_groups 5 = .ok (.iconst 0, 1) := by decide +kernel
theorem dMO_groups_6 : decode cMO_groups 6 = .ok (.istore_n 1, 1) := by decide +kernel
theorem dMO_groups_7 : decode cMO_groups 7 = .ok (.iconst 0, 1) := by decide +kernel
theorem dMO_groups_8 : decode cMO_groups 8 = .ok (.istore_n 2, 1) := by decide +kernel
theorem dMO_groups_9 : decode cMO_groups 9 = .ok (.iload_n 2, 1) := by decide +kernel
theorem dMO_groups_10 : decode cMO_groups 10 = .ok (.aload_n 0, 1) := by decide +kernel
theorem dMO_groups_11 : decode cMO_groups 11 = .ok (.getfield 60, 3) := by decide +kernel
theorem dMO_groups_14 : decode cMO_groups 14 = .ok (.if_icmp .ge 27, 3) := by decide +kernel
theorem dMO_groups_17 : decode cMO_groups 17 = .ok (.iload_n 1, 1) := by decide +kernel
theorem dMO_groups_18 : decode cMO_groups 18 = .ok (.aload_n 0, 1) := by decide +kernel
theorem dMO_groups_19 : decode cMO_groups 19 = .ok (.getfield 13, 3) := by decide +kernel
theorem dMO_groups_22 : decode cMO_groups 22 = .ok (.iload_n 2, 1) := by decide +kernel
theorem dMO_groups_23 : decode cMO_groups 23 = .ok (.iaload, 1) := by decide +kernel
theorem dMO_groups_24 : decode cMO_groups 24 = .ok (.iload_n 2, 1) := by decide +kernel
theorem dMO_groups_25 : decode cMO_groups 25 = .ok (.if_icmp .ne 7, 3) := by decide +kernel
theorem dMO_groups_28 : decode cMO_groups 28 = .ok (.iconst 1, 1) := by decide +kernel
theorem dMO_groups_29 : decode cMO_groups 29 = .ok (.goto 4, 3) := by decide +kernel
theorem dMO_groups_32 : decode cMO_groups 32 = .ok (.iconst 0, 1) := by decide +kernel
theorem dMO_groups_33 : decode cMO_groups 33 = .ok (.iadd, 1) := by decide +kernel
theorem dMO_groups_34 : decode cMO_groups 34 = .ok (.istore_n 1, 1) := by decide +kernel
theorem dMO_groups_35 : decode cMO_groups 35 = .ok (.iinc 2 1, 3) := by decide +kernel
theorem dMO_groups_38 : decode cMO_groups 38 = .ok (.goto (-29), 3) := by decide +kernel
theorem dMO_groups_41 : decode cMO_groups 41 = .ok (.iload_n 1, 1) := by decide +kernel
theorem dMO_groups_42 : decode cMO_groups 42 = .ok (.ireturn, 1) := by decide +kernel
theorem dMO_split_0 : decode cMO_split 0 = .ok (.aload_n 0, 1) := by decide +kernel
theorem dMO_split_1 : decode cMO_split 1 = .ok (.iconst 0, 1) := by decide +kernel
theorem dMO_split_2 : decode cMO_split 2 = .ok (.putfield 57, 3) := by decide +kernel
theorem dMO_split_5 : decode cMO_split 5 = .ok (.aload_n 0, 1) := by decide +kernel
theorem dMO_split_6 : decode cMO_split 6 = .ok (.invokevirtual 92, 3) := by decide +kernel
theorem dMO_split_9 : decode cMO_split 9 = .ok (.iconst 0, 1) := by decide +kernel
theorem dMO_split_10 : decode cMO_split 10 = .ok (.istore_n 1, 1) := by decide +kernel
theorem dMO_split_11 : decode cMO_split 11 = .ok (.iload_n 1, 1) := by decide +kernel
theorem dMO_split_12 : decode cMO_split 12 = .ok (.bipush 24, 2) := by decide +kernel
theorem dMO_split_14 : decode cMO_split 14 = .ok (.if_icmp .ge 21, 3) := by decide +kernel
theorem dMO_split_17 : decode cMO_split 17 = .ok (.aload_n 0, 1) := by decide +kernel
theorem dMO_split_18 : decode cMO_split 18 = .ok (.getfield 22, 3) := by decide +kernel
theorem dMO_split_21 : decode cMO_split 21 = .ok (.iload_n 1, 1) := by decide +kernel
theorem dMO_split_22 : decode cMO_split 22 = .ok (.aload_n 0, 1) := by decide +kernel
theorem dMO_split_23 : decode cMO_split 23 = .ok (.getfield 16, 3) := by decide +kernel
theorem dMO_split_26 : decode cMO_split 26 = .ok (.iload_n 1, 1) := by decide +kernel
theorem dMO_split_27 : decode cMO_split 27 = .ok (.iaload, 1) := by decide +kernel
theorem dMO_split_28 : decode cMO_split 28 = .ok (.iastore, 1) := by decide +kernel
theorem dMO_split_29 : decode cMO_split 29 = .ok (.iinc 1 1, 3) := by decide +kernel
theorem dMO_split_32 : decode cMO_split 32 = .ok (.goto (-21), 3) := by decide +kernel
theorem dMO_split_35 : decode cMO_split 35 = .ok (.aload_n 0, 1) := by decide +kernel
theorem dMO_split_36 : decode cMO_split 36 = .ok (.getfield 75, 3) := by decide +kernel
theorem dMO_split_39 : decode cMO_split 39 = .ok (.bipush 8, 2) := by decide +kernel
theorem dMO_split_41 : decode cMO_split 41 = .ok (.if_icmp .gt 10, 3) := by decide +kernel
theorem dMO_split_44 : decode cMO_split 44 = .ok (.aload_n 0, 1) := by decide +kernel
theorem dMO_split_45 : decode cMO_split 45 = .ok (.invokevirtual 95, 3) := by decide +kernel
theorem dMO_split_48 : decode cMO_split 48 = .ok (.goto 7, 3) := by decide +kernel
theorem dMO_split_51 : decode cMO_split 51 = .ok (.aload_n 0, 1) := by decide +kernel
theorem dMO_split_52 : decode cMO_split 52 = .ok (.invokevirtual 98, 3) := by decide +kernel
theorem dMO_split_55 : decode cMO_split 55 = .ok (.aload_n 0, 1) := by decide +kernel
theorem dMO_split_56 : decode cMO_split 56 = .ok (.invokevirtual 82, 3) := by decide +kernel
theorem dMO_split_59 : decode cMO_split 59 = .ok (.istore_n 1, 1) := by decide +kernel
theorem dMO_split_60 : decode cMO_split 60 = .ok (.aload_n 0, 1) := by decide +kernel
theorem dMO_split_61 : decode cMO_split 61 = .ok (.aload_n 0, 1) := by decide +kernel
theorem dMO_split_62 : decode cMO_split 62 = .ok (.invokevirtual 85, 3) := by decide +kernel
theorem dMO_split_65 : decode cMO_split 65 = .ok (.putfield 101, 3) := by decide +kernel
theorem dMO_split_68 : decode cMO_split 68 = .ok (.iconst 0, 1) := by decide +kernel
theorem dMO_split_69 : decode cMO_split 69 = .ok (.istore_n 2, 1) := by decide +kernel
theorem dMO_split_70 : decode cMO_split 70 = .ok (.iload_n 2, 1) := by decide +kernel
theorem dMO_split_71 : decode cMO_split 71 = .ok (.aload_n 0, 1) := by decide +kernel
theorem dMO_split_72 : decode cMO_split 72 = .ok (.getfield 75, 3) := by decide +kernel
theorem dMO_split_75 : decode cMO_split 75 = .ok (.if_icmp .ge 61, 3) := by decide +kernel
theorem dMO_split_78 : decode cMO_split 78 = .ok (.iconst 0, 1) := by decide +kernel
theorem dMO_split_79 : decode cMO_split 79 = .ok (.istore_n 3, 1) := by decide +kernel
theorem dMO_split_80 : decode cMO_split 80 = .ok (.iload_n 3, 1) := by decide +kernel
theorem dMO_split_81 : decode cMO_split 81 = .ok (.aload_n 0, 1) := by decide +kernel
theorem dMO_split_82 : decode cMO_split 82 = .ok (.getfield 60, 3) := by decide +kernel
theorem dMO_split_85 : decode cMO_split 85 = .ok (.if_icmp .ge 45, 3) := by decide +kernel
theorem dMO_split_88 : decode cMO_split 88 = .ok (.aload_n 0, 1) := by decide +kernel
theorem dMO_split_89 : decode cMO_split 89 = .ok (.getfield 16, 3) := by decide +kernel
theorem dMO_split_92 : decode cMO_split 92 = .ok (.iload_n 3, 1) := by decide +kernel
theorem dMO_split_93 : decode cMO_split 93 = .ok (.aload_n 0, 1) := by decide +kernel
theorem dMO_split_94 : decode cMO_split 94 = .ok (.getfield 13, 3) := by decide +kernel
theorem dMO_split_97 : decode cMO_split 97 = .ok (.iload_n 3, 1) := by decide +kernel
theorem dMO_split_98 : decode cMO_split 98 = .ok (.iaload, 1) := by decide +kernel
theorem dMO_split_99 : decode cMO_split 99 = .ok (.aload_n 0, 1) := by decide +kernel
theorem dMO_split_100 : decode cMO_split 100 = .ok (.getfield 38, 3) := by decide +kernel
theorem dMO_split_103 : decode cMO_split 103 = .ok (.iload_n 2, 1) := by decide +kernel
theorem dMO_split_104 : decode cMO_split 104 = .ok (.iaload, 1) := by decide +kernel
theorem dMO_split_105 : decode cMO_split 105 = .ok (.if_icmp .ne 12, 3) := by decide +kernel
theorem dMO_split_108 : decode cMO_split 108 = .ok (.aload_n 0, 1) := by decide +kernel
theorem dMO_split_109 : decode cMO_split 109 = .ok (.getfield 44, 3) := by decide +kernel
theorem dMO_split_112 : decode cMO_split 112 = .ok (.iload_n 2, 1) := by decide +kernel
theorem dMO_split_113 : decode cMO_split 113 = .ok (.iaload, 1) := by decide +kernel
theorem dMO_split_114 : decode cMO_split 114 = .ok (.goto 9, 3) := by decide +kernel
theorem dMO_split_117 : decode cMO_split 117 = .ok (.aload_n 0, 1) := by decide +kernel
theorem dMO_split_118 : decode cMO_split 118 = .ok (.getfield 16, 3) := by decide +kernel
theorem dMO_split_121 : decode cMO_split 121 = .ok (.iload_n 3, 1) := by decide +kernel
theorem dMO_split_122 : decode cMO_split 122 = .ok (.iaload, 1) := by decide +kernel
theorem dMO_split_123 : decode cMO_split 123 = .ok (.iastore, 1) := by decide +kernel
theorem dMO_split_124 : decode cMO_split 124 = .ok (.iinc 3 1, 3) := by decide +kernel
theorem dMO_split_127 : decode cMO_split 127 = .ok (.goto (-47), 3) := by decide +kernel
theorem dMO_split_130 : decode cMO_split 130 = .ok (.iinc 2 1, 3) := by decide +kernel
theorem dMO_split_133 : decode cMO_split 133 = .ok (.goto (-63), 3) := by decide +kernel
theorem dMO_split_136 : decode cMO_split 136 = .ok (.aload_n 0, 1) := by decide +kernel
theorem dMO_split_137 : decode cMO_split 137 = .ok (.iconst 1, 1) := by decide +kernel
theorem dMO_split_138 : decode cMO_split 138 = .ok (.putfield 104, 3) := by decide +kernel
theorem dMO_split_141 : decode cMO_split 141 = .ok (.aload_n 0, 1) := by decide +kernel
theorem dMO_split_142 : decode cMO_split 142 = .ok (.aload_n 0, 1) := by decide +kernel
theorem dMO_split_143 : decode cMO_split 143 = .ok (.getfield 53, 3) := by decide +kernel
theorem dMO_split_146 : decode cMO_split 146 = .ok (.putfield 108, 3) := by decide +kernel
theorem dMO_split_149 : decode cMO_split 149 = .ok (.aload_n 0, 1) := by decide +kernel
theorem dMO_split_150 : decode cMO_split 150 = .ok (.aload_n 0, 1) := by decide +kernel
theorem dMO_split_151 : decode cMO_split 151 = .ok (.getfield 60, 3) := by decide +kernel
theorem dMO_split_154 : decode cMO_split 154 = .ok (.putfield 111, 3) := by decide +kernel
theorem dMO_split_157 : decode cMO_split 157 = .ok (.aload_n 0, 1) := by decide +kernel
theorem dMO_split_158 : decode cMO_split 158 = .ok (.iconst 0, 1) := by decide +kernel
theorem dMO_split_159 : decode cMO_split 159 = .ok (.putfield 114, 3) := by decide +kernel
theorem dMO_split_162 : decode cMO_split 162 = .ok (.iconst 0, 1) := by decide +kernel
theorem dMO_split_163 : decode cMO_split 163 = .ok (.istore_n 2, 1) := by decide +kernel
theorem dMO_split_164 : decode cMO_split 164 = .ok (.iload_n 2, 1) := by decide +kernel
theorem dMO_split_165 : decode cMO_split 165 = .ok (.bipush 24, 2) := by decide +kernel
theorem dMO_split_167 : decode cMO_split 167 = .ok (.if_icmp .ge 23, 3) := by decide +kernel
theorem dMO_split_170 : decode cMO_split 170 = .ok (.aload_n 0, 1) := by decide +kernel
theorem dMO_split_171 : decode cMO_split 171 = .ok (.getfield 25, 3) := by decide +kernel
theorem dMO_split_174 : decode cMO_split 174 = .ok (.iload_n 2, 1) := by decide +kernel
theorem dMO_split_175 : decode cMO_split 175 = .ok (.iconst 0, 1) := by decide +kernel
theorem dMO_split_176 : decode cMO_split 176 = .ok (.bastore, 1) := by decide +kernel
theorem dMO_split_177 : decode cMO_split 177 = .ok (.aload_n 0, 1) := by decide +kernel
theorem dMO_split_178 : decode cMO_split 178 = .ok (.getfield 32, 3) := by decide +kernel
theorem dMO_split_181 : decode cMO_split 181 = .ok (.iload_n 2, 1) := by decide +kernel
theorem dMO_split_182 : decode cMO_split 182 = .ok (.iconst 0, 1) := by decide +kernel
theorem dMO_split_183 : decode cMO_split 183 = .ok (.iastore, 1) := by decide +kernel
theorem dMO_split_184 : decode cMO_split 184 = .ok (.iinc 2 1, 3) := by decide +kernel
theorem dMO_split_187 : decode cMO_split 187 = .ok (.goto (-23), 3) := by decide +kernel
theorem dMO_split_190 : decode cMO_split 190 = .ok (.iload_n 1, 1) := by decide +kernel
theorem dMO_split_191 : decode cMO_split 191 = .ok (.ireturn, 1) := by decide +kernel
theorem dMO_gathers_0 : decode cMO_gathers 0 = .ok (.aload_n 0, 1) := by decide +kernel
theorem dMO_gathers_1 : decode cMO_gathers 1 = .ok (.invokevirtual 71, 3) := by decide +kernel
theorem dMO_gathers_4 : decode cMO_gathers 4 = .ok (.istore_n 1, 1) := by decide +kernel
theorem dMO_gathers_5 : decode cMO_gathers 5 = .ok (.aload_n 0, 1) := by decide +kernel
theorem dMO_gathers_6 : decode cMO_gathers 6 = .ok (.iconst 0, 1) := by decide +kernel
theorem dMO_gathers_7 : decode cMO_gathers 7 = .ok (.putfield 75, 3) := by decide +kernel
theorem dMO_gathers_10 : decode cMO_gathers 10 = .ok (.iconst 0, 1) := by decide +kernel
theorem dMO_gathers_11 : decode cMO_gathers 11 = .ok (.istore_n 2, 1) := by decide +kernel
theorem dMO_gathers_12 : decode cMO_gathers 12 = .ok (.iload_n 2, 1) := by decide +kernel
theorem dMO_gathers_13 : decode cMO_gathers 13 = .ok (.aload_n 0, 1) := by decide +kernel
theorem dMO_gathers_14 : decode cMO_gathers 14 = .ok (.getfield 60, 3) := by decide +kernel
theorem dMO_gathers_17 : decode cMO_gathers 17 = .ok (.if_icmp .ge 113, 3) := by decide +kernel
theorem dMO_gathers_20 : decode cMO_gathers 20 = .ok (.aload_n 0, 1) := by decide +kernel
theorem dMO_gathers_21 : decode cMO_gathers 21 = .ok (.getfield 13, 3) := by decide +kernel
theorem dMO_gathers_24 : decode cMO_gathers 24 = .ok (.iload_n 2, 1) := by decide +kernel
theorem dMO_gathers_25 : decode cMO_gathers 25 = .ok (.iaload, 1) := by decide +kernel
theorem dMO_gathers_26 : decode cMO_gathers 26 = .ok (.iload_n 2, 1) := by decide +kernel
theorem dMO_gathers_27 : decode cMO_gathers 27 = .ok (.if_icmp .eq 6, 3) := by decide +kernel
theorem dMO_gathers_30 : decode cMO_gathers 30 = .ok (.goto 94, 3) := by decide +kernel
theorem dMO_gathers_33 : decode cMO_gathers 33 = .ok (.aload_n 0, 1) := by decide +kernel
theorem dMO_gathers_34 : decode cMO_gathers 34 = .ok (.getfield 38, 3) := by decide +kernel
theorem dMO_gathers_37 : decode cMO_gathers 37 = .ok (.aload_n 0, 1) := by decide +kernel
theorem dMO_gathers_38 : decode cMO_gathers 38 = .ok (.getfield 75, 3) := by decide +kernel
theorem dMO_gathers_41 : decode cMO_gathers 41 = .ok (.iload_n 2, 1) := by decide +kernel
theorem dMO_gathers_42 : decode cMO_gathers 42 = .ok (.iastore, 1) := by decide +kernel
theorem dMO_gathers_43 : decode cMO_gathers 43 = .ok (.aload_n 0, 1) := by decide +kernel
theorem dMO_gathers_44 : decode cMO_gathers 44 = .ok (.getfield 41, 3) := by decide +kernel
theorem dMO_gathers_47 : decode cMO_gathers 47 = .ok (.aload_n 0, 1) := by decide +kernel
theorem dMO_gathers_48 : decode cMO_gathers 48 = .ok (.getfield 75, 3) := by decide +kernel
theorem dMO_gathers_51 : decode cMO_gathers 51 = .ok (.iconst 0, 1) := by decide +kernel
theorem dMO_gathers_52 : decode cMO_gathers 52 = .ok (.iastore, 1) := by decide +kernel
theorem dMO_gathers_53 : decode cMO_gathers 53 = .ok (.iload_n 2, 1) := by decide +kernel
theorem dMO_gathers_54 : decode cMO_gathers 54 = .ok (.istore_n 3, 1) := by decide +kernel
theorem dMO_gathers_55 : decode cMO_gathers 55 = .ok (.iload_n 3, 1) := by decide +kernel
theorem dMO_gathers_56 : decode cMO_gathers 56 = .ok (.aload_n 0, 1) := by decide +kernel
theorem dMO_gathers_57 : decode cMO_gathers 57 = .ok (.getfield 60, 3) := by decide +kernel
theorem dMO_gathers_60 : decode cMO_gathers 60 = .ok (.if_icmp .ge 54, 3) := by decide +kernel
theorem dMO_gathers_63 : decode cMO_gathers 63 = .ok (.aload_n 0, 1) := by decide +kernel
theorem dMO_gathers_64 : decode cMO_gathers 64 = .ok (.getfield 41, 3) := by decide +kernel
theorem dMO_gathers_67 : decode cMO_gathers 67 = .ok (.aload_n 0, 1) := by decide +kernel
theorem dMO_gathers_68 : decode cMO_gathers 68 = .ok (.getfield 75, 3) := by decide +kernel
theorem dMO_gathers_71 : decode cMO_gathers 71 = .ok (.dup2, 1) := by decide +kernel
theorem dMO_gathers_72 : decode cMO_gathers 72 = .ok (.iaload, 1) := by decide +kernel
theorem dMO_gathers_73 : decode cMO_gathers 73 = .ok (.aload_n 0, 1) := by decide +kernel
theorem dMO_gathers_74 : decode cMO_gathers 74 = .ok (.getfield 13, 3) := by decide +kernel
theorem dMO_gathers_77 : decode cMO_gathers 77 = .ok (.iload_n 3, 1) := by decide +kernel
theorem dMO_gathers_78 : decode cMO_gathers 78 = .ok (.iaload, 1) := by decide +kernel
theorem dMO_gathers_79 : decode cMO_gathers 79 = .ok (.iload_n 2, 1) := by decide +kernel
theorem dMO_gathers_80 : decode cMO_gathers 80 = .ok (.if_icmp .eq 7, 3) := by decide +kernel
theorem dMO_gathers_83 : decode cMO_gathers 83 = .ok (.iconst 0, 1) := by decide +kernel
theorem dMO_gathers_84 : decode cMO_gathers 84 = .ok (.goto 22, 3) := by decide +kernel
theorem dMO_gathers_87 : decode cMO_gathers 87 = .ok (.aload_n 0, 1) := by decide +kernel
theorem dMO_gathers_88 : decode cMO_gathers 88 = .ok (.getfield 7, 3) := by decide +kernel
theorem dMO_gathers_91 : decode cMO_gathers 91 = .ok (.iload_n 3, 1) := by decide +kernel
theorem dMO_gathers_92 : decode cMO_gathers 92 = .ok (.iaload, 1) := by decide +kernel
theorem dMO_gathers_93 : decode cMO_gathers 93 = .ok (.ifCond .le 12, 3) := by decide +kernel
theorem dMO_gathers_96 : decode cMO_gathers 96 = .ok (.aload_n 0, 1) := by decide +kernel
theorem dMO_gathers_97 : decode cMO_gathers 97 = .ok (.getfield 7, 3) := by decide +kernel
theorem dMO_gathers_100 : decode cMO_gathers 100 = .ok (.iload_n 3, 1) := by decide +kernel
theorem dMO_gathers_101 : decode cMO_gathers 101 = .ok (.iaload, 1) := by decide +kernel
theorem dMO_gathers_102 : decode cMO_gathers 102 = .ok (.goto 4, 3) := by decide +kernel
theorem dMO_gathers_105 : decode cMO_gathers 105 = .ok (.iload_n 1, 1) := by decide +kernel
theorem dMO_gathers_106 : decode cMO_gathers 106 = .ok (.iadd, 1) := by decide +kernel
theorem dMO_gathers_107 : decode cMO_gathers 107 = .ok (.iastore, 1) := by decide +kernel
theorem dMO_gathers_108 : decode cMO_gathers 108 = .ok (.iinc 3 1, 3) := by decide +kernel
theorem dMO_gathers_111 : decode cMO_gathers 111 = .ok (.goto (-56), 3) := by decide +kernel
theorem dMO_gathers_114 : decode cMO_gathers 114 = .ok (.aload_n 0, 1) := by decide +kernel
theorem dMO_gathers_115 : decode cMO_gathers 115 = .ok (.dup, 1) := by decide +kernel
theorem dMO_gathers_116 : decode cMO_gathers 116 = .ok (.getfield 75, 3) := by decide +kernel
theorem dMO_gathers_119 : decode cMO_gathers 119 = .ok (.iconst 1, 1) := by decide +kernel
theorem dMO_gathers_120 : decode cMO_gathers 120 = .ok (.iadd, 1) := by decide +kernel
theorem dMO_gathers_121 : decode cMO_gathers 121 = .ok (.putfield 75, 3) := by decide +kernel
theorem dMO_gathers_124 : decode cMO_gathers 124 = .ok (.iinc 2 1, 3) := by decide +kernel
theorem dMO_gathers_127 : decode cMO_gathers 127 = .ok (.goto (-115), 3) := by decide +kernel
theorem dMO_gathers_130 : decode cMO_gathers 130 = .ok (.return_, 1) := by decide +kernel
theorem dMO_exact_0 : decode cMO_exact 0 = .ok (.iconst 0, 1) := by decide +kernel
theorem dMO_exact_1 : decode cMO_exact 1 = .ok (.istore_n 1, 1) := by decide +kernel
theorem dMO_exact_2 : decode cMO_exact 2 = .ok (.iload_n 1, 1) := by decide +kernel
theorem dMO_exact_3 : decode cMO_exact 3 = .ok (.aload_n 0, 1) := by decide +kernel
theorem dMO_exact_4 : decode cMO_exact 4 = .ok (.getfield 75, 3) := by decide +kernel
theorem dMO_exact_7 : decode cMO_exact 7 = .ok (.if_icmp .ge 16, 3) := by decide +kernel
theorem dMO_exact_10 : decode cMO_exact 10 = .ok (.aload_n 0, 1) := by decide +kernel
theorem dMO_exact_11 : decode cMO_exact 11 = .ok (.getfield 44, 3) := by decide +kernel
theorem dMO_exact_14 : decode cMO_exact 14 = .ok (.iload_n 1, 1) := by decide +kernel
theorem dMO_exact_15 : decode cMO_exact 15 = .ok (.iconst 0, 1) := by decide +kernel
theorem dMO_exact_16 : decode cMO_exact 16 = .ok (.iastore, 1) := by decide +kernel
theorem dMO_exact_17 : decode cMO_exact 17 = .ok (.iinc 1 1, 3) := by decide +kernel
theorem dMO_exact_20 : decode cMO_exact 20 = .ok (.goto (-18), 3) := by decide +kernel
theorem dMO_exact_23 : decode cMO_exact 23 = .ok (.iconst (-1), 1) := by decide +kernel
theorem dMO_exact_24 : decode cMO_exact 24 = .ok (.istore_n 1, 1) := by decide +kernel
theorem dMO_exact_25 : decode cMO_exact 25 = .ok (.iconst (-1), 1) := by decide +kernel
theorem dMO_exact_26 : decode cMO_exact 26 = .ok (.istore_n 2, 1) := by decide +kernel
theorem dMO_exact_27 : decode cMO_exact 27 = .ok (.iconst 1, 1) := by decide +kernel
theorem dMO_exact_28 : decode cMO_exact 28 = .ok (.istore_n 3, 1) := by decide +kernel
theorem dMO_exact_29 : decode cMO_exact 29 = .ok (.iload_n 3, 1) := by decide +kernel
theorem dMO_exact_30 : decode cMO_exact 30 = .ok (.ifCond .eq 94, 3) := by decide +kernel
theorem dMO_exact_33 : decode cMO_exact 33 = .ok (.aload_n 0, 1) := by decide +kernel
theorem dMO_exact_34 : decode cMO_exact 34 = .ok (.invokevirtual 82, 3) := by decide +kernel
theorem dMO_exact_37 : decode cMO_exact 37 = .ok (.istore 4, 2) := by decide +kernel
theorem dMO_exact_39 : decode cMO_exact 39 = .ok (.iload_n 1, 1) := by decide +kernel
theorem dMO_exact_40 : decode cMO_exact 40 = .ok (.iconst (-1), 1) := by decide +kernel
theorem dMO_exact_41 : decode cMO_exact 41 = .ok (.if_icmp .eq 9, 3) := by decide +kernel
theorem dMO_exact_44 : decode cMO_exact 44 = .ok (.iload 4, 2) := by decide +kernel
theorem dMO_exact_46 : decode cMO_exact 46 = .ok (.iload_n 1, 1) := by decide +kernel
theorem dMO_exact_47 : decode cMO_exact 47 = .ok (.if_icmp .ge 7, 3) := by decide +kernel
theorem dMO_exact_50 : decode cMO_exact 50 = .ok (.iconst 1, 1) := by decide +kernel
theorem dMO_exact_51 : decode cMO_exact 51 = .ok (.goto 4, 3) := by decide +kernel
theorem dMO_exact_54 : decode cMO_exact 54 = .ok (.iconst 0, 1) := by decide +kernel
theorem dMO_exact_55 : decode cMO_exact 55 = .ok (.istore 5, 2) := by decide +kernel
theorem dMO_exact_57 : decode cMO_exact 57 = .ok (.iload 5, 2) := by decide +kernel
theorem dMO_exact_59 : decode cMO_exact 59 = .ok (.ifCond .ne 17, 3) := by decide +kernel
theorem dMO_exact_62 : decode cMO_exact 62 = .ok (.iload 4, 2) := by decide +kernel
theorem dMO_exact_64 : decode cMO_exact 64 = .ok (.iload_n 1, 1) := by decide +kernel
theorem dMO_exact_65 : decode cMO_exact 65 = .ok (.if_icmp .ne 51, 3) := by decide +kernel
theorem dMO_exact_68 : decode cMO_exact 68 = .ok (.aload_n 0, 1) := by decide +kernel
theorem dMO_exact_69 : decode cMO_exact 69 = .ok (.invokevirtual 85, 3) := by decide +kernel
theorem dMO_exact_72 : decode cMO_exact 72 = .ok (.iload_n 2, 1) := by decide +kernel
theorem dMO_exact_73 : decode cMO_exact 73 = .ok (.if_icmp .ge 43, 3) := by decide +kernel
theorem dMO_exact_76 : decode cMO_exact 76 = .ok (.iload 4, 2) := by decide +kernel
theorem dMO_exact_78 : decode cMO_exact 78 = .ok (.istore_n 1, 1) := by decide +kernel
theorem dMO_exact_79 : decode cMO_exact 79 = .ok (.aload_n 0, 1) := by decide +kernel
theorem dMO_exact_80 : decode cMO_exact 80 = .ok (.invokevirtual 85, 3) := by decide +kernel
theorem dMO_exact_83 : decode cMO_exact 83 = .ok (.istore_n 2, 1) := by decide +kernel
theorem dMO_exact_84 : decode cMO_exact 84 = .ok (.iconst 0, 1) := by decide +kernel
theorem dMO_exact_85 : decode cMO_exact 85 = .ok (.istore 6, 2) := by decide +kernel
theorem dMO_exact_87 : decode cMO_exact 87 = .ok (.iload 6, 2) := by decide +kernel
theorem dMO_exact_89 : decode cMO_exact 89 = .ok (.aload_n 0, 1) := by decide +kernel
theorem dMO_exact_90 : decode cMO_exact 90 = .ok (.getfield 75, 3) := by decide +kernel
theorem dMO_exact_93 : decode cMO_exact 93 = .ok (.if_icmp .ge 23, 3) := by decide +kernel
theorem dMO_exact_96 : decode cMO_exact 96 = .ok (.aload_n 0, 1) := by decide +kernel
theorem dMO_exact_97 : decode cMO_exact 97 = .ok (.getfield 47, 3) := by decide +kernel
theorem dMO_exact_100 : decode cMO_exact 100 = .ok (.iload 6, 2) := by decide +kernel
theorem dMO_exact_102 : decode cMO_exact 102 = .ok (.aload_n 0, 1) := by decide +kernel
theorem dMO_exact_103 : decode cMO_exact 103 = .ok (.getfield 44, 3) := by decide +kernel
theorem dMO_exact_106 : decode cMO_exact 106 = .ok (.iload 6, 2) := by decide +kernel
theorem dMO_exact_108 : decode cMO_exact 108 = .ok (.iaload, 1) := by decide +kernel
theorem dMO_exact_109 : decode cMO_exact 109 = .ok (.iastore, 1) := by decide +kernel
theorem dMO_exact_110 : decode cMO_exact 110 = .ok (.iinc 6 1, 3) := by decide +kernel
theorem dMO_exact_113 : decode cMO_exact 113 = .ok (.goto (-26), 3) := by decide +kernel
theorem dMO_exact_116 : decode cMO_exact 116 = .ok (.aload_n 0, 1) := by decide +kernel
theorem dMO_exact_117 : decode cMO_exact 117 = .ok (.invokevirtual 88, 3) := by decide +kernel
theorem dMO_exact_120 : decode cMO_exact 120 = .ok (.istore_n 3, 1) := by decide +kernel
theorem dMO_exact_121 : decode cMO_exact 121 = .ok (.goto (-92), 3) := by decide +kernel
theorem dMO_exact_124 : decode cMO_exact 124 = .ok (.iconst 0, 1) := by decide +kernel
theorem dMO_exact_125 : decode cMO_exact 125 = .ok (.istore 4, 2) := by decide +kernel
theorem dMO_exact_127 : decode cMO_exact 127 = .ok (.iload 4, 2) := by decide +kernel
theorem dMO_exact_129 : decode cMO_exact 129 = .ok (.aload_n 0, 1) := by decide +kernel
theorem dMO_exact_130 : decode cMO_exact 130 = .ok (.getfield 75, 3) := by decide +kernel
theorem dMO_exact_133 : decode cMO_exact 133 = .ok (.if_icmp .ge 23, 3) := by decide +kernel
theorem dMO_exact_136 : decode cMO_exact 136 = .ok (.aload_n 0, 1) := by decide +kernel
theorem dMO_exact_137 : decode cMO_exact 137 = .ok (.getfield 44, 3) := by decide +kernel
theorem dMO_exact_140 : decode cMO_exact 140 = .ok (.iload 4, 2) := by decide +kernel
theorem dMO_exact_142 : decode cMO_exact 142 = .ok (.aload_n 0, 1) := by decide +kernel
theorem dMO_exact_143 : decode cMO_exact 143 = .ok (.getfield 47, 3) := by decide +kernel
theorem dMO_exact_146 : decode cMO_exact 146 = .ok (.iload 4, 2) := by decide +kernel
theorem dMO_exact_148 : decode cMO_exact 148 = .ok (.iaload, 1) := by decide +kernel
theorem dMO_exact_149 : decode cMO_exact 149 = .ok (.iastore, 1) := by decide +kernel
theorem dMO_exact_150 : decode cMO_exact 150 = .ok (.iinc 4 1, 3) := by decide +kernel
theorem dMO_exact_153 : decode cMO_exact 153 = .ok (.goto (-26), 3) := by decide +kernel
theorem dMO_exact_156 : decode cMO_exact 156 = .ok (.return_, 1) := by decide +kernel
theorem dMO_length_0 : decode cMO_length 0 = .ok (.iconst 0, 1) := by decide +kernel
theorem dMO_length_1 : decode cMO_length 1 = .ok (.istore_n 1, 1) := by decide +kernel
theorem dMO_length_2 : decode cMO_length 2 = .ok (.iload_n 1, 1) := by decide +kernel
theorem dMO_length_3 : decode cMO_length 3 = .ok (.iconst 4, 1) := by decide +kernel
theorem dMO_length_4 : decode cMO_length 4 = .ok (.if_icmp .ge 16, 3) := by decide +kernel
theorem dMO_length_7 : decode cMO_length 7 = .ok (.aload_n 0, 1) := by decide +kernel
theorem dMO_length_8 : decode cMO_length 8 = .ok (.getfield 19, 3) := by decide +kernel
theorem dMO_length_11 : decode cMO_length 11 = .ok (.iload_n 1, 1) := by decide +kernel
theorem dMO_length_12 : decode cMO_length 12 = .ok (.iconst 0, 1) := by decide +kernel
theorem dMO_length_13 : decode cMO_length 13 = .ok (.iastore, 1) := by decide +kernel
theorem dMO_length_14 : decode cMO_length 14 = .ok (.iinc 1 1, 3) := by decide +kernel
theorem dMO_length_17 : decode cMO_length 17 = .ok (.goto (-15), 3) := by decide +kernel
theorem dMO_length_20 : decode cMO_length 20 = .ok (.iconst 0, 1) := by decide +kernel
theorem dMO_length_21 : decode cMO_length 21 = .ok (.istore_n 1, 1) := by decide +kernel
theorem dMO_length_22 : decode cMO_length 22 = .ok (.iload_n 1, 1) := by decide +kernel
theorem dMO_length_23 : decode cMO_length 23 = .ok (.aload_n 0, 1) := by decide +kernel
theorem dMO_length_24 : decode cMO_length 24 = .ok (.getfield 75, 3) := by decide +kernel
theorem dMO_length_27 : decode cMO_length 27 = .ok (.if_icmp .ge 29, 3) := by decide +kernel
theorem dMO_length_30 : decode cMO_length 30 = .ok (.aload_n 0, 1) := by decide +kernel
theorem dMO_length_31 : decode cMO_length 31 = .ok (.getfield 19, 3) := by decide +kernel
theorem dMO_length_34 : decode cMO_length 34 = .ok (.aload_n 0, 1) := by decide +kernel
theorem dMO_length_35 : decode cMO_length 35 = .ok (.getfield 44, 3) := by decide +kernel
theorem dMO_length_38 : decode cMO_length 38 = .ok (.iload_n 1, 1) := by decide +kernel
theorem dMO_length_39 : decode cMO_length 39 = .ok (.iaload, 1) := by decide +kernel
theorem dMO_length_40 : decode cMO_length 40 = .ok (.dup2, 1) := by decide +kernel
theorem dMO_length_41 : decode cMO_length 41 = .ok (.iaload, 1) := by decide +kernel
theorem dMO_length_42 : decode cMO_length 42 = .ok (.aload_n 0, 1) := by decide +kernel
theorem dMO_length_43 : decode cMO_length 43 = .ok (.getfield 41, 3) := by decide +kernel
theorem dMO_length_46 : decode cMO_length 46 = .ok (.iload_n 1, 1) := by decide +kernel
theorem dMO_length_47 : decode cMO_length 47 = .ok (.iaload, 1) := by decide +kernel
theorem dMO_length_48 : decode cMO_length 48 = .ok (.iadd, 1) := by decide +kernel
theorem dMO_length_49 : decode cMO_length 49 = .ok (.iastore, 1) := by decide +kernel
theorem dMO_length_50 : decode cMO_length 50 = .ok (.iinc 1 1, 3) := by decide +kernel
theorem dMO_length_53 : decode cMO_length 53 = .ok (.goto (-31), 3) := by decide +kernel
theorem dMO_length_56 : decode cMO_length 56 = .ok (.iconst 0, 1) := by decide +kernel
theorem dMO_length_57 : decode cMO_length 57 = .ok (.istore_n 1, 1) := by decide +kernel
theorem dMO_length_58 : decode cMO_length 58 = .ok (.iconst 0, 1) := by decide +kernel
theorem dMO_length_59 : decode cMO_length 59 = .ok (.istore_n 2, 1) := by decide +kernel
theorem dMO_length_60 : decode cMO_length 60 = .ok (.iload_n 2, 1) := by decide +kernel
theorem dMO_length_61 : decode cMO_length 61 = .ok (.iconst 4, 1) := by decide +kernel
theorem dMO_length_62 : decode cMO_length 62 = .ok (.if_icmp .ge 30, 3) := by decide +kernel
theorem dMO_length_65 : decode cMO_length 65 = .ok (.aload_n 0, 1) := by decide +kernel
theorem dMO_length_66 : decode cMO_length 66 = .ok (.getfield 19, 3) := by decide +kernel
theorem dMO_length_69 : decode cMO_length 69 = .ok (.iload_n 2, 1) := by decide +kernel
theorem dMO_length_70 : decode cMO_length 70 = .ok (.iaload, 1) := by decide +kernel
theorem dMO_length_71 : decode cMO_length 71 = .ok (.iload_n 1, 1) := by decide +kernel
theorem dMO_length_72 : decode cMO_length 72 = .ok (.if_icmp .le 12, 3) := by decide +kernel
theorem dMO_length_75 : decode cMO_length 75 = .ok (.aload_n 0, 1) := by decide +kernel
theorem dMO_length_76 : decode cMO_length 76 = .ok (.getfield 19, 3) := by decide +kernel
theorem dMO_length_79 : decode cMO_length 79 = .ok (.iload_n 2, 1) := by decide +kernel
theorem dMO_length_80 : decode cMO_length 80 = .ok (.iaload, 1) := by decide +kernel
theorem dMO_length_81 : decode cMO_length 81 = .ok (.goto 4, 3) := by decide +kernel
theorem dMO_length_84 : decode cMO_length 84 = .ok (.iload_n 1, 1) := by decide +kernel
theorem dMO_length_85 : decode cMO_length 85 = .ok (.istore_n 1, 1) := by decide +kernel
theorem dMO_length_86 : decode cMO_length 86 = .ok (.iinc 2 1, 3) := by decide +kernel
theorem dMO_length_89 : decode cMO_length 89 = .ok (.goto (-29), 3) := by decide +kernel
theorem dMO_length_92 : decode cMO_length 92 = .ok (.iload_n 1, 1) := by decide +kernel
theorem dMO_length_93 : decode cMO_length 93 = .ok (.ireturn, 1) := by decide +kernel
theorem dMO_moves_0 : decode cMO_moves 0 = .ok (.iconst 0, 1) := by decide +kernel
theorem dMO_moves_1 : decode cMO_moves 1 = .ok (.istore_n 1, 1) := by decide +kernel
theorem dMO_moves_2 : decode cMO_moves 2 = .ok (.iconst 0, 1) := by decide +kernel
theorem dMO_moves_3 : decode cMO_moves 3 = .ok (.istore_n 2, 1) := by decide +kernel
theorem dMO_moves_4 : decode cMO_moves 4 = .ok (.iload_n 2, 1) := by decide +kernel
theorem dMO_moves_5 : decode cMO_moves 5 = .ok (.aload_n 0, 1) := by decide +kernel
theorem dMO_moves_6 : decode cMO_moves 6 = .ok (.getfield 75, 3) := by decide +kernel
theorem dMO_moves_9 : decode cMO_moves 9 = .ok (.if_icmp .ge 23, 3) := by decide +kernel
theorem dMO_moves_12 : decode cMO_moves 12 = .ok (.iload_n 1, 1) := by decide +kernel
theorem dMO_moves_13 : decode cMO_moves 13 = .ok (.aload_n 0, 1) := by decide +kernel
theorem dMO_moves_14 : decode cMO_moves 14 = .ok (.iload_n 2, 1) := by decide +kernel
theorem dMO_moves_15 : decode cMO_moves 15 = .ok (.aload_n 0, 1) := by decide +kernel
theorem dMO_moves_16 : decode cMO_moves 16 = .ok (.getfield 44, 3) := by decide +kernel
theorem dMO_moves_19 : decode cMO_moves 19 = .ok (.iload_n 2, 1) := by decide +kernel
theorem dMO_moves_20 : decode cMO_moves 20 = .ok (.iaload, 1) := by decide +kernel
theorem dMO_moves_21 : decode cMO_moves 21 = .ok (.invokevirtual 78, 3) := by decide +kernel
theorem dMO_moves_24 : decode cMO_moves 24 = .ok (.iadd, 1) := by decide +kernel
theorem dMO_moves_25 : decode cMO_moves 25 = .ok (.istore_n 1, 1) := by decide +kernel
theorem dMO_moves_26 : decode cMO_moves 26 = .ok (.iinc 2 1, 3) := by decide +kernel
theorem dMO_moves_29 : decode cMO_moves 29 = .ok (.goto (-25), 3) := by decide +kernel
theorem dMO_moves_32 : decode cMO_moves 32 = .ok (.iload_n 1, 1) := by decide +kernel
theorem dMO_moves_33 : decode cMO_moves 33 = .ok (.ireturn, 1) := by decide +kernel
theorem dMO_movesOf_0 : decode cMO_movesOf 0 = .ok (.iconst 0, 1) := by decide +kernel
theorem dMO_movesOf_1 : decode cMO_movesOf 1 = .ok (.istore_n 3, 1) := by decide +kernel
theorem dMO_movesOf_2 : decode cMO_movesOf 2 = .ok (.iconst 0, 1) := by decide +kernel
theorem dMO_movesOf_3 : decode cMO_movesOf 3 = .ok (.istore 4, 2) := by decide +kernel
theorem dMO_movesOf_5 : decode cMO_movesOf 5 = .ok (.iload 4, 2) := by decide +kernel
theorem dMO_movesOf_7 : decode cMO_movesOf 7 = .ok (.aload_n 0, 1) := by decide +kernel
theorem dMO_movesOf_8 : decode cMO_movesOf 8 = .ok (.getfield 60, 3) := by decide +kernel
theorem dMO_movesOf_11 : decode cMO_movesOf 11 = .ok (.if_icmp .ge 55, 3) := by decide +kernel
theorem dMO_movesOf_14 : decode cMO_movesOf 14 = .ok (.iload_n 3, 1) := by decide +kernel
theorem dMO_movesOf_15 : decode cMO_movesOf 15 = .ok (.aload_n 0, 1) := by decide +kernel
theorem dMO_movesOf_16 : decode cMO_movesOf 16 = .ok (.getfield 13, 3) := by decide +kernel
theorem dMO_movesOf_19 : decode cMO_movesOf 19 = .ok (.iload 4, 2) := by decide +kernel
theorem dMO_movesOf_21 : decode cMO_movesOf 21 = .ok (.iaload, 1) := by decide +kernel
theorem dMO_movesOf_22 : decode cMO_movesOf 22 = .ok (.aload_n 0, 1) := by decide +kernel
theorem dMO_movesOf_23 : decode cMO_movesOf 23 = .ok (.getfield 38, 3) := by decide +kernel
theorem dMO_movesOf_26 : decode cMO_movesOf 26 = .ok (.iload_n 1, 1) := by decide +kernel
theorem dMO_movesOf_27 : decode cMO_movesOf 27 = .ok (.iaload, 1) := by decide +kernel
theorem dMO_movesOf_28 : decode cMO_movesOf 28 = .ok (.if_icmp .ne 29, 3) := by decide +kernel
theorem dMO_movesOf_31 : decode cMO_movesOf 31 = .ok (.aload_n 0, 1) := by decide +kernel
theorem dMO_movesOf_32 : decode cMO_movesOf 32 = .ok (.getfield 22, 3) := by decide +kernel
theorem dMO_movesOf_35 : decode cMO_movesOf 35 = .ok (.iload 4, 2) := by decide +kernel
theorem dMO_movesOf_37 : decode cMO_movesOf 37 = .ok (.iaload, 1) := by decide +kernel
theorem dMO_movesOf_38 : decode cMO_movesOf 38 = .ok (.iconst (-1), 1) := by decide +kernel
theorem dMO_movesOf_39 : decode cMO_movesOf 39 = .ok (.if_icmp .eq 18, 3) := by decide +kernel
theorem dMO_movesOf_42 : decode cMO_movesOf 42 = .ok (.aload_n 0, 1) := by decide +kernel
theorem dMO_movesOf_43 : decode cMO_movesOf 43 = .ok (.getfield 22, 3) := by decide +kernel
end
section
theorem dMO_movesOf_46 : decode cMO_movesOf 46 = .ok (.iload 4, 2) := by decide +kernel
theorem dMO_movesOf_48 : decode cMO_movesOf 48 = .ok (.iaload, 1) := by decide +kernel
theorem dMO_movesOf_49 : decode cMO_movesOf 49 = .ok (.iload_n 2, 1) := by decide +kernel
theorem dMO_movesOf_50 : decode cMO_movesOf 50 = .ok (.if_icmp .eq 7, 3) := by decide +kernel
theorem dMO_movesOf_53 : decode cMO_movesOf 53 = .ok (.iconst 1, 1) := by decide +kernel
theorem dMO_movesOf_54 : decode cMO_movesOf 54 = .ok (.goto 4, 3) := by decide +kernel
theorem dMO_movesOf_57 : decode cMO_movesOf 57 = .ok (.iconst 0, 1) := by decide +kernel
theorem dMO_movesOf_58 : decode cMO_movesOf 58 = .ok (.iadd, 1) := by decide +kernel
theorem dMO_movesOf_59 : decode cMO_movesOf 59 = .ok (.istore_n 3, 1) := by decide +kernel
theorem dMO_movesOf_60 : decode cMO_movesOf 60 = .ok (.iinc 4 1, 3) := by decide +kernel
theorem dMO_movesOf_63 : decode cMO_movesOf 63 = .ok (.goto (-58), 3) := by decide +kernel
theorem dMO_movesOf_66 : decode cMO_movesOf 66 = .ok (.iload_n 3, 1) := by decide +kernel
theorem dMO_movesOf_67 : decode cMO_movesOf 67 = .ok (.ireturn, 1) := by decide +kernel
theorem dMO_next_0 : decode cMO_next 0 = .ok (.aload_n 0, 1) := by decide +kernel
theorem dMO_next_1 : decode cMO_next 1 = .ok (.getfield 75, 3) := by decide +kernel
theorem dMO_next_4 : decode cMO_next 4 = .ok (.iconst 1, 1) := by decide +kernel
theorem dMO_next_5 : decode cMO_next 5 = .ok (.isub, 1) := by decide +kernel
theorem dMO_next_6 : decode cMO_next 6 = .ok (.istore_n 1, 1) := by decide +kernel
theorem dMO_next_7 : decode cMO_next 7 = .ok (.iload_n 1, 1) := by decide +kernel
theorem dMO_next_8 : decode cMO_next 8 = .ok (.ifCond .lt 31, 3) := by decide +kernel
theorem dMO_next_11 : decode cMO_next 11 = .ok (.aload_n 0, 1) := by decide +kernel
theorem dMO_next_12 : decode cMO_next 12 = .ok (.getfield 44, 3) := by decide +kernel
theorem dMO_next_15 : decode cMO_next 15 = .ok (.iload_n 1, 1) := by decide +kernel
theorem dMO_next_16 : decode cMO_next 16 = .ok (.iaload, 1) := by decide +kernel
theorem dMO_next_17 : decode cMO_next 17 = .ok (.aload_n 0, 1) := by decide +kernel
theorem dMO_next_18 : decode cMO_next 18 = .ok (.getfield 53, 3) := by decide +kernel
theorem dMO_next_21 : decode cMO_next 21 = .ok (.iconst 1, 1) := by decide +kernel
theorem dMO_next_22 : decode cMO_next 22 = .ok (.isub, 1) := by decide +kernel
theorem dMO_next_23 : decode cMO_next 23 = .ok (.if_icmp .ne 16, 3) := by decide +kernel
theorem dMO_next_26 : decode cMO_next 26 = .ok (.aload_n 0, 1) := by decide +kernel
theorem dMO_next_27 : decode cMO_next 27 = .ok (.getfield 44, 3) := by decide +kernel
theorem dMO_next_30 : decode cMO_next 30 = .ok (.iload_n 1, 1) := by decide +kernel
theorem dMO_next_31 : decode cMO_next 31 = .ok (.iconst 0, 1) := by decide +kernel
theorem dMO_next_32 : decode cMO_next 32 = .ok (.iastore, 1) := by decide +kernel
theorem dMO_next_33 : decode cMO_next 33 = .ok (.iinc 1 (-1), 3) := by decide +kernel
theorem dMO_next_36 : decode cMO_next 36 = .ok (.goto (-29), 3) := by decide +kernel
theorem dMO_next_39 : decode cMO_next 39 = .ok (.iload_n 1, 1) := by decide +kernel
theorem dMO_next_40 : decode cMO_next 40 = .ok (.ifCond .ge 5, 3) := by decide +kernel
theorem dMO_next_43 : decode cMO_next 43 = .ok (.iconst 0, 1) := by decide +kernel
theorem dMO_next_44 : decode cMO_next 44 = .ok (.ireturn, 1) := by decide +kernel
theorem dMO_next_45 : decode cMO_next 45 = .ok (.aload_n 0, 1) := by decide +kernel
theorem dMO_next_46 : decode cMO_next 46 = .ok (.getfield 44, 3) := by decide +kernel
theorem dMO_next_49 : decode cMO_next 49 = .ok (.iload_n 1, 1) := by decide +kernel
theorem dMO_next_50 : decode cMO_next 50 = .ok (.dup2, 1) := by decide +kernel
theorem dMO_next_51 : decode cMO_next 51 = .ok (.iaload, 1) := by decide +kernel
theorem dMO_next_52 : decode cMO_next 52 = .ok (.iconst 1, 1) := by decide +kernel
theorem dMO_next_53 : decode cMO_next 53 = .ok (.iadd, 1) := by decide +kernel
theorem dMO_next_54 : decode cMO_next 54 = .ok (.iastore, 1) := by decide +kernel
theorem dMO_next_55 : decode cMO_next 55 = .ok (.iconst 1, 1) := by decide +kernel
theorem dMO_next_56 : decode cMO_next 56 = .ok (.ireturn, 1) := by decide +kernel
theorem dMO_byTimes_0 : decode cMO_byTimes 0 = .ok (.iconst 0, 1) := by decide +kernel
theorem dMO_byTimes_1 : decode cMO_byTimes 1 = .ok (.istore_n 1, 1) := by decide +kernel
theorem dMO_byTimes_2 : decode cMO_byTimes 2 = .ok (.iload_n 1, 1) := by decide +kernel
theorem dMO_byTimes_3 : decode cMO_byTimes 3 = .ok (.iconst 4, 1) := by decide +kernel
theorem dMO_byTimes_4 : decode cMO_byTimes 4 = .ok (.if_icmp .ge 16, 3) := by decide +kernel
theorem dMO_byTimes_7 : decode cMO_byTimes 7 = .ok (.aload_n 0, 1) := by decide +kernel
theorem dMO_byTimes_8 : decode cMO_byTimes 8 = .ok (.getfield 19, 3) := by decide +kernel
theorem dMO_byTimes_11 : decode cMO_byTimes 11 = .ok (.iload_n 1, 1) := by decide +kernel
theorem dMO_byTimes_12 : decode cMO_byTimes 12 = .ok (.iconst 0, 1) := by decide +kernel
theorem dMO_byTimes_13 : decode cMO_byTimes 13 = .ok (.iastore, 1) := by decide +kernel
theorem dMO_byTimes_14 : decode cMO_byTimes 14 = .ok (.iinc 1 1, 3) := by decide +kernel
theorem dMO_byTimes_17 : decode cMO_byTimes 17 = .ok (.goto (-15), 3) := by decide +kernel
theorem dMO_byTimes_20 : decode cMO_byTimes 20 = .ok (.iconst 0, 1) := by decide +kernel
theorem dMO_byTimes_21 : decode cMO_byTimes 21 = .ok (.istore_n 1, 1) := by decide +kernel
theorem dMO_byTimes_22 : decode cMO_byTimes 22 = .ok (.iload_n 1, 1) := by decide +kernel
theorem dMO_byTimes_23 : decode cMO_byTimes 23 = .ok (.aload_n 0, 1) := by decide +kernel
theorem dMO_byTimes_24 : decode cMO_byTimes 24 = .ok (.getfield 75, 3) := by decide +kernel
theorem dMO_byTimes_27 : decode cMO_byTimes 27 = .ok (.if_icmp .ge 16, 3) := by decide +kernel
theorem dMO_byTimes_30 : decode cMO_byTimes 30 = .ok (.aload_n 0, 1) := by decide +kernel
theorem dMO_byTimes_31 : decode cMO_byTimes 31 = .ok (.getfield 50, 3) := by decide +kernel
theorem dMO_byTimes_34 : decode cMO_byTimes 34 = .ok (.iload_n 1, 1) := by decide +kernel
theorem dMO_byTimes_35 : decode cMO_byTimes 35 = .ok (.iconst 0, 1) := by decide +kernel
theorem dMO_byTimes_36 : decode cMO_byTimes 36 = .ok (.bastore, 1) := by decide +kernel
theorem dMO_byTimes_37 : decode cMO_byTimes 37 = .ok (.iinc 1 1, 3) := by decide +kernel
theorem dMO_byTimes_40 : decode cMO_byTimes 40 = .ok (.goto (-18), 3) := by decide +kernel
theorem dMO_byTimes_43 : decode cMO_byTimes 43 = .ok (.iconst 0, 1) := by decide +kernel
theorem dMO_byTimes_44 : decode cMO_byTimes 44 = .ok (.istore_n 1, 1) := by decide +kernel
theorem dMO_byTimes_45 : decode cMO_byTimes 45 = .ok (.iload_n 1, 1) := by decide +kernel
theorem dMO_byTimes_46 : decode cMO_byTimes 46 = .ok (.aload_n 0, 1) := by decide +kernel
theorem dMO_byTimes_47 : decode cMO_byTimes 47 = .ok (.getfield 75, 3) := by decide +kernel
theorem dMO_byTimes_50 : decode cMO_byTimes 50 = .ok (.if_icmp .ge 188, 3) := by decide +kernel
theorem dMO_byTimes_53 : decode cMO_byTimes 53 = .ok (.iconst (-1), 1) := by decide +kernel
theorem dMO_byTimes_54 : decode cMO_byTimes 54 = .ok (.istore_n 2, 1) := by decide +kernel
theorem dMO_byTimes_55 : decode cMO_byTimes 55 = .ok (.iconst 0, 1) := by decide +kernel
theorem dMO_byTimes_56 : decode cMO_byTimes 56 = .ok (.istore_n 3, 1) := by decide +kernel
theorem dMO_byTimes_57 : decode cMO_byTimes 57 = .ok (.iload_n 3, 1) := by decide +kernel
theorem dMO_byTimes_58 : decode cMO_byTimes 58 = .ok (.aload_n 0, 1) := by decide +kernel
theorem dMO_byTimes_59 : decode cMO_byTimes 59 = .ok (.getfield 75, 3) := by decide +kernel
theorem dMO_byTimes_62 : decode cMO_byTimes 62 = .ok (.if_icmp .ge 44, 3) := by decide +kernel
theorem dMO_byTimes_65 : decode cMO_byTimes 65 = .ok (.aload_n 0, 1) := by decide +kernel
theorem dMO_byTimes_66 : decode cMO_byTimes 66 = .ok (.getfield 50, 3) := by decide +kernel
theorem dMO_byTimes_69 : decode cMO_byTimes 69 = .ok (.iload_n 3, 1) := by decide +kernel
theorem dMO_byTimes_70 : decode cMO_byTimes 70 = .ok (.baload, 1) := by decide +kernel
theorem dMO_byTimes_71 : decode cMO_byTimes 71 = .ok (.ifCond .ne 27, 3) := by decide +kernel
theorem dMO_byTimes_74 : decode cMO_byTimes 74 = .ok (.iload_n 2, 1) := by decide +kernel
theorem dMO_byTimes_75 : decode cMO_byTimes 75 = .ok (.iconst (-1), 1) := by decide +kernel
theorem dMO_byTimes_76 : decode cMO_byTimes 76 = .ok (.if_icmp .eq 18, 3) := by decide +kernel
theorem dMO_byTimes_79 : decode cMO_byTimes 79 = .ok (.aload_n 0, 1) := by decide +kernel
theorem dMO_byTimes_80 : decode cMO_byTimes 80 = .ok (.getfield 41, 3) := by decide +kernel
theorem dMO_byTimes_83 : decode cMO_byTimes 83 = .ok (.iload_n 3, 1) := by decide +kernel
theorem dMO_byTimes_84 : decode cMO_byTimes 84 = .ok (.iaload, 1) := by decide +kernel
theorem dMO_byTimes_85 : decode cMO_byTimes 85 = .ok (.aload_n 0, 1) := by decide +kernel
theorem dMO_byTimes_86 : decode cMO_byTimes 86 = .ok (.getfield 41, 3) := by decide +kernel
theorem dMO_byTimes_89 : decode cMO_byTimes 89 = .ok (.iload_n 2, 1) := by decide +kernel
theorem dMO_byTimes_90 : decode cMO_byTimes 90 = .ok (.iaload, 1) := by decide +kernel
theorem dMO_byTimes_91 : decode cMO_byTimes 91 = .ok (.if_icmp .le 7, 3) := by decide +kernel
theorem dMO_byTimes_94 : decode cMO_byTimes 94 = .ok (.iload_n 3, 1) := by decide +kernel
theorem dMO_byTimes_95 : decode cMO_byTimes 95 = .ok (.goto 4, 3) := by decide +kernel
theorem dMO_byTimes_98 : decode cMO_byTimes 98 = .ok (.iload_n 2, 1) := by decide +kernel
theorem dMO_byTimes_99 : decode cMO_byTimes 99 = .ok (.istore_n 2, 1) := by decide +kernel
theorem dMO_byTimes_100 : decode cMO_byTimes 100 = .ok (.iinc 3 1, 3) := by decide +kernel
theorem dMO_byTimes_103 : decode cMO_byTimes 103 = .ok (.goto (-46), 3) := by decide +kernel
theorem dMO_byTimes_106 : decode cMO_byTimes 106 = .ok (.aload_n 0, 1) := by decide +kernel
theorem dMO_byTimes_107 : decode cMO_byTimes 107 = .ok (.getfield 50, 3) := by decide +kernel
theorem dMO_byTimes_110 : decode cMO_byTimes 110 = .ok (.iload_n 2, 1) := by decide +kernel
theorem dMO_byTimes_111 : decode cMO_byTimes 111 = .ok (.iconst 1, 1) := by decide +kernel
theorem dMO_byTimes_112 : decode cMO_byTimes 112 = .ok (.bastore, 1) := by decide +kernel
theorem dMO_byTimes_113 : decode cMO_byTimes 113 = .ok (.iconst 0, 1) := by decide +kernel
theorem dMO_byTimes_114 : decode cMO_byTimes 114 = .ok (.istore_n 3, 1) := by decide +kernel
theorem dMO_byTimes_115 : decode cMO_byTimes 115 = .ok (.iconst 1, 1) := by decide +kernel
theorem dMO_byTimes_116 : decode cMO_byTimes 116 = .ok (.istore 4, 2) := by decide +kernel
theorem dMO_byTimes_118 : decode cMO_byTimes 118 = .ok (.iload 4, 2) := by decide +kernel
theorem dMO_byTimes_120 : decode cMO_byTimes 120 = .ok (.aload_n 0, 1) := by decide +kernel
theorem dMO_byTimes_121 : decode cMO_byTimes 121 = .ok (.getfield 53, 3) := by decide +kernel
theorem dMO_byTimes_124 : decode cMO_byTimes 124 = .ok (.if_icmp .ge 32, 3) := by decide +kernel
theorem dMO_byTimes_127 : decode cMO_byTimes 127 = .ok (.aload_n 0, 1) := by decide +kernel
theorem dMO_byTimes_128 : decode cMO_byTimes 128 = .ok (.getfield 19, 3) := by decide +kernel
theorem dMO_byTimes_131 : decode cMO_byTimes 131 = .ok (.iload 4, 2) := by decide +kernel
theorem dMO_byTimes_133 : decode cMO_byTimes 133 = .ok (.iaload, 1) := by decide +kernel
theorem dMO_byTimes_134 : decode cMO_byTimes 134 = .ok (.aload_n 0, 1) := by decide +kernel
theorem dMO_byTimes_135 : decode cMO_byTimes 135 = .ok (.getfield 19, 3) := by decide +kernel
theorem dMO_byTimes_138 : decode cMO_byTimes 138 = .ok (.iload_n 3, 1) := by decide +kernel
theorem dMO_byTimes_139 : decode cMO_byTimes 139 = .ok (.iaload, 1) := by decide +kernel
theorem dMO_byTimes_140 : decode cMO_byTimes 140 = .ok (.if_icmp .ge 8, 3) := by decide +kernel
theorem dMO_byTimes_143 : decode cMO_byTimes 143 = .ok (.iload 4, 2) := by decide +kernel
theorem dMO_byTimes_145 : decode cMO_byTimes 145 = .ok (.goto 4, 3) := by decide +kernel
theorem dMO_byTimes_148 : decode cMO_byTimes 148 = .ok (.iload_n 3, 1) := by decide +kernel
theorem dMO_byTimes_149 : decode cMO_byTimes 149 = .ok (.istore_n 3, 1) := by decide +kernel
theorem dMO_byTimes_150 : decode cMO_byTimes 150 = .ok (.iinc 4 1, 3) := by decide +kernel
theorem dMO_byTimes_153 : decode cMO_byTimes 153 = .ok (.goto (-35), 3) := by decide +kernel
theorem dMO_byTimes_156 : decode cMO_byTimes 156 = .ok (.aload_n 0, 1) := by decide +kernel
theorem dMO_byTimes_157 : decode cMO_byTimes 157 = .ok (.getfield 22, 3) := by decide +kernel
theorem dMO_byTimes_160 : decode cMO_byTimes 160 = .ok (.aload_n 0, 1) := by decide +kernel
theorem dMO_byTimes_161 : decode cMO_byTimes 161 = .ok (.getfield 38, 3) := by decide +kernel
theorem dMO_byTimes_164 : decode cMO_byTimes 164 = .ok (.iload_n 2, 1) := by decide +kernel
theorem dMO_byTimes_165 : decode cMO_byTimes 165 = .ok (.iaload, 1) := by decide +kernel
theorem dMO_byTimes_166 : decode cMO_byTimes 166 = .ok (.iaload, 1) := by decide +kernel
theorem dMO_byTimes_167 : decode cMO_byTimes 167 = .ok (.istore 4, 2) := by decide +kernel
theorem dMO_byTimes_169 : decode cMO_byTimes 169 = .ok (.aload_n 0, 1) := by decide +kernel
theorem dMO_byTimes_170 : decode cMO_byTimes 170 = .ok (.getfield 44, 3) := by decide +kernel
theorem dMO_byTimes_173 : decode cMO_byTimes 173 = .ok (.iload_n 2, 1) := by decide +kernel
theorem dMO_byTimes_174 : decode cMO_byTimes 174 = .ok (.iload 4, 2) := by decide +kernel
theorem dMO_byTimes_176 : decode cMO_byTimes 176 = .ok (.iconst (-1), 1) := by decide +kernel
theorem dMO_byTimes_177 : decode cMO_byTimes 177 = .ok (.if_icmp .eq 33, 3) := by decide +kernel
theorem dMO_byTimes_180 : decode cMO_byTimes 180 = .ok (.iload 4, 2) := by decide +kernel
theorem dMO_byTimes_182 : decode cMO_byTimes 182 = .ok (.aload_n 0, 1) := by decide +kernel
theorem dMO_byTimes_183 : decode cMO_byTimes 183 = .ok (.getfield 53, 3) := by decide +kernel
theorem dMO_byTimes_186 : decode cMO_byTimes 186 = .ok (.if_icmp .ge 24, 3) := by decide +kernel
theorem dMO_byTimes_189 : decode cMO_byTimes 189 = .ok (.aload_n 0, 1) := by decide +kernel
theorem dMO_byTimes_190 : decode cMO_byTimes 190 = .ok (.getfield 19, 3) := by decide +kernel
theorem dMO_byTimes_193 : decode cMO_byTimes 193 = .ok (.iload 4, 2) := by decide +kernel
theorem dMO_byTimes_195 : decode cMO_byTimes 195 = .ok (.iaload, 1) := by decide +kernel
theorem dMO_byTimes_196 : decode cMO_byTimes 196 = .ok (.aload_n 0, 1) := by decide +kernel
theorem dMO_byTimes_197 : decode cMO_byTimes 197 = .ok (.getfield 19, 3) := by decide +kernel
theorem dMO_byTimes_200 : decode cMO_byTimes 200 = .ok (.iload_n 3, 1) := by decide +kernel
theorem dMO_byTimes_201 : decode cMO_byTimes 201 = .ok (.iaload, 1) := by decide +kernel
theorem dMO_byTimes_202 : decode cMO_byTimes 202 = .ok (.if_icmp .ne 8, 3) := by decide +kernel
theorem dMO_byTimes_205 : decode cMO_byTimes 205 = .ok (.iload 4, 2) := by decide +kernel
theorem dMO_byTimes_207 : decode cMO_byTimes 207 = .ok (.goto 4, 3) := by decide +kernel
theorem dMO_byTimes_210 : decode cMO_byTimes 210 = .ok (.iload_n 3, 1) := by decide +kernel
theorem dMO_byTimes_211 : decode cMO_byTimes 211 = .ok (.iastore, 1) := by decide +kernel
theorem dMO_byTimes_212 : decode cMO_byTimes 212 = .ok (.aload_n 0, 1) := by decide +kernel
theorem dMO_byTimes_213 : decode cMO_byTimes 213 = .ok (.getfield 19, 3) := by decide +kernel
theorem dMO_byTimes_216 : decode cMO_byTimes 216 = .ok (.aload_n 0, 1) := by decide +kernel
theorem dMO_byTimes_217 : decode cMO_byTimes 217 = .ok (.getfield 44, 3) := by decide +kernel
theorem dMO_byTimes_220 : decode cMO_byTimes 220 = .ok (.iload_n 2, 1) := by decide +kernel
theorem dMO_byTimes_221 : decode cMO_byTimes 221 = .ok (.iaload, 1) := by decide +kernel
theorem dMO_byTimes_222 : decode cMO_byTimes 222 = .ok (.dup2, 1) := by decide +kernel
theorem dMO_byTimes_223 : decode cMO_byTimes 223 = .ok (.iaload, 1) := by decide +kernel
theorem dMO_byTimes_224 : decode cMO_byTimes 224 = .ok (.aload_n 0, 1) := by decide +kernel
theorem dMO_byTimes_225 : decode cMO_byTimes 225 = .ok (.getfield 41, 3) := by decide +kernel
theorem dMO_byTimes_228 : decode cMO_byTimes 228 = .ok (.iload_n 2, 1) := by decide +kernel
theorem dMO_byTimes_229 : decode cMO_byTimes 229 = .ok (.iaload, 1) := by decide +kernel
theorem dMO_byTimes_230 : decode cMO_byTimes 230 = .ok (.iadd, 1) := by decide +kernel
theorem dMO_byTimes_231 : decode cMO_byTimes 231 = .ok (.iastore, 1) := by decide +kernel
theorem dMO_byTimes_232 : decode cMO_byTimes 232 = .ok (.iinc 1 1, 3) := by decide +kernel
theorem dMO_byTimes_235 : decode cMO_byTimes 235 = .ok (.goto (-190), 3) := by decide +kernel
theorem dMO_byTimes_238 : decode cMO_byTimes 238 = .ok (.return_, 1) := by decide +kernel
theorem dMO_shard_0 : decode cMO_shard 0 = .ok (.aload_n 0, 1) := by decide +kernel
theorem dMO_shard_1 : decode cMO_shard 1 = .ok (.iconst 0, 1) := by decide +kernel
theorem dMO_shard_2 : decode cMO_shard 2 = .ok (.putfield 57, 3) := by decide +kernel
theorem dMO_shard_5 : decode cMO_shard 5 = .ok (.aload_n 0, 1) := by decide +kernel
theorem dMO_shard_6 : decode cMO_shard 6 = .ok (.iload_n 1, 1) := by decide +kernel
theorem dMO_shard_7 : decode cMO_shard 7 = .ok (.invokevirtual 117, 3) := by decide +kernel
theorem dMO_shard_10 : decode cMO_shard 10 = .ok (.ifCond .eq 12, 3) := by decide +kernel
theorem dMO_shard_13 : decode cMO_shard 13 = .ok (.aload_n 0, 1) := by decide +kernel
theorem dMO_shard_14 : decode cMO_shard 14 = .ok (.getfield 16, 3) := by decide +kernel
theorem dMO_shard_17 : decode cMO_shard 17 = .ok (.iload_n 1, 1) := by decide +kernel
theorem dMO_shard_18 : decode cMO_shard 18 = .ok (.iaload, 1) := by decide +kernel
theorem dMO_shard_19 : decode cMO_shard 19 = .ok (.goto 4, 3) := by decide +kernel
theorem dMO_shard_22 : decode cMO_shard 22 = .ok (.iconst (-1), 1) := by decide +kernel
theorem dMO_shard_23 : decode cMO_shard 23 = .ok (.ireturn, 1) := by decide +kernel
theorem dMO_isIn_0 : decode cMO_isIn 0 = .ok (.aload_n 0, 1) := by decide +kernel
theorem dMO_isIn_1 : decode cMO_isIn 1 = .ok (.getfield 104, 3) := by decide +kernel
theorem dMO_isIn_4 : decode cMO_isIn 4 = .ok (.ifCond .eq 19, 3) := by decide +kernel
theorem dMO_isIn_7 : decode cMO_isIn 7 = .ok (.iload_n 1, 1) := by decide +kernel
theorem dMO_isIn_8 : decode cMO_isIn 8 = .ok (.ifCond .lt 15, 3) := by decide +kernel
theorem dMO_isIn_11 : decode cMO_isIn 11 = .ok (.iload_n 1, 1) := by decide +kernel
theorem dMO_isIn_12 : decode cMO_isIn 12 = .ok (.aload_n 0, 1) := by decide +kernel
theorem dMO_isIn_13 : decode cMO_isIn 13 = .ok (.getfield 111, 3) := by decide +kernel
theorem dMO_isIn_16 : decode cMO_isIn 16 = .ok (.if_icmp .ge 7, 3) := by decide +kernel
theorem dMO_isIn_19 : decode cMO_isIn 19 = .ok (.iconst 1, 1) := by decide +kernel
theorem dMO_isIn_20 : decode cMO_isIn 20 = .ok (.goto 4, 3) := by decide +kernel
theorem dMO_isIn_23 : decode cMO_isIn 23 = .ok (.iconst 0, 1) := by decide +kernel
theorem dMO_isIn_24 : decode cMO_isIn 24 = .ok (.ireturn, 1) := by decide +kernel
theorem dMO_sum_0 : decode cMO_sum 0 = .ok (.aload_n 0, 1) := by decide +kernel
theorem dMO_sum_1 : decode cMO_sum 1 = .ok (.iconst 0, 1) := by decide +kernel
theorem dMO_sum_2 : decode cMO_sum 2 = .ok (.putfield 57, 3) := by decide +kernel
theorem dMO_sum_5 : decode cMO_sum 5 = .ok (.aload_n 0, 1) := by decide +kernel
theorem dMO_sum_6 : decode cMO_sum 6 = .ok (.iload_n 1, 1) := by decide +kernel
theorem dMO_sum_7 : decode cMO_sum 7 = .ok (.invokevirtual 120, 3) := by decide +kernel
theorem dMO_sum_10 : decode cMO_sum 10 = .ok (.ifCond .eq 12, 3) := by decide +kernel
theorem dMO_sum_13 : decode cMO_sum 13 = .ok (.aload_n 0, 1) := by decide +kernel
theorem dMO_sum_14 : decode cMO_sum 14 = .ok (.getfield 19, 3) := by decide +kernel
theorem dMO_sum_17 : decode cMO_sum 17 = .ok (.iload_n 1, 1) := by decide +kernel
theorem dMO_sum_18 : decode cMO_sum 18 = .ok (.iaload, 1) := by decide +kernel
theorem dMO_sum_19 : decode cMO_sum 19 = .ok (.goto 4, 3) := by decide +kernel
theorem dMO_sum_22 : decode cMO_sum 22 = .ok (.iconst (-1), 1) := by decide +kernel
theorem dMO_sum_23 : decode cMO_sum 23 = .ok (.ireturn, 1) := by decide +kernel
theorem dMO_isShard_0 : decode cMO_isShard 0 = .ok (.aload_n 0, 1) := by decide +kernel
theorem dMO_isShard_1 : decode cMO_isShard 1 = .ok (.getfield 104, 3) := by decide +kernel
theorem dMO_isShard_4 : decode cMO_isShard 4 = .ok (.ifCond .eq 19, 3) := by decide +kernel
theorem dMO_isShard_7 : decode cMO_isShard 7 = .ok (.iload_n 1, 1) := by decide +kernel
theorem dMO_isShard_8 : decode cMO_isShard 8 = .ok (.ifCond .lt 15, 3) := by decide +kernel
theorem dMO_isShard_11 : decode cMO_isShard 11 = .ok (.iload_n 1, 1) := by decide +kernel
theorem dMO_isShard_12 : decode cMO_isShard 12 = .ok (.aload_n 0, 1) := by decide +kernel
theorem dMO_isShard_13 : decode cMO_isShard 13 = .ok (.getfield 108, 3) := by decide +kernel
theorem dMO_isShard_16 : decode cMO_isShard 16 = .ok (.if_icmp .ge 7, 3) := by decide +kernel
theorem dMO_isShard_19 : decode cMO_isShard 19 = .ok (.iconst 1, 1) := by decide +kernel
theorem dMO_isShard_20 : decode cMO_isShard 20 = .ok (.goto 4, 3) := by decide +kernel
theorem dMO_isShard_23 : decode cMO_isShard 23 = .ok (.iconst 0, 1) := by decide +kernel
theorem dMO_isShard_24 : decode cMO_isShard 24 = .ok (.ireturn, 1) := by decide +kernel
theorem dMO_moved_0 : decode cMO_moved 0 = .ok (.aload_n 0, 1) := by decide +kernel
theorem dMO_moved_1 : decode cMO_moved 1 = .ok (.iconst 0, 1) := by decide +kernel
theorem dMO_moved_2 : decode cMO_moved 2 = .ok (.putfield 57, 3) := by decide +kernel
theorem dMO_moved_5 : decode cMO_moved 5 = .ok (.aload_n 0, 1) := by decide +kernel
theorem dMO_moved_6 : decode cMO_moved 6 = .ok (.getfield 101, 3) := by decide +kernel
theorem dMO_moved_9 : decode cMO_moved 9 = .ok (.ireturn, 1) := by decide +kernel
theorem dMO_empty_0 : decode cMO_empty 0 = .ok (.aload_n 0, 1) := by decide +kernel
theorem dMO_empty_1 : decode cMO_empty 1 = .ok (.iconst 0, 1) := by decide +kernel
theorem dMO_empty_2 : decode cMO_empty 2 = .ok (.putfield 57, 3) := by decide +kernel
theorem dMO_empty_5 : decode cMO_empty 5 = .ok (.iconst 0, 1) := by decide +kernel
theorem dMO_empty_6 : decode cMO_empty 6 = .ok (.istore_n 2, 1) := by decide +kernel
theorem dMO_empty_7 : decode cMO_empty 7 = .ok (.iconst 0, 1) := by decide +kernel
theorem dMO_empty_8 : decode cMO_empty 8 = .ok (.istore_n 3, 1) := by decide +kernel
theorem dMO_empty_9 : decode cMO_empty 9 = .ok (.aload_n 0, 1) := by decide +kernel
theorem dMO_empty_10 : decode cMO_empty 10 = .ok (.iload_n 3, 1) := by decide +kernel
theorem dMO_empty_11 : decode cMO_empty 11 = .ok (.invokevirtual 120, 3) := by decide +kernel
theorem dMO_empty_14 : decode cMO_empty 14 = .ok (.ifCond .eq 30, 3) := by decide +kernel
theorem dMO_empty_17 : decode cMO_empty 17 = .ok (.aload_n 0, 1) := by decide +kernel
theorem dMO_empty_18 : decode cMO_empty 18 = .ok (.iload_n 3, 1) := by decide +kernel
theorem dMO_empty_19 : decode cMO_empty 19 = .ok (.invokevirtual 123, 3) := by decide +kernel
theorem dMO_empty_22 : decode cMO_empty 22 = .ok (.ifCond .le 6, 3) := by decide +kernel
theorem dMO_empty_25 : decode cMO_empty 25 = .ok (.goto 13, 3) := by decide +kernel
theorem dMO_empty_28 : decode cMO_empty 28 = .ok (.iload_n 2, 1) := by decide +kernel
theorem dMO_empty_29 : decode cMO_empty 29 = .ok (.iload_n 1, 1) := by decide +kernel
theorem dMO_empty_30 : decode cMO_empty 30 = .ok (.if_icmp .ne 5, 3) := by decide +kernel
theorem dMO_empty_33 : decode cMO_empty 33 = .ok (.iload_n 3, 1) := by decide +kernel
theorem dMO_empty_34 : decode cMO_empty 34 = .ok (.ireturn, 1) := by decide +kernel
theorem dMO_empty_35 : decode cMO_empty 35 = .ok (.iinc 2 1, 3) := by decide +kernel
theorem dMO_empty_38 : decode cMO_empty 38 = .ok (.iinc 3 1, 3) := by decide +kernel
theorem dMO_empty_41 : decode cMO_empty 41 = .ok (.goto (-32), 3) := by decide +kernel
theorem dMO_empty_44 : decode cMO_empty 44 = .ok (.iconst (-1), 1) := by decide +kernel
theorem dMO_empty_45 : decode cMO_empty 45 = .ok (.ireturn, 1) := by decide +kernel
theorem dMO_testsOf_0 : decode cMO_testsOf 0 = .ok (.iconst 0, 1) := by decide +kernel
theorem dMO_testsOf_1 : decode cMO_testsOf 1 = .ok (.istore_n 2, 1) := by decide +kernel
theorem dMO_testsOf_2 : decode cMO_testsOf 2 = .ok (.iconst 0, 1) := by decide +kernel
theorem dMO_testsOf_3 : decode cMO_testsOf 3 = .ok (.istore_n 3, 1) := by decide +kernel
theorem dMO_testsOf_4 : decode cMO_testsOf 4 = .ok (.iload_n 3, 1) := by decide +kernel
theorem dMO_testsOf_5 : decode cMO_testsOf 5 = .ok (.aload_n 0, 1) := by decide +kernel
theorem dMO_testsOf_6 : decode cMO_testsOf 6 = .ok (.getfield 111, 3) := by decide +kernel
theorem dMO_testsOf_9 : decode cMO_testsOf 9 = .ok (.if_icmp .ge 27, 3) := by decide +kernel
theorem dMO_testsOf_12 : decode cMO_testsOf 12 = .ok (.iload_n 2, 1) := by decide +kernel
theorem dMO_testsOf_13 : decode cMO_testsOf 13 = .ok (.aload_n 0, 1) := by decide +kernel
theorem dMO_testsOf_14 : decode cMO_testsOf 14 = .ok (.getfield 16, 3) := by decide +kernel
theorem dMO_testsOf_17 : decode cMO_testsOf 17 = .ok (.iload_n 3, 1) := by decide +kernel
theorem dMO_testsOf_18 : decode cMO_testsOf 18 = .ok (.iaload, 1) := by decide +kernel
theorem dMO_testsOf_19 : decode cMO_testsOf 19 = .ok (.iload_n 1, 1) := by decide +kernel
theorem dMO_testsOf_20 : decode cMO_testsOf 20 = .ok (.if_icmp .ne 7, 3) := by decide +kernel
theorem dMO_testsOf_23 : decode cMO_testsOf 23 = .ok (.iconst 1, 1) := by decide +kernel
theorem dMO_testsOf_24 : decode cMO_testsOf 24 = .ok (.goto 4, 3) := by decide +kernel
theorem dMO_testsOf_27 : decode cMO_testsOf 27 = .ok (.iconst 0, 1) := by decide +kernel
theorem dMO_testsOf_28 : decode cMO_testsOf 28 = .ok (.iadd, 1) := by decide +kernel
theorem dMO_testsOf_29 : decode cMO_testsOf 29 = .ok (.istore_n 2, 1) := by decide +kernel
theorem dMO_testsOf_30 : decode cMO_testsOf 30 = .ok (.iinc 3 1, 3) := by decide +kernel
theorem dMO_testsOf_33 : decode cMO_testsOf 33 = .ok (.goto (-29), 3) := by decide +kernel
theorem dMO_testsOf_36 : decode cMO_testsOf 36 = .ok (.iload_n 2, 1) := by decide +kernel
theorem dMO_testsOf_37 : decode cMO_testsOf 37 = .ok (.ireturn, 1) := by decide +kernel
theorem dMO_draw_0 : decode cMO_draw 0 = .ok (.aload_n 0, 1) := by decide +kernel
theorem dMO_draw_1 : decode cMO_draw 1 = .ok (.iconst 0, 1) := by decide +kernel
theorem dMO_draw_2 : decode cMO_draw 2 = .ok (.putfield 57, 3) := by decide +kernel
theorem dMO_draw_5 : decode cMO_draw 5 = .ok (.aload_n 0, 1) := by decide +kernel
theorem dMO_draw_6 : decode cMO_draw 6 = .ok (.iload_n 1, 1) := by decide +kernel
theorem dMO_draw_7 : decode cMO_draw 7 = .ok (.invokevirtual 120, 3) := by decide +kernel
theorem dMO_draw_10 : decode cMO_draw 10 = .ok (.ifCond .ne 5, 3) := by decide +kernel
theorem dMO_draw_13 : decode cMO_draw 13 = .ok (.iconst (-1), 1) := by decide +kernel
theorem dMO_draw_14 : decode cMO_draw 14 = .ok (.ireturn, 1) := by decide +kernel
theorem dMO_draw_15 : decode cMO_draw 15 = .ok (.aload_n 0, 1) := by decide +kernel
theorem dMO_draw_16 : decode cMO_draw 16 = .ok (.iconst 0, 1) := by decide +kernel
theorem dMO_draw_17 : decode cMO_draw 17 = .ok (.putfield 127, 3) := by decide +kernel
theorem dMO_draw_20 : decode cMO_draw 20 = .ok (.iconst 0, 1) := by decide +kernel
theorem dMO_draw_21 : decode cMO_draw 21 = .ok (.istore 4, 2) := by decide +kernel
theorem dMO_draw_23 : decode cMO_draw 23 = .ok (.iload 4, 2) := by decide +kernel
theorem dMO_draw_25 : decode cMO_draw 25 = .ok (.aload_n 0, 1) := by decide +kernel
theorem dMO_draw_26 : decode cMO_draw 26 = .ok (.getfield 111, 3) := by decide +kernel
theorem dMO_draw_29 : decode cMO_draw 29 = .ok (.if_icmp .ge 41, 3) := by decide +kernel
theorem dMO_draw_32 : decode cMO_draw 32 = .ok (.aload_n 0, 1) := by decide +kernel
theorem dMO_draw_33 : decode cMO_draw 33 = .ok (.getfield 16, 3) := by decide +kernel
theorem dMO_draw_36 : decode cMO_draw 36 = .ok (.iload 4, 2) := by decide +kernel
theorem dMO_draw_38 : decode cMO_draw 38 = .ok (.iaload, 1) := by decide +kernel
theorem dMO_draw_39 : decode cMO_draw 39 = .ok (.iload_n 1, 1) := by decide +kernel
theorem dMO_draw_40 : decode cMO_draw 40 = .ok (.if_icmp .ne 24, 3) := by decide +kernel
theorem dMO_draw_43 : decode cMO_draw 43 = .ok (.aload_n 0, 1) := by decide +kernel
theorem dMO_draw_44 : decode cMO_draw 44 = .ok (.getfield 35, 3) := by decide +kernel
theorem dMO_draw_47 : decode cMO_draw 47 = .ok (.aload_n 0, 1) := by decide +kernel
theorem dMO_draw_48 : decode cMO_draw 48 = .ok (.getfield 127, 3) := by decide +kernel
theorem dMO_draw_51 : decode cMO_draw 51 = .ok (.iload 4, 2) := by decide +kernel
theorem dMO_draw_53 : decode cMO_draw 53 = .ok (.iastore, 1) := by decide +kernel
theorem dMO_draw_54 : decode cMO_draw 54 = .ok (.aload_n 0, 1) := by decide +kernel
theorem dMO_draw_55 : decode cMO_draw 55 = .ok (.dup, 1) := by decide +kernel
theorem dMO_draw_56 : decode cMO_draw 56 = .ok (.getfield 127, 3) := by decide +kernel
theorem dMO_draw_59 : decode cMO_draw 59 = .ok (.iconst 1, 1) := by decide +kernel
theorem dMO_draw_60 : decode cMO_draw 60 = .ok (.iadd, 1) := by decide +kernel
theorem dMO_draw_61 : decode cMO_draw 61 = .ok (.putfield 127, 3) := by decide +kernel
theorem dMO_draw_64 : decode cMO_draw 64 = .ok (.iinc 4 1, 3) := by decide +kernel
theorem dMO_draw_67 : decode cMO_draw 67 = .ok (.goto (-44), 3) := by decide +kernel
theorem dMO_draw_70 : decode cMO_draw 70 = .ok (.lload_n 2, 1) := by decide +kernel
theorem dMO_draw_71 : decode cMO_draw 71 = .ok (.lstore 4, 2) := by decide +kernel
theorem dMO_draw_73 : decode cMO_draw 73 = .ok (.aload_n 0, 1) := by decide +kernel
theorem dMO_draw_74 : decode cMO_draw 74 = .ok (.getfield 127, 3) := by decide +kernel
theorem dMO_draw_77 : decode cMO_draw 77 = .ok (.iconst 1, 1) := by decide +kernel
theorem dMO_draw_78 : decode cMO_draw 78 = .ok (.isub, 1) := by decide +kernel
theorem dMO_draw_79 : decode cMO_draw 79 = .ok (.istore 6, 2) := by decide +kernel
theorem dMO_draw_81 : decode cMO_draw 81 = .ok (.iload 6, 2) := by decide +kernel
theorem dMO_draw_83 : decode cMO_draw 83 = .ok (.ifCond .le 67, 3) := by decide +kernel
theorem dMO_draw_86 : decode cMO_draw 86 = .ok (.lload 4, 2) := by decide +kernel
theorem dMO_draw_88 : decode cMO_draw 88 = .ok (.ldc2_w 130, 3) := by decide +kernel
theorem dMO_draw_91 : decode cMO_draw 91 = .ok (.lmul, 1) := by decide +kernel
theorem dMO_draw_92 : decode cMO_draw 92 = .ok (.ldc2_w 132, 3) := by decide +kernel
theorem dMO_draw_95 : decode cMO_draw 95 = .ok (.ladd, 1) := by decide +kernel
theorem dMO_draw_96 : decode cMO_draw 96 = .ok (.lstore 4, 2) := by decide +kernel
theorem dMO_draw_98 : decode cMO_draw 98 = .ok (.lload 4, 2) := by decide +kernel
theorem dMO_draw_100 : decode cMO_draw 100 = .ok (.bipush 33, 2) := by decide +kernel
theorem dMO_draw_102 : decode cMO_draw 102 = .ok (.lushr, 1) := by decide +kernel
theorem dMO_draw_103 : decode cMO_draw 103 = .ok (.iload 6, 2) := by decide +kernel
theorem dMO_draw_105 : decode cMO_draw 105 = .ok (.iconst 1, 1) := by decide +kernel
theorem dMO_draw_106 : decode cMO_draw 106 = .ok (.iadd, 1) := by decide +kernel
theorem dMO_draw_107 : decode cMO_draw 107 = .ok (.i2l, 1) := by decide +kernel
theorem dMO_draw_108 : decode cMO_draw 108 = .ok (.lrem, 1) := by decide +kernel
theorem dMO_draw_109 : decode cMO_draw 109 = .ok (.l2i, 1) := by decide +kernel
theorem dMO_draw_110 : decode cMO_draw 110 = .ok (.istore 7, 2) := by decide +kernel
theorem dMO_draw_112 : decode cMO_draw 112 = .ok (.aload_n 0, 1) := by decide +kernel
theorem dMO_draw_113 : decode cMO_draw 113 = .ok (.getfield 35, 3) := by decide +kernel
theorem dMO_draw_116 : decode cMO_draw 116 = .ok (.iload 6, 2) := by decide +kernel
theorem dMO_draw_118 : decode cMO_draw 118 = .ok (.iaload, 1) := by decide +kernel
theorem dMO_draw_119 : decode cMO_draw 119 = .ok (.istore 8, 2) := by decide +kernel
theorem dMO_draw_121 : decode cMO_draw 121 = .ok (.aload_n 0, 1) := by decide +kernel
theorem dMO_draw_122 : decode cMO_draw 122 = .ok (.getfield 35, 3) := by decide +kernel
theorem dMO_draw_125 : decode cMO_draw 125 = .ok (.iload 6, 2) := by decide +kernel
theorem dMO_draw_127 : decode cMO_draw 127 = .ok (.aload_n 0, 1) := by decide +kernel
theorem dMO_draw_128 : decode cMO_draw 128 = .ok (.getfield 35, 3) := by decide +kernel
theorem dMO_draw_131 : decode cMO_draw 131 = .ok (.iload 7, 2) := by decide +kernel
theorem dMO_draw_133 : decode cMO_draw 133 = .ok (.iaload, 1) := by decide +kernel
theorem dMO_draw_134 : decode cMO_draw 134 = .ok (.iastore, 1) := by decide +kernel
theorem dMO_draw_135 : decode cMO_draw 135 = .ok (.aload_n 0, 1) := by decide +kernel
theorem dMO_draw_136 : decode cMO_draw 136 = .ok (.getfield 35, 3) := by decide +kernel
theorem dMO_draw_139 : decode cMO_draw 139 = .ok (.iload 7, 2) := by decide +kernel
theorem dMO_draw_141 : decode cMO_draw 141 = .ok (.iload 8, 2) := by decide +kernel
theorem dMO_draw_143 : decode cMO_draw 143 = .ok (.iastore, 1) := by decide +kernel
theorem dMO_draw_144 : decode cMO_draw 144 = .ok (.iinc 6 (-1), 3) := by decide +kernel
theorem dMO_draw_147 : decode cMO_draw 147 = .ok (.goto (-66), 3) := by decide +kernel
theorem dMO_draw_150 : decode cMO_draw 150 = .ok (.aload_n 0, 1) := by decide +kernel
theorem dMO_draw_151 : decode cMO_draw 151 = .ok (.getfield 127, 3) := by decide +kernel
theorem dMO_draw_154 : decode cMO_draw 154 = .ok (.ireturn, 1) := by decide +kernel
theorem dMO_drawn_0 : decode cMO_drawn 0 = .ok (.aload_n 0, 1) := by decide +kernel
theorem dMO_drawn_1 : decode cMO_drawn 1 = .ok (.iconst 0, 1) := by decide +kernel
theorem dMO_drawn_2 : decode cMO_drawn 2 = .ok (.putfield 57, 3) := by decide +kernel
theorem dMO_drawn_5 : decode cMO_drawn 5 = .ok (.iload_n 1, 1) := by decide +kernel
theorem dMO_drawn_6 : decode cMO_drawn 6 = .ok (.ifCond .lt 20, 3) := by decide +kernel
theorem dMO_drawn_9 : decode cMO_drawn 9 = .ok (.iload_n 1, 1) := by decide +kernel
theorem dMO_drawn_10 : decode cMO_drawn 10 = .ok (.aload_n 0, 1) := by decide +kernel
theorem dMO_drawn_11 : decode cMO_drawn 11 = .ok (.getfield 127, 3) := by decide +kernel
theorem dMO_drawn_14 : decode cMO_drawn 14 = .ok (.if_icmp .ge 12, 3) := by decide +kernel
theorem dMO_drawn_17 : decode cMO_drawn 17 = .ok (.aload_n 0, 1) := by decide +kernel
theorem dMO_drawn_18 : decode cMO_drawn 18 = .ok (.getfield 35, 3) := by decide +kernel
theorem dMO_drawn_21 : decode cMO_drawn 21 = .ok (.iload_n 1, 1) := by decide +kernel
theorem dMO_drawn_22 : decode cMO_drawn 22 = .ok (.iaload, 1) := by decide +kernel
theorem dMO_drawn_23 : decode cMO_drawn 23 = .ok (.goto 4, 3) := by decide +kernel
theorem dMO_drawn_26 : decode cMO_drawn 26 = .ok (.iconst (-1), 1) := by decide +kernel
theorem dMO_drawn_27 : decode cMO_drawn 27 = .ok (.ireturn, 1) := by decide +kernel
theorem dMO_result_0 : decode cMO_result 0 = .ok (.aload_n 0, 1) := by decide +kernel
theorem dMO_result_1 : decode cMO_result 1 = .ok (.iconst 0, 1) := by decide +kernel
theorem dMO_result_2 : decode cMO_result 2 = .ok (.putfield 57, 3) := by decide +kernel
theorem dMO_result_5 : decode cMO_result 5 = .ok (.aload_n 0, 1) := by decide +kernel
theorem dMO_result_6 : decode cMO_result 6 = .ok (.iload_n 1, 1) := by decide +kernel
theorem dMO_result_7 : decode cMO_result 7 = .ok (.invokevirtual 117, 3) := by decide +kernel
theorem dMO_result_10 : decode cMO_result 10 = .ok (.ifCond .eq 11, 3) := by decide +kernel
theorem dMO_result_13 : decode cMO_result 13 = .ok (.aload_n 0, 1) := by decide +kernel
theorem dMO_result_14 : decode cMO_result 14 = .ok (.iload_n 2, 1) := by decide +kernel
theorem dMO_result_15 : decode cMO_result 15 = .ok (.invokevirtual 120, 3) := by decide +kernel
theorem dMO_result_18 : decode cMO_result 18 = .ok (.ifCond .ne 5, 3) := by decide +kernel
theorem dMO_result_21 : decode cMO_result 21 = .ok (.iconst (-1), 1) := by decide +kernel
theorem dMO_result_22 : decode cMO_result 22 = .ok (.ireturn, 1) := by decide +kernel
theorem dMO_result_23 : decode cMO_result 23 = .ok (.aload_n 0, 1) := by decide +kernel
theorem dMO_result_24 : decode cMO_result 24 = .ok (.getfield 16, 3) := by decide +kernel
theorem dMO_result_27 : decode cMO_result 27 = .ok (.iload_n 1, 1) := by decide +kernel
theorem dMO_result_28 : decode cMO_result 28 = .ok (.iaload, 1) := by decide +kernel
theorem dMO_result_29 : decode cMO_result 29 = .ok (.iload_n 2, 1) := by decide +kernel
theorem dMO_result_30 : decode cMO_result 30 = .ok (.if_icmp .eq 16, 3) := by decide +kernel
theorem dMO_result_33 : decode cMO_result 33 = .ok (.aload_n 0, 1) := by decide +kernel
theorem dMO_result_34 : decode cMO_result 34 = .ok (.dup, 1) := by decide +kernel
theorem dMO_result_35 : decode cMO_result 35 = .ok (.getfield 114, 3) := by decide +kernel
theorem dMO_result_38 : decode cMO_result 38 = .ok (.iconst 1, 1) := by decide +kernel
theorem dMO_result_39 : decode cMO_result 39 = .ok (.iadd, 1) := by decide +kernel
theorem dMO_result_40 : decode cMO_result 40 = .ok (.putfield 114, 3) := by decide +kernel
theorem dMO_result_43 : decode cMO_result 43 = .ok (.bipush (-2), 2) := by decide +kernel
theorem dMO_result_45 : decode cMO_result 45 = .ok (.ireturn, 1) := by decide +kernel
theorem dMO_result_46 : decode cMO_result 46 = .ok (.aload_n 0, 1) := by decide +kernel
theorem dMO_result_47 : decode cMO_result 47 = .ok (.getfield 25, 3) := by decide +kernel
theorem dMO_result_50 : decode cMO_result 50 = .ok (.iload_n 1, 1) := by decide +kernel
theorem dMO_result_51 : decode cMO_result 51 = .ok (.baload, 1) := by decide +kernel
theorem dMO_result_52 : decode cMO_result 52 = .ok (.ifCond .eq 5, 3) := by decide +kernel
theorem dMO_result_55 : decode cMO_result 55 = .ok (.iconst 0, 1) := by decide +kernel
theorem dMO_result_56 : decode cMO_result 56 = .ok (.ireturn, 1) := by decide +kernel
theorem dMO_result_57 : decode cMO_result 57 = .ok (.aload_n 0, 1) := by decide +kernel
theorem dMO_result_58 : decode cMO_result 58 = .ok (.getfield 25, 3) := by decide +kernel
theorem dMO_result_61 : decode cMO_result 61 = .ok (.iload_n 1, 1) := by decide +kernel
theorem dMO_result_62 : decode cMO_result 62 = .ok (.iconst 1, 1) := by decide +kernel
theorem dMO_result_63 : decode cMO_result 63 = .ok (.bastore, 1) := by decide +kernel
theorem dMO_result_64 : decode cMO_result 64 = .ok (.aload_n 0, 1) := by decide +kernel
theorem dMO_result_65 : decode cMO_result 65 = .ok (.getfield 29, 3) := by decide +kernel
theorem dMO_result_68 : decode cMO_result 68 = .ok (.iload_n 1, 1) := by decide +kernel
theorem dMO_result_69 : decode cMO_result 69 = .ok (.iload_n 3, 1) := by decide +kernel
theorem dMO_result_70 : decode cMO_result 70 = .ok (.ifCond .ne 7, 3) := by decide +kernel
theorem dMO_result_73 : decode cMO_result 73 = .ok (.iconst 1, 1) := by decide +kernel
theorem dMO_result_74 : decode cMO_result 74 = .ok (.goto 4, 3) := by decide +kernel
theorem dMO_result_77 : decode cMO_result 77 = .ok (.iconst 0, 1) := by decide +kernel
theorem dMO_result_78 : decode cMO_result 78 = .ok (.bastore, 1) := by decide +kernel
theorem dMO_result_79 : decode cMO_result 79 = .ok (.aload_n 0, 1) := by decide +kernel
theorem dMO_result_80 : decode cMO_result 80 = .ok (.getfield 32, 3) := by decide +kernel
end
section
theorem dMO_result_83 : decode cMO_result 83 = .ok (.iload_n 1, 1) := by decide +kernel
theorem dMO_result_84 : decode cMO_result 84 = .ok (.dup2, 1) := by decide +kernel
theorem dMO_result_85 : decode cMO_result 85 = .ok (.iaload, 1) := by decide +kernel
theorem dMO_result_86 : decode cMO_result 86 = .ok (.iconst 1, 1) := by decide +kernel
theorem dMO_result_87 : decode cMO_result 87 = .ok (.iadd, 1) := by decide +kernel
theorem dMO_result_88 : decode cMO_result 88 = .ok (.iastore, 1) := by decide +kernel
theorem dMO_result_89 : decode cMO_result 89 = .ok (.iconst 1, 1) := by decide +kernel
theorem dMO_result_90 : decode cMO_result 90 = .ok (.ireturn, 1) := by decide +kernel
theorem dMO_again_0 : decode cMO_again 0 = .ok (.aload_n 0, 1) := by decide +kernel
theorem dMO_again_1 : decode cMO_again 1 = .ok (.iconst 0, 1) := by decide +kernel
theorem dMO_again_2 : decode cMO_again 2 = .ok (.putfield 57, 3) := by decide +kernel
theorem dMO_again_5 : decode cMO_again 5 = .ok (.aload_n 0, 1) := by decide +kernel
theorem dMO_again_6 : decode cMO_again 6 = .ok (.iload_n 1, 1) := by decide +kernel
theorem dMO_again_7 : decode cMO_again 7 = .ok (.invokevirtual 117, 3) := by decide +kernel
theorem dMO_again_10 : decode cMO_again 10 = .ok (.ifCond .eq 21, 3) := by decide +kernel
theorem dMO_again_13 : decode cMO_again 13 = .ok (.aload_n 0, 1) := by decide +kernel
theorem dMO_again_14 : decode cMO_again 14 = .ok (.getfield 25, 3) := by decide +kernel
theorem dMO_again_17 : decode cMO_again 17 = .ok (.iload_n 1, 1) := by decide +kernel
theorem dMO_again_18 : decode cMO_again 18 = .ok (.baload, 1) := by decide +kernel
theorem dMO_again_19 : decode cMO_again 19 = .ok (.ifCond .eq 12, 3) := by decide +kernel
theorem dMO_again_22 : decode cMO_again 22 = .ok (.aload_n 0, 1) := by decide +kernel
theorem dMO_again_23 : decode cMO_again 23 = .ok (.getfield 29, 3) := by decide +kernel
theorem dMO_again_26 : decode cMO_again 26 = .ok (.iload_n 1, 1) := by decide +kernel
theorem dMO_again_27 : decode cMO_again 27 = .ok (.baload, 1) := by decide +kernel
theorem dMO_again_28 : decode cMO_again 28 = .ok (.ifCond .eq 5, 3) := by decide +kernel
theorem dMO_again_31 : decode cMO_again 31 = .ok (.iconst 0, 1) := by decide +kernel
theorem dMO_again_32 : decode cMO_again 32 = .ok (.ireturn, 1) := by decide +kernel
theorem dMO_again_33 : decode cMO_again 33 = .ok (.aload_n 0, 1) := by decide +kernel
theorem dMO_again_34 : decode cMO_again 34 = .ok (.getfield 25, 3) := by decide +kernel
theorem dMO_again_37 : decode cMO_again 37 = .ok (.iload_n 1, 1) := by decide +kernel
theorem dMO_again_38 : decode cMO_again 38 = .ok (.iconst 0, 1) := by decide +kernel
theorem dMO_again_39 : decode cMO_again 39 = .ok (.bastore, 1) := by decide +kernel
theorem dMO_again_40 : decode cMO_again 40 = .ok (.iconst 1, 1) := by decide +kernel
theorem dMO_again_41 : decode cMO_again 41 = .ok (.ireturn, 1) := by decide +kernel
theorem dMO_strange_0 : decode cMO_strange 0 = .ok (.aload_n 0, 1) := by decide +kernel
theorem dMO_strange_1 : decode cMO_strange 1 = .ok (.iconst 0, 1) := by decide +kernel
theorem dMO_strange_2 : decode cMO_strange 2 = .ok (.putfield 57, 3) := by decide +kernel
theorem dMO_strange_5 : decode cMO_strange 5 = .ok (.aload_n 0, 1) := by decide +kernel
theorem dMO_strange_6 : decode cMO_strange 6 = .ok (.getfield 114, 3) := by decide +kernel
theorem dMO_strange_9 : decode cMO_strange 9 = .ok (.ireturn, 1) := by decide +kernel
theorem dMO_missing_0 : decode cMO_missing 0 = .ok (.aload_n 0, 1) := by decide +kernel
theorem dMO_missing_1 : decode cMO_missing 1 = .ok (.iconst 0, 1) := by decide +kernel
theorem dMO_missing_2 : decode cMO_missing 2 = .ok (.putfield 57, 3) := by decide +kernel
theorem dMO_missing_5 : decode cMO_missing 5 = .ok (.iconst 0, 1) := by decide +kernel
theorem dMO_missing_6 : decode cMO_missing 6 = .ok (.istore_n 2, 1) := by decide +kernel
theorem dMO_missing_7 : decode cMO_missing 7 = .ok (.iconst 0, 1) := by decide +kernel
theorem dMO_missing_8 : decode cMO_missing 8 = .ok (.istore_n 3, 1) := by decide +kernel
theorem dMO_missing_9 : decode cMO_missing 9 = .ok (.aload_n 0, 1) := by decide +kernel
theorem dMO_missing_10 : decode cMO_missing 10 = .ok (.iload_n 3, 1) := by decide +kernel
theorem dMO_missing_11 : decode cMO_missing 11 = .ok (.invokevirtual 117, 3) := by decide +kernel
theorem dMO_missing_14 : decode cMO_missing 14 = .ok (.ifCond .eq 31, 3) := by decide +kernel
theorem dMO_missing_17 : decode cMO_missing 17 = .ok (.aload_n 0, 1) := by decide +kernel
theorem dMO_missing_18 : decode cMO_missing 18 = .ok (.getfield 25, 3) := by decide +kernel
theorem dMO_missing_21 : decode cMO_missing 21 = .ok (.iload_n 3, 1) := by decide +kernel
theorem dMO_missing_22 : decode cMO_missing 22 = .ok (.baload, 1) := by decide +kernel
theorem dMO_missing_23 : decode cMO_missing 23 = .ok (.ifCond .eq 6, 3) := by decide +kernel
theorem dMO_missing_26 : decode cMO_missing 26 = .ok (.goto 13, 3) := by decide +kernel
theorem dMO_missing_29 : decode cMO_missing 29 = .ok (.iload_n 2, 1) := by decide +kernel
theorem dMO_missing_30 : decode cMO_missing 30 = .ok (.iload_n 1, 1) := by decide +kernel
theorem dMO_missing_31 : decode cMO_missing 31 = .ok (.if_icmp .ne 5, 3) := by decide +kernel
theorem dMO_missing_34 : decode cMO_missing 34 = .ok (.iload_n 3, 1) := by decide +kernel
theorem dMO_missing_35 : decode cMO_missing 35 = .ok (.ireturn, 1) := by decide +kernel
theorem dMO_missing_36 : decode cMO_missing 36 = .ok (.iinc 2 1, 3) := by decide +kernel
theorem dMO_missing_39 : decode cMO_missing 39 = .ok (.iinc 3 1, 3) := by decide +kernel
theorem dMO_missing_42 : decode cMO_missing 42 = .ok (.goto (-33), 3) := by decide +kernel
theorem dMO_missing_45 : decode cMO_missing 45 = .ok (.iconst (-1), 1) := by decide +kernel
theorem dMO_missing_46 : decode cMO_missing 46 = .ok (.ireturn, 1) := by decide +kernel
theorem dMO_verdict_0 : decode cMO_verdict 0 = .ok (.aload_n 0, 1) := by decide +kernel
theorem dMO_verdict_1 : decode cMO_verdict 1 = .ok (.iconst 0, 1) := by decide +kernel
theorem dMO_verdict_2 : decode cMO_verdict 2 = .ok (.putfield 57, 3) := by decide +kernel
theorem dMO_verdict_5 : decode cMO_verdict 5 = .ok (.aload_n 0, 1) := by decide +kernel
theorem dMO_verdict_6 : decode cMO_verdict 6 = .ok (.getfield 104, 3) := by decide +kernel
theorem dMO_verdict_9 : decode cMO_verdict 9 = .ok (.ifCond .ne 5, 3) := by decide +kernel
theorem dMO_verdict_12 : decode cMO_verdict 12 = .ok (.iconst (-1), 1) := by decide +kernel
theorem dMO_verdict_13 : decode cMO_verdict 13 = .ok (.ireturn, 1) := by decide +kernel
theorem dMO_verdict_14 : decode cMO_verdict 14 = .ok (.iconst 1, 1) := by decide +kernel
theorem dMO_verdict_15 : decode cMO_verdict 15 = .ok (.istore_n 1, 1) := by decide +kernel
theorem dMO_verdict_16 : decode cMO_verdict 16 = .ok (.iconst 1, 1) := by decide +kernel
theorem dMO_verdict_17 : decode cMO_verdict 17 = .ok (.istore_n 2, 1) := by decide +kernel
theorem dMO_verdict_18 : decode cMO_verdict 18 = .ok (.iconst 0, 1) := by decide +kernel
theorem dMO_verdict_19 : decode cMO_verdict 19 = .ok (.istore_n 3, 1) := by decide +kernel
theorem dMO_verdict_20 : decode cMO_verdict 20 = .ok (.iload_n 3, 1) := by decide +kernel
theorem dMO_verdict_21 : decode cMO_verdict 21 = .ok (.aload_n 0, 1) := by decide +kernel
theorem dMO_verdict_22 : decode cMO_verdict 22 = .ok (.getfield 111, 3) := by decide +kernel
theorem dMO_verdict_25 : decode cMO_verdict 25 = .ok (.if_icmp .ge 47, 3) := by decide +kernel
theorem dMO_verdict_28 : decode cMO_verdict 28 = .ok (.iload_n 1, 1) := by decide +kernel
theorem dMO_verdict_29 : decode cMO_verdict 29 = .ok (.ifCond .eq 16, 3) := by decide +kernel
theorem dMO_verdict_32 : decode cMO_verdict 32 = .ok (.aload_n 0, 1) := by decide +kernel
theorem dMO_verdict_33 : decode cMO_verdict 33 = .ok (.getfield 25, 3) := by decide +kernel
theorem dMO_verdict_36 : decode cMO_verdict 36 = .ok (.iload_n 3, 1) := by decide +kernel
theorem dMO_verdict_37 : decode cMO_verdict 37 = .ok (.baload, 1) := by decide +kernel
theorem dMO_verdict_38 : decode cMO_verdict 38 = .ok (.ifCond .eq 7, 3) := by decide +kernel
theorem dMO_verdict_41 : decode cMO_verdict 41 = .ok (.iconst 1, 1) := by decide +kernel
theorem dMO_verdict_42 : decode cMO_verdict 42 = .ok (.goto 4, 3) := by decide +kernel
theorem dMO_verdict_45 : decode cMO_verdict 45 = .ok (.iconst 0, 1) := by decide +kernel
theorem dMO_verdict_46 : decode cMO_verdict 46 = .ok (.istore_n 1, 1) := by decide +kernel
theorem dMO_verdict_47 : decode cMO_verdict 47 = .ok (.iload_n 2, 1) := by decide +kernel
theorem dMO_verdict_48 : decode cMO_verdict 48 = .ok (.ifCond .eq 16, 3) := by decide +kernel
theorem dMO_verdict_51 : decode cMO_verdict 51 = .ok (.aload_n 0, 1) := by decide +kernel
theorem dMO_verdict_52 : decode cMO_verdict 52 = .ok (.getfield 29, 3) := by decide +kernel
theorem dMO_verdict_55 : decode cMO_verdict 55 = .ok (.iload_n 3, 1) := by decide +kernel
theorem dMO_verdict_56 : decode cMO_verdict 56 = .ok (.baload, 1) := by decide +kernel
theorem dMO_verdict_57 : decode cMO_verdict 57 = .ok (.ifCond .eq 7, 3) := by decide +kernel
theorem dMO_verdict_60 : decode cMO_verdict 60 = .ok (.iconst 1, 1) := by decide +kernel
theorem dMO_verdict_61 : decode cMO_verdict 61 = .ok (.goto 4, 3) := by decide +kernel
theorem dMO_verdict_64 : decode cMO_verdict 64 = .ok (.iconst 0, 1) := by decide +kernel
theorem dMO_verdict_65 : decode cMO_verdict 65 = .ok (.istore_n 2, 1) := by decide +kernel
theorem dMO_verdict_66 : decode cMO_verdict 66 = .ok (.iinc 3 1, 3) := by decide +kernel
theorem dMO_verdict_69 : decode cMO_verdict 69 = .ok (.goto (-49), 3) := by decide +kernel
theorem dMO_verdict_72 : decode cMO_verdict 72 = .ok (.iload_n 1, 1) := by decide +kernel
theorem dMO_verdict_73 : decode cMO_verdict 73 = .ok (.ifCond .ne 7, 3) := by decide +kernel
theorem dMO_verdict_76 : decode cMO_verdict 76 = .ok (.iconst 0, 1) := by decide +kernel
theorem dMO_verdict_77 : decode cMO_verdict 77 = .ok (.goto 12, 3) := by decide +kernel
theorem dMO_verdict_80 : decode cMO_verdict 80 = .ok (.iload_n 2, 1) := by decide +kernel
theorem dMO_verdict_81 : decode cMO_verdict 81 = .ok (.ifCond .eq 7, 3) := by decide +kernel
theorem dMO_verdict_84 : decode cMO_verdict 84 = .ok (.iconst 1, 1) := by decide +kernel
theorem dMO_verdict_85 : decode cMO_verdict 85 = .ok (.goto 4, 3) := by decide +kernel
theorem dMO_verdict_88 : decode cMO_verdict 88 = .ok (.iconst 2, 1) := by decide +kernel
theorem dMO_verdict_89 : decode cMO_verdict 89 = .ok (.ireturn, 1) := by decide +kernel
theorem dMO_tries_0 : decode cMO_tries 0 = .ok (.aload_n 0, 1) := by decide +kernel
theorem dMO_tries_1 : decode cMO_tries 1 = .ok (.iconst 0, 1) := by decide +kernel
theorem dMO_tries_2 : decode cMO_tries 2 = .ok (.putfield 57, 3) := by decide +kernel
theorem dMO_tries_5 : decode cMO_tries 5 = .ok (.aload_n 0, 1) := by decide +kernel
theorem dMO_tries_6 : decode cMO_tries 6 = .ok (.iload_n 1, 1) := by decide +kernel
theorem dMO_tries_7 : decode cMO_tries 7 = .ok (.invokevirtual 117, 3) := by decide +kernel
theorem dMO_tries_10 : decode cMO_tries 10 = .ok (.ifCond .eq 12, 3) := by decide +kernel
theorem dMO_tries_13 : decode cMO_tries 13 = .ok (.aload_n 0, 1) := by decide +kernel
theorem dMO_tries_14 : decode cMO_tries 14 = .ok (.getfield 32, 3) := by decide +kernel
theorem dMO_tries_17 : decode cMO_tries 17 = .ok (.iload_n 1, 1) := by decide +kernel
theorem dMO_tries_18 : decode cMO_tries 18 = .ok (.iaload, 1) := by decide +kernel
theorem dMO_tries_19 : decode cMO_tries 19 = .ok (.goto 4, 3) := by decide +kernel
theorem dMO_tries_22 : decode cMO_tries 22 = .ok (.iconst 0, 1) := by decide +kernel
theorem dMO_tries_23 : decode cMO_tries 23 = .ok (.ireturn, 1) := by decide +kernel
end
section
theorem hr_inc (n : Nat) : nI n + Int32.ofInt 1 = nI (n + 1) := nI_1 n
theorem hr_dec (n : Nat) : nI (n + 1) + Int32.ofInt (-1) = nI n := pk_m1 n
theorem hr_max {a b : Nat} (ha : a < 2 ^ 31) (hb : b < 2 ^ 31) : (if nI a < nI b then nI b else nI a) = nI (max a b) := by
  by_cases h : a < b
  · rw [if_pos ((nI_ltI ha hb).mpr h), Nat.max_eq_right (Nat.le_of_lt h)]
  · rw [if_neg (fun q => h ((nI_ltI ha hb).mp q)), Nat.max_eq_left (by omega)]
theorem hr_min {a b : Nat} (ha : a < 2 ^ 31) (hb : b < 2 ^ 31) : (if nI b < nI a then nI b else nI a) = nI (min a b) := by
  by_cases h : b < a
  · rw [if_pos ((nI_ltI hb ha).mpr h), Nat.min_eq_right (Nat.le_of_lt h)]
  · rw [if_neg (fun q => h ((nI_ltI hb ha).mp q)), Nat.min_eq_left (by omega)]
theorem hr_updN {f : Nat → Nat} {i v : Nat} : upd (fun j => nI (f j)) i (nI v) = fun j => nI (va_up f i v j) := by
  funext j
  by_cases h : j = i
  · simp [upd, va_up, h]
  · simp [upd, va_up, h]
theorem hr_cpyN {f g : Nat → Nat} {sp dp n : Nat} : va_cpy (fun j => nI (f j)) (fun j => nI (g j)) sp dp n = fun j => nI (va_cpy f g sp dp n j) := by
  funext j
  by_cases h : dp ≤ j ∧ j < dp + n
  · simp [va_cpy, h]
  · simp [va_cpy, h]
/-- an answer of no or some place -/
def oI (o : Option Nat) : Int32 := match o with
  | none => -1
  | some k => nI k
theorem oI_none : oI none = -1 := rfl
theorem oI_some (k : Nat) : oI (some k) = nI k := rfl
theorem hr_updO {f : Nat → Option Nat} {i : Nat} {v : Option Nat} : upd (fun j => oI (f j)) i (oI v) = fun j => oI (va_up f i v j) := by
  funext j
  by_cases h : j = i
  · simp [upd, va_up, h]
  · simp [upd, va_up, h]
theorem nI_ne_m1 {n : Nat} (h : n < 2 ^ 31) : ¬ nI n = -1 := by
  intro q
  have a := nI_toInt h
  rw [q] at a
  have b : ((-1 : Int32)).toInt = -1 := by decide +kernel
  omega
theorem oI_m1 {o : Option Nat} (hb : ∀ k, o = some k → k < 2 ^ 31) : oI o = -1 ↔ o = none := by
  cases o with
  | none => exact ⟨fun _ => rfl, fun _ => rfl⟩
  | some k => exact ⟨fun h => absurd h (nI_ne_m1 (hb k rfl)), fun h => by cases h⟩
theorem oI_nI {o : Option Nat} {j : Nat} (hb : ∀ k, o = some k → k < 2 ^ 31) (hj : j < 2 ^ 31) : oI o = nI j ↔ o = some j := by
  cases o with
  | none => exact ⟨fun h => absurd h.symm (nI_ne_m1 hj), fun h => by cases h⟩
  | some k => exact ⟨fun h => by rw [(nI_eq (hb k rfl) hj).mp h], fun h => by cases h; rfl⟩
theorem nI_inj {a b : Nat} (ha : a < 2 ^ 31) (hb : b < 2 ^ 31) (h : nI a = nI b) : a = b := (nI_eq ha hb).mp h
abbrev nst1 : Cond := .methodLinkNest "ShardRows$SplitRows" 31 ⟨"ShardRows", "isTestNumber", "(I)Z"⟩ "ShardRows"
abbrev nst2 : Cond := .methodLinkNest "ShardRows$ResultRows" 32 ⟨"ShardRows", "isTestNumber", "(I)Z"⟩ "ShardRows"
/-- what stays of the tables: classes, array classes, two links among nest mates -/
def KX (dC : Nat → ClassId) (dI : Nat → Nat → Nat) (cI cZ cG : ClassId) (U : State) : Prop := va_K (dC, dI) vwCl [(cI, .int), (cZ, .boolean), (cG, .array .int)] U ∧ va_Nw nst1 U ∧ va_Nw nst2 U
theorem KX.call {dC : Nat → ClassId} {dI : Nat → Nat → Nat} {cI cZ cG : ClassId} {U : State} {g : JFrame} {mk : MethodId} {a : Array Value} (h : KX dC dI cI cZ cG U) : KX dC dI cI cZ cG (U.calling g mk a) := ⟨va_K.moved (u := U) (U := U.calling g mk a) (Vm.Alike.refl U.vm) h.1, va_Nw.same rfl (rfl : U.vm = (U.calling g mk a).vm) h.2.1, va_Nw.same rfl (rfl : U.vm = (U.calling g mk a).vm) h.2.2⟩
theorem KX.warm {dC : Nat → ClassId} {dI : Nat → Nat → Nat} {cI cZ cG : ClassId} {s U : State} (hW : s.WarmedH U.vm) (h : KX dC dI cI cZ cG s) : KX dC dI cI cZ cG U := ⟨va_K.moved hW.alike h.1, va_Nw.warmM hW h.2.1, va_Nw.warmM hW h.2.2⟩
section HR
variable {p : Program} {l : Launch} {e : Env} {R : Room} {s : State} {m : MethodId} {args : Array Value} {below : List Frame} {meth : Method} {c : Code} {H : Heap} {locs : List Loc} {cells slots : Nat} {Q : State → Prop}
variable {cc : ByteArray} {pc : Nat} {ls : Array Slot} {rest : List Value} {D : va_G} {cl : List vw_C} {A : Nat → Prop} {a : Nat} {tys : List (ClassId × FieldType)} {ws : va_W} {H0 : Heap}
variable {dC : Nat → ClassId} {dI : Nat → Nat → Nat} {cI cZ cG : ClassId}
theorem hr_eqi {x y : Int32} (h : x = y) (k : W p l e R s m args below meth c H locs cells slots Q (F0 m pc ls (.int y :: rest))) : W p l e R s m args below meth c H locs cells slots Q (F0 m pc ls (.int x :: rest)) := h ▸ k
theorem hr_eql {x y : Int64} (h : x = y) (k : W p l e R s m args below meth c H locs cells slots Q (F0 m pc ls (.long y :: rest))) : W p l e R s m args below meth c H locs cells slots Q (F0 m pc ls (.long x :: rest)) := h ▸ k
theorem hr_iald (hexec : p.tables.exec = Jvm.exec) (hb : c.code = cc) (hK : va_K D cl tys s) (hP : va_P D cl ws H) (q0 t0 : Nat) {cA : ClassId} {n : Nat} {f : Nat → Int32} (ha : ws[q0]? = some (a, .inl (cA, n, .inl f))) (ht : tys[t0]? = some (cA, .int)) {i : Nat} (hi : i < n) (hn : n < 2 ^ 31) (hdg : decode cc pc = .ok (.iaload, 1)) (kk : W p l e R s m args below meth c H locs cells slots Q (F0 m (pc + 1) ls (.int (f i) :: rest))) : W p l e R s m args below meth c H locs cells slots Q (F0 m pc ls (.int (nI i) :: .ref a :: rest)) := va_iald hexec hb hK hP q0 t0 ha ht (vp_in_nI hi hn) hdg (by rw [nI_clamp (by omega)]; exact kk)
theorem hr_zald (hexec : p.tables.exec = Jvm.exec) (hb : c.code = cc) (hK : va_K D cl tys s) (hP : va_P D cl ws H) (q0 t0 : Nat) {cA : ClassId} {n : Nat} {f : Nat → Int32} (ha : ws[q0]? = some (a, .inl (cA, n, .inl f))) (ht : tys[t0]? = some (cA, .boolean)) {i : Nat} (hi : i < n) (hn : n < 2 ^ 31) (hdg : decode cc pc = .ok (.baload, 1)) (kk : W p l e R s m args below meth c H locs cells slots Q (F0 m (pc + 1) ls (.int (f i) :: rest))) : W p l e R s m args below meth c H locs cells slots Q (F0 m pc ls (.int (nI i) :: .ref a :: rest)) := va_zald hexec hb hK hP q0 t0 ha ht (vp_in_nI hi hn) hdg (by rw [nI_clamp (by omega)]; exact kk)
theorem hr_iast (hexec : p.tables.exec = Jvm.exec) (hb : c.code = cc) (hK : va_K D cl tys s) (hP : va_P D cl ws H) (hD : va_D A ws) (hS : va_S A H0 H locs) (q0 t0 : Nat) {cA : ClassId} {n : Nat} {f : Nat → Int32} (ha : ws[q0]? = some (a, .inl (cA, n, .inl f))) (ht : tys[t0]? = some (cA, .int)) {i : Nat} {x : Int32} (hi : i < n) (hn : n < 2 ^ 31) (hdg : decode cc pc = .ok (.iastore, 1)) (kk : ∀ (H1 : Heap) (locs1 : List Loc), va_P D cl (ws.set q0 (a, .inl (cA, n, .inl (upd f i x)))) H1 → va_D A (ws.set q0 (a, .inl (cA, n, .inl (upd f i x)))) → va_S A H0 H1 locs1 → W p l e R s m args below meth c H1 locs1 cells slots Q (F0 m (pc + 1) ls rest)) : W p l e R s m args below meth c H locs cells slots Q (F0 m pc ls (.int x :: .int (nI i) :: .ref a :: rest)) := va_iast hexec hb hK hP hD hS q0 t0 ha ht (vp_in_nI hi hn) hdg (fun H1 locs1 h1 h2 h3 => kk H1 locs1 (by rw [nI_clamp (by omega)] at h1; exact h1) (by rw [nI_clamp (by omega)] at h2; exact h2) h3)
theorem hr_iastN (hexec : p.tables.exec = Jvm.exec) (hb : c.code = cc) (hK : va_K D cl tys s) (hP : va_P D cl ws H) (hD : va_D A ws) (hS : va_S A H0 H locs) (q0 t0 : Nat) {cA : ClassId} {n : Nat} {f : Nat → Nat} (ha : ws[q0]? = some (a, .inl (cA, n, .inl (fun j => nI (f j))))) (ht : tys[t0]? = some (cA, .int)) {i : Nat} {x : Nat} (hi : i < n) (hn : n < 2 ^ 31) (hdg : decode cc pc = .ok (.iastore, 1)) (kk : ∀ (H1 : Heap) (locs1 : List Loc), va_P D cl (ws.set q0 (a, .inl (cA, n, .inl (fun j => nI (va_up f i x j))))) H1 → va_D A (ws.set q0 (a, .inl (cA, n, .inl (fun j => nI (va_up f i x j))))) → va_S A H0 H1 locs1 → W p l e R s m args below meth c H1 locs1 cells slots Q (F0 m (pc + 1) ls rest)) : W p l e R s m args below meth c H locs cells slots Q (F0 m pc ls (.int (nI x) :: .int (nI i) :: .ref a :: rest)) := va_iast hexec hb hK hP hD hS q0 t0 ha ht (vp_in_nI hi hn) hdg (fun H1 locs1 h1 h2 h3 => kk H1 locs1 (by rw [nI_clamp (by omega), hr_updN] at h1; exact h1) (by rw [nI_clamp (by omega), hr_updN] at h2; exact h2) h3)
theorem hr_iastO (hexec : p.tables.exec = Jvm.exec) (hb : c.code = cc) (hK : va_K D cl tys s) (hP : va_P D cl ws H) (hD : va_D A ws) (hS : va_S A H0 H locs) (q0 t0 : Nat) {cA : ClassId} {n : Nat} {f : Nat → Option Nat} (ha : ws[q0]? = some (a, .inl (cA, n, .inl (fun j => oI (f j))))) (ht : tys[t0]? = some (cA, .int)) {i : Nat} {x : Option Nat} (hi : i < n) (hn : n < 2 ^ 31) (hdg : decode cc pc = .ok (.iastore, 1)) (kk : ∀ (H1 : Heap) (locs1 : List Loc), va_P D cl (ws.set q0 (a, .inl (cA, n, .inl (fun j => oI (va_up f i x j))))) H1 → va_D A (ws.set q0 (a, .inl (cA, n, .inl (fun j => oI (va_up f i x j))))) → va_S A H0 H1 locs1 → W p l e R s m args below meth c H1 locs1 cells slots Q (F0 m (pc + 1) ls rest)) : W p l e R s m args below meth c H locs cells slots Q (F0 m pc ls (.int (oI x) :: .int (nI i) :: .ref a :: rest)) := va_iast hexec hb hK hP hD hS q0 t0 ha ht (vp_in_nI hi hn) hdg (fun H1 locs1 h1 h2 h3 => kk H1 locs1 (by rw [nI_clamp (by omega), hr_updO] at h1; exact h1) (by rw [nI_clamp (by omega), hr_updO] at h2; exact h2) h3)
theorem hr_nar01 {x : Nat} (h : x < 2) : vp_nar .boolean (nI x) = nI x := by
  rcases (show x = 0 ∨ x = 1 by omega) with rfl | rfl <;> decide +kernel
theorem hr_zastN (hexec : p.tables.exec = Jvm.exec) (hb : c.code = cc) (hK : va_K D cl tys s) (hP : va_P D cl ws H) (hD : va_D A ws) (hS : va_S A H0 H locs) (q0 t0 : Nat) {cA : ClassId} {n : Nat} {f : Nat → Nat} (ha : ws[q0]? = some (a, .inl (cA, n, .inl (fun j => nI (f j))))) (ht : tys[t0]? = some (cA, .boolean)) {i : Nat} {x : Nat} (hi : i < n) (hn : n < 2 ^ 31) (hx : x < 2) (hdg : decode cc pc = .ok (.bastore, 1)) (kk : ∀ (H1 : Heap) (locs1 : List Loc), va_P D cl (ws.set q0 (a, .inl (cA, n, .inl (fun j => nI (va_up f i x j))))) H1 → va_D A (ws.set q0 (a, .inl (cA, n, .inl (fun j => nI (va_up f i x j))))) → va_S A H0 H1 locs1 → W p l e R s m args below meth c H1 locs1 cells slots Q (F0 m (pc + 1) ls rest)) : W p l e R s m args below meth c H locs cells slots Q (F0 m pc ls (.int (nI x) :: .int (nI i) :: .ref a :: rest)) := va_zast hexec hb hK hP hD hS q0 t0 ha ht (vp_in_nI hi hn) hdg (fun H1 locs1 h1 h2 h3 => kk H1 locs1 (by rw [nI_clamp (by omega), hr_nar01 hx, hr_updN] at h1; exact h1) (by rw [nI_clamp (by omega), hr_nar01 hx, hr_updN] at h2; exact h2) h3)
theorem hr_icmp_lt (hexec : p.tables.exec = Jvm.exec) (hb : c.code = cc) {x y : Nat} (hx : x < 2 ^ 31) (hy : y < 2 ^ 31) {off : Int} {tgt : Nat} (hdg : decode cc pc = .ok (.if_icmp .lt off, 3)) (ht : (pc : Int) + off = (tgt : Int)) (kt : x < y → W p l e R s m args below meth c H locs cells slots Q (F0 m tgt ls rest)) (kf : y ≤ x → W p l e R s m args below meth c H locs cells slots Q (F0 m (pc + 3) ls rest)) : W p l e R s m args below meth c H locs cells slots Q (F0 m pc ls (.int (nI y) :: .int (nI x) :: rest)) := lv_icmp_lt hexec hb hdg ht (fun h => kt ((nI_ltI hx hy).mp h)) (fun h => kf (by have h2 := mt (nI_ltI hx hy).mpr h; omega))
theorem hr_if_lt (hexec : p.tables.exec = Jvm.exec) (hb : c.code = cc) {x : Nat} (hx : x < 2 ^ 31) {off : Int} {tgt : Nat} (hdg : decode cc pc = .ok (.ifCond .lt off, 3)) (ht : (pc : Int) + off = (tgt : Int)) (kt : x < 0 → W p l e R s m args below meth c H locs cells slots Q (F0 m tgt ls rest)) (kf : 0 ≤ x → W p l e R s m args below meth c H locs cells slots Q (F0 m (pc + 3) ls rest)) : W p l e R s m args below meth c H locs cells slots Q (F0 m pc ls (.int (nI x) :: rest)) := by
  have hy : 0 < 2 ^ 31 := by decide
  have e0 : (0 : Int32) = nI 0 := nI_0.symm
  refine lv_if_lt hexec hb hdg ht ?_ ?_
  · rw [e0]; exact (fun h => kt ((nI_ltI hx hy).mp h))
  · rw [e0]; exact (fun h => kf (by have h2 := mt (nI_ltI hx hy).mpr h; omega))
theorem hr_icmp_ge (hexec : p.tables.exec = Jvm.exec) (hb : c.code = cc) {x y : Nat} (hx : x < 2 ^ 31) (hy : y < 2 ^ 31) {off : Int} {tgt : Nat} (hdg : decode cc pc = .ok (.if_icmp .ge off, 3)) (ht : (pc : Int) + off = (tgt : Int)) (kt : y ≤ x → W p l e R s m args below meth c H locs cells slots Q (F0 m tgt ls rest)) (kf : x < y → W p l e R s m args below meth c H locs cells slots Q (F0 m (pc + 3) ls rest)) : W p l e R s m args below meth c H locs cells slots Q (F0 m pc ls (.int (nI y) :: .int (nI x) :: rest)) := lv_icmp_ge hexec hb hdg ht (fun h => kt ((nI_leI hy hx).mp h)) (fun h => kf (by have h2 := mt (nI_leI hy hx).mpr h; omega))
theorem hr_if_ge (hexec : p.tables.exec = Jvm.exec) (hb : c.code = cc) {x : Nat} (hx : x < 2 ^ 31) {off : Int} {tgt : Nat} (hdg : decode cc pc = .ok (.ifCond .ge off, 3)) (ht : (pc : Int) + off = (tgt : Int)) (kt : 0 ≤ x → W p l e R s m args below meth c H locs cells slots Q (F0 m tgt ls rest)) (kf : x < 0 → W p l e R s m args below meth c H locs cells slots Q (F0 m (pc + 3) ls rest)) : W p l e R s m args below meth c H locs cells slots Q (F0 m pc ls (.int (nI x) :: rest)) := by
  have hy : 0 < 2 ^ 31 := by decide
  have e0 : (0 : Int32) = nI 0 := nI_0.symm
  refine lv_if_ge hexec hb hdg ht ?_ ?_
  · rw [e0]; exact (fun h => kt ((nI_leI hy hx).mp h))
  · rw [e0]; exact (fun h => kf (by have h2 := mt (nI_leI hy hx).mpr h; omega))
theorem hr_icmp_gt (hexec : p.tables.exec = Jvm.exec) (hb : c.code = cc) {x y : Nat} (hx : x < 2 ^ 31) (hy : y < 2 ^ 31) {off : Int} {tgt : Nat} (hdg : decode cc pc = .ok (.if_icmp .gt off, 3)) (ht : (pc : Int) + off = (tgt : Int)) (kt : y < x → W p l e R s m args below meth c H locs cells slots Q (F0 m tgt ls rest)) (kf : x ≤ y → W p l e R s m args below meth c H locs cells slots Q (F0 m (pc + 3) ls rest)) : W p l e R s m args below meth c H locs cells slots Q (F0 m pc ls (.int (nI y) :: .int (nI x) :: rest)) := lv_icmp_gt hexec hb hdg ht (fun h => kt ((nI_ltI hy hx).mp h)) (fun h => kf (by have h2 := mt (nI_ltI hy hx).mpr h; omega))
theorem hr_if_gt (hexec : p.tables.exec = Jvm.exec) (hb : c.code = cc) {x : Nat} (hx : x < 2 ^ 31) {off : Int} {tgt : Nat} (hdg : decode cc pc = .ok (.ifCond .gt off, 3)) (ht : (pc : Int) + off = (tgt : Int)) (kt : 0 < x → W p l e R s m args below meth c H locs cells slots Q (F0 m tgt ls rest)) (kf : x ≤ 0 → W p l e R s m args below meth c H locs cells slots Q (F0 m (pc + 3) ls rest)) : W p l e R s m args below meth c H locs cells slots Q (F0 m pc ls (.int (nI x) :: rest)) := by
  have hy : 0 < 2 ^ 31 := by decide
  have e0 : (0 : Int32) = nI 0 := nI_0.symm
  refine lv_if_gt hexec hb hdg ht ?_ ?_
  · rw [e0]; exact (fun h => kt ((nI_ltI hy hx).mp h))
  · rw [e0]; exact (fun h => kf (by have h2 := mt (nI_ltI hy hx).mpr h; omega))
theorem hr_icmp_le (hexec : p.tables.exec = Jvm.exec) (hb : c.code = cc) {x y : Nat} (hx : x < 2 ^ 31) (hy : y < 2 ^ 31) {off : Int} {tgt : Nat} (hdg : decode cc pc = .ok (.if_icmp .le off, 3)) (ht : (pc : Int) + off = (tgt : Int)) (kt : x ≤ y → W p l e R s m args below meth c H locs cells slots Q (F0 m tgt ls rest)) (kf : y < x → W p l e R s m args below meth c H locs cells slots Q (F0 m (pc + 3) ls rest)) : W p l e R s m args below meth c H locs cells slots Q (F0 m pc ls (.int (nI y) :: .int (nI x) :: rest)) := lv_icmp_le hexec hb hdg ht (fun h => kt ((nI_leI hx hy).mp h)) (fun h => kf (by have h2 := mt (nI_leI hx hy).mpr h; omega))
theorem hr_if_le (hexec : p.tables.exec = Jvm.exec) (hb : c.code = cc) {x : Nat} (hx : x < 2 ^ 31) {off : Int} {tgt : Nat} (hdg : decode cc pc = .ok (.ifCond .le off, 3)) (ht : (pc : Int) + off = (tgt : Int)) (kt : x ≤ 0 → W p l e R s m args below meth c H locs cells slots Q (F0 m tgt ls rest)) (kf : 0 < x → W p l e R s m args below meth c H locs cells slots Q (F0 m (pc + 3) ls rest)) : W p l e R s m args below meth c H locs cells slots Q (F0 m pc ls (.int (nI x) :: rest)) := by
  have hy : 0 < 2 ^ 31 := by decide
  have e0 : (0 : Int32) = nI 0 := nI_0.symm
  refine lv_if_le hexec hb hdg ht ?_ ?_
  · rw [e0]; exact (fun h => kt ((nI_leI hx hy).mp h))
  · rw [e0]; exact (fun h => kf (by have h2 := mt (nI_leI hx hy).mpr h; omega))
theorem hr_icmp_eq (hexec : p.tables.exec = Jvm.exec) (hb : c.code = cc) {x y : Nat} (hx : x < 2 ^ 31) (hy : y < 2 ^ 31) {off : Int} {tgt : Nat} (hdg : decode cc pc = .ok (.if_icmp .eq off, 3)) (ht : (pc : Int) + off = (tgt : Int)) (kt : x = y → W p l e R s m args below meth c H locs cells slots Q (F0 m tgt ls rest)) (kf : ¬ x = y → W p l e R s m args below meth c H locs cells slots Q (F0 m (pc + 3) ls rest)) : W p l e R s m args below meth c H locs cells slots Q (F0 m pc ls (.int (nI y) :: .int (nI x) :: rest)) := lv_icmp_eq hexec hb hdg ht (fun h => kt ((nI_eq hx hy).mp h)) (fun h => kf (fun q => h (by rw [q])))
theorem hr_if_eq (hexec : p.tables.exec = Jvm.exec) (hb : c.code = cc) {x : Nat} (hx : x < 2 ^ 31) {off : Int} {tgt : Nat} (hdg : decode cc pc = .ok (.ifCond .eq off, 3)) (ht : (pc : Int) + off = (tgt : Int)) (kt : x = 0 → W p l e R s m args below meth c H locs cells slots Q (F0 m tgt ls rest)) (kf : ¬ x = 0 → W p l e R s m args below meth c H locs cells slots Q (F0 m (pc + 3) ls rest)) : W p l e R s m args below meth c H locs cells slots Q (F0 m pc ls (.int (nI x) :: rest)) := by
  have hy : 0 < 2 ^ 31 := by decide
  have e0 : (0 : Int32) = nI 0 := nI_0.symm
  refine lv_if_eq hexec hb hdg ht ?_ ?_
  · rw [e0]; exact (fun h => kt ((nI_eq hx hy).mp h))
  · rw [e0]; exact (fun h => kf (fun q => h (by rw [q])))
theorem hr_icmp_ne (hexec : p.tables.exec = Jvm.exec) (hb : c.code = cc) {x y : Nat} (hx : x < 2 ^ 31) (hy : y < 2 ^ 31) {off : Int} {tgt : Nat} (hdg : decode cc pc = .ok (.if_icmp .ne off, 3)) (ht : (pc : Int) + off = (tgt : Int)) (kt : ¬ x = y → W p l e R s m args below meth c H locs cells slots Q (F0 m tgt ls rest)) (kf : x = y → W p l e R s m args below meth c H locs cells slots Q (F0 m (pc + 3) ls rest)) : W p l e R s m args below meth c H locs cells slots Q (F0 m pc ls (.int (nI y) :: .int (nI x) :: rest)) := lv_icmp_ne hexec hb hdg ht (fun h => kt (fun q => h (by rw [q]))) (fun h => kf ((nI_eq hx hy).mp h))
theorem hr_if_ne (hexec : p.tables.exec = Jvm.exec) (hb : c.code = cc) {x : Nat} (hx : x < 2 ^ 31) {off : Int} {tgt : Nat} (hdg : decode cc pc = .ok (.ifCond .ne off, 3)) (ht : (pc : Int) + off = (tgt : Int)) (kt : ¬ x = 0 → W p l e R s m args below meth c H locs cells slots Q (F0 m tgt ls rest)) (kf : x = 0 → W p l e R s m args below meth c H locs cells slots Q (F0 m (pc + 3) ls rest)) : W p l e R s m args below meth c H locs cells slots Q (F0 m pc ls (.int (nI x) :: rest)) := by
  have hy : 0 < 2 ^ 31 := by decide
  have e0 : (0 : Int32) = nI 0 := nI_0.symm
  refine lv_if_ne hexec hb hdg ht ?_ ?_
  · rw [e0]; exact (fun h => kt (fun q => h (by rw [q])))
  · rw [e0]; exact (fun h => kf ((nI_eq hx hy).mp h))
theorem hr_fm {α β : Type} {f : α → Option β} {is : List α} {w : List β} (h : is.map f = w.map some) : is.filterMap f = w := by
  have h2 : is.filterMap f = (is.map f).filterMap id := by rw [List.filterMap_map]; rfl
  rw [h2, h, List.filterMap_map]
  simp
theorem hr_blR {w : va_W} {av : List Value} : FrameBlind (va_Pc av (fun U => va_P (dC, dI) vwCl w U.heap ∧ KX dC dI cI cZ cG U)) := fun a U g mk q => ⟨q.1, q.2.1, q.2.2.call⟩
theorem hr_blW {w : va_W} {av : List Value} {sz : Nat} : FrameBlind (va_Pc av (fun U => U.heap.size = sz ∧ va_P (dC, dI) vwCl w U.heap ∧ KX dC dI cI cZ cG U ∧ va_D (fun _ => True) w)) := fun a U g mk q => ⟨q.1, q.2.1, q.2.2.1, q.2.2.2.1.call, q.2.2.2.2⟩
theorem hr_preR (hK : KX dC dI cI cZ cG s) (hP : va_P (dC, dI) vwCl ws H) (is : List Nat) {w : va_W} (hs : is.map (fun i => ws[i]?) = w.map some) {b ci q0 : Nat} {q : vw_C} {fs : List Value} {As : List Value} (hc : vwCl[ci]? = some q) (he : ws[q0]? = some (b, .inr (ci, fs))) : PreV s H q.1 b (va_Pc (.ref b :: As) (fun U => va_P (dC, dI) vwCl w U.heap ∧ KX dC dI cI cZ cG U)) As := ⟨hr_blR, va_recv hK.1 hP hc he, fun U hU hW => ⟨rfl, by rw [hU]; exact hP.sub is (hr_fm hs), hK.warm hW⟩⟩
theorem hr_preRS (hK : KX dC dI cI cZ cG s) (hP : va_P (dC, dI) vwCl ws H) (is : List Nat) {w : va_W} (hs : is.map (fun i => ws[i]?) = w.map some) {As : List Value} : PreS s H (va_Pc As (fun U => va_P (dC, dI) vwCl w U.heap ∧ KX dC dI cI cZ cG U)) As := ⟨hr_blR, fun U hU hW => ⟨rfl, by rw [hU]; exact hP.sub is (hr_fm hs), hK.warm hW⟩⟩
theorem hr_preW (hK : KX dC dI cI cZ cG s) (hP : va_P (dC, dI) vwCl ws H) (hD : va_D A ws) (is : List Nat) (hn : va_nd is = true) {w : va_W} (hs : is.map (fun i => ws[i]?) = w.map some) {b ci q0 : Nat} {q : vw_C} {fs : List Value} {As : List Value} (hc : vwCl[ci]? = some q) (he : ws[q0]? = some (b, .inr (ci, fs))) : PreV s H q.1 b (va_Pc (.ref b :: As) (fun U => U.heap.size = H.size ∧ va_P (dC, dI) vwCl w U.heap ∧ KX dC dI cI cZ cG U ∧ va_D (fun _ => True) w)) As := ⟨hr_blW, va_recv hK.1 hP hc he, fun U hU hW => ⟨rfl, by rw [hU], by rw [hU]; exact hP.sub is (hr_fm hs), hK.warm hW, (hD.sub is hn hs).weaken (fun _ _ _ _ => trivial)⟩⟩
theorem hr_preWS (hK : KX dC dI cI cZ cG s) (hP : va_P (dC, dI) vwCl ws H) (hD : va_D A ws) (is : List Nat) (hn : va_nd is = true) {w : va_W} (hs : is.map (fun i => ws[i]?) = w.map some) {As : List Value} : PreS s H (va_Pc As (fun U => U.heap.size = H.size ∧ va_P (dC, dI) vwCl w U.heap ∧ KX dC dI cI cZ cG U ∧ va_D (fun _ => True) w)) As := ⟨hr_blW, fun U hU hW => ⟨rfl, by rw [hU], by rw [hU]; exact hP.sub is (hr_fm hs), hK.warm hW, (hD.sub is hn hs).weaken (fun _ _ _ _ => trivial)⟩⟩
theorem hr_calli {S : Type} {post : Int32 → S → Prop} {w1 : S → va_W} {wc wr : va_W} {mc ms : Nat} {st0 : List Value} {av : Array Value} (hr : va_Run p l e R s m args below meth c H locs cells slots mc ms (F0 m pc ls st0) rest (va_Qi post (fun u t => va_P D cl (w1 u) t.heap ∧ va_D (va_A wc H.size) (w1 u)) (va_A wc H.size) av) (va_A wc H.size)) (hP : va_P D cl ws H) (hD : va_D A ws) (hS : va_S A H0 H locs) (hA : ∀ q, H0.size ≤ q → A q) (isC isR : List Nat) (hC : isC.map (fun i => ws[i]?) = wc.map some) (hR : isR.map (fun i => ws[i]?) = wr.map some) (hn : va_nd isR = true) (hdis : ∀ i ∈ isR, i ∉ isC) (isN : List Nat) (ws' : S → va_W) (hN : va_nd isN = true) (hs : ∀ u, isN.map (fun i => (wr ++ w1 u)[i]?) = (ws' u).map some)
    (kk : ∀ (r : Int32) (u : S) (H1 : Heap) (locs1 : List Loc), post r u → va_P D cl (ws' u) H1 → va_D A (ws' u) → va_S A H0 H1 locs1 → W p l e R s m args below meth c H1 locs1 (cells + mc) (slots + ms) Q (F0 m (pc + 3) ls (.int r :: rest))) : W p l e R s m args below meth c H locs cells slots Q (F0 m pc ls st0) :=
  va_calli hr hS (fun q _ h => va_free hD hS hA isC hC q h) (va_free hD hS hA isC hC) (fun r u t H1 locs1 ht hvm hp hB hz hk hS1 => by
    obtain ⟨hP1, hD1⟩ := hB
    rw [ht] at hP1
    obtain ⟨hP2, hD2⟩ := va_join hP hD isC isR hC hR hn hdis hk (va_free hD hS hA isC hC) hP1 hD1
    exact kk r u H1 locs1 hp (hP2.sub isN (hr_fm (hs u))) (hD2.sub isN hN (hs u)) hS1)
theorem hr_callv {S : Type} {post : S → Prop} {w1 : S → va_W} {wc wr : va_W} {mc ms : Nat} {st0 : List Value} {av : Array Value} (hr : va_Run p l e R s m args below meth c H locs cells slots mc ms (F0 m pc ls st0) rest (va_Qv post (fun u t => va_P D cl (w1 u) t.heap ∧ va_D (va_A wc H.size) (w1 u)) (va_A wc H.size) av) (va_A wc H.size)) (hP : va_P D cl ws H) (hD : va_D A ws) (hS : va_S A H0 H locs) (hA : ∀ q, H0.size ≤ q → A q) (isC isR : List Nat) (hC : isC.map (fun i => ws[i]?) = wc.map some) (hR : isR.map (fun i => ws[i]?) = wr.map some) (hn : va_nd isR = true) (hdis : ∀ i ∈ isR, i ∉ isC) (isN : List Nat) (ws' : S → va_W) (hN : va_nd isN = true) (hs : ∀ u, isN.map (fun i => (wr ++ w1 u)[i]?) = (ws' u).map some)
    (kk : ∀ (u : S) (H1 : Heap) (locs1 : List Loc), post u → va_P D cl (ws' u) H1 → va_D A (ws' u) → va_S A H0 H1 locs1 → W p l e R s m args below meth c H1 locs1 (cells + mc) (slots + ms) Q (F0 m (pc + 3) ls (rest))) : W p l e R s m args below meth c H locs cells slots Q (F0 m pc ls st0) :=
  va_callv hr hS (fun q _ h => va_free hD hS hA isC hC q h) (va_free hD hS hA isC hC) (fun u t H1 locs1 ht hvm hp hB hz hk hS1 => by
    obtain ⟨hP1, hD1⟩ := hB
    rw [ht] at hP1
    obtain ⟨hP2, hD2⟩ := va_join hP hD isC isR hC hR hn hdis hk (va_free hD hS hA isC hC) hP1 hD1
    exact kk u H1 locs1 hp (hP2.sub isN (hr_fm (hs u))) (hD2.sub isN hN (hs u)) hS1)
theorem hr_arrX {cA : ClassId} {n : Nat} {f g : Nat → Int32} (h : ∀ j, j < n → f j = g j) : vp_cell cA (n, .inl f) = vp_cell cA (n, .inl g) := by
  show arrV cA n (fun j => .int (f j)) = arrV cA n (fun j => .int (g j))
  have e9 : (fun j : Fin n => Value.int (f j.val)) = fun j : Fin n => Value.int (g j.val) := by
    funext j
    rw [h j.val j.isLt]
  show ({ cls := cA, slots := Array.ofFn (n := n) fun j : Fin n => Value.int (f j.val), vm := .none } : Cell) = { cls := cA, slots := Array.ofFn (n := n) fun j : Fin n => Value.int (g j.val), vm := .none }
  rw [e9]
/-- a row may be told by any numbers that are its own below its length -/
theorem hr_extP (q0 : Nat) {cA : ClassId} {n : Nat} {f : Nat → Int32} (g : Nat → Int32) (ha : ws[q0]? = some (a, .inl (cA, n, .inl f))) (h : ∀ j, j < n → f j = g j) (hP : va_P D cl ws H) : va_P D cl (ws.set q0 (a, .inl (cA, n, .inl g))) H := by
  intro k q hk
  by_cases e : q0 = k
  · subst e
    have hl : q0 < ws.length := (List.getElem?_eq_some_iff.mp ha).1
    rw [List.getElem?_set_self hl] at hk
    cases hk
    have h1 := hP q0 _ ha
    show H[a]? = some (vp_cell cA (n, .inl g))
    rw [← hr_arrX h]
    exact h1
  · rw [List.getElem?_set_ne e] at hk
    exact hP k q hk
theorem hr_extD (q0 : Nat) {cA : ClassId} {n : Nat} {f : Nat → Int32} (g : Nat → Int32) (ha : ws[q0]? = some (a, .inl (cA, n, .inl f))) (hD : va_D A ws) : va_D A (ws.set q0 (a, .inl (cA, n, .inl g))) := hD.set ha
end HR
section HC
variable {R : Room} {s : State} {args : Array Value} {own C host : String} {index maxL : Nat} {y : MethodName} {bytes : ByteArray} {ret : Option FieldType} {rm : Room} {c0 : Cond}
theorem hr_mem {w : Cond} (h : w ∈ Cond.code y bytes maxL ret :: TB) (hk : Cond.code y bytes maxL ret ∈ TB) : w ∈ TB := (List.mem_cons.mp h).elim (fun q => by rw [q]; exact hk) id
theorem hr_good (hk : Cond.code y bytes maxL ret ∈ TB) : GoodIn (c0 :: TB) (Cond.code y bytes maxL ret :: TB) := fun w h => ⟨List.mem_cons_of_mem _ (hr_mem h hk), TB_good w (hr_mem h hk)⟩
theorem hr_cwV (n : Nat) (ht : ∀ w ∈ c0 :: TB, w.before args s = true) (hm : Cond.methodLink own index y ∈ TB) (hi : Cond.instanceMethod y ∈ TB) (hs : Cond.selects C y y ∈ TB) (hc : Cond.initialized C ∈ TB) (hk : Cond.code y bytes maxL ret ∈ TB) (hd : y.cls = C ∧ y.cls ≠ "java/lang/invoke/MethodHandle" ∧ y.cls ≠ "java/lang/invoke/VarHandle" ∧ (parseMethodDescriptor y.desc).map (fun d => d.parameters.length) = some n) (hR : rm.frames + 1 ≤ R.frames ∧ 8 + (maxL + 11) + rm.locals ≤ R.locals) : CallW R s args own C index y bytes maxL ret (Cond.code y bytes maxL ret :: TB) rm rm.cells rm.slots n :=
  cwV n ht (fun w h => by
    unfold wsV at h
    rcases List.mem_append.mp h with h | h
    · have hw : w ∈ TB := by
        simp only [List.mem_cons, List.not_mem_nil, or_false] at h
        rcases h with rfl | rfl | rfl | rfl <;> assumption
      exact ⟨List.mem_cons_of_mem _ hw, TB_good w hw⟩
    · exact hr_good hk w h) rfl rfl rfl hd hR
theorem hr_cwS (n : Nat) (ht : ∀ w ∈ c0 :: TB, w.before args s = true) (hm : Cond.methodLink own index y ∈ TB) (hi : Cond.static y ∈ TB) (hc : Cond.initialized y.cls ∈ TB) (hk : Cond.code y bytes maxL ret ∈ TB) (hd : y.cls ≠ "java/lang/invoke/MethodHandle" ∧ y.cls ≠ "java/lang/invoke/VarHandle" ∧ (parseMethodDescriptor y.desc).map (fun d => d.parameters.length) = some n) (hR : rm.frames + 1 ≤ R.frames ∧ 8 + (maxL + 11) + rm.locals ≤ R.locals) : CallB R s args own index y bytes maxL ret (Cond.code y bytes maxL ret :: TB) rm rm.cells rm.slots n ∧ (Cond.static y).before args s = true :=
  va_cwS n ht (fun w h => by
    unfold va_wsS at h
    rcases List.mem_append.mp h with h | h
    · have hw : w ∈ TB := by
        simp only [List.mem_cons, List.not_mem_nil, or_false] at h
        rcases h with rfl | rfl | rfl <;> assumption
      exact ⟨List.mem_cons_of_mem _ hw, TB_good w hw⟩
    · exact hr_good hk w h) rfl rfl rfl hd hR
theorem hr_cnS (n : Nat) (ht : ∀ w ∈ c0 :: TB, w.before args s = true) (hm : va_Nw (.methodLinkNest own index y host) s) (hi : Cond.static y ∈ TB) (hc : Cond.initialized y.cls ∈ TB) (hk : Cond.code y bytes maxL ret ∈ TB) (hd : y.cls ≠ "java/lang/invoke/MethodHandle" ∧ y.cls ≠ "java/lang/invoke/VarHandle" ∧ (parseMethodDescriptor y.desc).map (fun d => d.parameters.length) = some n) (hR : rm.frames + 1 ≤ R.frames ∧ 8 + (maxL + 11) + rm.locals ≤ R.locals) : va_CN R s args own index y host bytes maxL ret (Cond.code y bytes maxL ret :: TB) rm rm.cells rm.slots n ∧ (Cond.static y).before args s = true ∧ True :=
  ⟨va_cnB n ht (hr_good hk) rfl rfl rfl hm (ht _ (List.mem_cons_of_mem _ hc)) hd hR, ht _ (List.mem_cons_of_mem _ hi), trivial⟩
theorem hr_cwI (n : Nat) (ht : ∀ w ∈ c0 :: TB, w.before args s = true) (hm : Cond.methodLink own index y ∈ TB) (hi : Cond.instanceMethod y ∈ TB) (hc : Cond.initialized y.cls ∈ TB) (hk : Cond.code y bytes maxL none ∈ TB) (hy : y.name = "<init>") (hd : y.cls ≠ "java/lang/invoke/MethodHandle" ∧ y.cls ≠ "java/lang/invoke/VarHandle" ∧ (parseMethodDescriptor y.desc).map (fun d => d.parameters.length) = some n) (hR : rm.frames + 1 ≤ R.frames ∧ 8 + (maxL + 11) + rm.locals ≤ R.locals) : CallB R s args own index y bytes maxL none (Cond.code y bytes maxL none :: TB) rm rm.cells rm.slots n ∧ y.name = "<init>" ∧ (Cond.instanceMethod y).before args s = true :=
  cwI n ht (hr_good hk) rfl rfl rfl (ht _ (List.mem_cons_of_mem _ hc)) (ht _ (List.mem_cons_of_mem _ hm)) (ht _ (List.mem_cons_of_mem _ hi)) hy hd hR
theorem hr_cnI (n : Nat) (ht : ∀ w ∈ c0 :: TB, w.before args s = true) (hm : va_Nw (.methodLinkNest own index y host) s) (hi : Cond.instanceMethod y ∈ TB) (hc : Cond.initialized y.cls ∈ TB) (hk : Cond.code y bytes maxL none ∈ TB) (hy : y.name = "<init>") (hd : y.cls ≠ "java/lang/invoke/MethodHandle" ∧ y.cls ≠ "java/lang/invoke/VarHandle" ∧ (parseMethodDescriptor y.desc).map (fun d => d.parameters.length) = some n) (hR : rm.frames + 1 ≤ R.frames ∧ 8 + (maxL + 11) + rm.locals ≤ R.locals) : va_CN R s args own index y host bytes maxL none (Cond.code y bytes maxL none :: TB) rm rm.cells rm.slots n ∧ y.name = "<init>" ∧ (Cond.instanceMethod y).before args s = true :=
  ⟨va_cnB n ht (hr_good hk) rfl rfl rfl hm (ht _ (List.mem_cons_of_mem _ hc)) hd hR, hy, ht _ (List.mem_cons_of_mem _ hi)⟩
end HC
theorem hr_nz {x : Nat} (h : x < 2) : narrow .boolean (.int (nI x)) = .int (nI x) := by
  rcases (show x = 0 ∨ x = 1 by omega) with rfl | rfl <;> decide +kernel
end
section
/-! numbers that both sides speak of -/
/-- 1 if x is one of 0 .. n - 1, else 0 -/
def inB (x : Int32) (n : Nat) : Nat := if x < 0 then 0 else if nI n ≤ x then 0 else 1
theorem inB_lt (x : Int32) (n : Nat) : inB x n < 2 := by
  unfold inB
  split
  · decide
  · split <;> decide
theorem inB_pos {x : Int32} {n : Nat} (hn : n < 2 ^ 31) (h : ¬ inB x n = 0) : ∃ j, j < n ∧ x = nI j := by
  unfold inB at h
  rcases pk_ix x hn with a | a | a
  · rw [if_pos a] at h
    exact absurd rfl h
  · by_cases b : x < 0
    · rw [if_pos b] at h
      exact absurd rfl h
    · rw [if_neg b, if_pos a] at h
      exact absurd rfl h
  · exact a
theorem inB_nI {j n : Nat} (hj : j < n) (hn : n < 2 ^ 31) : inB (nI j) n = 1 := by
  unfold inB
  rw [if_neg (nI_pos (by omega)), if_neg (nI_ge hj hn)]
theorem inB_zero {x : Int32} {n : Nat} (hn : n < 2 ^ 31) (h : inB x n = 0) {j : Nat} (hj : j < n) : ¬ x = nI j := by
  intro e
  rw [e, inB_nI hj hn] at h
  exact absurd h (by decide)
theorem inB_neg {x : Int32} {n : Nat} (h : x < 0) : inB x n = 0 := if_pos h
theorem inB_big {x : Int32} {n : Nat} (h0 : ¬ x < 0) (h : nI n ≤ x) : inB x n = 0 := by
  unfold inB
  rw [if_neg h0, if_pos h]
theorem inB_in {x : Int32} {n : Nat} (h0 : ¬ x < 0) (h : ¬ nI n ≤ x) : inB x n = 1 := by
  unfold inB
  rw [if_neg h0, if_neg h]
theorem inB_gt {x : Int32} {n : Nat} (hn : n + 1 < 2 ^ 31) (h : nI n < x) : nI (n + 1) ≤ x := by
  rw [Int32.le_iff_toInt_le, nI_toInt hn]
  rw [Int32.lt_iff_toInt_lt, nI_toInt (by omega)] at h
  omega
theorem inB_ngt {x : Int32} {n : Nat} (hn : n + 1 < 2 ^ 31) (h : ¬ nI n < x) : ¬ nI (n + 1) ≤ x := by
  rw [Int32.le_iff_toInt_le, nI_toInt hn]
  rw [Int32.lt_iff_toInt_lt, nI_toInt (by omega)] at h
  omega
def sumT (f : Nat → Nat) : Nat → Nat
  | 0 => 0
  | i + 1 => sumT f i + f i
def cntT (f : Nat → Nat) : Nat → Nat
  | 0 => 0
  | i + 1 => cntT f i + (if f i = 0 then 0 else 1)
def meanN (f : Nat → Nat) (n : Nat) : Nat := if cntT f n = 0 then 1 else (sumT f n + cntT f n - 1) / cntT f n
theorem sumT_le {f : Nat → Nat} {B : Nat} : ∀ {i : Nat}, (∀ j, j < i → f j ≤ B) → sumT f i ≤ B * i
  | 0, _ => Nat.le_refl _
  | i + 1, h => by
    have h1 := sumT_le (f := f) (B := B) (i := i) (fun j hj => h j (by omega))
    have h2 := h i (by omega)
    show sumT f i + f i ≤ B * (i + 1)
    rw [Nat.mul_succ]
    omega
theorem cntT_le (f : Nat → Nat) : ∀ i : Nat, cntT f i ≤ i
  | 0 => Nat.le_refl _
  | i + 1 => by
    have h1 := cntT_le f i
    show cntT f i + (if f i = 0 then 0 else 1) ≤ i + 1
    split <;> omega
/-- how many GROUPS: those that are their own FIRST -/
def grpN (f : Nat → Nat) : Nat → Nat
  | 0 => 0
  | i + 1 => grpN f i + (if f i = i then 1 else 0)
theorem grpN_le (f : Nat → Nat) : ∀ i : Nat, grpN f i ≤ i
  | 0 => Nat.le_refl _
  | i + 1 => by
    have h1 := grpN_le f i
    show grpN f i + (if f i = i then 1 else 0) ≤ i + 1
    split <;> omega
/-- FIRSTS when given is joined to kept, below i -/
def joinF (f : Nat → Nat) (g k : Nat) (i : Nat) : Nat → Nat := fun j => if j < i then (if f j = g then k else f j) else f j
theorem joinF_0 (f : Nat → Nat) (g k : Nat) : joinF f g k 0 = f := by
  funext j
  simp [joinF]
theorem joinF_at (f : Nat → Nat) (g k i : Nat) : joinF f g k i i = f i := by
  simp [joinF]
theorem joinF_hit {f : Nat → Nat} {g k i : Nat} (h : f i = g) : va_up (joinF f g k i) i k = joinF f g k (i + 1) := by
  funext j
  unfold va_up joinF
  by_cases e : j = i
  · subst e
    simp [h]
  · by_cases l : j < i
    · simp [e, l, show j < i + 1 by omega]
    · simp [e, l, show ¬ j < i + 1 by omega]
theorem joinF_miss {f : Nat → Nat} {g k i : Nat} (h : ¬ f i = g) : joinF f g k i = joinF f g k (i + 1) := by
  funext j
  unfold joinF
  by_cases e : j = i
  · subst e
    simp [h]
  · by_cases l : j < i
    · simp [l, show j < i + 1 by omega]
    · simp [l, show ¬ j < i + 1 by omega]
/-- the TIME of a new TEST, if it is taken -/
def addN (n : Nat) (x : Int32) : Option Nat := if n < 24 then (if inB x 100001 = 0 then none else some x.toNatClampNeg) else none
/-- a TEST and its new TIME, if they are taken -/
def retN (n : Nat) (x y : Int32) : Option (Nat × Nat) := if inB x n = 0 then none else if inB y 100001 = 0 then none else some (x.toNatClampNeg, y.toNatClampNeg)
/-- the FIRSTS that are kept and given, if two TESTS come together -/
def joinN (n : Nat) (ff : Nat → Nat) (x y : Int32) : Option (Nat × Nat) := if inB x n = 0 then none else if inB y n = 0 then none else if ff x.toNatClampNeg = ff y.toNatClampNeg then none else some (min (ff x.toNatClampNeg) (ff y.toNatClampNeg), max (ff x.toNatClampNeg) (ff y.toNatClampNeg))
/-- the SHARD of a TEST number, if it has one -/
def shA (sf : Nat → Option Nat) (x : Int32) : Option Nat := if inB x 24 = 0 then none else sf x.toNatClampNeg
theorem shA_nI {sf : Nat → Option Nat} {j : Nat} (hj : j < 24) : shA sf (nI j) = sf j := by
  unfold shA
  rw [inB_nI hj (by decide), if_neg (by decide), nI_clamp (by omega)]
theorem shA_out {sf : Nat → Option Nat} {x : Int32} (h : inB x 24 = 0) : shA sf x = none := if_pos h
def maxS (f : Nat → Nat) : Nat → Nat
  | 0 => 0
  | i + 1 => max (maxS f i) (f i)
theorem maxS_le {f : Nat → Nat} {B : Nat} : ∀ {i : Nat}, (∀ j, j < i → f j ≤ B) → maxS f i ≤ B
  | 0, _ => Nat.zero_le _
  | i + 1, h => by
    have h1 := maxS_le (f := f) (B := B) (i := i) (fun j hj => h j (by omega))
    have h2 := h i (by omega)
    show max (maxS f i) (f i) ≤ B
    omega
/-- has a TEST a RESULT; is it one that isn't good -/
def hasB (pr : Nat → Nat) (x : Int32) : Nat := if inB x 24 = 0 then 0 else pr x.toNatClampNeg
theorem hasB_nI {pr : Nat → Nat} {j : Nat} (hj : j < 24) : hasB pr (nI j) = pr j := by
  unfold hasB
  rw [inB_nI hj (by decide), if_neg (by decide), nI_clamp (by omega)]
theorem hasB_out {pr : Nat → Nat} {x : Int32} (h : inB x 24 = 0) : hasB pr x = 0 := if_pos h
def badB (pr : Nat → Nat) (vs : Nat → Int32) (x : Int32) : Nat := if inB x 24 = 0 then 0 else if pr x.toNatClampNeg = 0 then 0 else if vs x.toNatClampNeg = 0 then 0 else 1
theorem badB_lt (pr : Nat → Nat) (vs : Nat → Int32) (x : Int32) : badB pr vs x < 2 := by
  unfold badB
  split
  · decide
  · split
    · decide
    · split <;> decide
theorem badB_nI {pr : Nat → Nat} {vs : Nat → Int32} {j : Nat} (hj : j < 24) : badB pr vs (nI j) = if pr j = 0 then 0 else if vs j = 0 then 0 else 1 := by
  unfold badB
  rw [inB_nI hj (by decide), if_neg (by decide), nI_clamp (by omega)]
theorem badB_out {pr : Nat → Nat} {vs : Nat → Int32} {x : Int32} (h : inB x 24 = 0) : badB pr vs x = 0 := if_pos h
/-- some RESULT below i isn't good -/
def anyB (pr : Nat → Nat) (vs : Nat → Int32) : Nat → Nat
  | 0 => 0
  | i + 1 => if badB pr vs (nI i) = 0 then anyB pr vs i else 1
/-- the place of a number in a row of n, or none -/
def rowA (n : Nat) (f : Nat → Nat) (x : Int32) : Option Nat := if inB x n = 0 then none else some (f x.toNatClampNeg)
theorem anyB_up {pr : Nat → Nat} {vs : Nat → Int32} {i : Nat} (h : ¬ badB pr vs (nI i) = 0) : ∀ {n : Nat}, i < n → anyB pr vs n = 1
  | 0, hn => absurd hn (Nat.not_lt_zero _)
  | n + 1, hn => by
    rcases (show i = n ∨ i < n by omega) with q | q
    · subst q
      rw [anyB, if_neg h]
    · rw [anyB, anyB_up h q]
      split <;> rfl
def fillF {α : Type} (f : Nat → α) (x : α) (i : Nat) : Nat → α := fun j => if j < i then x else f j
theorem fillF_0 {α : Type} (f : Nat → α) (x : α) : fillF f x 0 = f := by
  funext j
  simp [fillF]
theorem fillF_up (f : Nat → Int32) (x : Int32) (i : Nat) : upd (fillF f x i) i x = fillF f x (i + 1) := by
  funext j
  unfold upd fillF
  by_cases e : j = i
  · simp [e]
  · by_cases l : j < i
    · simp [e, l, show j < i + 1 by omega]
    · simp [e, l, show ¬ j < i + 1 by omega]
theorem fillF_upN (f : Nat → Nat) (x i : Nat) : va_up (fillF f x i) i x = fillF f x (i + 1) := by
  funext j
  unfold va_up fillF
  by_cases e : j = i
  · simp [e]
  · by_cases l : j < i
    · simp [e, l, show j < i + 1 by omega]
    · simp [e, l, show ¬ j < i + 1 by omega]
theorem fillF_in {α : Type} {f : Nat → α} {x : α} {i j : Nat} (h : j < i) : fillF f x i j = x := if_pos h
/-- the TEST that takes a RESULT; that drops one -/
def putN (pr : Nat → Nat) (x : Int32) : Option Nat := if inB x 24 = 0 then none else if pr x.toNatClampNeg = 0 then some x.toNatClampNeg else none
def dropN (pr : Nat → Nat) (vs : Nat → Int32) (x : Int32) : Option Nat := if badB pr vs x = 0 then none else some x.toNatClampNeg
/-- is a TEST that had o MOVED when it goes to q -/
def mvdB (o : Option Nat) (q : Nat) : Nat := if o = none then 0 else if o = some q then 0 else 1
theorem mvdB_1 {o : Option Nat} {q : Nat} (h1 : ¬ o = none) (h2 : ¬ o = some q) : mvdB o q = 1 := by
  unfold mvdB
  rw [if_neg h1, if_neg h2]
/-! the least LENGTH, as a number: all SPLITS against the search that opens only the next empty SHARD -/
/-- the least of f 0 .. f k -/
def mnl (f : Nat → Nat) : Nat → Nat
  | 0 => f 0
  | k + 1 => min (mnl f k) (f (k + 1))
theorem mnl_le {f : Nat → Nat} : ∀ {k s : Nat}, s ≤ k → mnl f k ≤ f s
  | 0, s, h => by rw [show s = 0 by omega]; exact Nat.le_refl _
  | k + 1, s, h => by
    unfold mnl
    rcases (show s ≤ k ∨ s = k + 1 by omega) with q | q
    · exact Nat.le_trans (Nat.min_le_left _ _) (mnl_le q)
    · rw [q]; exact Nat.min_le_right _ _
theorem mnl_at (f : Nat → Nat) : ∀ (k : Nat), ∃ s, s ≤ k ∧ mnl f k = f s
  | 0 => ⟨0, Nat.le_refl _, rfl⟩
  | k + 1 => by
    obtain ⟨s, h1, h2⟩ := mnl_at f k
    unfold mnl
    by_cases h : mnl f k ≤ f (k + 1)
    · exact ⟨s, by omega, by rw [Nat.min_eq_left h, h2]⟩
    · exact ⟨k + 1, Nat.le_refl _, Nat.min_eq_right (by omega)⟩
theorem mnl_eq {f g : Nat → Nat} {k j : Nat} (h1 : ∀ s, s ≤ k → ∃ t, t ≤ j ∧ g t ≤ f s) (h2 : ∀ t, t ≤ j → ∃ s, s ≤ k ∧ f s ≤ g t) : mnl f k = mnl g j := by
  obtain ⟨a, ha, ea⟩ := mnl_at f k
  obtain ⟨b, hb, eb⟩ := mnl_at g j
  obtain ⟨t, ht, et⟩ := h1 a ha
  obtain ⟨s, hs, es⟩ := h2 b hb
  have h3 := mnl_le (f := f) hs
  have h4 := mnl_le (f := g) ht
  omega
/-- the least LENGTH that groups g .. g + r - 1 can still come to -/
def lo (t : Nat → Nat) (K : Nat) : Nat → Nat → (Nat → Nat) → Nat → Nat
  | 0, _, _, len => len
  | r + 1, g, sm, len => mnl (fun s => lo t K r (g + 1) (va_up sm s (sm s + t g)) (max len (sm s + t g))) K
theorem lo_ge (t : Nat → Nat) (K : Nat) : ∀ (r g : Nat) (sm : Nat → Nat) (len : Nat), len ≤ lo t K r g sm len
  | 0, _, _, len => Nat.le_refl len
  | r + 1, g, sm, len => by
    unfold lo
    obtain ⟨s, -, h⟩ := mnl_at (fun s => lo t K r (g + 1) (va_up sm s (sm s + t g)) (max len (sm s + t g))) K
    rw [h]
    exact Nat.le_trans (Nat.le_max_left _ _) (lo_ge t K r (g + 1) _ _)
def sw (i j s : Nat) : Nat := if s = i then j else if s = j then i else s
theorem sw_sw (i j s : Nat) : sw i j (sw i j s) = s := by
  unfold sw
  by_cases h1 : s = i
  · by_cases h2 : j = i
    · simp [h1, h2]
    · simp [h1, h2]
  · by_cases h2 : s = j
    · simp [h2]
    · simp [h1, h2]
theorem sw_le {i j s K : Nat} (hi : i ≤ K) (hj : j ≤ K) (hs : s ≤ K) : sw i j s ≤ K := by
  unfold sw
  split
  · exact hj
  · split
    · exact hi
    · exact hs
theorem up_sw (sm : Nat → Nat) (i j s v : Nat) : va_up (fun q => sm (sw i j q)) s v = fun q => va_up sm (sw i j s) v (sw i j q) := by
  funext q
  unfold va_up
  by_cases h : q = s
  · rw [if_pos h, if_pos (by rw [h])]
  · rw [if_neg h, if_neg (fun e => h (by rw [← sw_sw i j q, e, sw_sw]))]
theorem lo_sw (t : Nat → Nat) {K i j : Nat} (hi : i ≤ K) (hj : j ≤ K) : ∀ (r g : Nat) (sm : Nat → Nat) (len : Nat), lo t K r g (fun q => sm (sw i j q)) len = lo t K r g sm len
  | 0, _, _, _ => rfl
  | r + 1, g, sm, len => by
    unfold lo
    refine mnl_eq (fun s hs => ⟨sw i j s, sw_le hi hj hs, ?_⟩) (fun s hs => ⟨sw i j s, sw_le hi hj hs, ?_⟩)
    · dsimp only
      rw [up_sw, lo_sw t hi hj r (g + 1) (va_up sm (sw i j s) (sm (sw i j s) + t g))]
      exact Nat.le_refl _
    · dsimp only
      rw [up_sw, sw_sw, lo_sw t hi hj r (g + 1) (va_up sm s (sm s + t g))]
      exact Nat.le_refl _
/-- two SHARDS that are empty are all one -/
theorem lo_open (t : Nat → Nat) {K i j : Nat} (hi : i ≤ K) (hj : j ≤ K) (r g : Nat) (sm : Nat → Nat) (v len : Nat) (ei : sm i = 0) (ej : sm j = 0) : lo t K r g (va_up sm i v) len = lo t K r g (va_up sm j v) len := by
  have h : va_up sm i v = fun q => va_up sm j v (sw i j q) := by
    funext q
    unfold va_up sw
    by_cases h1 : q = i
    · simp [h1]
    · by_cases h2 : q = j
      · subst h2
        simp [h1, ei, ej]
        intro h3
        exact absurd h3.symm h1
      · simp [h1, h2]
  rw [h, lo_sw t hi hj r g (va_up sm j v) len]
/-- the least of b and f 0 .. f (c - 1) -/
def mnp (f : Nat → Nat) (b : Nat) : Nat → Nat
  | 0 => b
  | c + 1 => min (mnp f b c) (f c)
theorem mnp_b (f : Nat → Nat) (b : Nat) : ∀ c, mnp f b c ≤ b
  | 0 => Nat.le_refl b
  | c + 1 => Nat.le_trans (Nat.min_le_left _ _) (mnp_b f b c)
theorem mnp_mnl (f : Nat → Nat) (b : Nat) : ∀ k, mnp f b (k + 1) = min b (mnl f k)
  | 0 => rfl
  | k + 1 => by
    show min (mnp f b (k + 1)) (f (k + 1)) = min b (min (mnl f k) (f (k + 1)))
    rw [mnp_mnl f b k]
    omega
/-- the next empty SHARD stands for all empty ones -/
theorem lo_step (t : Nat → Nat) {K op : Nat} (r g : Nat) (sm : Nat → Nat) (len b : Nat) (h0 : ∀ s, op ≤ s → s ≤ K → sm s = 0) : mnp (fun s => lo t K r (g + 1) (va_up sm s (sm s + t g)) (max len (sm s + t g))) b (min (op + 1) (K + 1)) = min b (lo t K (r + 1) g sm len) := by
  have e : min (op + 1) (K + 1) = min op K + 1 := by omega
  rw [e, mnp_mnl]
  congr 1
  show _ = mnl _ K
  refine mnl_eq (fun s hs => ⟨s, by omega, Nat.le_refl _⟩) (fun s hs => ?_)
  by_cases h : s ≤ op
  · exact ⟨s, by omega, Nat.le_refl _⟩
  · refine ⟨op, by omega, ?_⟩
    try dsimp only
    rw [h0 s (by omega) hs, h0 op (Nat.le_refl _) (by omega), lo_open t (i := op) (j := s) (by omega) hs r (g + 1) sm _ _ (h0 op (Nat.le_refl _) (by omega)) (h0 s (by omega) hs)]
    exact Nat.le_refl _
/-! GROUPS as numbers -/
theorem grpN_s {f : Nat → Nat} {i : Nat} (h : f i = i) : grpN f (i + 1) = grpN f i + 1 := by
  show grpN f i + (if f i = i then 1 else 0) = _
  rw [if_pos h]
theorem grpN_k {f : Nat → Nat} {i : Nat} (h : ¬ f i = i) : grpN f (i + 1) = grpN f i := by
  show grpN f i + (if f i = i then 1 else 0) = _
  rw [if_neg h]
  rfl
theorem grpN_mono (f : Nat → Nat) {a : Nat} : ∀ {b : Nat}, a ≤ b → grpN f a ≤ grpN f b
  | 0, h => by rw [show a = 0 by omega]; exact Nat.le_refl _
  | b + 1, h => by
    rcases (show a = b + 1 ∨ a ≤ b by omega) with q | q
    · rw [q]
      exact Nat.le_refl _
    · have h1 := grpN_mono f (a := a) (b := b) q
      show grpN f a ≤ grpN f b + (if f b = b then 1 else 0)
      omega
theorem grpN_lt {f : Nat → Nat} {a b : Nat} (h : f a = a) (hab : a < b) : grpN f a < grpN f b := by
  have h1 := grpN_mono f (a := a + 1) (b := b) hab
  rw [grpN_s h] at h1
  omega
theorem grpN_inj {f : Nat → Nat} {a b : Nat} (ha : f a = a) (hb : f b = b) (h : grpN f a = grpN f b) : a = b := by
  rcases (show a < b ∨ a = b ∨ b < a by omega) with q | q | q
  · have := grpN_lt ha q
    omega
  · exact q
  · have := grpN_lt hb q
    omega
/-- the g-th FIRST -/
theorem grpN_at (f : Nat → Nat) {g : Nat} : ∀ {n : Nat}, g < grpN f n → ∃ j, j < n ∧ f j = j ∧ grpN f j = g
  | 0, h => absurd h (Nat.not_lt_zero _)
  | n + 1, h => by
    by_cases e : f n = n
    · rw [grpN_s e] at h
      rcases (show g < grpN f n ∨ grpN f n = g by omega) with q | q
      · obtain ⟨j, h1, h2, h3⟩ := grpN_at f (n := n) q
        exact ⟨j, by omega, h2, h3⟩
      · exact ⟨n, by omega, e, q⟩
    · rw [grpN_k e] at h
      obtain ⟨j, h1, h2, h3⟩ := grpN_at f (n := n) h
      exact ⟨j, by omega, h2, h3⟩
def efT (tf : Nat → Nat) (mn : Nat) (j : Nat) : Nat := if tf j = 0 then mn else tf j
/-- the TIME of the GROUP of FIRST x, as far as the TESTS below i -/
def wT (ff ef : Nat → Nat) (x : Nat) : Nat → Nat
  | 0 => 0
  | i + 1 => wT ff ef x i + (if ff i = x then ef i else 0)
theorem wT_hit {ff ef : Nat → Nat} {x i : Nat} (h : ff i = x) : wT ff ef x (i + 1) = wT ff ef x i + ef i := by
  show wT ff ef x i + (if ff i = x then ef i else 0) = _
  rw [if_pos h]
theorem wT_miss {ff ef : Nat → Nat} {x i : Nat} (h : ¬ ff i = x) : wT ff ef x (i + 1) = wT ff ef x i := by
  show wT ff ef x i + (if ff i = x then ef i else 0) = _
  rw [if_neg h]
  rfl
theorem wT_none {ff ef : Nat → Nat} {x : Nat} : ∀ {i : Nat}, (∀ j, j < i → ¬ ff j = x) → wT ff ef x i = 0
  | 0, _ => rfl
  | i + 1, h => by rw [wT_miss (h i (by omega)), wT_none (i := i) (fun j hj => h j (by omega))]
theorem wT_le {ff ef : Nat → Nat} {x B : Nat} : ∀ {i : Nat}, (∀ j, j < i → ef j ≤ B) → wT ff ef x i ≤ B * i
  | 0, _ => Nat.le_refl _
  | i + 1, h => by
    have h1 := wT_le (ff := ff) (ef := ef) (x := x) (B := B) (i := i) (fun j hj => h j (by omega))
    have h2 := h i (by omega)
    show wT ff ef x i + (if ff i = x then ef i else 0) ≤ B * (i + 1)
    rw [Nat.mul_succ]
    split <;> omega
theorem wT_mono {ff ef : Nat → Nat} {x a : Nat} : ∀ {b : Nat}, a ≤ b → wT ff ef x a ≤ wT ff ef x b
  | 0, h => by rw [show a = 0 by omega]; exact Nat.le_refl _
  | b + 1, h => by
    rcases (show a = b + 1 ∨ a ≤ b by omega) with q | q
    · rw [q]
      exact Nat.le_refl _
    · have h1 := wT_mono (ff := ff) (ef := ef) (x := x) (a := a) (b := b) q
      show wT ff ef x a ≤ wT ff ef x b + (if ff b = x then ef b else 0)
      omega
theorem wT_pos {ff ef : Nat → Nat} {x n : Nat} (hx : ff x = x) (hn : x < n) (he : 1 ≤ ef x) : 1 ≤ wT ff ef x n := by
  have h1 := wT_mono (ff := ff) (ef := ef) (x := x) (a := x + 1) (b := n) hn
  rw [wT_hit hx] at h1
  omega
theorem sumT_cnt {f : Nat → Nat} : ∀ {i : Nat}, (∀ j, j < i → f j ≤ 100000) → sumT f i ≤ 100000 * cntT f i
  | 0, _ => Nat.le_refl _
  | i + 1, h => by
    have h1 := sumT_cnt (f := f) (i := i) (fun j hj => h j (by omega))
    have h2 := h i (by omega)
    show sumT f i + f i ≤ 100000 * (cntT f i + (if f i = 0 then 0 else 1))
    split <;> omega
theorem cnt_sumT (f : Nat → Nat) : ∀ i : Nat, cntT f i ≤ sumT f i
  | 0 => Nat.le_refl _
  | i + 1 => by
    have h1 := cnt_sumT f i
    show cntT f i + (if f i = 0 then 0 else 1) ≤ sumT f i + f i
    split <;> omega
theorem meanN_le {f : Nat → Nat} {n : Nat} (h : ∀ j, j < n → f j ≤ 100000) : meanN f n ≤ 100000 := by
  unfold meanN
  split
  · decide
  · rename_i hc
    have h1 := sumT_cnt h
    exact Nat.le_of_lt_succ ((Nat.div_lt_iff_lt_mul (by omega)).mpr (by omega))
theorem meanN_pos (f : Nat → Nat) (n : Nat) : 1 ≤ meanN f n := by
  unfold meanN
  split
  · decide
  · rename_i hc
    have h1 := cnt_sumT f n
    exact (Nat.le_div_iff_mul_le (by omega)).mpr (by omega)
theorem efT_le {tf : Nat → Nat} {mn j : Nat} (h1 : tf j ≤ 100000) (h2 : mn ≤ 100000) : efT tf mn j ≤ 100000 := by
  unfold efT
  split <;> assumption
theorem efT_pos {tf : Nat → Nat} {mn j : Nat} (h2 : 1 ≤ mn) : 1 ≤ efT tf mn j := by
  unfold efT
  split <;> omega
/-- what the rows of the GROUPS hold when the TESTS below i have been gathered -/
def gInv (ff tf : Nat → Nat) (mn i : Nat) (gF gT gO : Nat → Nat) (gS : Nat → Option Nat) : Prop := (∀ j, j < i → gO j = grpN ff (ff j)) ∧ (∀ j, j < i → ff j = j → gF (grpN ff j) = j ∧ gT (grpN ff j) = wT ff (efT tf mn) j i) ∧ (∀ g, g < grpN ff i → gS g = none)
theorem gInv_0 {ff tf : Nat → Nat} {mn : Nat} {gF gT gO : Nat → Nat} {gS : Nat → Option Nat} : gInv ff tf mn 0 gF gT gO gS := ⟨fun j h => absurd h (Nat.not_lt_zero _), fun j h => absurd h (Nat.not_lt_zero _), fun g h => absurd h (Nat.not_lt_zero _)⟩
theorem gInv_new {ff tf : Nat → Nat} {mn i : Nat} {gF gT gO : Nat → Nat} {gS : Nat → Option Nat} (h : gInv ff tf mn i gF gT gO gS) (hi : ff i = i) (hf : ∀ j, j < i → ff j ≤ j) {x : Nat} (hx : x = efT tf mn i) : gInv ff tf mn (i + 1) (va_up gF (grpN ff i) i) (va_up (va_up gT (grpN ff i) 0) (grpN ff i) (va_up gT (grpN ff i) 0 (grpN ff i) + x)) (va_up gO i (grpN ff i)) (va_up gS (grpN ff i) none) := by
  obtain ⟨h1, h2, h3⟩ := h
  refine ⟨fun j hj => ?_, fun j hj e => ?_, fun g hg => ?_⟩
  · rcases (show j = i ∨ j < i by omega) with q | q
    · rw [q, va_up_self, hi]
    · rw [va_up_ne _ _ (by omega), h1 j q]
  · rcases (show j = i ∨ j < i by omega) with q | q
    · subst q
      rw [va_up_self, va_up_self, va_up_self, wT_hit e, wT_none (fun k hk z => by have := hf k hk; omega), hx]
      exact ⟨rfl, rfl⟩
    · have hl := grpN_lt e q
      rw [va_up_ne _ _ (by omega), va_up_ne _ _ (by omega), va_up_ne _ _ (by omega), wT_miss (by omega)]
      exact h2 j q e
  · rw [grpN_s hi] at hg
    rcases (show g = grpN ff i ∨ g < grpN ff i by omega) with q | q
    · rw [q, va_up_self]
    · rw [va_up_ne _ _ (by omega), h3 g q]
theorem gInv_old {ff tf : Nat → Nat} {mn i : Nat} {gF gT gO : Nat → Nat} {gS : Nat → Option Nat} (h : gInv ff tf mn i gF gT gO gS) (hi : ff i < i) (hff : ff (ff i) = ff i) {x : Nat} (hx : x = efT tf mn i) : gInv ff tf mn (i + 1) gF (va_up gT (grpN ff (ff i)) (gT (grpN ff (ff i)) + x)) (va_up gO i (grpN ff (ff i))) gS := by
  obtain ⟨h1, h2, h3⟩ := h
  refine ⟨fun j hj => ?_, fun j hj e => ?_, fun g hg => ?_⟩
  · rcases (show j = i ∨ j < i by omega) with q | q
    · rw [q, va_up_self]
    · rw [va_up_ne _ _ (by omega), h1 j q]
  · rcases (show j = i ∨ j < i by omega) with q | q
    · subst q
      omega
    · obtain ⟨a1, a2⟩ := h2 j q e
      refine ⟨a1, ?_⟩
      by_cases z : j = ff i
      · subst z
        rw [va_up_self, wT_hit rfl, a2, hx]
      · rw [va_up_ne _ _ (fun w => z (grpN_inj e hff w)), wT_miss (fun w => z w.symm)]
        exact a2
  · rw [grpN_k (by omega)] at hg
    exact h3 g hg
/-- of those that have no SHARD yet the one with the greatest TIME, the first of equal ones -/
def sel (w : Nat → Nat) (gs : Nat → Option Nat) : Nat → Option Nat
  | 0 => none
  | i + 1 => if gs i = none then (match sel w gs i with
    | none => some i
    | some g => if w g < w i then some i else some g) else sel w gs i
theorem sel_skip {w : Nat → Nat} {gs : Nat → Option Nat} {i : Nat} (h : ¬ gs i = none) : sel w gs (i + 1) = sel w gs i := by
  rw [sel, if_neg h]
theorem sel_take {w : Nat → Nat} {gs : Nat → Option Nat} {i : Nat} (h : gs i = none) (h2 : (sel w gs i).elim 0 w < w i) : sel w gs (i + 1) = some i := by
  rw [sel, if_pos h]
  cases e : sel w gs i with
  | none => rfl
  | some g =>
    rw [e] at h2
    have h3 : w g < w i := h2
    show (if w g < w i then some i else some g) = some i
    rw [if_pos h3]
theorem sel_keep {w : Nat → Nat} {gs : Nat → Option Nat} {i : Nat} (h : gs i = none) (h1 : 1 ≤ w i) (h2 : w i ≤ (sel w gs i).elim 0 w) : sel w gs (i + 1) = sel w gs i := by
  rw [sel, if_pos h]
  cases e : sel w gs i with
  | none =>
    rw [e] at h2
    have h3 : w i ≤ 0 := h2
    omega
  | some g =>
    rw [e] at h2
    have h3 : w i ≤ w g := h2
    show (if w g < w i then some i else some g) = some g
    rw [if_neg (by omega)]
theorem sel_lt {w : Nat → Nat} {gs : Nat → Option Nat} {g : Nat} : ∀ {i : Nat}, sel w gs i = some g → g < i ∧ gs g = none
  | 0, h => by cases h
  | i + 1, h => by
    rw [sel] at h
    by_cases e : gs i = none
    · rw [if_pos e] at h
      cases e2 : sel w gs i with
      | none =>
        rw [e2] at h
        cases h
        exact ⟨by omega, e⟩
      | some g2 =>
        rw [e2] at h
        have h : (if w g2 < w i then some i else some g2) = some g := h
        split at h
        · cases h
          exact ⟨by omega, e⟩
        · cases h
          have := sel_lt (i := i) e2
          exact ⟨by omega, this.2⟩
    · rw [if_neg e] at h
      have := sel_lt (i := i) h
      exact ⟨by omega, this.2⟩
theorem sel_some {w : Nat → Nat} {gs : Nat → Option Nat} {g : Nat} (hg : gs g = none) : ∀ {i : Nat}, g < i → ∃ k, sel w gs i = some k
  | 0, h => absurd h (Nat.not_lt_zero _)
  | i + 1, h => by
    rw [sel]
    by_cases e : gs i = none
    · rw [if_pos e]
      cases e2 : sel w gs i with
      | none => exact ⟨i, rfl⟩
      | some g2 =>
        show ∃ k, (if w g2 < w i then some i else some g2) = some k
        split
        · exact ⟨i, rfl⟩
        · exact ⟨g2, rfl⟩
    · rw [if_neg e]
      rcases (show g = i ∨ g < i by omega) with q | q
      · rw [q] at hg
        exact absurd hg e
      · exact sel_some hg q
/-- the first SHARD of the least sum, of 0 .. i -/
def lst (sm : Nat → Nat) : Nat → Nat
  | 0 => 0
  | i + 1 => if sm (i + 1) < sm (lst sm i) then i + 1 else lst sm i
theorem lst_le (sm : Nat → Nat) : ∀ i : Nat, lst sm i ≤ i
  | 0 => Nat.le_refl _
  | i + 1 => by
    have := lst_le sm i
    show (if sm (i + 1) < sm (lst sm i) then i + 1 else lst sm i) ≤ i + 1
    split <;> omega
theorem lst_take {sm : Nat → Nat} {i : Nat} (hi : 1 ≤ i) (h : sm i < sm (lst sm (i - 1))) : lst sm (i + 1 - 1) = i := by
  obtain ⟨t, rfl⟩ : ∃ t, i = t + 1 := ⟨i - 1, by omega⟩
  have h : sm (t + 1) < sm (lst sm t) := h
  show (if sm (t + 1) < sm (lst sm t) then t + 1 else lst sm t) = t + 1
  rw [if_pos h]
theorem lst_keep {sm : Nat → Nat} {i : Nat} (hi : 1 ≤ i) (h : sm (lst sm (i - 1)) ≤ sm i) : lst sm (i + 1 - 1) = lst sm (i - 1) := by
  obtain ⟨t, rfl⟩ : ∃ t, i = t + 1 := ⟨i - 1, by omega⟩
  show (if sm (t + 1) < sm (lst sm t) then t + 1 else lst sm t) = lst sm t
  rw [if_neg (by have h2 : sm (lst sm t) ≤ sm (t + 1) := h; omega)]
def lsh (sm : Nat → Nat) (k : Nat) (o : Option Nat) : Nat := match o with
  | none => lst sm (k - 1)
  | some q => if q < k ∧ sm q = sm (lst sm (k - 1)) then q else lst sm (k - 1)
theorem lsh_lt {sm : Nat → Nat} {k : Nat} {o : Option Nat} (hk : 1 ≤ k) : lsh sm k o < k := by
  have h1 := lst_le sm (k - 1)
  cases o with
  | none => show lst sm (k - 1) < k; omega
  | some q =>
    show (if q < k ∧ sm q = sm (lst sm (k - 1)) then q else lst sm (k - 1)) < k
    split
    · rename_i h
      exact h.1
    · omega
/-- the GROUPS by falling TIMES, i of them placed -/
def grd (w F : Nat → Nat) (sf : Nat → Option Nat) (G k : Nat) (g0 : Nat → Option Nat) : Nat → (Nat → Option Nat) × (Nat → Nat)
  | 0 => (g0, fun _ => 0)
  | i + 1 => (va_up (grd w F sf G k g0 i).1 ((sel w (grd w F sf G k g0 i).1 G).getD 0) (some (lsh (grd w F sf G k g0 i).2 k (sf (F ((sel w (grd w F sf G k g0 i).1 G).getD 0))))), va_up (grd w F sf G k g0 i).2 (lsh (grd w F sf G k g0 i).2 k (sf (F ((sel w (grd w F sf G k g0 i).1 G).getD 0)))) ((grd w F sf G k g0 i).2 (lsh (grd w F sf G k g0 i).2 k (sf (F ((sel w (grd w F sf G k g0 i).1 G).getD 0)))) + w ((sel w (grd w F sf G k g0 i).1 G).getD 0)))
theorem sel_getD {w : Nat → Nat} {gs : Nat → Option Nat} {G : Nat} (hG : 0 < G) : (sel w gs G).getD 0 < G := by
  cases e : sel w gs G with
  | none => exact hG
  | some g => exact (sel_lt e).1
theorem grd_le {w F : Nat → Nat} {sf : Nat → Option Nat} {G k B : Nat} {g0 : Nat → Option Nat} (hG : 0 < G) (hw : ∀ g, g < G → w g ≤ B) : ∀ (i q : Nat), (grd w F sf G k g0 i).2 q ≤ B * i
  | 0, q => Nat.zero_le _
  | i + 1, q => by
    have h1 := grd_le (F := F) (sf := sf) (k := k) (g0 := g0) hG hw i
    have h2 := hw _ (sel_getD (w := w) (gs := (grd w F sf G k g0 i).1) hG)
    rw [Nat.mul_succ]
    by_cases e : q = lsh (grd w F sf G k g0 i).2 k (sf (F ((sel w (grd w F sf G k g0 i).1 G).getD 0)))
    · have h3 := h1 q
      rw [e]
      show va_up _ _ _ _ ≤ _
      rw [va_up_self, ← e]
      omega
    · show va_up _ _ _ _ ≤ _
      rw [va_up_ne _ _ e]
      have h3 := h1 q
      omega
/-- sums when the GROUPS below i have the SHARDS s -/
def smA (t s : Nat → Nat) : Nat → (Nat → Nat)
  | 0 => fun _ => 0
  | i + 1 => va_up (smA t s i) (s i) (smA t s i (s i) + t i)
def sfA (sf : Nat → Option Nat) (s gO : Nat → Nat) (i : Nat) : Nat → Option Nat := fun j => if j < i then some (s (gO j)) else sf j
theorem sfA_0 (sf : Nat → Option Nat) (s gO : Nat → Nat) : sfA sf s gO 0 = sf := by
  funext j
  simp [sfA]
theorem sfA_at (sf : Nat → Option Nat) (s gO : Nat → Nat) (i : Nat) : sfA sf s gO i i = sf i := by
  simp [sfA]
theorem sfA_up (sf : Nat → Option Nat) (s gO : Nat → Nat) (i : Nat) : va_up (sfA sf s gO i) i (some (s (gO i))) = sfA sf s gO (i + 1) := by
  funext j
  unfold va_up sfA
  by_cases e : j = i
  · subst e
    simp
  · by_cases l : j < i
    · simp [e, l, show j < i + 1 by omega]
    · simp [e, l, show ¬ j < i + 1 by omega]
def mvA (sf : Nat → Option Nat) (s gO : Nat → Nat) : Nat → Nat
  | 0 => 0
  | i + 1 => mvA sf s gO i + mvdB (sf i) (s (gO i))
def zsA (s gO : Nat → Nat) : Nat → (Nat → Nat)
  | 0 => fun _ => 0
  | i + 1 => va_up (zsA s gO i) (s (gO i)) (zsA s gO i (s (gO i)) + 1)
theorem rowA_nI {n : Nat} {f : Nat → Nat} {j : Nat} (hj : j < n) (hn : n < 2 ^ 31) : rowA n f (nI j) = some (f j) := by
  unfold rowA
  rw [inB_nI hj hn, if_neg (by decide), nI_clamp (by omega)]
theorem wb_tb (n : Nat) : (lN n).toBitVec = BitVec.ofNat 64 n := rfl
theorem wb_inj {a b : Int64} (h : a.toBitVec = b.toBitVec) : a = b := Int64.toBitVec_inj.mp h
theorem wb_tn {n : Nat} (h : n < 2 ^ 64) : (lN n).toBitVec.toNat = n := by rw [wb_tb, BitVec.toNat_ofNat, Nat.mod_eq_of_lt h]
theorem wb_of (x : Int64) : ∃ n, n < 2 ^ 64 ∧ x = lN n := ⟨x.toBitVec.toNat, x.toBitVec.isLt, wb_inj (by rw [wb_tb]; simp)⟩
theorem wb_of32 (x : Int32) : ∃ n, n < 2 ^ 32 ∧ x = nI n := ⟨x.toBitVec.toNat, x.toBitVec.isLt, Int32.toBitVec_inj.mp (by show _ = BitVec.ofNat 32 _; simp)⟩
theorem wb_c : ∀ k, k < 64 → ((nI k).toInt64 &&& 63) = lN k := by decide +kernel
theorem wb_cu : ∀ k, k < 64 → ((nI k).toInt64.toUInt64 &&& Int64.toUInt64 63) = UInt64.ofNat k := by decide +kernel
theorem wb_sm : ∀ k, k < 64 → (BitVec.ofNat 64 k).smod 64 = BitVec.ofNat 64 k := by decide +kernel
theorem wb_pw {a b : Nat} (h : a ≤ b) : 2 ^ b = 2 ^ a * 2 ^ (b - a) := by rw [← Nat.pow_add]; congr 1; omega
theorem wb_lt2 {a b : Nat} (h : a < b) : 2 ^ a < 2 ^ b := Nat.pow_lt_pow_right (by decide) h
theorem wb_mod (n : Nat) : lN n = lN (n % 2 ^ 64) := wb_inj (by rw [wb_tb, wb_tb]; apply BitVec.eq_of_toNat_eq; rw [BitVec.toNat_ofNat, BitVec.toNat_ofNat, Nat.mod_mod])
theorem wb_shr {n k : Nat} (hn : n < 2 ^ 64) (hk : k < 64) : ((lN n).toUInt64 >>> ((nI k).toInt64.toUInt64 &&& Int64.toUInt64 63)).toInt64 = lN (n / 2 ^ k) := by
  rw [wb_cu k hk]
  apply wb_inj
  apply BitVec.eq_of_toNat_eq
  show ((lN n).toUInt64 >>> UInt64.ofNat k).toNat = (BitVec.ofNat 64 _).toNat
  have h1 : (UInt64.ofNat k).toNat = k := by
    show (BitVec.ofNat 64 k).toNat = k
    rw [BitVec.toNat_ofNat, Nat.mod_eq_of_lt (by omega)]
  have h2 : (lN n).toUInt64.toNat = n := wb_tn hn
  rw [UInt64.toNat_shiftRight, h1, h2, Nat.mod_eq_of_lt hk, Nat.shiftRight_eq_div_pow, BitVec.toNat_ofNat, Nat.mod_eq_of_lt (Nat.lt_of_le_of_lt (Nat.div_le_self _ _) hn)]
/-! an order drawn by a seed -/
def uX (x : Int64) : Nat := x.toBitVec.toNat
theorem uX_lt (x : Int64) : uX x < 2 ^ 64 := x.toBitVec.isLt
theorem uX_of (x : Int64) : lN (uX x) = x := wb_inj (by rw [wb_tb]; unfold uX; simp)
def lcg (x : Int64) : Int64 := x * 6364136223846793005 + 1442695040888963407
def jx (x : Int64) (n : Nat) : Nat := (uX x / 2 ^ 33) % n
theorem lcg_shr (x : Int64) : (x.toUInt64 >>> ((nI 33).toInt64.toUInt64 &&& Int64.toUInt64 63)).toInt64 = lN (uX x / 2 ^ 33) := by
  have h := wb_shr (n := uX x) (k := 33) (uX_lt x) (by decide)
  rw [uX_of] at h
  exact h
theorem lcg_rem (x : Int64) {m : Nat} (h0 : 0 < m) (hm : m < 2 ^ 31) : lN (uX x / 2 ^ 33) - lN (uX x / 2 ^ 33) / lN m * lN m = lN (jx x m) := by
  have h := uX_lt x
  exact pk_lRem (by omega) h0 (by omega)
theorem lN_ne0 {m : Nat} (h0 : 0 < m) (hm : m < 2 ^ 31) : ¬ lN m = 0 := fun q => by
  have h : lN m = lN 0 := q
  have := (lN_eq hm (by decide)).mp h
  omega
def swp (r : Nat → Nat) (i j : Nat) : Nat → Nat := va_up (va_up r i (r j)) j (r i)
def shf : Nat → Int64 → (Nat → Nat) → (Nat → Nat)
  | 0, _, r => r
  | i + 1, x, r => shf i (lcg x) (swp r (i + 1) (jx (lcg x) (i + 1 + 1)))
theorem jx_lt (x : Int64) {n : Nat} (h : 0 < n) : jx x n < n := Nat.mod_lt _ h
theorem hr_dec1 {n : Nat} : nI (n + 1) + Int32.ofInt (-1) = nI n := pk_m1 n
/-- how many TESTS below i a SHARD has, and which -/
def dgN (sf : Nat → Option Nat) (q : Nat) : Nat → Nat
  | 0 => 0
  | i + 1 => dgN sf q i + (if sf i = some q then 1 else 0)
def dgR (sf : Nat → Option Nat) (q : Nat) (r : Nat → Nat) : Nat → (Nat → Nat)
  | 0 => r
  | i + 1 => if sf i = some q then va_up (dgR sf q r i) (dgN sf q i) i else dgR sf q r i
theorem dgN_le (sf : Nat → Option Nat) (q : Nat) : ∀ i : Nat, dgN sf q i ≤ i
  | 0 => Nat.le_refl _
  | i + 1 => by
    have := dgN_le sf q i
    show dgN sf q i + (if sf i = some q then 1 else 0) ≤ i + 1
    split <;> omega
theorem dgN_hit {sf : Nat → Option Nat} {q i : Nat} (h : sf i = some q) : dgN sf q (i + 1) = dgN sf q i + 1 := by
  show dgN sf q i + (if sf i = some q then 1 else 0) = _
  rw [if_pos h]
theorem dgN_miss {sf : Nat → Option Nat} {q i : Nat} (h : ¬ sf i = some q) : dgN sf q (i + 1) = dgN sf q i := by
  show dgN sf q i + (if sf i = some q then 1 else 0) = _
  rw [if_neg h]
  rfl
theorem dgR_hit {sf : Nat → Option Nat} {q i : Nat} {r : Nat → Nat} (h : sf i = some q) : dgR sf q r (i + 1) = va_up (dgR sf q r i) (dgN sf q i) i := by
  show (if sf i = some q then va_up (dgR sf q r i) (dgN sf q i) i else dgR sf q r i) = _
  rw [if_pos h]
theorem dgR_miss {sf : Nat → Option Nat} {q i : Nat} {r : Nat → Nat} (h : ¬ sf i = some q) : dgR sf q r (i + 1) = dgR sf q r i := by
  show (if sf i = some q then va_up (dgR sf q r i) (dgN sf q i) i else dgR sf q r i) = _
  rw [if_neg h]
theorem grd_S {w F : Nat → Nat} {sf : Nat → Option Nat} {G k : Nat} {g0 : Nat → Option Nat} (hk : 1 ≤ k) (h0 : ∀ g, g < G → g0 g = none) : ∀ (i g q : Nat), g < G → (grd w F sf G k g0 i).1 g = some q → q < k
  | 0, g, q, hg, h => by
    have h : g0 g = some q := h
    rw [h0 g hg] at h
    cases h
  | i + 1, g, q, hg, h => by
    by_cases e : g = (sel w (grd w F sf G k g0 i).1 G).getD 0
    · have h : va_up _ _ _ _ = some q := h
      rw [e, va_up_self] at h
      cases h
      exact lsh_lt hk
    · have h : va_up _ _ _ _ = some q := h
      rw [va_up_ne _ _ e] at h
      exact grd_S hk h0 i g q hg h
end
section
set_option maxHeartbeats 4000000 in
set_option maxRecDepth 100000 in
/-- is there such a TEST -/
theorem c_TR_has (l : Launch) (dC : Nat → ClassId) (dI : Nat → Nat → Nat) (cI cZ cG : ClassId) (h : Nat) (a : Nat) (b : Nat) (n : Nat) (tf : Nat → Nat) (ff : Nat → Nat) (x : Int32) (hn : n ≤ 24) : Met l yTR_has wsTR_has ({ frames := 0, cells := 0, slots := 0, locals := 0 }) (va_Pc [.ref h, .int x] (fun U => va_P (dC, dI) vwCl [(h, .inr (0, [.int (nI n), .ref a, .ref b])), (a, .inl (cI, 24, .inl (fun j9 => nI (tf j9)))), (b, .inl (cI, 24, .inl (fun j9 => nI (ff j9))))] U.heap ∧ KX dC dI cI cZ cG U)) (vp_Si (fun r => r = nI (inB x n))) 0 0 (fun _ => False) := by
  refine Met.ofW (cc := cTR_has) (maxL := 2) (ret := (some .boolean)) (by decide) rfl ?_
  intro p e s m args below meth c s₁ B hml hv
  obtain ⟨rfl, hP, hKX⟩ := hv
  have hK := hKX.1
  have hx := B.exec
  have hb := B.bytes
  have hr := B.returns
  have hts := atoms_spec (ws := wsTR_has) B.pre
  have hown : s.vm.findClass RTR = some m.cls := findClass_of_methodNamed B.named
  have hlocks := B.notSynchronized
  have hl := lv_entry ([.ref h, .int x]) (n := 2) (Nat.le_of_ble_eq_true rfl)
  rw [lg_entry_eq]
  generalize (lg_sl ([.ref h, .int x]) ++ List.replicate (2 - (lg_sl ([.ref h, .int x])).length) Slot.unset).toArray = ls at hl ⊢
  have hl : lv_has ls 2 [(0, .ref h), (1, .int x)] := hl
  generalize hRe : (headSpec wsTR_has ({ frames := 0, cells := 0, slots := 0, locals := 0 })).room = R
  have hRf : 0 ≤ R.frames := by rw [← hRe]; exact Nat.le_refl _
  have hRl : 0 ≤ R.locals := by rw [← hRe]; exact Nat.le_refl _
  have hRc : 0 ≤ R.cells := by rw [← hRe]; exact Nat.le_refl _
  have hRs : 0 ≤ R.slots := by rw [← hRe]; exact Nat.le_refl _
  generalize hargs : (List.toArray [.ref h, .int x] : Array Value) = args at hts ⊢
  generalize hQe : MQ below _ args s _ _ _ = Q
  refine lv_iload_n hx hb dTR_has_0 rfl (lv_at hl 1 rfl) ?_
  refine lv_if_lt (tgt := 16) hx hb dTR_has_1 (by decide) (fun c_1 => ?_) (fun c_1 => ?_)
  · refine lv_iconst (v := nI 0) hx hb dTR_has_16 (by decide +kernel) ?_
    rw [← hQe]
    exact W.zret (ty := .boolean) (v := nI 0) hx hb hr (by decide +kernel) (fun t ht hW => ⟨_, rfl, by rw [inB_neg c_1], by rw [ht]⟩) (fun q h => by cases h) dTR_has_17
  · refine lv_iload_n hx hb dTR_has_4 rfl (lv_at hl 1 rfl) ?_
    refine lv_aload_n hx hb dTR_has_5 rfl (lv_at hl 0 rfl) ?_
    refine va_get (D := (dC, dI)) (ci := 0) (v := .int (nI n)) (C := RTR) (T := TTR) (N := 3) hx hb hts (fun w h => List.mem_cons_of_mem _ (inTR w h)) hown hK hP 0 rfl rfl 0 (by decide) (hts _ (List.mem_cons_of_mem _ kw_55)) (fun _ h9 => h9) rfl dTR_has_6 ?_
    refine lv_icmp_ge (tgt := 16) hx hb dTR_has_9 (by decide) (fun c_2 => ?_) (fun c_2 => ?_)
    · refine lv_iconst (v := nI 0) hx hb dTR_has_16 (by decide +kernel) ?_
      rw [← hQe]
      exact W.zret (ty := .boolean) (v := nI 0) hx hb hr (by decide +kernel) (fun t ht hW => ⟨_, rfl, by rw [inB_big c_1 c_2], by rw [ht]⟩) (fun q h => by cases h) dTR_has_17
    · refine lv_iconst (v := nI 1) hx hb dTR_has_12 (by decide +kernel) ?_
      refine lv_goto (tgt := 17) hx hb dTR_has_13 (by decide) ?_
      rw [← hQe]
      exact W.zret (ty := .boolean) (v := nI 1) hx hb hr (by decide +kernel) (fun t ht hW => ⟨_, rfl, by rw [inB_in c_1 c_2], by rw [ht]⟩) (fun q h => by cases h) dTR_has_17

set_option maxHeartbeats 4000000 in
set_option maxRecDepth 100000 in
/-- a TIME, or none -/
theorem c_TR_isTime (l : Launch) (dC : Nat → ClassId) (dI : Nat → Nat → Nat) (cI cZ cG : ClassId) (x : Int32) : Met l yTR_isTime wsTR_isTime ({ frames := 0, cells := 0, slots := 0, locals := 0 }) (va_Pc [.int x] (fun U => va_P (dC, dI) vwCl [] U.heap ∧ KX dC dI cI cZ cG U)) (vp_Si (fun r => r = nI (inB x 100001))) 0 0 (fun _ => False) := by
  refine Met.ofW (cc := cTR_isTime) (maxL := 1) (ret := (some .boolean)) (by decide) rfl ?_
  intro p e s m args below meth c s₁ B hml hv
  obtain ⟨rfl, hP, hKX⟩ := hv
  have hK := hKX.1
  have hx := B.exec
  have hb := B.bytes
  have hr := B.returns
  have hts := atoms_spec (ws := wsTR_isTime) B.pre
  have hown : s.vm.findClass RTR = some m.cls := findClass_of_methodNamed B.named
  have hlocks := B.notSynchronized
  have hl := lv_entry ([.int x]) (n := 1) (Nat.le_of_ble_eq_true rfl)
  rw [lg_entry_eq]
  generalize (lg_sl ([.int x]) ++ List.replicate (1 - (lg_sl ([.int x])).length) Slot.unset).toArray = ls at hl ⊢
  have hl : lv_has ls 1 [(0, .int x)] := hl
  generalize hRe : (headSpec wsTR_isTime ({ frames := 0, cells := 0, slots := 0, locals := 0 })).room = R
  have hRf : 0 ≤ R.frames := by rw [← hRe]; exact Nat.le_refl _
  have hRl : 0 ≤ R.locals := by rw [← hRe]; exact Nat.le_refl _
  have hRc : 0 ≤ R.cells := by rw [← hRe]; exact Nat.le_refl _
  have hRs : 0 ≤ R.slots := by rw [← hRe]; exact Nat.le_refl _
  generalize hargs : (List.toArray [.int x] : Array Value) = args at hts ⊢
  generalize hQe : MQ below _ args s _ _ _ = Q
  refine lv_iload_n hx hb dTR_isTime_0 rfl (lv_at hl 0 rfl) ?_
  refine lv_if_lt (tgt := 14) hx hb dTR_isTime_1 (by decide) (fun c_1 => ?_) (fun c_1 => ?_)
  · refine lv_iconst (v := nI 0) hx hb dTR_isTime_14 (by decide +kernel) ?_
    rw [← hQe]
    exact W.zret (ty := .boolean) (v := nI 0) hx hb hr (by decide +kernel) (fun t ht hW => ⟨_, rfl, by rw [inB_neg c_1], by rw [ht]⟩) (fun q h => by cases h) dTR_isTime_15
  · refine lv_iload_n hx hb dTR_isTime_4 rfl (lv_at hl 0 rfl) ?_
    refine lv_ldc (v := 100000) hx hb hown (hts (.constant RTR 38 100000) (by decide +kernel)) dTR_isTime_5 ?_
    refine hr_eqi (show (100000 : Int32) = nI 100000 by decide +kernel) ?_
    refine lv_icmp_gt (tgt := 14) hx hb dTR_isTime_7 (by decide) (fun c_2 => ?_) (fun c_2 => ?_)
    · refine lv_iconst (v := nI 0) hx hb dTR_isTime_14 (by decide +kernel) ?_
      rw [← hQe]
      exact W.zret (ty := .boolean) (v := nI 0) hx hb hr (by decide +kernel) (fun t ht hW => ⟨_, rfl, by rw [inB_big c_1 (inB_gt (by decide) c_2)], by rw [ht]⟩) (fun q h => by cases h) dTR_isTime_15
    · refine lv_iconst (v := nI 1) hx hb dTR_isTime_10 (by decide +kernel) ?_
      refine lv_goto (tgt := 15) hx hb dTR_isTime_11 (by decide) ?_
      rw [← hQe]
      exact W.zret (ty := .boolean) (v := nI 1) hx hb hr (by decide +kernel) (fun t ht hW => ⟨_, rfl, by rw [inB_in c_1 (inB_ngt (by decide) c_2)], by rw [ht]⟩) (fun q h => by cases h) dTR_isTime_15

set_option maxHeartbeats 4000000 in
set_option maxRecDepth 100000 in
/-- a new TEST -/
theorem c_TR_add (l : Launch) (dC : Nat → ClassId) (dI : Nat → Nat → Nat) (cI cZ cG : ClassId) (h : Nat) (a : Nat) (b : Nat) (n : Nat) (tf : Nat → Nat) (ff : Nat → Nat) (x : Int32) (sz : Nat) (hn : n ≤ 24) : Met l yTR_add wsTR_add ({ frames := 1, cells := 0, slots := 0, locals := 20 }) (va_Pc [.ref h, .int x] (fun U => U.heap.size = sz ∧ va_P (dC, dI) vwCl [(h, .inr (0, [.int (nI n), .ref a, .ref b])), (a, .inl (cI, 24, .inl (fun j9 => nI (tf j9)))), (b, .inl (cI, 24, .inl (fun j9 => nI (ff j9))))] U.heap ∧ KX dC dI cI cZ cG U ∧ va_D (fun _ => True) [(h, .inr (0, [.int (nI n), .ref a, .ref b])), (a, .inl (cI, 24, .inl (fun j9 => nI (tf j9)))), (b, .inl (cI, 24, .inl (fun j9 => nI (ff j9))))])) (va_Qi (fun (r : Int32) (u : Unit) => r = ((addN n x).elim (-1) (fun _ => nI n))) (fun u t => va_P (dC, dI) vwCl [(h, .inr (0, [.int (nI ((addN n x).elim n (fun _ => n + 1))), .ref a, .ref b])), (a, .inl (cI, 24, .inl (fun j9 => nI (((addN n x).elim tf (va_up tf n)) j9)))), (b, .inl (cI, 24, .inl (fun j9 => nI (((addN n x).elim ff (fun _ => va_up ff n n)) j9))))] t.heap ∧ va_D (va_A [(h, .inr (0, [.int (nI n), .ref a, .ref b])), (a, .inl (cI, 24, .inl (fun j9 => nI (tf j9)))), (b, .inl (cI, 24, .inl (fun j9 => nI (ff j9))))] sz) [(h, .inr (0, [.int (nI ((addN n x).elim n (fun _ => n + 1))), .ref a, .ref b])), (a, .inl (cI, 24, .inl (fun j9 => nI (((addN n x).elim tf (va_up tf n)) j9)))), (b, .inl (cI, 24, .inl (fun j9 => nI (((addN n x).elim ff (fun _ => va_up ff n n)) j9))))]) (va_A [(h, .inr (0, [.int (nI n), .ref a, .ref b])), (a, .inl (cI, 24, .inl (fun j9 => nI (tf j9)))), (b, .inl (cI, 24, .inl (fun j9 => nI (ff j9))))] sz)) 0 0 (va_A [(h, .inr (0, [.int (nI n), .ref a, .ref b])), (a, .inl (cI, 24, .inl (fun j9 => nI (tf j9)))), (b, .inl (cI, 24, .inl (fun j9 => nI (ff j9))))] sz) := by
  refine Met.ofW (cc := cTR_add) (maxL := 3) (ret := (some .int)) (by decide) rfl ?_
  intro p e s m args below meth c s₁ B hml hv
  obtain ⟨rfl, hsz, hP, hKX, hD0⟩ := hv
  have hK := hKX.1
  have hx := B.exec
  have hb := B.bytes
  have hr := B.returns
  have hts := atoms_spec (ws := wsTR_add) B.pre
  have hown : s.vm.findClass RTR = some m.cls := findClass_of_methodNamed B.named
  have hlocks := B.notSynchronized
  subst hsz
  have hD := hD0.self (sz := s.heap.size)
  generalize hAe : va_A [(h, .inr (0, [.int (nI n), .ref a, .ref b])), (a, .inl (cI, 24, .inl (fun j9 => nI (tf j9)))), (b, .inl (cI, 24, .inl (fun j9 => nI (ff j9))))] s.heap.size = A at hD ⊢
  have hA : ∀ q : Nat, s.heap.size ≤ q → A q := fun q h => by rw [← hAe]; exact Or.inr h
  have hS : va_S A s.heap s.heap [] := va_S.rf
  have hl := lv_entry ([.ref h, .int x]) (n := 3) (Nat.le_of_ble_eq_true rfl)
  rw [lg_entry_eq]
  generalize (lg_sl ([.ref h, .int x]) ++ List.replicate (3 - (lg_sl ([.ref h, .int x])).length) Slot.unset).toArray = ls at hl ⊢
  have hl : lv_has ls 3 [(0, .ref h), (1, .int x)] := hl
  generalize hRe : (headSpec wsTR_add ({ frames := 1, cells := 0, slots := 0, locals := 20 })).room = R
  have hRf : 1 ≤ R.frames := by rw [← hRe]; exact Nat.le_refl _
  have hRl : 20 ≤ R.locals := by rw [← hRe]; exact Nat.le_refl _
  have hRc : 0 ≤ R.cells := by rw [← hRe]; exact Nat.le_refl _
  have hRs : 0 ≤ R.slots := by rw [← hRe]; exact Nat.le_refl _
  generalize hargs : (List.toArray [.ref h, .int x] : Array Value) = args at hts ⊢
  generalize hQe : MQ below _ args s _ _ _ = Q
  refine lv_aload_n hx hb dTR_add_0 rfl (lv_at hl 0 rfl) ?_
  refine va_get (D := (dC, dI)) (ci := 0) (v := .int (nI n)) (C := RTR) (T := TTR) (N := 3) hx hb hts (fun w h => List.mem_cons_of_mem _ (inTR w h)) hown hK hP 0 rfl rfl 0 (by decide) (hts _ (List.mem_cons_of_mem _ kw_55)) (fun _ h9 => h9) rfl dTR_add_1 ?_
  refine lv_bipush (v := nI 24) hx hb dTR_add_4 (by decide +kernel) ?_
  refine hr_icmp_ge hx hb (x := n) (y := 24) (by omega) (by omega) (tgt := 16) dTR_add_6 (by decide) (fun c_1 => ?_) (fun c_1 => ?_)
  · refine lv_iconst (v := (-1)) hx hb dTR_add_16 (by decide +kernel) ?_
    have ez : addN n x = none := by simp [addN, show ¬ n < 24 by omega]
    rw [← hQe]
    exact W.iret (v := (-1)) hx hb hr (fun t ht hW => ⟨⟨_, (), rfl, by rw [ez]; rfl, by rw [ht, ez]; exact hP, by rw [ez]; exact hD⟩, hS.F ht⟩) hS.2.2 dTR_add_17
  · refine lv_iload_n hx hb dTR_add_9 rfl (lv_at hl 1 rfl) ?_
    refine vp_callSi (va_runS (As := [.int x]) (rest := []) ⟨hx, hb, hml, hown, hts⟩ (c_TR_isTime l dC dI cI cZ cG x) (hr_cwS 1 hts kw_257 kw_258 kw_25 kw_259 (by decide +kernel) (by rw [← hRe]; exact ⟨Nat.le_of_ble_eq_true rfl, Nat.le_of_ble_eq_true rfl⟩)) (hr_preRS hKX hP [] rfl) rfl rfl hl.1 rfl (lv_room (Nat.le_of_ble_eq_true rfl)) dTR_add_10 ⟨by omega, by omega⟩).run (fun rv hrv => ?_)
    refine hr_eqi hrv ?_
    have hb1 := inB_lt x 100001
    refine hr_if_ne hx hb (x := inB x 100001) (by omega) (tgt := 18) dTR_add_13 (by decide) (fun c_2 => ?_) (fun c_2 => ?_)
    · obtain ⟨τ, hτ, rfl⟩ := inB_pos (by decide) c_2
      refine lv_aload_n hx hb dTR_add_18 rfl (lv_at hl 0 rfl) ?_
      refine va_get (D := (dC, dI)) (ci := 0) (v := .int (nI n)) (C := RTR) (T := TTR) (N := 3) hx hb hts (fun w h => List.mem_cons_of_mem _ (inTR w h)) hown hK hP 0 rfl rfl 0 (by decide) (hts _ (List.mem_cons_of_mem _ kw_55)) (fun _ h9 => h9) rfl dTR_add_19 ?_
      refine lv_istore_n (lv' := [(2, .int (nI n)), (0, .ref h), (1, .int (nI τ))]) hx hb dTR_add_22 rfl hl (by decide) rfl (fun ls hl => ?_)
      refine lv_aload_n hx hb dTR_add_23 rfl (lv_at hl 1 rfl) ?_
      refine va_get (D := (dC, dI)) (ci := 0) (v := .ref a) (C := RTR) (T := TTR) (N := 3) hx hb hts (fun w h => List.mem_cons_of_mem _ (inTR w h)) hown hK hP 0 rfl rfl 1 (by decide) (hts _ (List.mem_cons_of_mem _ kw_57)) (fun _ h9 => h9) rfl dTR_add_24 ?_
      refine lv_iload_n hx hb dTR_add_27 rfl (lv_at hl 0 rfl) ?_
      refine lv_iload_n hx hb dTR_add_28 rfl (lv_at hl 2 rfl) ?_
      refine hr_iastN hx hb hK hP hD hS 1 0 rfl rfl (i := n) (by omega) (by omega) dTR_add_29 (fun H locs hP hD hS => ?_)
      have hP : va_P (dC, dI) vwCl [(h, .inr (0, [.int (nI n), .ref a, .ref b])), (a, .inl (cI, 24, .inl (fun j9 => nI ((va_up tf n τ) j9)))), (b, .inl (cI, 24, .inl (fun j9 => nI (ff j9))))] H := hP
      have hD : va_D A [(h, .inr (0, [.int (nI n), .ref a, .ref b])), (a, .inl (cI, 24, .inl (fun j9 => nI ((va_up tf n τ) j9)))), (b, .inl (cI, 24, .inl (fun j9 => nI (ff j9))))] := hD
      refine lv_aload_n hx hb dTR_add_30 rfl (lv_at hl 1 rfl) ?_
      refine va_get (D := (dC, dI)) (ci := 0) (v := .ref b) (C := RTR) (T := TTR) (N := 3) hx hb hts (fun w h => List.mem_cons_of_mem _ (inTR w h)) hown hK hP 0 rfl rfl 2 (by decide) (hts _ (List.mem_cons_of_mem _ kw_59)) (fun _ h9 => h9) rfl dTR_add_31 ?_
      refine lv_iload_n hx hb dTR_add_34 rfl (lv_at hl 0 rfl) ?_
      refine lv_iload_n hx hb dTR_add_35 rfl (lv_at hl 0 rfl) ?_
      refine hr_iastN hx hb hK hP hD hS 2 0 rfl rfl (i := n) (by omega) (by omega) dTR_add_36 (fun H locs hP hD hS => ?_)
      have hP : va_P (dC, dI) vwCl [(h, .inr (0, [.int (nI n), .ref a, .ref b])), (a, .inl (cI, 24, .inl (fun j9 => nI ((va_up tf n τ) j9)))), (b, .inl (cI, 24, .inl (fun j9 => nI ((va_up ff n n) j9))))] H := hP
      have hD : va_D A [(h, .inr (0, [.int (nI n), .ref a, .ref b])), (a, .inl (cI, 24, .inl (fun j9 => nI ((va_up tf n τ) j9)))), (b, .inl (cI, 24, .inl (fun j9 => nI ((va_up ff n n) j9))))] := hD
      refine lv_aload_n hx hb dTR_add_37 rfl (lv_at hl 1 rfl) ?_
      refine lv_dup hx hb dTR_add_38 rfl ?_
      refine va_get (D := (dC, dI)) (ci := 0) (v := .int (nI n)) (C := RTR) (T := TTR) (N := 3) hx hb hts (fun w h => List.mem_cons_of_mem _ (inTR w h)) hown hK hP 0 rfl rfl 0 (by decide) (hts _ (List.mem_cons_of_mem _ kw_55)) (fun _ h9 => h9) rfl dTR_add_39 ?_
      refine lv_iconst (v := nI 1) hx hb dTR_add_42 (by decide +kernel) ?_
      refine lv_iadd hx hb dTR_add_43 ?_
      refine hr_eqi (nI_add _ _) ?_
      refine va_put (D := (dC, dI)) (ci := 0) (v := .int (nI (n + 1))) (ty := .int) (C := RTR) (T := TTR) (N := 3) hx hb hts (fun w h => List.mem_cons_of_mem _ (inTR w h)) tyTR tyTR_ok nmTR hown hK hP hD hS 0 rfl rfl 0 (by decide) (hts _ (List.mem_cons_of_mem _ kw_55)) (fun _ h9 => h9) rfl (by decide +kernel) rfl rfl (Nat.le_of_ble_eq_true rfl) dTR_add_44 (fun H locs hP hD hS => ?_)
      have hP : va_P (dC, dI) vwCl [(h, .inr (0, [.int (nI (n + 1)), .ref a, .ref b])), (a, .inl (cI, 24, .inl (fun j9 => nI ((va_up tf n τ) j9)))), (b, .inl (cI, 24, .inl (fun j9 => nI ((va_up ff n n) j9))))] H := hP
      have hD : va_D A [(h, .inr (0, [.int (nI (n + 1)), .ref a, .ref b])), (a, .inl (cI, 24, .inl (fun j9 => nI ((va_up tf n τ) j9)))), (b, .inl (cI, 24, .inl (fun j9 => nI ((va_up ff n n) j9))))] := hD
      refine lv_iload_n hx hb dTR_add_47 rfl (lv_at hl 0 rfl) ?_
      have ez : addN n (nI τ) = some τ := by simp [addN, show n < 24 by omega, inB_nI hτ (by decide), nI_clamp (show τ < 2 ^ 31 by omega)]
      rw [← hQe]
      exact W.iret (v := nI n) hx hb hr (fun t ht hW => ⟨⟨_, (), rfl, by rw [ez]; rfl, by rw [ht, ez]; exact hP, by rw [ez]; exact hD⟩, hS.F ht⟩) hS.2.2 dTR_add_48
    · refine lv_iconst (v := (-1)) hx hb dTR_add_16 (by decide +kernel) ?_
      have ez : addN n x = none := by simp [addN, c_2]
      rw [← hQe]
      exact W.iret (v := (-1)) hx hb hr (fun t ht hW => ⟨⟨_, (), rfl, by rw [ez]; rfl, by rw [ht, ez]; exact hP, by rw [ez]; exact hD⟩, hS.F ht⟩) hS.2.2 dTR_add_17

set_option maxHeartbeats 4000000 in
set_option maxRecDepth 100000 in
/-- another TIME -/
theorem c_TR_retime (l : Launch) (dC : Nat → ClassId) (dI : Nat → Nat → Nat) (cI cZ cG : ClassId) (h : Nat) (a : Nat) (b : Nat) (n : Nat) (tf : Nat → Nat) (ff : Nat → Nat) (x : Int32) (y : Int32) (sz : Nat) (hn : n ≤ 24) : Met l yTR_retime wsTR_retime ({ frames := 1, cells := 0, slots := 0, locals := 24 }) (va_Pc [.ref h, .int x, .int y] (fun U => U.heap.size = sz ∧ va_P (dC, dI) vwCl [(h, .inr (0, [.int (nI n), .ref a, .ref b])), (a, .inl (cI, 24, .inl (fun j9 => nI (tf j9)))), (b, .inl (cI, 24, .inl (fun j9 => nI (ff j9))))] U.heap ∧ KX dC dI cI cZ cG U ∧ va_D (fun _ => True) [(h, .inr (0, [.int (nI n), .ref a, .ref b])), (a, .inl (cI, 24, .inl (fun j9 => nI (tf j9)))), (b, .inl (cI, 24, .inl (fun j9 => nI (ff j9))))])) (va_Qi (fun (r : Int32) (u : Unit) => r = nI ((retN n x y).elim 0 (fun _ => 1))) (fun u t => va_P (dC, dI) vwCl [(h, .inr (0, [.int (nI n), .ref a, .ref b])), (a, .inl (cI, 24, .inl (fun j9 => nI (((retN n x y).elim tf (fun q => va_up tf q.1 q.2)) j9)))), (b, .inl (cI, 24, .inl (fun j9 => nI (ff j9))))] t.heap ∧ va_D (va_A [(h, .inr (0, [.int (nI n), .ref a, .ref b])), (a, .inl (cI, 24, .inl (fun j9 => nI (tf j9)))), (b, .inl (cI, 24, .inl (fun j9 => nI (ff j9))))] sz) [(h, .inr (0, [.int (nI n), .ref a, .ref b])), (a, .inl (cI, 24, .inl (fun j9 => nI (((retN n x y).elim tf (fun q => va_up tf q.1 q.2)) j9)))), (b, .inl (cI, 24, .inl (fun j9 => nI (ff j9))))]) (va_A [(h, .inr (0, [.int (nI n), .ref a, .ref b])), (a, .inl (cI, 24, .inl (fun j9 => nI (tf j9)))), (b, .inl (cI, 24, .inl (fun j9 => nI (ff j9))))] sz)) 0 0 (va_A [(h, .inr (0, [.int (nI n), .ref a, .ref b])), (a, .inl (cI, 24, .inl (fun j9 => nI (tf j9)))), (b, .inl (cI, 24, .inl (fun j9 => nI (ff j9))))] sz) := by
  refine Met.ofW (cc := cTR_retime) (maxL := 3) (ret := (some .boolean)) (by decide) rfl ?_
  intro p e s m args below meth c s₁ B hml hv
  obtain ⟨rfl, hsz, hP, hKX, hD0⟩ := hv
  have hK := hKX.1
  have hx := B.exec
  have hb := B.bytes
  have hr := B.returns
  have hts := atoms_spec (ws := wsTR_retime) B.pre
  have hown : s.vm.findClass RTR = some m.cls := findClass_of_methodNamed B.named
  have hlocks := B.notSynchronized
  subst hsz
  have hD := hD0.self (sz := s.heap.size)
  generalize hAe : va_A [(h, .inr (0, [.int (nI n), .ref a, .ref b])), (a, .inl (cI, 24, .inl (fun j9 => nI (tf j9)))), (b, .inl (cI, 24, .inl (fun j9 => nI (ff j9))))] s.heap.size = A at hD ⊢
  have hA : ∀ q : Nat, s.heap.size ≤ q → A q := fun q h => by rw [← hAe]; exact Or.inr h
  have hS : va_S A s.heap s.heap [] := va_S.rf
  have hl := lv_entry ([.ref h, .int x, .int y]) (n := 3) (Nat.le_of_ble_eq_true rfl)
  rw [lg_entry_eq]
  generalize (lg_sl ([.ref h, .int x, .int y]) ++ List.replicate (3 - (lg_sl ([.ref h, .int x, .int y])).length) Slot.unset).toArray = ls at hl ⊢
  have hl : lv_has ls 3 [(0, .ref h), (1, .int x), (2, .int y)] := hl
  generalize hRe : (headSpec wsTR_retime ({ frames := 1, cells := 0, slots := 0, locals := 24 })).room = R
  have hRf : 1 ≤ R.frames := by rw [← hRe]; exact Nat.le_refl _
  have hRl : 24 ≤ R.locals := by rw [← hRe]; exact Nat.le_refl _
  have hRc : 0 ≤ R.cells := by rw [← hRe]; exact Nat.le_refl _
  have hRs : 0 ≤ R.slots := by rw [← hRe]; exact Nat.le_refl _
  generalize hargs : (List.toArray [.ref h, .int x, .int y] : Array Value) = args at hts ⊢
  generalize hQe : MQ below _ args s _ _ _ = Q
  refine lv_aload_n hx hb dTR_retime_0 rfl (lv_at hl 0 rfl) ?_
  refine lv_iload_n hx hb dTR_retime_1 rfl (lv_at hl 1 rfl) ?_
  refine vp_callSi (va_runV (C := RTR) (As := [.int x]) (rest := []) ⟨hx, hb, hml, hown, hts⟩ (c_TR_has l dC dI cI cZ cG h a b n tf ff x (hn)) (hr_cwV 1 hts kw_269 kw_270 kw_271 kw_25 kw_272 (by decide +kernel) (by rw [← hRe]; exact ⟨Nat.le_of_ble_eq_true rfl, Nat.le_of_ble_eq_true rfl⟩)) (hr_preR hKX hP [0, 1, 2] rfl (ci := 0) (q0 := 0) (q := (RTR, TTR, 3)) rfl rfl) rfl rfl hl.1 rfl (lv_room (Nat.le_of_ble_eq_true rfl)) dTR_retime_2 ⟨by omega, by omega⟩).run (fun rv hrv => ?_)
  refine hr_eqi hrv ?_
  have hb0 := inB_lt x n
  refine hr_if_eq hx hb (x := inB x n) (by omega) (tgt := 15) dTR_retime_5 (by decide) (fun c_1 => ?_) (fun c_1 => ?_)
  · refine lv_iconst (v := nI 0) hx hb dTR_retime_15 (by decide +kernel) ?_
    have ez : retN n x y = none := by simp [retN, c_1]
    rw [← hQe]
    exact W.zret (ty := .boolean) (v := nI 0) hx hb hr (by decide +kernel) (fun t ht hW => ⟨⟨_, (), rfl, by rw [ez]; rfl, by rw [ht, ez]; exact hP, by rw [ez]; exact hD⟩, hS.F ht⟩) hS.2.2 dTR_retime_16
  · obtain ⟨j, hj, rfl⟩ := inB_pos (by omega) c_1
    refine lv_iload_n hx hb dTR_retime_8 rfl (lv_at hl 2 rfl) ?_
    refine vp_callSi (va_runS (As := [.int y]) (rest := []) ⟨hx, hb, hml, hown, hts⟩ (c_TR_isTime l dC dI cI cZ cG y) (hr_cwS 1 hts kw_257 kw_258 kw_25 kw_259 (by decide +kernel) (by rw [← hRe]; exact ⟨Nat.le_of_ble_eq_true rfl, Nat.le_of_ble_eq_true rfl⟩)) (hr_preRS hKX hP [] rfl) rfl rfl hl.1 rfl (lv_room (Nat.le_of_ble_eq_true rfl)) dTR_retime_9 ⟨by omega, by omega⟩).run (fun rv hrv => ?_)
    refine hr_eqi hrv ?_
    have hb1 := inB_lt y 100001
    refine hr_if_ne hx hb (x := inB y 100001) (by omega) (tgt := 17) dTR_retime_12 (by decide) (fun c_2 => ?_) (fun c_2 => ?_)
    · obtain ⟨τ, hτ, rfl⟩ := inB_pos (by decide) c_2
      refine lv_aload_n hx hb dTR_retime_17 rfl (lv_at hl 0 rfl) ?_
      refine va_get (D := (dC, dI)) (ci := 0) (v := .ref a) (C := RTR) (T := TTR) (N := 3) hx hb hts (fun w h => List.mem_cons_of_mem _ (inTR w h)) hown hK hP 0 rfl rfl 1 (by decide) (hts _ (List.mem_cons_of_mem _ kw_57)) (fun _ h9 => h9) rfl dTR_retime_18 ?_
      refine lv_iload_n hx hb dTR_retime_21 rfl (lv_at hl 1 rfl) ?_
      refine lv_iload_n hx hb dTR_retime_22 rfl (lv_at hl 2 rfl) ?_
      refine hr_iastN hx hb hK hP hD hS 1 0 rfl rfl (i := j) (by omega) (by omega) dTR_retime_23 (fun H locs hP hD hS => ?_)
      have hP : va_P (dC, dI) vwCl [(h, .inr (0, [.int (nI n), .ref a, .ref b])), (a, .inl (cI, 24, .inl (fun j9 => nI ((va_up tf j τ) j9)))), (b, .inl (cI, 24, .inl (fun j9 => nI (ff j9))))] H := hP
      have hD : va_D A [(h, .inr (0, [.int (nI n), .ref a, .ref b])), (a, .inl (cI, 24, .inl (fun j9 => nI ((va_up tf j τ) j9)))), (b, .inl (cI, 24, .inl (fun j9 => nI (ff j9))))] := hD
      refine lv_iconst (v := nI 1) hx hb dTR_retime_24 (by decide +kernel) ?_
      have ez : retN n (nI j) (nI τ) = some (j, τ) := by simp [retN, inB_nI hj (show n < 2 ^ 31 by omega), inB_nI hτ (by decide), nI_clamp (show τ < 2 ^ 31 by omega), nI_clamp (show j < 2 ^ 31 by omega)]
      rw [← hQe]
      exact W.zret (ty := .boolean) (v := nI 1) hx hb hr (by decide +kernel) (fun t ht hW => ⟨⟨_, (), rfl, by rw [ez]; rfl, by rw [ht, ez]; exact hP, by rw [ez]; exact hD⟩, hS.F ht⟩) hS.2.2 dTR_retime_25
    · refine lv_iconst (v := nI 0) hx hb dTR_retime_15 (by decide +kernel) ?_
      have ez : retN n (nI j) y = none := by simp [retN, c_2]
      rw [← hQe]
      exact W.zret (ty := .boolean) (v := nI 0) hx hb hr (by decide +kernel) (fun t ht hW => ⟨⟨_, (), rfl, by rw [ez]; rfl, by rw [ht, ez]; exact hP, by rw [ez]; exact hD⟩, hS.F ht⟩) hS.2.2 dTR_retime_16

set_option maxHeartbeats 4000000 in
set_option maxRecDepth 100000 in
/-- the MEAN -/
theorem c_TR_mean (l : Launch) (dC : Nat → ClassId) (dI : Nat → Nat → Nat) (cI cZ cG : ClassId) (h : Nat) (a : Nat) (b : Nat) (n : Nat) (tf : Nat → Nat) (ff : Nat → Nat) (hn : n ≤ 24) (ht : ∀ j, j < n → tf j ≤ 100000) : Met l yTR_meanTime wsTR_meanTime ({ frames := 0, cells := 0, slots := 0, locals := 0 }) (va_Pc [.ref h] (fun U => va_P (dC, dI) vwCl [(h, .inr (0, [.int (nI n), .ref a, .ref b])), (a, .inl (cI, 24, .inl (fun j9 => nI (tf j9)))), (b, .inl (cI, 24, .inl (fun j9 => nI (ff j9))))] U.heap ∧ KX dC dI cI cZ cG U)) (vp_Si (fun r => r = nI (meanN tf n))) 0 0 (fun _ => False) := by
  refine Met.ofW (cc := cTR_meanTime) (maxL := 4) (ret := (some .int)) (by decide) rfl ?_
  intro p e s m args below meth c s₁ B hml hv
  obtain ⟨rfl, hP, hKX⟩ := hv
  have hK := hKX.1
  have hx := B.exec
  have hb := B.bytes
  have hr := B.returns
  have hts := atoms_spec (ws := wsTR_meanTime) B.pre
  have hown : s.vm.findClass RTR = some m.cls := findClass_of_methodNamed B.named
  have hlocks := B.notSynchronized
  have hl := lv_entry ([.ref h]) (n := 4) (Nat.le_of_ble_eq_true rfl)
  rw [lg_entry_eq]
  generalize (lg_sl ([.ref h]) ++ List.replicate (4 - (lg_sl ([.ref h])).length) Slot.unset).toArray = ls at hl ⊢
  have hl : lv_has ls 4 [(0, .ref h)] := hl
  generalize hRe : (headSpec wsTR_meanTime ({ frames := 0, cells := 0, slots := 0, locals := 0 })).room = R
  have hRf : 0 ≤ R.frames := by rw [← hRe]; exact Nat.le_refl _
  have hRl : 0 ≤ R.locals := by rw [← hRe]; exact Nat.le_refl _
  have hRc : 0 ≤ R.cells := by rw [← hRe]; exact Nat.le_refl _
  have hRs : 0 ≤ R.slots := by rw [← hRe]; exact Nat.le_refl _
  generalize hargs : (List.toArray [.ref h] : Array Value) = args at hts ⊢
  generalize hQe : MQ below _ args s _ _ _ = Q
  refine lv_iconst (v := nI 0) hx hb dTR_meanTime_0 (by decide +kernel) ?_
  refine lv_istore_n (lv' := [(1, .int (nI 0)), (0, .ref h)]) hx hb dTR_meanTime_1 rfl hl (by decide) rfl (fun ls hl => ?_)
  refine lv_iconst (v := nI 0) hx hb dTR_meanTime_2 (by decide +kernel) ?_
  refine lv_istore_n (lv' := [(2, .int (nI 0)), (1, .int (nI 0)), (0, .ref h)]) hx hb dTR_meanTime_3 rfl hl (by decide) rfl (fun ls hl => ?_)
  refine lv_iconst (v := nI 0) hx hb dTR_meanTime_4 (by decide +kernel) ?_
  refine lv_istore_n (lv' := [(3, .int (nI 0)), (2, .int (nI 0)), (1, .int (nI 0)), (0, .ref h)]) hx hb dTR_meanTime_5 rfl hl (by decide) rfl (fun ls hl => ?_)
  have loop_6 : ∀ (n9 : Nat) (i : Nat) (s1 : Nat) (s2 : Nat), i ≤ n → s1 = sumT tf i → s2 = cntT tf i → n + 1 ≤ i + n9 → ∀ (ls : Array Slot), lv_has ls 4 [(3, .int (nI i)), (2, .int (nI s2)), (1, .int (nI s1)), (0, .ref h)] → W p l e R s m args below meth c s.heap [] 0 0 Q (F0 m 6 ls []) := by
    intro n9
    induction n9 with
    | zero =>
      intro i s1 s2 hi h1 h2 hmeas
      exact absurd hmeas (by omega)
    | succ n9 ih_6 =>
      intro i s1 s2 hi h1 h2 hmeas ls hl
      have hs := sumT_le (f := tf) (B := 100000) (i := i) (fun j hj => ht j (by omega))
      have hc := cntT_le tf i
      refine lv_iload_n hx hb dTR_meanTime_6 rfl (lv_at hl 0 rfl) ?_
      refine lv_aload_n hx hb dTR_meanTime_7 rfl (lv_at hl 3 rfl) ?_
      refine va_get (D := (dC, dI)) (ci := 0) (v := .int (nI n)) (C := RTR) (T := TTR) (N := 3) hx hb hts (fun w h => List.mem_cons_of_mem _ (inTR w h)) hown hK hP 0 rfl rfl 0 (by decide) (hts _ (List.mem_cons_of_mem _ kw_55)) (fun _ h9 => h9) rfl dTR_meanTime_8 ?_
      refine hr_icmp_ge hx hb (x := i) (y := n) (by omega) (by omega) (tgt := 46) dTR_meanTime_11 (by decide) (fun c_1 => ?_) (fun c_1 => ?_)
      · have ei : i = n := by omega
        subst ei
        refine lv_iload_n hx hb dTR_meanTime_46 rfl (lv_at hl 1 rfl) ?_
        refine hr_if_ne hx hb (x := s2) (by omega) (tgt := 54) dTR_meanTime_47 (by decide) (fun c_2 => ?_) (fun c_2 => ?_)
        · refine lv_iload_n hx hb dTR_meanTime_54 rfl (lv_at hl 2 rfl) ?_
          refine lv_iload_n hx hb dTR_meanTime_55 rfl (lv_at hl 1 rfl) ?_
          refine lv_iadd hx hb dTR_meanTime_56 ?_
          refine hr_eqi (nI_add _ _) ?_
          refine lv_iconst (v := nI 1) hx hb dTR_meanTime_57 (by decide +kernel) ?_
          refine lv_isub hx hb dTR_meanTime_58 ?_
          refine hr_eqi (pk_sub (by omega)) ?_
          refine lv_iload_n hx hb dTR_meanTime_59 rfl (lv_at hl 1 rfl) ?_
          refine lv_idiv hx hb dTR_meanTime_60 (nI_ne0 (by omega) (by omega)) ?_
          refine hr_eqi (pk_div (by omega) (by omega) (by omega)) ?_
          rw [← hQe]
          exact W.iret (v := nI (((s1 + s2) - 1) / s2)) hx hb hr (fun t ht hW => ⟨_, rfl, by rw [meanN, if_neg (by omega), h1, h2], by rw [ht]⟩) (fun q h => by cases h) dTR_meanTime_61
        · refine lv_iconst (v := nI 1) hx hb dTR_meanTime_50 (by decide +kernel) ?_
          refine lv_goto (tgt := 61) hx hb dTR_meanTime_51 (by decide) ?_
          rw [← hQe]
          exact W.iret (v := nI 1) hx hb hr (fun t ht hW => ⟨_, rfl, by rw [meanN, if_pos (by omega)], by rw [ht]⟩) (fun q h => by cases h) dTR_meanTime_61
      · have ht1 := ht i (by omega)
        refine lv_iload_n hx hb dTR_meanTime_14 rfl (lv_at hl 2 rfl) ?_
        refine lv_aload_n hx hb dTR_meanTime_15 rfl (lv_at hl 3 rfl) ?_
        refine va_get (D := (dC, dI)) (ci := 0) (v := .ref a) (C := RTR) (T := TTR) (N := 3) hx hb hts (fun w h => List.mem_cons_of_mem _ (inTR w h)) hown hK hP 0 rfl rfl 1 (by decide) (hts _ (List.mem_cons_of_mem _ kw_57)) (fun _ h9 => h9) rfl dTR_meanTime_16 ?_
        refine lv_iload_n hx hb dTR_meanTime_19 rfl (lv_at hl 0 rfl) ?_
        refine hr_iald hx hb hK hP 1 0 rfl rfl (i := i) (by omega) (by omega) dTR_meanTime_20 ?_
        refine lv_iadd hx hb dTR_meanTime_21 ?_
        refine hr_eqi (nI_add _ _) ?_
        refine lv_istore_n (lv' := [(1, .int (nI (s1 + (tf i)))), (3, .int (nI i)), (2, .int (nI s2)), (0, .ref h)]) hx hb dTR_meanTime_22 rfl hl (by decide) rfl (fun ls hl => ?_)
        refine lv_iload_n hx hb dTR_meanTime_23 rfl (lv_at hl 2 rfl) ?_
        refine lv_aload_n hx hb dTR_meanTime_24 rfl (lv_at hl 3 rfl) ?_
        refine va_get (D := (dC, dI)) (ci := 0) (v := .ref a) (C := RTR) (T := TTR) (N := 3) hx hb hts (fun w h => List.mem_cons_of_mem _ (inTR w h)) hown hK hP 0 rfl rfl 1 (by decide) (hts _ (List.mem_cons_of_mem _ kw_57)) (fun _ h9 => h9) rfl dTR_meanTime_25 ?_
        refine lv_iload_n hx hb dTR_meanTime_28 rfl (lv_at hl 1 rfl) ?_
        refine hr_iald hx hb hK hP 1 0 rfl rfl (i := i) (by omega) (by omega) dTR_meanTime_29 ?_
        refine hr_if_ne hx hb (x := (tf i)) (by omega) (tgt := 37) dTR_meanTime_30 (by decide) (fun c_3 => ?_) (fun c_3 => ?_)
        · refine lv_iconst (v := nI 1) hx hb dTR_meanTime_37 (by decide +kernel) ?_
          refine lv_iadd hx hb dTR_meanTime_38 ?_
          refine hr_eqi (nI_add _ _) ?_
          refine lv_istore_n (lv' := [(2, .int (nI (s2 + 1))), (1, .int (nI (s1 + (tf i)))), (3, .int (nI i)), (0, .ref h)]) hx hb dTR_meanTime_39 rfl hl (by decide) rfl (fun ls hl => ?_)
          refine lv_iinc (v := nI (i + 1)) (lv' := [(3, .int (nI (i + 1))), (2, .int (nI (s2 + 1))), (1, .int (nI (s1 + (tf i)))), (0, .ref h)]) hx hb dTR_meanTime_40 hl (k := 2) rfl (hr_inc _) (by decide) rfl (fun ls hl => ?_)
          refine lv_goto (tgt := 6) hx hb dTR_meanTime_43 (by decide) ?_
          exact ih_6 (i + 1) (s1 + (tf i)) (s2 + 1) (by omega) (by rw [h1]; rfl) (by rw [h2]; simp [cntT, c_3]) (by omega) ls (lv_sub hl [0, 1, 2, 3] rfl)
        · refine lv_iconst (v := nI 0) hx hb dTR_meanTime_33 (by decide +kernel) ?_
          refine lv_goto (tgt := 38) hx hb dTR_meanTime_34 (by decide) ?_
          refine lv_iadd hx hb dTR_meanTime_38 ?_
          refine hr_eqi (nI_add _ _) ?_
          refine lv_istore_n (lv' := [(2, .int (nI (s2 + 0))), (1, .int (nI (s1 + (tf i)))), (3, .int (nI i)), (0, .ref h)]) hx hb dTR_meanTime_39 rfl hl (by decide) rfl (fun ls hl => ?_)
          refine lv_iinc (v := nI (i + 1)) (lv' := [(3, .int (nI (i + 1))), (2, .int (nI (s2 + 0))), (1, .int (nI (s1 + (tf i)))), (0, .ref h)]) hx hb dTR_meanTime_40 hl (k := 2) rfl (hr_inc _) (by decide) rfl (fun ls hl => ?_)
          refine lv_goto (tgt := 6) hx hb dTR_meanTime_43 (by decide) ?_
          exact ih_6 (i + 1) (s1 + (tf i)) (s2 + 0) (by omega) (by rw [h1]; rfl) (by rw [h2]; simp [cntT, c_3]) (by omega) ls (lv_sub hl [0, 1, 2, 3] rfl)
  exact loop_6 (n + 1) 0 0 0 (by omega) (rfl) (rfl) (by omega) ls (lv_sub hl [0, 1, 2, 3] rfl)

set_option maxHeartbeats 4000000 in
set_option maxRecDepth 100000 in
/-- how many GROUPS -/
theorem c_TR_groups (l : Launch) (dC : Nat → ClassId) (dI : Nat → Nat → Nat) (cI cZ cG : ClassId) (h : Nat) (a : Nat) (b : Nat) (n : Nat) (tf : Nat → Nat) (ff : Nat → Nat) (hn : n ≤ 24) (hf : ∀ j, j < n → ff j ≤ j) : Met l yTR_countGroups wsTR_countGroups ({ frames := 0, cells := 0, slots := 0, locals := 0 }) (va_Pc [.ref h] (fun U => va_P (dC, dI) vwCl [(h, .inr (0, [.int (nI n), .ref a, .ref b])), (a, .inl (cI, 24, .inl (fun j9 => nI (tf j9)))), (b, .inl (cI, 24, .inl (fun j9 => nI (ff j9))))] U.heap ∧ KX dC dI cI cZ cG U)) (vp_Si (fun r => r = nI (grpN ff n))) 0 0 (fun _ => False) := by
  refine Met.ofW (cc := cTR_countGroups) (maxL := 3) (ret := (some .int)) (by decide) rfl ?_
  intro p e s m args below meth c s₁ B hml hv
  obtain ⟨rfl, hP, hKX⟩ := hv
  have hK := hKX.1
  have hx := B.exec
  have hb := B.bytes
  have hr := B.returns
  have hts := atoms_spec (ws := wsTR_countGroups) B.pre
  have hown : s.vm.findClass RTR = some m.cls := findClass_of_methodNamed B.named
  have hlocks := B.notSynchronized
  have hl := lv_entry ([.ref h]) (n := 3) (Nat.le_of_ble_eq_true rfl)
  rw [lg_entry_eq]
  generalize (lg_sl ([.ref h]) ++ List.replicate (3 - (lg_sl ([.ref h])).length) Slot.unset).toArray = ls at hl ⊢
  have hl : lv_has ls 3 [(0, .ref h)] := hl
  generalize hRe : (headSpec wsTR_countGroups ({ frames := 0, cells := 0, slots := 0, locals := 0 })).room = R
  have hRf : 0 ≤ R.frames := by rw [← hRe]; exact Nat.le_refl _
  have hRl : 0 ≤ R.locals := by rw [← hRe]; exact Nat.le_refl _
  have hRc : 0 ≤ R.cells := by rw [← hRe]; exact Nat.le_refl _
  have hRs : 0 ≤ R.slots := by rw [← hRe]; exact Nat.le_refl _
  generalize hargs : (List.toArray [.ref h] : Array Value) = args at hts ⊢
  generalize hQe : MQ below _ args s _ _ _ = Q
  refine lv_iconst (v := nI 0) hx hb dTR_countGroups_0 (by decide +kernel) ?_
  refine lv_istore_n (lv' := [(1, .int (nI 0)), (0, .ref h)]) hx hb dTR_countGroups_1 rfl hl (by decide) rfl (fun ls hl => ?_)
  refine lv_iconst (v := nI 0) hx hb dTR_countGroups_2 (by decide +kernel) ?_
  refine lv_istore_n (lv' := [(2, .int (nI 0)), (1, .int (nI 0)), (0, .ref h)]) hx hb dTR_countGroups_3 rfl hl (by decide) rfl (fun ls hl => ?_)
  have loop_4 : ∀ (n9 : Nat) (i : Nat) (s1 : Nat), i ≤ n → s1 = grpN ff i → n + 1 ≤ i + n9 → ∀ (ls : Array Slot), lv_has ls 3 [(2, .int (nI i)), (1, .int (nI s1)), (0, .ref h)] → W p l e R s m args below meth c s.heap [] 0 0 Q (F0 m 4 ls []) := by
    intro n9
    induction n9 with
    | zero =>
      intro i s1 hi h1 hmeas
      exact absurd hmeas (by omega)
    | succ n9 ih_4 =>
      intro i s1 hi h1 hmeas ls hl
      have hg := grpN_le ff i
      refine lv_iload_n hx hb dTR_countGroups_4 rfl (lv_at hl 0 rfl) ?_
      refine lv_aload_n hx hb dTR_countGroups_5 rfl (lv_at hl 2 rfl) ?_
      refine va_get (D := (dC, dI)) (ci := 0) (v := .int (nI n)) (C := RTR) (T := TTR) (N := 3) hx hb hts (fun w h => List.mem_cons_of_mem _ (inTR w h)) hown hK hP 0 rfl rfl 0 (by decide) (hts _ (List.mem_cons_of_mem _ kw_55)) (fun _ h9 => h9) rfl dTR_countGroups_6 ?_
      refine hr_icmp_ge hx hb (x := i) (y := n) (by omega) (by omega) (tgt := 36) dTR_countGroups_9 (by decide) (fun c_1 => ?_) (fun c_1 => ?_)
      · have ei : i = n := by omega
        subst ei
        refine lv_iload_n hx hb dTR_countGroups_36 rfl (lv_at hl 1 rfl) ?_
        rw [← hQe]
        exact W.iret (v := nI s1) hx hb hr (fun t ht hW => ⟨_, rfl, by rw [h1], by rw [ht]⟩) (fun q h => by cases h) dTR_countGroups_37
      · have ht1 := hf i (by omega)
        refine lv_iload_n hx hb dTR_countGroups_12 rfl (lv_at hl 1 rfl) ?_
        refine lv_aload_n hx hb dTR_countGroups_13 rfl (lv_at hl 2 rfl) ?_
        refine va_get (D := (dC, dI)) (ci := 0) (v := .ref b) (C := RTR) (T := TTR) (N := 3) hx hb hts (fun w h => List.mem_cons_of_mem _ (inTR w h)) hown hK hP 0 rfl rfl 2 (by decide) (hts _ (List.mem_cons_of_mem _ kw_59)) (fun _ h9 => h9) rfl dTR_countGroups_14 ?_
        refine lv_iload_n hx hb dTR_countGroups_17 rfl (lv_at hl 0 rfl) ?_
        refine hr_iald hx hb hK hP 2 0 rfl rfl (i := i) (by omega) (by omega) dTR_countGroups_18 ?_
        refine lv_iload_n hx hb dTR_countGroups_19 rfl (lv_at hl 0 rfl) ?_
        refine hr_icmp_ne hx hb (x := (ff i)) (y := i) (by omega) (by omega) (tgt := 27) dTR_countGroups_20 (by decide) (fun c_2 => ?_) (fun c_2 => ?_)
        · refine lv_iconst (v := nI 0) hx hb dTR_countGroups_27 (by decide +kernel) ?_
          refine lv_iadd hx hb dTR_countGroups_28 ?_
          refine hr_eqi (nI_add _ _) ?_
          refine lv_istore_n (lv' := [(1, .int (nI (s1 + 0))), (2, .int (nI i)), (0, .ref h)]) hx hb dTR_countGroups_29 rfl hl (by decide) rfl (fun ls hl => ?_)
          refine lv_iinc (v := nI (i + 1)) (lv' := [(2, .int (nI (i + 1))), (1, .int (nI (s1 + 0))), (0, .ref h)]) hx hb dTR_countGroups_30 hl (k := 1) rfl (hr_inc _) (by decide) rfl (fun ls hl => ?_)
          refine lv_goto (tgt := 4) hx hb dTR_countGroups_33 (by decide) ?_
          exact ih_4 (i + 1) (s1 + 0) (by omega) (by rw [h1]; simp [grpN, c_2]) (by omega) ls (lv_sub hl [0, 1, 2] rfl)
        · refine lv_iconst (v := nI 1) hx hb dTR_countGroups_23 (by decide +kernel) ?_
          refine lv_goto (tgt := 28) hx hb dTR_countGroups_24 (by decide) ?_
          refine lv_iadd hx hb dTR_countGroups_28 ?_
          refine hr_eqi (nI_add _ _) ?_
          refine lv_istore_n (lv' := [(1, .int (nI (s1 + 1))), (2, .int (nI i)), (0, .ref h)]) hx hb dTR_countGroups_29 rfl hl (by decide) rfl (fun ls hl => ?_)
          refine lv_iinc (v := nI (i + 1)) (lv' := [(2, .int (nI (i + 1))), (1, .int (nI (s1 + 1))), (0, .ref h)]) hx hb dTR_countGroups_30 hl (k := 1) rfl (hr_inc _) (by decide) rfl (fun ls hl => ?_)
          refine lv_goto (tgt := 4) hx hb dTR_countGroups_33 (by decide) ?_
          exact ih_4 (i + 1) (s1 + 1) (by omega) (by rw [h1]; simp [grpN, c_2]) (by omega) ls (lv_sub hl [0, 1, 2] rfl)
  exact loop_4 (n + 1) 0 0 (by omega) (rfl) (by omega) ls (lv_sub hl [0, 1, 2] rfl)

set_option maxHeartbeats 4000000 in
set_option maxRecDepth 100000 in
/-- two TESTS belong together -/
theorem c_TR_unite (l : Launch) (dC : Nat → ClassId) (dI : Nat → Nat → Nat) (cI cZ cG : ClassId) (h : Nat) (a : Nat) (b : Nat) (n : Nat) (tf : Nat → Nat) (ff : Nat → Nat) (x : Int32) (y : Int32) (sz : Nat) (hn : n ≤ 24) (hf : ∀ j, j < n → ff j ≤ j) : Met l yTR_unite wsTR_unite ({ frames := 1, cells := 0, slots := 0, locals := 24 }) (va_Pc [.ref h, .int x, .int y] (fun U => U.heap.size = sz ∧ va_P (dC, dI) vwCl [(h, .inr (0, [.int (nI n), .ref a, .ref b])), (a, .inl (cI, 24, .inl (fun j9 => nI (tf j9)))), (b, .inl (cI, 24, .inl (fun j9 => nI (ff j9))))] U.heap ∧ KX dC dI cI cZ cG U ∧ va_D (fun _ => True) [(h, .inr (0, [.int (nI n), .ref a, .ref b])), (a, .inl (cI, 24, .inl (fun j9 => nI (tf j9)))), (b, .inl (cI, 24, .inl (fun j9 => nI (ff j9))))])) (va_Qi (fun (r : Int32) (u : Unit) => r = nI ((joinN n ff x y).elim 0 (fun _ => 1))) (fun u t => va_P (dC, dI) vwCl [(h, .inr (0, [.int (nI n), .ref a, .ref b])), (a, .inl (cI, 24, .inl (fun j9 => nI (tf j9)))), (b, .inl (cI, 24, .inl (fun j9 => nI (((joinN n ff x y).elim ff (fun q => joinF ff q.2 q.1 n)) j9))))] t.heap ∧ va_D (va_A [(h, .inr (0, [.int (nI n), .ref a, .ref b])), (a, .inl (cI, 24, .inl (fun j9 => nI (tf j9)))), (b, .inl (cI, 24, .inl (fun j9 => nI (ff j9))))] sz) [(h, .inr (0, [.int (nI n), .ref a, .ref b])), (a, .inl (cI, 24, .inl (fun j9 => nI (tf j9)))), (b, .inl (cI, 24, .inl (fun j9 => nI (((joinN n ff x y).elim ff (fun q => joinF ff q.2 q.1 n)) j9))))]) (va_A [(h, .inr (0, [.int (nI n), .ref a, .ref b])), (a, .inl (cI, 24, .inl (fun j9 => nI (tf j9)))), (b, .inl (cI, 24, .inl (fun j9 => nI (ff j9))))] sz)) 0 0 (va_A [(h, .inr (0, [.int (nI n), .ref a, .ref b])), (a, .inl (cI, 24, .inl (fun j9 => nI (tf j9)))), (b, .inl (cI, 24, .inl (fun j9 => nI (ff j9))))] sz) := by
  refine Met.ofW (cc := cTR_unite) (maxL := 6) (ret := (some .boolean)) (by decide) rfl ?_
  intro p e s m args below meth c s₁ B hml hv
  obtain ⟨rfl, hsz, hP, hKX, hD0⟩ := hv
  have hK := hKX.1
  have hx := B.exec
  have hb := B.bytes
  have hr := B.returns
  have hts := atoms_spec (ws := wsTR_unite) B.pre
  have hown : s.vm.findClass RTR = some m.cls := findClass_of_methodNamed B.named
  have hlocks := B.notSynchronized
  subst hsz
  have hD := hD0.self (sz := s.heap.size)
  generalize hAe : va_A [(h, .inr (0, [.int (nI n), .ref a, .ref b])), (a, .inl (cI, 24, .inl (fun j9 => nI (tf j9)))), (b, .inl (cI, 24, .inl (fun j9 => nI (ff j9))))] s.heap.size = A at hD ⊢
  have hA : ∀ q : Nat, s.heap.size ≤ q → A q := fun q h => by rw [← hAe]; exact Or.inr h
  have hS : va_S A s.heap s.heap [] := va_S.rf
  have hl := lv_entry ([.ref h, .int x, .int y]) (n := 6) (Nat.le_of_ble_eq_true rfl)
  rw [lg_entry_eq]
  generalize (lg_sl ([.ref h, .int x, .int y]) ++ List.replicate (6 - (lg_sl ([.ref h, .int x, .int y])).length) Slot.unset).toArray = ls at hl ⊢
  have hl : lv_has ls 6 [(0, .ref h), (1, .int x), (2, .int y)] := hl
  generalize hRe : (headSpec wsTR_unite ({ frames := 1, cells := 0, slots := 0, locals := 24 })).room = R
  have hRf : 1 ≤ R.frames := by rw [← hRe]; exact Nat.le_refl _
  have hRl : 24 ≤ R.locals := by rw [← hRe]; exact Nat.le_refl _
  have hRc : 0 ≤ R.cells := by rw [← hRe]; exact Nat.le_refl _
  have hRs : 0 ≤ R.slots := by rw [← hRe]; exact Nat.le_refl _
  generalize hargs : (List.toArray [.ref h, .int x, .int y] : Array Value) = args at hts ⊢
  generalize hQe : MQ below _ args s _ _ _ = Q
  refine lv_aload_n hx hb dTR_unite_0 rfl (lv_at hl 0 rfl) ?_
  refine lv_iload_n hx hb dTR_unite_1 rfl (lv_at hl 1 rfl) ?_
  refine vp_callSi (va_runV (C := RTR) (As := [.int x]) (rest := []) ⟨hx, hb, hml, hown, hts⟩ (c_TR_has l dC dI cI cZ cG h a b n tf ff x (hn)) (hr_cwV 1 hts kw_269 kw_270 kw_271 kw_25 kw_272 (by decide +kernel) (by rw [← hRe]; exact ⟨Nat.le_of_ble_eq_true rfl, Nat.le_of_ble_eq_true rfl⟩)) (hr_preR hKX hP [0, 1, 2] rfl (ci := 0) (q0 := 0) (q := (RTR, TTR, 3)) rfl rfl) rfl rfl hl.1 rfl (lv_room (Nat.le_of_ble_eq_true rfl)) dTR_unite_2 ⟨by omega, by omega⟩).run (fun rv hrv => ?_)
  refine hr_eqi hrv ?_
  have hb0 := inB_lt x n
  refine hr_if_eq hx hb (x := inB x n) (by omega) (tgt := 31) dTR_unite_5 (by decide) (fun c_1 => ?_) (fun c_1 => ?_)
  · refine lv_iconst (v := nI 0) hx hb dTR_unite_31 (by decide +kernel) ?_
    have ez : joinN n ff x y = none := by simp [joinN, c_1]
    rw [← hQe]
    exact W.zret (ty := .boolean) (v := nI 0) hx hb hr (by decide +kernel) (fun t ht hW => ⟨⟨_, (), rfl, by rw [ez]; rfl, by rw [ht, ez]; exact hP, by rw [ez]; exact hD⟩, hS.F ht⟩) hS.2.2 dTR_unite_32
  · obtain ⟨i, hi, rfl⟩ := inB_pos (by omega) c_1
    have hfi := hf i hi
    refine lv_aload_n hx hb dTR_unite_8 rfl (lv_at hl 0 rfl) ?_
    refine lv_iload_n hx hb dTR_unite_9 rfl (lv_at hl 2 rfl) ?_
    refine vp_callSi (va_runV (C := RTR) (As := [.int y]) (rest := []) ⟨hx, hb, hml, hown, hts⟩ (c_TR_has l dC dI cI cZ cG h a b n tf ff y (hn)) (hr_cwV 1 hts kw_269 kw_270 kw_271 kw_25 kw_272 (by decide +kernel) (by rw [← hRe]; exact ⟨Nat.le_of_ble_eq_true rfl, Nat.le_of_ble_eq_true rfl⟩)) (hr_preR hKX hP [0, 1, 2] rfl (ci := 0) (q0 := 0) (q := (RTR, TTR, 3)) rfl rfl) rfl rfl hl.1 rfl (lv_room (Nat.le_of_ble_eq_true rfl)) dTR_unite_10 ⟨by omega, by omega⟩).run (fun rv hrv => ?_)
    refine hr_eqi hrv ?_
    have hb1 := inB_lt y n
    refine hr_if_eq hx hb (x := inB y n) (by omega) (tgt := 31) dTR_unite_13 (by decide) (fun c_2 => ?_) (fun c_2 => ?_)
    · refine lv_iconst (v := nI 0) hx hb dTR_unite_31 (by decide +kernel) ?_
      have ez : joinN n ff (nI i) y = none := by simp [joinN, c_2]
      rw [← hQe]
      exact W.zret (ty := .boolean) (v := nI 0) hx hb hr (by decide +kernel) (fun t ht hW => ⟨⟨_, (), rfl, by rw [ez]; rfl, by rw [ht, ez]; exact hP, by rw [ez]; exact hD⟩, hS.F ht⟩) hS.2.2 dTR_unite_32
    · obtain ⟨k, hk, rfl⟩ := inB_pos (by omega) c_2
      have hfk := hf k hk
      refine lv_aload_n hx hb dTR_unite_16 rfl (lv_at hl 0 rfl) ?_
      refine va_get (D := (dC, dI)) (ci := 0) (v := .ref b) (C := RTR) (T := TTR) (N := 3) hx hb hts (fun w h => List.mem_cons_of_mem _ (inTR w h)) hown hK hP 0 rfl rfl 2 (by decide) (hts _ (List.mem_cons_of_mem _ kw_59)) (fun _ h9 => h9) rfl dTR_unite_17 ?_
      refine lv_iload_n hx hb dTR_unite_20 rfl (lv_at hl 1 rfl) ?_
      refine hr_iald hx hb hK hP 2 0 rfl rfl (i := i) (by omega) (by omega) dTR_unite_21 ?_
      refine lv_aload_n hx hb dTR_unite_22 rfl (lv_at hl 0 rfl) ?_
      refine va_get (D := (dC, dI)) (ci := 0) (v := .ref b) (C := RTR) (T := TTR) (N := 3) hx hb hts (fun w h => List.mem_cons_of_mem _ (inTR w h)) hown hK hP 0 rfl rfl 2 (by decide) (hts _ (List.mem_cons_of_mem _ kw_59)) (fun _ h9 => h9) rfl dTR_unite_23 ?_
      refine lv_iload_n hx hb dTR_unite_26 rfl (lv_at hl 2 rfl) ?_
      refine hr_iald hx hb hK hP 2 0 rfl rfl (i := k) (by omega) (by omega) dTR_unite_27 ?_
      refine hr_icmp_ne hx hb (x := (ff i)) (y := (ff k)) (by omega) (by omega) (tgt := 33) dTR_unite_28 (by decide) (fun c_3 => ?_) (fun c_3 => ?_)
      · refine lv_aload_n hx hb dTR_unite_33 rfl (lv_at hl 0 rfl) ?_
        refine va_get (D := (dC, dI)) (ci := 0) (v := .ref b) (C := RTR) (T := TTR) (N := 3) hx hb hts (fun w h => List.mem_cons_of_mem _ (inTR w h)) hown hK hP 0 rfl rfl 2 (by decide) (hts _ (List.mem_cons_of_mem _ kw_59)) (fun _ h9 => h9) rfl dTR_unite_34 ?_
        refine lv_iload_n hx hb dTR_unite_37 rfl (lv_at hl 1 rfl) ?_
        refine hr_iald hx hb hK hP 2 0 rfl rfl (i := i) (by omega) (by omega) dTR_unite_38 ?_
        refine lv_aload_n hx hb dTR_unite_39 rfl (lv_at hl 0 rfl) ?_
        refine va_get (D := (dC, dI)) (ci := 0) (v := .ref b) (C := RTR) (T := TTR) (N := 3) hx hb hts (fun w h => List.mem_cons_of_mem _ (inTR w h)) hown hK hP 0 rfl rfl 2 (by decide) (hts _ (List.mem_cons_of_mem _ kw_59)) (fun _ h9 => h9) rfl dTR_unite_40 ?_
        refine lv_iload_n hx hb dTR_unite_43 rfl (lv_at hl 2 rfl) ?_
        refine hr_iald hx hb hK hP 2 0 rfl rfl (i := k) (by omega) (by omega) dTR_unite_44 ?_
        refine va_mmin (rest := []) hx hb (by rw [hml]; exact hl.1.symm) hown (hts (.methodLink RTR 29 Lib.Math.min.name) (by decide +kernel)) (hts (.static Lib.Math.min.name) (by decide +kernel)) (hts (.initialized "java/lang/Math") (by decide +kernel)) (hts (.code Lib.Math.min.name Lib.Math.min.code 2 (some .int)) (by decide +kernel)) (Nat.le_trans (Nat.le_of_ble_eq_true rfl) hRf) (Nat.le_trans (Nat.le_of_ble_eq_true rfl) hRl) (Nat.zero_le _) (Nat.zero_le _) dTR_unite_45 ?_
        refine hr_eqi (hr_min (by omega) (by omega)) ?_
        refine lv_istore_n (lv' := [(3, .int (nI (min (ff i) (ff k)))), (0, .ref h), (1, .int (nI i)), (2, .int (nI k))]) hx hb dTR_unite_48 rfl hl (by decide) rfl (fun ls hl => ?_)
        refine lv_aload_n hx hb dTR_unite_49 rfl (lv_at hl 1 rfl) ?_
        refine va_get (D := (dC, dI)) (ci := 0) (v := .ref b) (C := RTR) (T := TTR) (N := 3) hx hb hts (fun w h => List.mem_cons_of_mem _ (inTR w h)) hown hK hP 0 rfl rfl 2 (by decide) (hts _ (List.mem_cons_of_mem _ kw_59)) (fun _ h9 => h9) rfl dTR_unite_50 ?_
        refine lv_iload_n hx hb dTR_unite_53 rfl (lv_at hl 2 rfl) ?_
        refine hr_iald hx hb hK hP 2 0 rfl rfl (i := i) (by omega) (by omega) dTR_unite_54 ?_
        refine lv_aload_n hx hb dTR_unite_55 rfl (lv_at hl 1 rfl) ?_
        refine va_get (D := (dC, dI)) (ci := 0) (v := .ref b) (C := RTR) (T := TTR) (N := 3) hx hb hts (fun w h => List.mem_cons_of_mem _ (inTR w h)) hown hK hP 0 rfl rfl 2 (by decide) (hts _ (List.mem_cons_of_mem _ kw_59)) (fun _ h9 => h9) rfl dTR_unite_56 ?_
        refine lv_iload_n hx hb dTR_unite_59 rfl (lv_at hl 3 rfl) ?_
        refine hr_iald hx hb hK hP 2 0 rfl rfl (i := k) (by omega) (by omega) dTR_unite_60 ?_
        refine va_mmax (rest := []) hx hb (by rw [hml]; exact hl.1.symm) hown (hts (.methodLink RTR 35 Lib.Math.max.name) (by decide +kernel)) (hts (.static Lib.Math.max.name) (by decide +kernel)) (hts (.initialized "java/lang/Math") (by decide +kernel)) (hts (.code Lib.Math.max.name Lib.Math.max.code 2 (some .int)) (by decide +kernel)) (Nat.le_trans (Nat.le_of_ble_eq_true rfl) hRf) (Nat.le_trans (Nat.le_of_ble_eq_true rfl) hRl) (Nat.zero_le _) (Nat.zero_le _) dTR_unite_61 ?_
        refine hr_eqi (hr_max (by omega) (by omega)) ?_
        refine lv_istore (lv' := [(4, .int (nI (max (ff i) (ff k)))), (3, .int (nI (min (ff i) (ff k)))), (0, .ref h), (1, .int (nI i)), (2, .int (nI k))]) hx hb dTR_unite_64 hl (by decide) rfl (fun ls hl => ?_)
        refine lv_iconst (v := nI 0) hx hb dTR_unite_66 (by decide +kernel) ?_
        refine lv_istore (lv' := [(5, .int (nI 0)), (4, .int (nI (max (ff i) (ff k)))), (3, .int (nI (min (ff i) (ff k)))), (0, .ref h), (1, .int (nI i)), (2, .int (nI k))]) hx hb dTR_unite_67 hl (by decide) rfl (fun ls hl => ?_)
        rw [← joinF_0 ff (max (ff i) (ff k)) (min (ff i) (ff k))] at hP hD
        have loop_69 : ∀ (n9 : Nat) (j : Nat), j ≤ n → n + 1 ≤ j + n9 → ∀ (H : Heap) (locs : List Loc), va_P (dC, dI) vwCl [(h, .inr (0, [.int (nI n), .ref a, .ref b])), (a, .inl (cI, 24, .inl (fun j9 => nI (tf j9)))), (b, .inl (cI, 24, .inl (fun j9 => nI ((joinF ff (max (ff i) (ff k)) (min (ff i) (ff k)) j) j9))))] H → va_D A [(h, .inr (0, [.int (nI n), .ref a, .ref b])), (a, .inl (cI, 24, .inl (fun j9 => nI (tf j9)))), (b, .inl (cI, 24, .inl (fun j9 => nI ((joinF ff (max (ff i) (ff k)) (min (ff i) (ff k)) j) j9))))] → va_S A s.heap H locs → ∀ (ls : Array Slot), lv_has ls 6 [(5, .int (nI j)), (4, .int (nI (max (ff i) (ff k)))), (3, .int (nI (min (ff i) (ff k)))), (0, .ref h), (1, .int (nI i)), (2, .int (nI k))] → W p l e R s m args below meth c H locs 0 0 Q (F0 m 69 ls []) := by
          intro n9
          induction n9 with
          | zero =>
            intro j hj hmeas
            exact absurd hmeas (by omega)
          | succ n9 ih_69 =>
            intro j hj hmeas H locs hP hD hS ls hl
            have hG : max (ff i) (ff k) < 24 := by omega
            have hKk : min (ff i) (ff k) < 24 := by omega
            refine lv_iload hx hb dTR_unite_69 (lv_at hl 0 rfl) ?_
            refine lv_aload_n hx hb dTR_unite_71 rfl (lv_at hl 3 rfl) ?_
            refine va_get (D := (dC, dI)) (ci := 0) (v := .int (nI n)) (C := RTR) (T := TTR) (N := 3) hx hb hts (fun w h => List.mem_cons_of_mem _ (inTR w h)) hown hK hP 0 rfl rfl 0 (by decide) (hts _ (List.mem_cons_of_mem _ kw_55)) (fun _ h9 => h9) rfl dTR_unite_72 ?_
            refine hr_icmp_ge hx hb (x := j) (y := n) (by omega) (by omega) (tgt := 104) dTR_unite_75 (by decide) (fun c_4 => ?_) (fun c_4 => ?_)
            · have ej : j = n := by omega
              subst ej
              refine lv_iconst (v := nI 1) hx hb dTR_unite_104 (by decide +kernel) ?_
              have ez : joinN j ff (nI i) (nI k) = some ((min (ff i) (ff k)), (max (ff i) (ff k))) := by simp [joinN, nI_clamp (show i < 2 ^ 31 by omega), nI_clamp (show k < 2 ^ 31 by omega), inB_nI hi (show j < 2 ^ 31 by omega), inB_nI hk (show j < 2 ^ 31 by omega), c_3]
              rw [← hQe]
              exact W.zret (ty := .boolean) (v := nI 1) hx hb hr (by decide +kernel) (fun t ht hW => ⟨⟨_, (), rfl, by rw [ez]; rfl, by rw [ht, ez]; exact hP, by rw [ez]; exact hD⟩, hS.F ht⟩) hS.2.2 dTR_unite_105
            · have hfj := hf j (by omega)
              have hjj : joinF ff (max (ff i) (ff k)) (min (ff i) (ff k)) j j < 2 ^ 31 := by rw [joinF_at]; omega
              refine lv_aload_n hx hb dTR_unite_78 rfl (lv_at hl 3 rfl) ?_
              refine va_get (D := (dC, dI)) (ci := 0) (v := .ref b) (C := RTR) (T := TTR) (N := 3) hx hb hts (fun w h => List.mem_cons_of_mem _ (inTR w h)) hown hK hP 0 rfl rfl 2 (by decide) (hts _ (List.mem_cons_of_mem _ kw_59)) (fun _ h9 => h9) rfl dTR_unite_79 ?_
              refine lv_iload hx hb dTR_unite_82 (lv_at hl 0 rfl) ?_
              refine hr_iald hx hb hK hP 2 0 rfl rfl (i := j) (by omega) (by omega) dTR_unite_84 ?_
              refine lv_iload hx hb dTR_unite_85 (lv_at hl 1 rfl) ?_
              refine hr_icmp_ne hx hb (x := ((joinF ff (max (ff i) (ff k)) (min (ff i) (ff k)) j) j)) (y := (max (ff i) (ff k))) (by omega) (by omega) (tgt := 98) dTR_unite_87 (by decide) (fun c_5 => ?_) (fun c_5 => ?_)
              · refine lv_iinc (v := nI (j + 1)) (lv' := [(5, .int (nI (j + 1))), (4, .int (nI (max (ff i) (ff k)))), (3, .int (nI (min (ff i) (ff k)))), (0, .ref h), (1, .int (nI i)), (2, .int (nI k))]) hx hb dTR_unite_98 hl (k := 0) rfl (hr_inc _) (by decide) rfl (fun ls hl => ?_)
                refine lv_goto (tgt := 69) hx hb dTR_unite_101 (by decide) ?_
                rw [joinF_miss (fun q => c_5 (by rw [joinF_at]; exact q))] at hP hD
                exact ih_69 (j + 1) (by omega) (by omega) _ _ hP hD hS ls (lv_sub hl [0, 1, 2, 3, 4, 5] rfl)
              · refine lv_aload_n hx hb dTR_unite_90 rfl (lv_at hl 3 rfl) ?_
                refine va_get (D := (dC, dI)) (ci := 0) (v := .ref b) (C := RTR) (T := TTR) (N := 3) hx hb hts (fun w h => List.mem_cons_of_mem _ (inTR w h)) hown hK hP 0 rfl rfl 2 (by decide) (hts _ (List.mem_cons_of_mem _ kw_59)) (fun _ h9 => h9) rfl dTR_unite_91 ?_
                refine lv_iload hx hb dTR_unite_94 (lv_at hl 0 rfl) ?_
                refine lv_iload_n hx hb dTR_unite_96 rfl (lv_at hl 2 rfl) ?_
                refine hr_iastN hx hb hK hP hD hS 2 0 rfl rfl (i := j) (by omega) (by omega) dTR_unite_97 (fun H locs hP hD hS => ?_)
                have hP : va_P (dC, dI) vwCl [(h, .inr (0, [.int (nI n), .ref a, .ref b])), (a, .inl (cI, 24, .inl (fun j9 => nI (tf j9)))), (b, .inl (cI, 24, .inl (fun j9 => nI ((va_up (joinF ff (max (ff i) (ff k)) (min (ff i) (ff k)) j) j (min (ff i) (ff k))) j9))))] H := hP
                have hD : va_D A [(h, .inr (0, [.int (nI n), .ref a, .ref b])), (a, .inl (cI, 24, .inl (fun j9 => nI (tf j9)))), (b, .inl (cI, 24, .inl (fun j9 => nI ((va_up (joinF ff (max (ff i) (ff k)) (min (ff i) (ff k)) j) j (min (ff i) (ff k))) j9))))] := hD
                refine lv_iinc (v := nI (j + 1)) (lv' := [(5, .int (nI (j + 1))), (4, .int (nI (max (ff i) (ff k)))), (3, .int (nI (min (ff i) (ff k)))), (0, .ref h), (1, .int (nI i)), (2, .int (nI k))]) hx hb dTR_unite_98 hl (k := 0) rfl (hr_inc _) (by decide) rfl (fun ls hl => ?_)
                refine lv_goto (tgt := 69) hx hb dTR_unite_101 (by decide) ?_
                rw [joinF_hit (by rw [← c_5, joinF_at])] at hP hD
                exact ih_69 (j + 1) (by omega) (by omega) _ _ hP hD hS ls (lv_sub hl [0, 1, 2, 3, 4, 5] rfl)
        exact loop_69 (n + 1) 0 (by omega) (by omega) _ _ hP hD hS ls (lv_sub hl [0, 1, 2, 3, 4, 5] rfl)
      · refine lv_iconst (v := nI 0) hx hb dTR_unite_31 (by decide +kernel) ?_
        have ez : joinN n ff (nI i) (nI k) = none := by simp [joinN, nI_clamp (show i < 2 ^ 31 by omega), nI_clamp (show k < 2 ^ 31 by omega), c_3]
        rw [← hQe]
        exact W.zret (ty := .boolean) (v := nI 0) hx hb hr (by decide +kernel) (fun t ht hW => ⟨⟨_, (), rfl, by rw [ez]; rfl, by rw [ht, ez]; exact hP, by rw [ez]; exact hD⟩, hS.F ht⟩) hS.2.2 dTR_unite_32
end
section
set_option maxHeartbeats 4000000 in
set_option maxRecDepth 100000 in
/-- a TEST number -/
theorem c_SR_isTestNumber (l : Launch) (dC : Nat → ClassId) (dI : Nat → Nat → Nat) (cI cZ cG : ClassId) (x : Int32) : Met l ySR_isTestNumber wsSR_isTestNumber ({ frames := 0, cells := 0, slots := 0, locals := 0 }) (va_Pc [.int x] (fun U => va_P (dC, dI) vwCl [] U.heap ∧ KX dC dI cI cZ cG U)) (vp_Si (fun r => r = nI (inB x 24))) 0 0 (fun _ => False) := by
  refine Met.ofW (cc := cSR_isTestNumber) (maxL := 1) (ret := (some .boolean)) (by decide) rfl ?_
  intro p e s m args below meth c s₁ B hml hv
  obtain ⟨rfl, hP, hKX⟩ := hv
  have hK := hKX.1
  have hx := B.exec
  have hb := B.bytes
  have hr := B.returns
  have hts := atoms_spec (ws := wsSR_isTestNumber) B.pre
  have hown : s.vm.findClass RSR = some m.cls := findClass_of_methodNamed B.named
  have hlocks := B.notSynchronized
  have hl := lv_entry ([.int x]) (n := 1) (Nat.le_of_ble_eq_true rfl)
  rw [lg_entry_eq]
  generalize (lg_sl ([.int x]) ++ List.replicate (1 - (lg_sl ([.int x])).length) Slot.unset).toArray = ls at hl ⊢
  have hl : lv_has ls 1 [(0, .int x)] := hl
  generalize hRe : (headSpec wsSR_isTestNumber ({ frames := 0, cells := 0, slots := 0, locals := 0 })).room = R
  have hRf : 0 ≤ R.frames := by rw [← hRe]; exact Nat.le_refl _
  have hRl : 0 ≤ R.locals := by rw [← hRe]; exact Nat.le_refl _
  have hRc : 0 ≤ R.cells := by rw [← hRe]; exact Nat.le_refl _
  have hRs : 0 ≤ R.slots := by rw [← hRe]; exact Nat.le_refl _
  generalize hargs : (List.toArray [.int x] : Array Value) = args at hts ⊢
  generalize hQe : MQ below _ args s _ _ _ = Q
  refine lv_iload_n hx hb dSR_isTestNumber_0 rfl (lv_at hl 0 rfl) ?_
  refine lv_if_lt (tgt := 14) hx hb dSR_isTestNumber_1 (by decide) (fun c_1 => ?_) (fun c_1 => ?_)
  · refine lv_iconst (v := nI 0) hx hb dSR_isTestNumber_14 (by decide +kernel) ?_
    rw [← hQe]
    exact W.zret (ty := .boolean) (v := nI 0) hx hb hr (by decide +kernel) (fun t ht hW => ⟨_, rfl, by rw [inB_neg c_1], by rw [ht]⟩) (fun q h => by cases h) dSR_isTestNumber_15
  · refine lv_iload_n hx hb dSR_isTestNumber_4 rfl (lv_at hl 0 rfl) ?_
    refine lv_bipush (v := nI 24) hx hb dSR_isTestNumber_5 (by decide +kernel) ?_
    refine lv_icmp_ge (tgt := 14) hx hb dSR_isTestNumber_7 (by decide) (fun c_2 => ?_) (fun c_2 => ?_)
    · refine lv_iconst (v := nI 0) hx hb dSR_isTestNumber_14 (by decide +kernel) ?_
      rw [← hQe]
      exact W.zret (ty := .boolean) (v := nI 0) hx hb hr (by decide +kernel) (fun t ht hW => ⟨_, rfl, by rw [inB_big c_1 c_2], by rw [ht]⟩) (fun q h => by cases h) dSR_isTestNumber_15
    · refine lv_iconst (v := nI 1) hx hb dSR_isTestNumber_10 (by decide +kernel) ?_
      refine lv_goto (tgt := 15) hx hb dSR_isTestNumber_11 (by decide) ?_
      rw [← hQe]
      exact W.zret (ty := .boolean) (v := nI 1) hx hb hr (by decide +kernel) (fun t ht hW => ⟨_, rfl, by rw [inB_in c_1 c_2], by rw [ht]⟩) (fun q h => by cases h) dSR_isTestNumber_15

set_option maxHeartbeats 4000000 in
set_option maxRecDepth 100000 in
/-- is there such a SHARD -/
theorem c_SP_hasShard (l : Launch) (dC : Nat → ClassId) (dI : Nat → Nat → Nat) (cI cZ cG : ClassId) (h : Nat) (a : Nat) (b : Nat) (d : Nat) (sc : Nat) (mv : Nat) (sm : Nat → Nat) (zs : Nat → Nat) (sf : Nat → Option Nat) (x : Int32) (hsc : sc ≤ 4) : Met l ySP_hasShard wsSP_hasShard ({ frames := 0, cells := 0, slots := 0, locals := 0 }) (va_Pc [.ref h, .int x] (fun U => va_P (dC, dI) vwCl [(h, .inr (5, [.int (nI sc), .int (nI mv), .ref a, .ref b, .ref d])), (a, .inl (cI, 4, .inl (fun j9 => nI (sm j9)))), (b, .inl (cI, 4, .inl (fun j9 => nI (zs j9)))), (d, .inl (cI, 24, .inl (fun j9 => oI (sf j9))))] U.heap ∧ KX dC dI cI cZ cG U)) (vp_Si (fun r => r = nI (inB x sc))) 0 0 (fun _ => False) := by
  refine Met.ofW (cc := cSP_hasShard) (maxL := 2) (ret := (some .boolean)) (by decide) rfl ?_
  intro p e s m args below meth c s₁ B hml hv
  obtain ⟨rfl, hP, hKX⟩ := hv
  have hK := hKX.1
  have hx := B.exec
  have hb := B.bytes
  have hr := B.returns
  have hts := atoms_spec (ws := wsSP_hasShard) B.pre
  have hown : s.vm.findClass RSP = some m.cls := findClass_of_methodNamed B.named
  have hlocks := B.notSynchronized
  have hl := lv_entry ([.ref h, .int x]) (n := 2) (Nat.le_of_ble_eq_true rfl)
  rw [lg_entry_eq]
  generalize (lg_sl ([.ref h, .int x]) ++ List.replicate (2 - (lg_sl ([.ref h, .int x])).length) Slot.unset).toArray = ls at hl ⊢
  have hl : lv_has ls 2 [(0, .ref h), (1, .int x)] := hl
  generalize hRe : (headSpec wsSP_hasShard ({ frames := 0, cells := 0, slots := 0, locals := 0 })).room = R
  have hRf : 0 ≤ R.frames := by rw [← hRe]; exact Nat.le_refl _
  have hRl : 0 ≤ R.locals := by rw [← hRe]; exact Nat.le_refl _
  have hRc : 0 ≤ R.cells := by rw [← hRe]; exact Nat.le_refl _
  have hRs : 0 ≤ R.slots := by rw [← hRe]; exact Nat.le_refl _
  generalize hargs : (List.toArray [.ref h, .int x] : Array Value) = args at hts ⊢
  generalize hQe : MQ below _ args s _ _ _ = Q
  refine lv_iload_n hx hb dSP_hasShard_0 rfl (lv_at hl 1 rfl) ?_
  refine lv_if_lt (tgt := 16) hx hb dSP_hasShard_1 (by decide) (fun c_1 => ?_) (fun c_1 => ?_)
  · refine lv_iconst (v := nI 0) hx hb dSP_hasShard_16 (by decide +kernel) ?_
    rw [← hQe]
    exact W.zret (ty := .boolean) (v := nI 0) hx hb hr (by decide +kernel) (fun t ht hW => ⟨_, rfl, by rw [inB_neg c_1], by rw [ht]⟩) (fun q h => by cases h) dSP_hasShard_17
  · refine lv_iload_n hx hb dSP_hasShard_4 rfl (lv_at hl 1 rfl) ?_
    refine lv_aload_n hx hb dSP_hasShard_5 rfl (lv_at hl 0 rfl) ?_
    refine va_get (D := (dC, dI)) (ci := 5) (v := .int (nI sc)) (C := RSP) (T := TSP) (N := 5) hx hb hts (fun w h => List.mem_cons_of_mem _ (inSP w h)) hown hK hP 0 rfl rfl 0 (by decide) (hts _ (List.mem_cons_of_mem _ kw_169)) (fun _ h9 => h9) rfl dSP_hasShard_6 ?_
    refine lv_icmp_ge (tgt := 16) hx hb dSP_hasShard_9 (by decide) (fun c_2 => ?_) (fun c_2 => ?_)
    · refine lv_iconst (v := nI 0) hx hb dSP_hasShard_16 (by decide +kernel) ?_
      rw [← hQe]
      exact W.zret (ty := .boolean) (v := nI 0) hx hb hr (by decide +kernel) (fun t ht hW => ⟨_, rfl, by rw [inB_big c_1 c_2], by rw [ht]⟩) (fun q h => by cases h) dSP_hasShard_17
    · refine lv_iconst (v := nI 1) hx hb dSP_hasShard_12 (by decide +kernel) ?_
      refine lv_goto (tgt := 17) hx hb dSP_hasShard_13 (by decide) ?_
      rw [← hQe]
      exact W.zret (ty := .boolean) (v := nI 1) hx hb hr (by decide +kernel) (fun t ht hW => ⟨_, rfl, by rw [inB_in c_1 c_2], by rw [ht]⟩) (fun q h => by cases h) dSP_hasShard_17

set_option maxHeartbeats 4000000 in
set_option maxRecDepth 100000 in
/-- the SHARD of a TEST -/
theorem c_SP_shardAt (l : Launch) (dC : Nat → ClassId) (dI : Nat → Nat → Nat) (cI cZ cG : ClassId) (h : Nat) (a : Nat) (b : Nat) (d : Nat) (sc : Nat) (mv : Nat) (sm : Nat → Nat) (zs : Nat → Nat) (sf : Nat → Option Nat) (x : Int32) : Met l ySP_shardAt wsSP_shardAt ({ frames := 1, cells := 0, slots := 0, locals := 20 }) (va_Pc [.ref h, .int x] (fun U => va_P (dC, dI) vwCl [(h, .inr (5, [.int (nI sc), .int (nI mv), .ref a, .ref b, .ref d])), (a, .inl (cI, 4, .inl (fun j9 => nI (sm j9)))), (b, .inl (cI, 4, .inl (fun j9 => nI (zs j9)))), (d, .inl (cI, 24, .inl (fun j9 => oI (sf j9))))] U.heap ∧ KX dC dI cI cZ cG U)) (vp_Si (fun r => r = oI (shA sf x))) 0 0 (fun _ => False) := by
  refine Met.ofW (cc := cSP_shardAt) (maxL := 2) (ret := (some .int)) (by decide) rfl ?_
  intro p e s m args below meth c s₁ B hml hv
  obtain ⟨rfl, hP, hKX⟩ := hv
  have hK := hKX.1
  have hx := B.exec
  have hb := B.bytes
  have hr := B.returns
  have hts := atoms_spec (ws := wsSP_shardAt) B.pre
  have hown : s.vm.findClass RSP = some m.cls := findClass_of_methodNamed B.named
  have hlocks := B.notSynchronized
  have hl := lv_entry ([.ref h, .int x]) (n := 2) (Nat.le_of_ble_eq_true rfl)
  rw [lg_entry_eq]
  generalize (lg_sl ([.ref h, .int x]) ++ List.replicate (2 - (lg_sl ([.ref h, .int x])).length) Slot.unset).toArray = ls at hl ⊢
  have hl : lv_has ls 2 [(0, .ref h), (1, .int x)] := hl
  generalize hRe : (headSpec wsSP_shardAt ({ frames := 1, cells := 0, slots := 0, locals := 20 })).room = R
  have hRf : 1 ≤ R.frames := by rw [← hRe]; exact Nat.le_refl _
  have hRl : 20 ≤ R.locals := by rw [← hRe]; exact Nat.le_refl _
  have hRc : 0 ≤ R.cells := by rw [← hRe]; exact Nat.le_refl _
  have hRs : 0 ≤ R.slots := by rw [← hRe]; exact Nat.le_refl _
  generalize hargs : (List.toArray [.ref h, .int x] : Array Value) = args at hts ⊢
  generalize hQe : MQ below _ args s _ _ _ = Q
  refine lv_iload_n hx hb dSP_shardAt_0 rfl (lv_at hl 1 rfl) ?_
  refine vp_callSi (va_runSN (As := [.int x]) (rest := []) ⟨hx, hb, hml, hown, hts⟩ (c_SR_isTestNumber l dC dI cI cZ cG x) (hr_cnS 1 hts hKX.2.1 kw_338 kw_23 kw_339 (by decide +kernel) (by rw [← hRe]; exact ⟨Nat.le_of_ble_eq_true rfl, Nat.le_of_ble_eq_true rfl⟩)) (hr_preRS hKX hP [] rfl) rfl rfl hl.1 rfl (lv_room (Nat.le_of_ble_eq_true rfl)) dSP_shardAt_1 ⟨by omega, by omega⟩).run (fun rv hrv => ?_)
  refine hr_eqi hrv ?_
  have hb0 := inB_lt x 24
  refine hr_if_eq hx hb (x := inB x 24) (by omega) (tgt := 16) dSP_shardAt_4 (by decide) (fun c_1 => ?_) (fun c_1 => ?_)
  · refine lv_iconst (v := (-1)) hx hb dSP_shardAt_16 (by decide +kernel) ?_
    rw [← hQe]
    exact W.iret (v := (-1)) hx hb hr (fun t ht hW => ⟨_, rfl, by rw [shA_out c_1]; rfl, by rw [ht]⟩) (fun q h => by cases h) dSP_shardAt_17
  · obtain ⟨j, hj, rfl⟩ := inB_pos (by decide) c_1
    refine lv_aload_n hx hb dSP_shardAt_7 rfl (lv_at hl 0 rfl) ?_
    refine va_get (D := (dC, dI)) (ci := 5) (v := .ref d) (C := RSP) (T := TSP) (N := 5) hx hb hts (fun w h => List.mem_cons_of_mem _ (inSP w h)) hown hK hP 0 rfl rfl 4 (by decide) (hts _ (List.mem_cons_of_mem _ kw_177)) (fun _ h9 => h9) rfl dSP_shardAt_8 ?_
    refine lv_iload_n hx hb dSP_shardAt_11 rfl (lv_at hl 1 rfl) ?_
    refine hr_iald hx hb hK hP 3 0 rfl rfl (i := j) (by omega) (by omega) dSP_shardAt_12 ?_
    refine lv_goto (tgt := 17) hx hb dSP_shardAt_13 (by decide) ?_
    rw [← hQe]
    exact W.iret (v := oI (sf j)) hx hb hr (fun t ht hW => ⟨_, rfl, by rw [shA_nI hj], by rw [ht]⟩) (fun q h => by cases h) dSP_shardAt_17

set_option maxHeartbeats 4000000 in
set_option maxRecDepth 100000 in
/-- the LENGTH -/
theorem c_SP_longest (l : Launch) (dC : Nat → ClassId) (dI : Nat → Nat → Nat) (cI cZ cG : ClassId) (h : Nat) (a : Nat) (b : Nat) (d : Nat) (sc : Nat) (mv : Nat) (sm : Nat → Nat) (zs : Nat → Nat) (sf : Nat → Option Nat) (hsc : sc ≤ 4) (hsm : ∀ j, j < 4 → sm j ≤ 2400000) : Met l ySP_longest wsSP_longest ({ frames := 1, cells := 0, slots := 0, locals := 15 }) (va_Pc [.ref h] (fun U => va_P (dC, dI) vwCl [(h, .inr (5, [.int (nI sc), .int (nI mv), .ref a, .ref b, .ref d])), (a, .inl (cI, 4, .inl (fun j9 => nI (sm j9)))), (b, .inl (cI, 4, .inl (fun j9 => nI (zs j9)))), (d, .inl (cI, 24, .inl (fun j9 => oI (sf j9))))] U.heap ∧ KX dC dI cI cZ cG U)) (vp_Si (fun r => r = nI (maxS sm sc))) 0 0 (fun _ => False) := by
  refine Met.ofW (cc := cSP_longest) (maxL := 3) (ret := (some .int)) (by decide) rfl ?_
  intro p e s m args below meth c s₁ B hml hv
  obtain ⟨rfl, hP, hKX⟩ := hv
  have hK := hKX.1
  have hx := B.exec
  have hb := B.bytes
  have hr := B.returns
  have hts := atoms_spec (ws := wsSP_longest) B.pre
  have hown : s.vm.findClass RSP = some m.cls := findClass_of_methodNamed B.named
  have hlocks := B.notSynchronized
  have hl := lv_entry ([.ref h]) (n := 3) (Nat.le_of_ble_eq_true rfl)
  rw [lg_entry_eq]
  generalize (lg_sl ([.ref h]) ++ List.replicate (3 - (lg_sl ([.ref h])).length) Slot.unset).toArray = ls at hl ⊢
  have hl : lv_has ls 3 [(0, .ref h)] := hl
  generalize hRe : (headSpec wsSP_longest ({ frames := 1, cells := 0, slots := 0, locals := 15 })).room = R
  have hRf : 1 ≤ R.frames := by rw [← hRe]; exact Nat.le_refl _
  have hRl : 15 ≤ R.locals := by rw [← hRe]; exact Nat.le_refl _
  have hRc : 0 ≤ R.cells := by rw [← hRe]; exact Nat.le_refl _
  have hRs : 0 ≤ R.slots := by rw [← hRe]; exact Nat.le_refl _
  generalize hargs : (List.toArray [.ref h] : Array Value) = args at hts ⊢
  generalize hQe : MQ below _ args s _ _ _ = Q
  refine lv_iconst (v := nI 0) hx hb dSP_longest_0 (by decide +kernel) ?_
  refine lv_istore_n (lv' := [(1, .int (nI 0)), (0, .ref h)]) hx hb dSP_longest_1 rfl hl (by decide) rfl (fun ls hl => ?_)
  refine lv_iconst (v := nI 0) hx hb dSP_longest_2 (by decide +kernel) ?_
  refine lv_istore_n (lv' := [(2, .int (nI 0)), (1, .int (nI 0)), (0, .ref h)]) hx hb dSP_longest_3 rfl hl (by decide) rfl (fun ls hl => ?_)
  have loop_4 : ∀ (n9 : Nat) (i : Nat) (s1 : Nat), i ≤ sc → s1 = maxS sm i → sc + 1 ≤ i + n9 → ∀ (ls : Array Slot), lv_has ls 3 [(2, .int (nI i)), (1, .int (nI s1)), (0, .ref h)] → W p l e R s m args below meth c s.heap [] 0 0 Q (F0 m 4 ls []) := by
    intro n9
    induction n9 with
    | zero =>
      intro i s1 hi h1 hmeas
      exact absurd hmeas (by omega)
    | succ n9 ih_4 =>
      intro i s1 hi h1 hmeas ls hl
      have hm := maxS_le (f := sm) (B := 2400000) (i := i) (fun j hj => hsm j (by omega))
      refine lv_iload_n hx hb dSP_longest_4 rfl (lv_at hl 0 rfl) ?_
      refine lv_aload_n hx hb dSP_longest_5 rfl (lv_at hl 2 rfl) ?_
      refine va_get (D := (dC, dI)) (ci := 5) (v := .int (nI sc)) (C := RSP) (T := TSP) (N := 5) hx hb hts (fun w h => List.mem_cons_of_mem _ (inSP w h)) hown hK hP 0 rfl rfl 0 (by decide) (hts _ (List.mem_cons_of_mem _ kw_169)) (fun _ h9 => h9) rfl dSP_longest_6 ?_
      refine hr_icmp_ge hx hb (x := i) (y := sc) (by omega) (by omega) (tgt := 29) dSP_longest_9 (by decide) (fun c_1 => ?_) (fun c_1 => ?_)
      · have ei : i = sc := by omega
        subst ei
        refine lv_iload_n hx hb dSP_longest_29 rfl (lv_at hl 1 rfl) ?_
        rw [← hQe]
        exact W.iret (v := nI s1) hx hb hr (fun t ht hW => ⟨_, rfl, by rw [h1], by rw [ht]⟩) (fun q h => by cases h) dSP_longest_30
      · have hm1 := hsm i (by omega)
        refine lv_iload_n hx hb dSP_longest_12 rfl (lv_at hl 1 rfl) ?_
        refine lv_aload_n hx hb dSP_longest_13 rfl (lv_at hl 2 rfl) ?_
        refine va_get (D := (dC, dI)) (ci := 5) (v := .ref a) (C := RSP) (T := TSP) (N := 5) hx hb hts (fun w h => List.mem_cons_of_mem _ (inSP w h)) hown hK hP 0 rfl rfl 2 (by decide) (hts _ (List.mem_cons_of_mem _ kw_173)) (fun _ h9 => h9) rfl dSP_longest_14 ?_
        refine lv_iload_n hx hb dSP_longest_17 rfl (lv_at hl 0 rfl) ?_
        refine hr_iald hx hb hK hP 1 0 rfl rfl (i := i) (by omega) (by omega) dSP_longest_18 ?_
        refine va_mmax (rest := []) hx hb (by rw [hml]; exact hl.1.symm) hown (hts (.methodLink RSP 35 Lib.Math.max.name) (by decide +kernel)) (hts (.static Lib.Math.max.name) (by decide +kernel)) (hts (.initialized "java/lang/Math") (by decide +kernel)) (hts (.code Lib.Math.max.name Lib.Math.max.code 2 (some .int)) (by decide +kernel)) (Nat.le_trans (Nat.le_of_ble_eq_true rfl) hRf) (Nat.le_trans (Nat.le_of_ble_eq_true rfl) hRl) (Nat.zero_le _) (Nat.zero_le _) dSP_longest_19 ?_
        refine hr_eqi (hr_max (by omega) (by omega)) ?_
        refine lv_istore_n (lv' := [(1, .int (nI (max s1 (sm i)))), (2, .int (nI i)), (0, .ref h)]) hx hb dSP_longest_22 rfl hl (by decide) rfl (fun ls hl => ?_)
        refine lv_iinc (v := nI (i + 1)) (lv' := [(2, .int (nI (i + 1))), (1, .int (nI (max s1 (sm i)))), (0, .ref h)]) hx hb dSP_longest_23 hl (k := 1) rfl (hr_inc _) (by decide) rfl (fun ls hl => ?_)
        refine lv_goto (tgt := 4) hx hb dSP_longest_26 (by decide) ?_
        exact ih_4 (i + 1) (max s1 (sm i)) (by omega) (by rw [h1]; rfl) (by omega) ls (lv_sub hl [0, 1, 2] rfl)
  exact loop_4 (sc + 1) 0 0 (by omega) (rfl) (by omega) ls (lv_sub hl [0, 1, 2] rfl)

set_option maxHeartbeats 4000000 in
set_option maxRecDepth 100000 in
/-- has a TEST a RESULT -/
theorem c_RR_has (l : Launch) (dC : Nat → ClassId) (dI : Nat → Nat → Nat) (cI cZ cG : ClassId) (h : Nat) (a : Nat) (b : Nat) (d : Nat) (sg : Nat) (pr : Nat → Nat) (vs : Nat → Int32) (tc : Nat → Nat) (x : Int32) (hpr : ∀ j, j < 24 → pr j < 2) : Met l yRR_has wsRR_has ({ frames := 1, cells := 0, slots := 0, locals := 20 }) (va_Pc [.ref h, .int x] (fun U => va_P (dC, dI) vwCl [(h, .inr (3, [.int (nI sg), .ref a, .ref b, .ref d])), (a, .inl (cZ, 24, .inl (fun j9 => nI (pr j9)))), (b, .inl (cI, 24, .inl vs)), (d, .inl (cI, 24, .inl (fun j9 => nI (tc j9))))] U.heap ∧ KX dC dI cI cZ cG U)) (vp_Si (fun r => r = nI (hasB pr x))) 0 0 (fun _ => False) := by
  refine Met.ofW (cc := cRR_has) (maxL := 2) (ret := (some .boolean)) (by decide) rfl ?_
  intro p e s m args below meth c s₁ B hml hv
  obtain ⟨rfl, hP, hKX⟩ := hv
  have hK := hKX.1
  have hx := B.exec
  have hb := B.bytes
  have hr := B.returns
  have hts := atoms_spec (ws := wsRR_has) B.pre
  have hown : s.vm.findClass RRR = some m.cls := findClass_of_methodNamed B.named
  have hlocks := B.notSynchronized
  have hl := lv_entry ([.ref h, .int x]) (n := 2) (Nat.le_of_ble_eq_true rfl)
  rw [lg_entry_eq]
  generalize (lg_sl ([.ref h, .int x]) ++ List.replicate (2 - (lg_sl ([.ref h, .int x])).length) Slot.unset).toArray = ls at hl ⊢
  have hl : lv_has ls 2 [(0, .ref h), (1, .int x)] := hl
  generalize hRe : (headSpec wsRR_has ({ frames := 1, cells := 0, slots := 0, locals := 20 })).room = R
  have hRf : 1 ≤ R.frames := by rw [← hRe]; exact Nat.le_refl _
  have hRl : 20 ≤ R.locals := by rw [← hRe]; exact Nat.le_refl _
  have hRc : 0 ≤ R.cells := by rw [← hRe]; exact Nat.le_refl _
  have hRs : 0 ≤ R.slots := by rw [← hRe]; exact Nat.le_refl _
  generalize hargs : (List.toArray [.ref h, .int x] : Array Value) = args at hts ⊢
  generalize hQe : MQ below _ args s _ _ _ = Q
  refine lv_iload_n hx hb dRR_has_0 rfl (lv_at hl 1 rfl) ?_
  refine vp_callSi (va_runSN (As := [.int x]) (rest := []) ⟨hx, hb, hml, hown, hts⟩ (c_SR_isTestNumber l dC dI cI cZ cG x) (hr_cnS 1 hts hKX.2.2 kw_338 kw_23 kw_339 (by decide +kernel) (by rw [← hRe]; exact ⟨Nat.le_of_ble_eq_true rfl, Nat.le_of_ble_eq_true rfl⟩)) (hr_preRS hKX hP [] rfl) rfl rfl hl.1 rfl (lv_room (Nat.le_of_ble_eq_true rfl)) dRR_has_1 ⟨by omega, by omega⟩).run (fun rv hrv => ?_)
  refine hr_eqi hrv ?_
  have hb0 := inB_lt x 24
  refine hr_if_eq hx hb (x := inB x 24) (by omega) (tgt := 20) dRR_has_4 (by decide) (fun c_1 => ?_) (fun c_1 => ?_)
  · refine lv_iconst (v := nI 0) hx hb dRR_has_20 (by decide +kernel) ?_
    rw [← hQe]
    exact W.zret (ty := .boolean) (v := nI 0) hx hb hr (by decide +kernel) (fun t ht hW => ⟨_, rfl, by rw [hasB_out c_1], by rw [ht]⟩) (fun q h => by cases h) dRR_has_21
  · obtain ⟨j, hj, rfl⟩ := inB_pos (by decide) c_1
    have hpj := hpr j hj
    refine lv_aload_n hx hb dRR_has_7 rfl (lv_at hl 0 rfl) ?_
    refine va_get (D := (dC, dI)) (ci := 3) (v := .ref a) (C := RRR) (T := TRR) (N := 4) hx hb hts (fun w h => List.mem_cons_of_mem _ (inRR w h)) hown hK hP 0 rfl rfl 1 (by decide) (hts _ (List.mem_cons_of_mem _ kw_197)) (fun _ h9 => h9) rfl dRR_has_8 ?_
    refine lv_iload_n hx hb dRR_has_11 rfl (lv_at hl 1 rfl) ?_
    refine hr_zald hx hb hK hP 1 1 rfl rfl (i := j) (by omega) (by omega) dRR_has_12 ?_
    refine hr_if_eq hx hb (x := (pr j)) (by omega) (tgt := 20) dRR_has_13 (by decide) (fun c_2 => ?_) (fun c_2 => ?_)
    · refine lv_iconst (v := nI 0) hx hb dRR_has_20 (by decide +kernel) ?_
      rw [← hQe]
      exact W.zret (ty := .boolean) (v := nI 0) hx hb hr (by decide +kernel) (fun t ht hW => ⟨_, rfl, by rw [hasB_nI hj]; exact congrArg nI (by omega), by rw [ht]⟩) (fun q h => by cases h) dRR_has_21
    · refine lv_iconst (v := nI 1) hx hb dRR_has_16 (by decide +kernel) ?_
      refine lv_goto (tgt := 21) hx hb dRR_has_17 (by decide) ?_
      rw [← hQe]
      exact W.zret (ty := .boolean) (v := nI 1) hx hb hr (by decide +kernel) (fun t ht hW => ⟨_, rfl, by rw [hasB_nI hj]; exact congrArg nI (by omega), by rw [ht]⟩) (fun q h => by cases h) dRR_has_21

set_option maxHeartbeats 4000000 in
set_option maxRecDepth 100000 in
/-- how many TRIES -/
theorem c_RR_triesOf (l : Launch) (dC : Nat → ClassId) (dI : Nat → Nat → Nat) (cI cZ cG : ClassId) (h : Nat) (a : Nat) (b : Nat) (d : Nat) (sg : Nat) (pr : Nat → Nat) (vs : Nat → Int32) (tc : Nat → Nat) (x : Int32) : Met l yRR_triesOf wsRR_triesOf ({ frames := 1, cells := 0, slots := 0, locals := 20 }) (va_Pc [.ref h, .int x] (fun U => va_P (dC, dI) vwCl [(h, .inr (3, [.int (nI sg), .ref a, .ref b, .ref d])), (a, .inl (cZ, 24, .inl (fun j9 => nI (pr j9)))), (b, .inl (cI, 24, .inl vs)), (d, .inl (cI, 24, .inl (fun j9 => nI (tc j9))))] U.heap ∧ KX dC dI cI cZ cG U)) (vp_Si (fun r => r = nI (hasB tc x))) 0 0 (fun _ => False) := by
  refine Met.ofW (cc := cRR_triesOf) (maxL := 2) (ret := (some .int)) (by decide) rfl ?_
  intro p e s m args below meth c s₁ B hml hv
  obtain ⟨rfl, hP, hKX⟩ := hv
  have hK := hKX.1
  have hx := B.exec
  have hb := B.bytes
  have hr := B.returns
  have hts := atoms_spec (ws := wsRR_triesOf) B.pre
  have hown : s.vm.findClass RRR = some m.cls := findClass_of_methodNamed B.named
  have hlocks := B.notSynchronized
  have hl := lv_entry ([.ref h, .int x]) (n := 2) (Nat.le_of_ble_eq_true rfl)
  rw [lg_entry_eq]
  generalize (lg_sl ([.ref h, .int x]) ++ List.replicate (2 - (lg_sl ([.ref h, .int x])).length) Slot.unset).toArray = ls at hl ⊢
  have hl : lv_has ls 2 [(0, .ref h), (1, .int x)] := hl
  generalize hRe : (headSpec wsRR_triesOf ({ frames := 1, cells := 0, slots := 0, locals := 20 })).room = R
  have hRf : 1 ≤ R.frames := by rw [← hRe]; exact Nat.le_refl _
  have hRl : 20 ≤ R.locals := by rw [← hRe]; exact Nat.le_refl _
  have hRc : 0 ≤ R.cells := by rw [← hRe]; exact Nat.le_refl _
  have hRs : 0 ≤ R.slots := by rw [← hRe]; exact Nat.le_refl _
  generalize hargs : (List.toArray [.ref h, .int x] : Array Value) = args at hts ⊢
  generalize hQe : MQ below _ args s _ _ _ = Q
  refine lv_iload_n hx hb dRR_triesOf_0 rfl (lv_at hl 1 rfl) ?_
  refine vp_callSi (va_runSN (As := [.int x]) (rest := []) ⟨hx, hb, hml, hown, hts⟩ (c_SR_isTestNumber l dC dI cI cZ cG x) (hr_cnS 1 hts hKX.2.2 kw_338 kw_23 kw_339 (by decide +kernel) (by rw [← hRe]; exact ⟨Nat.le_of_ble_eq_true rfl, Nat.le_of_ble_eq_true rfl⟩)) (hr_preRS hKX hP [] rfl) rfl rfl hl.1 rfl (lv_room (Nat.le_of_ble_eq_true rfl)) dRR_triesOf_1 ⟨by omega, by omega⟩).run (fun rv hrv => ?_)
  refine hr_eqi hrv ?_
  have hb0 := inB_lt x 24
  refine hr_if_eq hx hb (x := inB x 24) (by omega) (tgt := 16) dRR_triesOf_4 (by decide) (fun c_1 => ?_) (fun c_1 => ?_)
  · refine lv_iconst (v := nI 0) hx hb dRR_triesOf_16 (by decide +kernel) ?_
    rw [← hQe]
    exact W.iret (v := nI 0) hx hb hr (fun t ht hW => ⟨_, rfl, by rw [hasB_out c_1], by rw [ht]⟩) (fun q h => by cases h) dRR_triesOf_17
  · obtain ⟨j, hj, rfl⟩ := inB_pos (by decide) c_1
    refine lv_aload_n hx hb dRR_triesOf_7 rfl (lv_at hl 0 rfl) ?_
    refine va_get (D := (dC, dI)) (ci := 3) (v := .ref d) (C := RRR) (T := TRR) (N := 4) hx hb hts (fun w h => List.mem_cons_of_mem _ (inRR w h)) hown hK hP 0 rfl rfl 3 (by decide) (hts _ (List.mem_cons_of_mem _ kw_199)) (fun _ h9 => h9) rfl dRR_triesOf_8 ?_
    refine lv_iload_n hx hb dRR_triesOf_11 rfl (lv_at hl 1 rfl) ?_
    refine hr_iald hx hb hK hP 3 0 rfl rfl (i := j) (by omega) (by omega) dRR_triesOf_12 ?_
    refine lv_goto (tgt := 17) hx hb dRR_triesOf_13 (by decide) ?_
    rw [← hQe]
    exact W.iret (v := nI (tc j)) hx hb hr (fun t ht hW => ⟨_, rfl, by rw [hasB_nI hj], by rw [ht]⟩) (fun q h => by cases h) dRR_triesOf_17

set_option maxHeartbeats 4000000 in
set_option maxRecDepth 100000 in
/-- a RESULT that is not good -/
theorem c_RR_isBad (l : Launch) (dC : Nat → ClassId) (dI : Nat → Nat → Nat) (cI cZ cG : ClassId) (h : Nat) (a : Nat) (b : Nat) (d : Nat) (sg : Nat) (pr : Nat → Nat) (vs : Nat → Int32) (tc : Nat → Nat) (x : Int32) (hpr : ∀ j, j < 24 → pr j < 2) : Met l yRR_isBad wsRR_isBad ({ frames := 2, cells := 0, slots := 0, locals := 41 }) (va_Pc [.ref h, .int x] (fun U => va_P (dC, dI) vwCl [(h, .inr (3, [.int (nI sg), .ref a, .ref b, .ref d])), (a, .inl (cZ, 24, .inl (fun j9 => nI (pr j9)))), (b, .inl (cI, 24, .inl vs)), (d, .inl (cI, 24, .inl (fun j9 => nI (tc j9))))] U.heap ∧ KX dC dI cI cZ cG U)) (vp_Si (fun r => r = nI (badB pr vs x))) 0 0 (fun _ => False) := by
  refine Met.ofW (cc := cRR_isBad) (maxL := 2) (ret := (some .boolean)) (by decide) rfl ?_
  intro p e s m args below meth c s₁ B hml hv
  obtain ⟨rfl, hP, hKX⟩ := hv
  have hK := hKX.1
  have hx := B.exec
  have hb := B.bytes
  have hr := B.returns
  have hts := atoms_spec (ws := wsRR_isBad) B.pre
  have hown : s.vm.findClass RRR = some m.cls := findClass_of_methodNamed B.named
  have hlocks := B.notSynchronized
  have hl := lv_entry ([.ref h, .int x]) (n := 2) (Nat.le_of_ble_eq_true rfl)
  rw [lg_entry_eq]
  generalize (lg_sl ([.ref h, .int x]) ++ List.replicate (2 - (lg_sl ([.ref h, .int x])).length) Slot.unset).toArray = ls at hl ⊢
  have hl : lv_has ls 2 [(0, .ref h), (1, .int x)] := hl
  generalize hRe : (headSpec wsRR_isBad ({ frames := 2, cells := 0, slots := 0, locals := 41 })).room = R
  have hRf : 2 ≤ R.frames := by rw [← hRe]; exact Nat.le_refl _
  have hRl : 41 ≤ R.locals := by rw [← hRe]; exact Nat.le_refl _
  have hRc : 0 ≤ R.cells := by rw [← hRe]; exact Nat.le_refl _
  have hRs : 0 ≤ R.slots := by rw [← hRe]; exact Nat.le_refl _
  generalize hargs : (List.toArray [.ref h, .int x] : Array Value) = args at hts ⊢
  generalize hQe : MQ below _ args s _ _ _ = Q
  refine lv_aload_n hx hb dRR_isBad_0 rfl (lv_at hl 0 rfl) ?_
  refine lv_iload_n hx hb dRR_isBad_1 rfl (lv_at hl 1 rfl) ?_
  refine vp_callSi (va_runV (C := RRR) (As := [.int x]) (rest := []) ⟨hx, hb, hml, hown, hts⟩ (c_RR_has l dC dI cI cZ cG h a b d sg pr vs tc x (hpr)) (hr_cwV 1 hts kw_466 kw_467 kw_468 kw_31 kw_469 (by decide +kernel) (by rw [← hRe]; exact ⟨Nat.le_of_ble_eq_true rfl, Nat.le_of_ble_eq_true rfl⟩)) (hr_preR hKX hP [0, 1, 2, 3] rfl (ci := 3) (q0 := 0) (q := (RRR, TRR, 4)) rfl rfl) rfl rfl hl.1 rfl (lv_room (Nat.le_of_ble_eq_true rfl)) dRR_isBad_2 ⟨by omega, by omega⟩).run (fun rv hrv => ?_)
  refine hr_eqi hrv ?_
  have hb0 : hasB pr x < 2 := by
    unfold hasB
    split
    · decide
    · exact hpr _ (by obtain ⟨j, hj, rfl⟩ := inB_pos (x := x) (n := 24) (by decide) (by assumption); rw [nI_clamp (by omega)]; exact hj)
  refine hr_if_eq hx hb (x := hasB pr x) (by omega) (tgt := 21) dRR_isBad_5 (by decide) (fun c_1 => ?_) (fun c_1 => ?_)
  · refine lv_iconst (v := nI 0) hx hb dRR_isBad_21 (by decide +kernel) ?_
    rw [← hQe]
    exact W.zret (ty := .boolean) (v := nI 0) hx hb hr (by decide +kernel) (fun t ht hW => ⟨_, rfl, by
        by_cases hin : inB x 24 = 0
        · rw [badB_out hin]
        · obtain ⟨j, hj, rfl⟩ := inB_pos (by decide) hin
          rw [hasB_nI hj] at c_1
          rw [badB_nI hj, if_pos c_1], by rw [ht]⟩) (fun q h => by cases h) dRR_isBad_22
  · have hin : ¬ inB x 24 = 0 := fun q => c_1 (by rw [hasB_out q])
    obtain ⟨j, hj, rfl⟩ := inB_pos (by decide) hin
    rw [hasB_nI hj] at c_1
    refine lv_aload_n hx hb dRR_isBad_8 rfl (lv_at hl 0 rfl) ?_
    refine va_get (D := (dC, dI)) (ci := 3) (v := .ref b) (C := RRR) (T := TRR) (N := 4) hx hb hts (fun w h => List.mem_cons_of_mem _ (inRR w h)) hown hK hP 0 rfl rfl 2 (by decide) (hts _ (List.mem_cons_of_mem _ kw_198)) (fun _ h9 => h9) rfl dRR_isBad_9 ?_
    refine lv_iload_n hx hb dRR_isBad_12 rfl (lv_at hl 1 rfl) ?_
    refine hr_iald hx hb hK hP 2 0 rfl rfl (i := j) (by omega) (by omega) dRR_isBad_13 ?_
    refine lv_if_eq (tgt := 21) hx hb dRR_isBad_14 (by decide) (fun c_2 => ?_) (fun c_2 => ?_)
    · refine lv_iconst (v := nI 0) hx hb dRR_isBad_21 (by decide +kernel) ?_
      rw [← hQe]
      exact W.zret (ty := .boolean) (v := nI 0) hx hb hr (by decide +kernel) (fun t ht hW => ⟨_, rfl, by rw [badB_nI hj, if_neg c_1, if_pos c_2], by rw [ht]⟩) (fun q h => by cases h) dRR_isBad_22
    · refine lv_iconst (v := nI 1) hx hb dRR_isBad_17 (by decide +kernel) ?_
      refine lv_goto (tgt := 22) hx hb dRR_isBad_18 (by decide) ?_
      rw [← hQe]
      exact W.zret (ty := .boolean) (v := nI 1) hx hb hr (by decide +kernel) (fun t ht hW => ⟨_, rfl, by rw [badB_nI hj, if_neg c_1, if_neg c_2], by rw [ht]⟩) (fun q h => by cases h) dRR_isBad_22

set_option maxHeartbeats 4000000 in
set_option maxRecDepth 100000 in
/-- is some RESULT not good -/
theorem c_RR_anyBad (l : Launch) (dC : Nat → ClassId) (dI : Nat → Nat → Nat) (cI cZ cG : ClassId) (h : Nat) (a : Nat) (b : Nat) (d : Nat) (sg : Nat) (pr : Nat → Nat) (vs : Nat → Int32) (tc : Nat → Nat) (hpr : ∀ j, j < 24 → pr j < 2) : Met l yRR_anyBad wsRR_anyBad ({ frames := 3, cells := 0, slots := 0, locals := 62 }) (va_Pc [.ref h] (fun U => va_P (dC, dI) vwCl [(h, .inr (3, [.int (nI sg), .ref a, .ref b, .ref d])), (a, .inl (cZ, 24, .inl (fun j9 => nI (pr j9)))), (b, .inl (cI, 24, .inl vs)), (d, .inl (cI, 24, .inl (fun j9 => nI (tc j9))))] U.heap ∧ KX dC dI cI cZ cG U)) (vp_Si (fun r => r = nI (anyB pr vs 24))) 0 0 (fun _ => False) := by
  refine Met.ofW (cc := cRR_anyBad) (maxL := 2) (ret := (some .boolean)) (by decide) rfl ?_
  intro p e s m args below meth c s₁ B hml hv
  obtain ⟨rfl, hP, hKX⟩ := hv
  have hK := hKX.1
  have hx := B.exec
  have hb := B.bytes
  have hr := B.returns
  have hts := atoms_spec (ws := wsRR_anyBad) B.pre
  have hown : s.vm.findClass RRR = some m.cls := findClass_of_methodNamed B.named
  have hlocks := B.notSynchronized
  have hl := lv_entry ([.ref h]) (n := 2) (Nat.le_of_ble_eq_true rfl)
  rw [lg_entry_eq]
  generalize (lg_sl ([.ref h]) ++ List.replicate (2 - (lg_sl ([.ref h])).length) Slot.unset).toArray = ls at hl ⊢
  have hl : lv_has ls 2 [(0, .ref h)] := hl
  generalize hRe : (headSpec wsRR_anyBad ({ frames := 3, cells := 0, slots := 0, locals := 62 })).room = R
  have hRf : 3 ≤ R.frames := by rw [← hRe]; exact Nat.le_refl _
  have hRl : 62 ≤ R.locals := by rw [← hRe]; exact Nat.le_refl _
  have hRc : 0 ≤ R.cells := by rw [← hRe]; exact Nat.le_refl _
  have hRs : 0 ≤ R.slots := by rw [← hRe]; exact Nat.le_refl _
  generalize hargs : (List.toArray [.ref h] : Array Value) = args at hts ⊢
  generalize hQe : MQ below _ args s _ _ _ = Q
  refine lv_iconst (v := nI 0) hx hb dRR_anyBad_0 (by decide +kernel) ?_
  refine lv_istore_n (lv' := [(1, .int (nI 0)), (0, .ref h)]) hx hb dRR_anyBad_1 rfl hl (by decide) rfl (fun ls hl => ?_)
  have loop_2 : ∀ (n9 : Nat) (i : Nat), i ≤ 24 → anyB pr vs i = 0 → 24 + 1 ≤ i + n9 → ∀ (ls : Array Slot), lv_has ls 2 [(1, .int (nI i)), (0, .ref h)] → W p l e R s m args below meth c s.heap [] 0 0 Q (F0 m 2 ls []) := by
    intro n9
    induction n9 with
    | zero =>
      intro i hi h1 hmeas
      exact absurd hmeas (by omega)
    | succ n9 ih_2 =>
      intro i hi h1 hmeas ls hl
      refine lv_iload_n hx hb dRR_anyBad_2 rfl (lv_at hl 0 rfl) ?_
      refine lv_bipush (v := nI 24) hx hb dRR_anyBad_3 (by decide +kernel) ?_
      refine hr_icmp_ge hx hb (x := i) (y := 24) (by omega) (by omega) (tgt := 24) dRR_anyBad_5 (by decide) (fun c_1 => ?_) (fun c_1 => ?_)
      · have ei : i = 24 := by omega
        subst ei
        refine lv_iconst (v := nI 0) hx hb dRR_anyBad_24 (by decide +kernel) ?_
        rw [← hQe]
        exact W.zret (ty := .boolean) (v := nI 0) hx hb hr (by decide +kernel) (fun t ht hW => ⟨_, rfl, by rw [h1], by rw [ht]⟩) (fun q h => by cases h) dRR_anyBad_25
      · refine lv_aload_n hx hb dRR_anyBad_8 rfl (lv_at hl 1 rfl) ?_
        refine lv_iload_n hx hb dRR_anyBad_9 rfl (lv_at hl 0 rfl) ?_
        refine vp_callSi (va_runV (C := RRR) (As := [.int (nI i)]) (rest := []) ⟨hx, hb, hml, hown, hts⟩ (c_RR_isBad l dC dI cI cZ cG h a b d sg pr vs tc (nI i) (hpr)) (hr_cwV 1 hts kw_462 kw_464 kw_9 kw_31 kw_465 (by decide +kernel) (by rw [← hRe]; exact ⟨Nat.le_of_ble_eq_true rfl, Nat.le_of_ble_eq_true rfl⟩)) (hr_preR hKX hP [0, 1, 2, 3] rfl (ci := 3) (q0 := 0) (q := (RRR, TRR, 4)) rfl rfl) rfl rfl hl.1 rfl (lv_room (Nat.le_of_ble_eq_true rfl)) dRR_anyBad_10 ⟨by omega, by omega⟩).run (fun rv hrv => ?_)
        refine hr_eqi hrv ?_
        have hb0 := badB_lt pr vs (nI i)
        refine hr_if_eq hx hb (x := badB pr vs (nI i)) (by omega) (tgt := 18) dRR_anyBad_13 (by decide) (fun c_2 => ?_) (fun c_2 => ?_)
        · refine lv_iinc (v := nI (i + 1)) (lv' := [(1, .int (nI (i + 1))), (0, .ref h)]) hx hb dRR_anyBad_18 hl (k := 0) rfl (hr_inc _) (by decide) rfl (fun ls hl => ?_)
          refine lv_goto (tgt := 2) hx hb dRR_anyBad_21 (by decide) ?_
          exact ih_2 (i + 1) (by omega) (by rw [anyB, if_pos c_2]; exact h1) (by omega) ls (lv_sub hl [0, 1] rfl)
        · refine lv_iconst (v := nI 1) hx hb dRR_anyBad_16 (by decide +kernel) ?_
          rw [← hQe]
          exact W.zret (ty := .boolean) (v := nI 1) hx hb hr (by decide +kernel) (fun t ht hW => ⟨_, rfl, by rw [anyB_up c_2 (show i < 24 by omega)], by rw [ht]⟩) (fun q h => by cases h) dRR_anyBad_17
  exact loop_2 (24 + 1) 0 (by omega) (rfl) (by omega) ls (lv_sub hl [0, 1] rfl)

set_option maxHeartbeats 4000000 in
set_option maxRecDepth 100000 in
/-- the i-th of the latest draw -/
theorem c_DR_at (l : Launch) (dC : Nat → ClassId) (dI : Nat → Nat → Nat) (cI cZ cG : ClassId) (h : Nat) (a : Nat) (dn : Nat) (wr : Nat → Nat) (x : Int32) (hdn : dn ≤ 24) : Met l yDR_at wsDR_at ({ frames := 0, cells := 0, slots := 0, locals := 0 }) (va_Pc [.ref h, .int x] (fun U => va_P (dC, dI) vwCl [(h, .inr (2, [.int (nI dn), .ref a])), (a, .inl (cI, 24, .inl (fun j9 => nI (wr j9))))] U.heap ∧ KX dC dI cI cZ cG U)) (vp_Si (fun r => r = oI (rowA dn wr x))) 0 0 (fun _ => False) := by
  refine Met.ofW (cc := cDR_at) (maxL := 2) (ret := (some .int)) (by decide) rfl ?_
  intro p e s m args below meth c s₁ B hml hv
  obtain ⟨rfl, hP, hKX⟩ := hv
  have hK := hKX.1
  have hx := B.exec
  have hb := B.bytes
  have hr := B.returns
  have hts := atoms_spec (ws := wsDR_at) B.pre
  have hown : s.vm.findClass RDR = some m.cls := findClass_of_methodNamed B.named
  have hlocks := B.notSynchronized
  have hl := lv_entry ([.ref h, .int x]) (n := 2) (Nat.le_of_ble_eq_true rfl)
  rw [lg_entry_eq]
  generalize (lg_sl ([.ref h, .int x]) ++ List.replicate (2 - (lg_sl ([.ref h, .int x])).length) Slot.unset).toArray = ls at hl ⊢
  have hl : lv_has ls 2 [(0, .ref h), (1, .int x)] := hl
  generalize hRe : (headSpec wsDR_at ({ frames := 0, cells := 0, slots := 0, locals := 0 })).room = R
  have hRf : 0 ≤ R.frames := by rw [← hRe]; exact Nat.le_refl _
  have hRl : 0 ≤ R.locals := by rw [← hRe]; exact Nat.le_refl _
  have hRc : 0 ≤ R.cells := by rw [← hRe]; exact Nat.le_refl _
  have hRs : 0 ≤ R.slots := by rw [← hRe]; exact Nat.le_refl _
  generalize hargs : (List.toArray [.ref h, .int x] : Array Value) = args at hts ⊢
  generalize hQe : MQ below _ args s _ _ _ = Q
  refine lv_iload_n hx hb dDR_at_0 rfl (lv_at hl 1 rfl) ?_
  refine lv_if_lt (tgt := 21) hx hb dDR_at_1 (by decide) (fun c_1 => ?_) (fun c_1 => ?_)
  · refine lv_iconst (v := (-1)) hx hb dDR_at_21 (by decide +kernel) ?_
    rw [← hQe]
    exact W.iret (v := (-1)) hx hb hr (fun t ht hW => ⟨_, rfl, by rw [rowA, if_pos (inB_neg c_1)]; rfl, by rw [ht]⟩) (fun q h => by cases h) dDR_at_22
  · refine lv_iload_n hx hb dDR_at_4 rfl (lv_at hl 1 rfl) ?_
    refine lv_aload_n hx hb dDR_at_5 rfl (lv_at hl 0 rfl) ?_
    refine va_get (D := (dC, dI)) (ci := 2) (v := .int (nI dn)) (C := RDR) (T := TDR) (N := 2) hx hb hts (fun w h => List.mem_cons_of_mem _ (inDR w h)) hown hK hP 0 rfl rfl 0 (by decide) (hts _ (List.mem_cons_of_mem _ kw_216)) (fun _ h9 => h9) rfl dDR_at_6 ?_
    refine lv_icmp_ge (tgt := 21) hx hb dDR_at_9 (by decide) (fun c_2 => ?_) (fun c_2 => ?_)
    · refine lv_iconst (v := (-1)) hx hb dDR_at_21 (by decide +kernel) ?_
      rw [← hQe]
      exact W.iret (v := (-1)) hx hb hr (fun t ht hW => ⟨_, rfl, by rw [rowA, if_pos (inB_big c_1 c_2)]; rfl, by rw [ht]⟩) (fun q h => by cases h) dDR_at_22
    · obtain ⟨j, hj, rfl⟩ := inB_pos (n := dn) (by omega) (by rw [inB_in c_1 c_2]; decide)
      refine lv_aload_n hx hb dDR_at_12 rfl (lv_at hl 0 rfl) ?_
      refine va_get (D := (dC, dI)) (ci := 2) (v := .ref a) (C := RDR) (T := TDR) (N := 2) hx hb hts (fun w h => List.mem_cons_of_mem _ (inDR w h)) hown hK hP 0 rfl rfl 1 (by decide) (hts _ (List.mem_cons_of_mem _ kw_218)) (fun _ h9 => h9) rfl dDR_at_13 ?_
      refine lv_iload_n hx hb dDR_at_16 rfl (lv_at hl 1 rfl) ?_
      refine hr_iald hx hb hK hP 1 0 rfl rfl (i := j) (by omega) (by omega) dDR_at_17 ?_
      refine lv_goto (tgt := 22) hx hb dDR_at_18 (by decide) ?_
      rw [← hQe]
      exact W.iret (v := nI (wr j)) hx hb hr (fun t ht hW => ⟨_, rfl, by rw [rowA, inB_nI hj (by omega), if_neg (by decide), nI_clamp (by omega)]; rfl, by rw [ht]⟩) (fun q h => by cases h) dDR_at_22
end
section
set_option maxHeartbeats 4000000 in
set_option maxRecDepth 100000 in
/-- a row is filled -/
theorem c_AR_fill (l : Launch) (dC : Nat → ClassId) (dI : Nat → Nat → Nat) (cI cZ cG : ClassId) (a : Nat) (N : Nat) (f : Nat → Int32) (x : Int32) (sz : Nat) (hN : N < 2 ^ 31) : Met l yAR_fill wsAR_fill ({ frames := 0, cells := 0, slots := 0, locals := 0 }) (va_Pc [.ref a, .int x] (fun U => U.heap.size = sz ∧ va_P (dC, dI) vwCl [(a, .inl (cI, N, .inl f))] U.heap ∧ KX dC dI cI cZ cG U ∧ va_D (fun _ => True) [(a, .inl (cI, N, .inl f))])) (va_Qv (fun (u : Unit) => True) (fun u t => va_P (dC, dI) vwCl [(a, .inl (cI, N, .inl (fun _ => x)))] t.heap ∧ va_D (va_A [(a, .inl (cI, N, .inl f))] sz) [(a, .inl (cI, N, .inl (fun _ => x)))]) (va_A [(a, .inl (cI, N, .inl f))] sz)) 0 0 (va_A [(a, .inl (cI, N, .inl f))] sz) := by
  refine Met.ofW (cc := cAR_fill) (maxL := 4) (ret := none) (by decide) rfl ?_
  intro p e s m args below meth c s₁ B hml hv
  obtain ⟨rfl, hsz, hP, hKX, hD0⟩ := hv
  have hK := hKX.1
  have hx := B.exec
  have hb := B.bytes
  have hr := B.returns
  have hts := atoms_spec (ws := wsAR_fill) B.pre
  have hown : s.vm.findClass RAR = some m.cls := findClass_of_methodNamed B.named
  have hlocks := B.notSynchronized
  subst hsz
  have hD := hD0.self (sz := s.heap.size)
  generalize hAe : va_A [(a, .inl (cI, N, .inl f))] s.heap.size = A at hD ⊢
  have hA : ∀ q : Nat, s.heap.size ≤ q → A q := fun q h => by rw [← hAe]; exact Or.inr h
  have hS : va_S A s.heap s.heap [] := va_S.rf
  have hl := lv_entry ([.ref a, .int x]) (n := 4) (Nat.le_of_ble_eq_true rfl)
  rw [lg_entry_eq]
  generalize (lg_sl ([.ref a, .int x]) ++ List.replicate (4 - (lg_sl ([.ref a, .int x])).length) Slot.unset).toArray = ls at hl ⊢
  have hl : lv_has ls 4 [(0, .ref a), (1, .int x)] := hl
  generalize hRe : (headSpec wsAR_fill ({ frames := 0, cells := 0, slots := 0, locals := 0 })).room = R
  have hRf : 0 ≤ R.frames := by rw [← hRe]; exact Nat.le_refl _
  have hRl : 0 ≤ R.locals := by rw [← hRe]; exact Nat.le_refl _
  have hRc : 0 ≤ R.cells := by rw [← hRe]; exact Nat.le_refl _
  have hRs : 0 ≤ R.slots := by rw [← hRe]; exact Nat.le_refl _
  generalize hargs : (List.toArray [.ref a, .int x] : Array Value) = args at hts ⊢
  generalize hQe : MQ below _ args s _ _ _ = Q
  refine lv_iconst (v := nI 0) hx hb dAR_fill_0 (by decide +kernel) ?_
  refine lv_istore_n (lv' := [(2, .int (nI 0)), (0, .ref a), (1, .int x)]) hx hb dAR_fill_1 rfl hl (by decide) rfl (fun ls hl => ?_)
  refine lv_aload_n hx hb dAR_fill_2 rfl (lv_at hl 1 rfl) ?_
  refine va_alen (v := nI N) hx hb hK hP 0 0 rfl rfl rfl dAR_fill_3 ?_
  refine lv_istore_n (lv' := [(3, .int (nI N)), (2, .int (nI 0)), (0, .ref a), (1, .int x)]) hx hb dAR_fill_4 rfl hl (by decide) rfl (fun ls hl => ?_)
  rw [← fillF_0 f x] at hP hD
  have loop_5 : ∀ (n9 : Nat) (i : Nat), i ≤ N → N + 1 ≤ i + n9 → ∀ (H : Heap) (locs : List Loc), va_P (dC, dI) vwCl [(a, .inl (cI, N, .inl (fillF f x i)))] H → va_D A [(a, .inl (cI, N, .inl (fillF f x i)))] → va_S A s.heap H locs → ∀ (ls : Array Slot), lv_has ls 4 [(2, .int (nI i)), (3, .int (nI N)), (0, .ref a), (1, .int x)] → W p l e R s m args below meth c H locs 0 0 Q (F0 m 5 ls []) := by
    intro n9
    induction n9 with
    | zero =>
      intro i hi hmeas
      exact absurd hmeas (by omega)
    | succ n9 ih_5 =>
      intro i hi hmeas H locs hP hD hS ls hl
      refine lv_iload_n hx hb dAR_fill_5 rfl (lv_at hl 0 rfl) ?_
      refine lv_iload_n hx hb dAR_fill_6 rfl (lv_at hl 1 rfl) ?_
      refine hr_icmp_ge hx hb (x := i) (y := N) (by omega) (by omega) (tgt := 20) dAR_fill_7 (by decide) (fun c_1 => ?_) (fun c_1 => ?_)
      · have ei : i = N := by omega
        subst ei
        have hP := hr_extP 0 (fun _ => x) rfl (fun j hj => fillF_in hj) hP
        have hD := hr_extD 0 (fun _ => x) rfl hD
        have hP : va_P (dC, dI) vwCl [(a, .inl (cI, i, .inl (fun _ => x)))] H := hP
        have hD : va_D A [(a, .inl (cI, i, .inl (fun _ => x)))] := hD
        rw [← hQe]
        exact W.vret hx hb hr (fun t ht hW => ⟨⟨(), rfl, trivial, by rw [ht]; exact hP, hD⟩, hS.F ht⟩) hS.2.2 dAR_fill_20
      · refine lv_aload_n hx hb dAR_fill_10 rfl (lv_at hl 2 rfl) ?_
        refine lv_iload_n hx hb dAR_fill_11 rfl (lv_at hl 0 rfl) ?_
        refine lv_iload_n hx hb dAR_fill_12 rfl (lv_at hl 3 rfl) ?_
        refine hr_iast hx hb hK hP hD hS 0 0 rfl rfl (i := i) (by omega) (by omega) dAR_fill_13 (fun H locs hP hD hS => ?_)
        have hP : va_P (dC, dI) vwCl [(a, .inl (cI, N, .inl (upd (fillF f x i) i x)))] H := hP
        have hD : va_D A [(a, .inl (cI, N, .inl (upd (fillF f x i) i x)))] := hD
        refine lv_iinc (v := nI (i + 1)) (lv' := [(2, .int (nI (i + 1))), (3, .int (nI N)), (0, .ref a), (1, .int x)]) hx hb dAR_fill_14 hl (k := 0) rfl (hr_inc _) (by decide) rfl (fun ls hl => ?_)
        refine lv_goto (tgt := 5) hx hb dAR_fill_17 (by decide) ?_
        rw [fillF_up] at hP hD
        exact ih_5 (i + 1) (by omega) (by omega) _ _ hP hD hS ls (lv_sub hl [0, 1, 2, 3] rfl)
  exact loop_5 (N + 1) 0 (by omega) (by omega) _ _ hP hD hS ls (lv_sub hl [1, 0, 2, 3] rfl)

set_option maxHeartbeats 4000000 in
set_option maxRecDepth 100000 in
/-- RESULTS go -/
theorem c_RR_forget (l : Launch) (dC : Nat → ClassId) (dI : Nat → Nat → Nat) (cI cZ cG : ClassId) (h : Nat) (a : Nat) (b : Nat) (d : Nat) (sg : Nat) (pr : Nat → Nat) (vs : Nat → Int32) (tc : Nat → Nat) (sz : Nat) : Met l yRR_forget wsRR_forget ({ frames := 1, cells := 0, slots := 0, locals := 23 }) (va_Pc [.ref h] (fun U => U.heap.size = sz ∧ va_P (dC, dI) vwCl [(h, .inr (3, [.int (nI sg), .ref a, .ref b, .ref d])), (a, .inl (cZ, 24, .inl (fun j9 => nI (pr j9)))), (b, .inl (cI, 24, .inl vs)), (d, .inl (cI, 24, .inl (fun j9 => nI (tc j9))))] U.heap ∧ KX dC dI cI cZ cG U ∧ va_D (fun _ => True) [(h, .inr (3, [.int (nI sg), .ref a, .ref b, .ref d])), (a, .inl (cZ, 24, .inl (fun j9 => nI (pr j9)))), (b, .inl (cI, 24, .inl vs)), (d, .inl (cI, 24, .inl (fun j9 => nI (tc j9))))])) (va_Qv (fun (u : Unit) => True) (fun u t => va_P (dC, dI) vwCl [(h, .inr (3, [.int (nI 0), .ref a, .ref b, .ref d])), (a, .inl (cZ, 24, .inl (fun j9 => nI ((fun _ => 0) j9)))), (b, .inl (cI, 24, .inl vs)), (d, .inl (cI, 24, .inl (fun j9 => nI ((fun _ => 0) j9))))] t.heap ∧ va_D (va_A [(h, .inr (3, [.int (nI sg), .ref a, .ref b, .ref d])), (a, .inl (cZ, 24, .inl (fun j9 => nI (pr j9)))), (b, .inl (cI, 24, .inl vs)), (d, .inl (cI, 24, .inl (fun j9 => nI (tc j9))))] sz) [(h, .inr (3, [.int (nI 0), .ref a, .ref b, .ref d])), (a, .inl (cZ, 24, .inl (fun j9 => nI ((fun _ => 0) j9)))), (b, .inl (cI, 24, .inl vs)), (d, .inl (cI, 24, .inl (fun j9 => nI ((fun _ => 0) j9))))]) (va_A [(h, .inr (3, [.int (nI sg), .ref a, .ref b, .ref d])), (a, .inl (cZ, 24, .inl (fun j9 => nI (pr j9)))), (b, .inl (cI, 24, .inl vs)), (d, .inl (cI, 24, .inl (fun j9 => nI (tc j9))))] sz)) 0 0 (va_A [(h, .inr (3, [.int (nI sg), .ref a, .ref b, .ref d])), (a, .inl (cZ, 24, .inl (fun j9 => nI (pr j9)))), (b, .inl (cI, 24, .inl vs)), (d, .inl (cI, 24, .inl (fun j9 => nI (tc j9))))] sz) := by
  refine Met.ofW (cc := cRR_forget) (maxL := 2) (ret := none) (by decide) rfl ?_
  intro p e s m args below meth c s₁ B hml hv
  obtain ⟨rfl, hsz, hP, hKX, hD0⟩ := hv
  have hK := hKX.1
  have hx := B.exec
  have hb := B.bytes
  have hr := B.returns
  have hts := atoms_spec (ws := wsRR_forget) B.pre
  have hown : s.vm.findClass RRR = some m.cls := findClass_of_methodNamed B.named
  have hlocks := B.notSynchronized
  subst hsz
  have hD := hD0.self (sz := s.heap.size)
  generalize hAe : va_A [(h, .inr (3, [.int (nI sg), .ref a, .ref b, .ref d])), (a, .inl (cZ, 24, .inl (fun j9 => nI (pr j9)))), (b, .inl (cI, 24, .inl vs)), (d, .inl (cI, 24, .inl (fun j9 => nI (tc j9))))] s.heap.size = A at hD ⊢
  have hA : ∀ q : Nat, s.heap.size ≤ q → A q := fun q h => by rw [← hAe]; exact Or.inr h
  have hS : va_S A s.heap s.heap [] := va_S.rf
  have hl := lv_entry ([.ref h]) (n := 2) (Nat.le_of_ble_eq_true rfl)
  rw [lg_entry_eq]
  generalize (lg_sl ([.ref h]) ++ List.replicate (2 - (lg_sl ([.ref h])).length) Slot.unset).toArray = ls at hl ⊢
  have hl : lv_has ls 2 [(0, .ref h)] := hl
  generalize hRe : (headSpec wsRR_forget ({ frames := 1, cells := 0, slots := 0, locals := 23 })).room = R
  have hRf : 1 ≤ R.frames := by rw [← hRe]; exact Nat.le_refl _
  have hRl : 23 ≤ R.locals := by rw [← hRe]; exact Nat.le_refl _
  have hRc : 0 ≤ R.cells := by rw [← hRe]; exact Nat.le_refl _
  have hRs : 0 ≤ R.slots := by rw [← hRe]; exact Nat.le_refl _
  generalize hargs : (List.toArray [.ref h] : Array Value) = args at hts ⊢
  generalize hQe : MQ below _ args s _ _ _ = Q
  refine lv_aload_n hx hb dRR_forget_0 rfl (lv_at hl 0 rfl) ?_
  refine lv_iconst (v := nI 0) hx hb dRR_forget_1 (by decide +kernel) ?_
  refine va_put (D := (dC, dI)) (ci := 3) (v := .int (nI 0)) (ty := .int) (C := RRR) (T := TRR) (N := 4) hx hb hts (fun w h => List.mem_cons_of_mem _ (inRR w h)) tyRR tyRR_ok nmRR hown hK hP hD hS 0 rfl rfl 0 (by decide) (hts _ (List.mem_cons_of_mem _ kw_195)) (fun _ h9 => h9) rfl (by decide +kernel) rfl rfl (Nat.le_of_ble_eq_true rfl) dRR_forget_2 (fun H locs hP hD hS => ?_)
  have hP : va_P (dC, dI) vwCl [(h, .inr (3, [.int (nI 0), .ref a, .ref b, .ref d])), (a, .inl (cZ, 24, .inl (fun j9 => nI (pr j9)))), (b, .inl (cI, 24, .inl vs)), (d, .inl (cI, 24, .inl (fun j9 => nI (tc j9))))] H := hP
  have hD : va_D A [(h, .inr (3, [.int (nI 0), .ref a, .ref b, .ref d])), (a, .inl (cZ, 24, .inl (fun j9 => nI (pr j9)))), (b, .inl (cI, 24, .inl vs)), (d, .inl (cI, 24, .inl (fun j9 => nI (tc j9))))] := hD
  refine lv_aload_n hx hb dRR_forget_5 rfl (lv_at hl 0 rfl) ?_
  refine va_get (D := (dC, dI)) (ci := 3) (v := .ref d) (C := RRR) (T := TRR) (N := 4) hx hb hts (fun w h => List.mem_cons_of_mem _ (inRR w h)) hown hK hP 0 rfl rfl 3 (by decide) (hts _ (List.mem_cons_of_mem _ kw_199)) (fun _ h9 => h9) rfl dRR_forget_6 ?_
  refine lv_iconst (v := nI 0) hx hb dRR_forget_9 (by decide +kernel) ?_
  refine hr_callv (wr := [(h, .inr (3, [.int (nI 0), .ref a, .ref b, .ref d])), (a, .inl (cZ, 24, .inl (fun j9 => nI (pr j9)))), (b, .inl (cI, 24, .inl vs))]) (va_runS (As := [.ref d, .int (nI 0)]) (rest := []) ⟨hx, hb, hml, hown, hts⟩ (c_AR_fill l dC dI cI cZ cG d 24 (fun j9 => nI (tc j9)) (nI 0) H.size (by decide)) (hr_cwS 2 hts kw_398 kw_167 kw_30 kw_168 (by decide +kernel) (by rw [← hRe]; exact ⟨Nat.le_of_ble_eq_true rfl, Nat.le_of_ble_eq_true rfl⟩)) (hr_preWS hKX hP hD [3] (by decide) rfl) rfl rfl hl.1 rfl (lv_room (Nat.le_of_ble_eq_true rfl)) dRR_forget_10 ⟨by omega, by omega⟩) hP hD hS hA [3] [0, 1, 2] rfl rfl (by decide) (by decide) [0, 1, 2, 3] (fun u => [(h, .inr (3, [.int (nI 0), .ref a, .ref b, .ref d])), (a, .inl (cZ, 24, .inl (fun j9 => nI (pr j9)))), (b, .inl (cI, 24, .inl vs)), (d, .inl (cI, 24, .inl (fun j9 => nI ((fun _ => 0) j9))))]) (by decide) (fun u => rfl) (fun u H locs hrv hP hD hS => ?_)
  have hP : va_P (dC, dI) vwCl [(h, .inr (3, [.int (nI 0), .ref a, .ref b, .ref d])), (a, .inl (cZ, 24, .inl (fun j9 => nI (pr j9)))), (b, .inl (cI, 24, .inl vs)), (d, .inl (cI, 24, .inl (fun j9 => nI ((fun _ => 0) j9))))] H := hP
  have hD : va_D A [(h, .inr (3, [.int (nI 0), .ref a, .ref b, .ref d])), (a, .inl (cZ, 24, .inl (fun j9 => nI (pr j9)))), (b, .inl (cI, 24, .inl vs)), (d, .inl (cI, 24, .inl (fun j9 => nI ((fun _ => 0) j9))))] := hD
  refine lv_iconst (v := nI 0) hx hb dRR_forget_13 (by decide +kernel) ?_
  refine lv_istore_n (lv' := [(1, .int (nI 0)), (0, .ref h)]) hx hb dRR_forget_14 rfl hl (by decide) rfl (fun ls hl => ?_)
  rw [← fillF_0 pr 0] at hP hD
  have loop_15 : ∀ (n9 : Nat) (i : Nat), i ≤ 24 → 24 + 1 ≤ i + n9 → ∀ (H : Heap) (locs : List Loc), va_P (dC, dI) vwCl [(h, .inr (3, [.int (nI 0), .ref a, .ref b, .ref d])), (a, .inl (cZ, 24, .inl (fun j9 => nI ((fillF pr 0 i) j9)))), (b, .inl (cI, 24, .inl vs)), (d, .inl (cI, 24, .inl (fun j9 => nI ((fun _ => 0) j9))))] H → va_D A [(h, .inr (3, [.int (nI 0), .ref a, .ref b, .ref d])), (a, .inl (cZ, 24, .inl (fun j9 => nI ((fillF pr 0 i) j9)))), (b, .inl (cI, 24, .inl vs)), (d, .inl (cI, 24, .inl (fun j9 => nI ((fun _ => 0) j9))))] → va_S A s.heap H locs → ∀ (ls : Array Slot), lv_has ls 2 [(1, .int (nI i)), (0, .ref h)] → W p l e R s m args below meth c H locs 0 0 Q (F0 m 15 ls []) := by
    intro n9
    induction n9 with
    | zero =>
      intro i hi hmeas
      exact absurd hmeas (by omega)
    | succ n9 ih_15 =>
      intro i hi hmeas H locs hP hD hS ls hl
      refine lv_iload_n hx hb dRR_forget_15 rfl (lv_at hl 0 rfl) ?_
      refine lv_bipush (v := nI 24) hx hb dRR_forget_16 (by decide +kernel) ?_
      refine hr_icmp_ge hx hb (x := i) (y := 24) (by omega) (by omega) (tgt := 34) dRR_forget_18 (by decide) (fun c_1 => ?_) (fun c_1 => ?_)
      · have ei : i = 24 := by omega
        subst ei
        have hP := hr_extP 1 (fun j9 => nI ((fun _ => 0) j9)) rfl (fun j hj => by rw [fillF_in hj]) hP
        have hD := hr_extD 1 (fun j9 => nI ((fun _ => 0) j9)) rfl hD
        have hP : va_P (dC, dI) vwCl [(h, .inr (3, [.int (nI 0), .ref a, .ref b, .ref d])), (a, .inl (cZ, 24, .inl (fun j9 => nI ((fun _ => 0) j9)))), (b, .inl (cI, 24, .inl vs)), (d, .inl (cI, 24, .inl (fun j9 => nI ((fun _ => 0) j9))))] H := hP
        have hD : va_D A [(h, .inr (3, [.int (nI 0), .ref a, .ref b, .ref d])), (a, .inl (cZ, 24, .inl (fun j9 => nI ((fun _ => 0) j9)))), (b, .inl (cI, 24, .inl vs)), (d, .inl (cI, 24, .inl (fun j9 => nI ((fun _ => 0) j9))))] := hD
        rw [← hQe]
        exact W.vret hx hb hr (fun t ht hW => ⟨⟨(), rfl, trivial, by rw [ht]; exact hP, hD⟩, hS.F ht⟩) hS.2.2 dRR_forget_34
      · refine lv_aload_n hx hb dRR_forget_21 rfl (lv_at hl 1 rfl) ?_
        refine va_get (D := (dC, dI)) (ci := 3) (v := .ref a) (C := RRR) (T := TRR) (N := 4) hx hb hts (fun w h => List.mem_cons_of_mem _ (inRR w h)) hown hK hP 0 rfl rfl 1 (by decide) (hts _ (List.mem_cons_of_mem _ kw_197)) (fun _ h9 => h9) rfl dRR_forget_22 ?_
        refine lv_iload_n hx hb dRR_forget_25 rfl (lv_at hl 0 rfl) ?_
        refine lv_iconst (v := nI 0) hx hb dRR_forget_26 (by decide +kernel) ?_
        refine hr_zastN hx hb hK hP hD hS 1 1 rfl rfl (i := i) (by omega) (by omega) (by omega) dRR_forget_27 (fun H locs hP hD hS => ?_)
        have hP : va_P (dC, dI) vwCl [(h, .inr (3, [.int (nI 0), .ref a, .ref b, .ref d])), (a, .inl (cZ, 24, .inl (fun j9 => nI ((va_up (fillF pr 0 i) i 0) j9)))), (b, .inl (cI, 24, .inl vs)), (d, .inl (cI, 24, .inl (fun j9 => nI ((fun _ => 0) j9))))] H := hP
        have hD : va_D A [(h, .inr (3, [.int (nI 0), .ref a, .ref b, .ref d])), (a, .inl (cZ, 24, .inl (fun j9 => nI ((va_up (fillF pr 0 i) i 0) j9)))), (b, .inl (cI, 24, .inl vs)), (d, .inl (cI, 24, .inl (fun j9 => nI ((fun _ => 0) j9))))] := hD
        refine lv_iinc (v := nI (i + 1)) (lv' := [(1, .int (nI (i + 1))), (0, .ref h)]) hx hb dRR_forget_28 hl (k := 0) rfl (hr_inc _) (by decide) rfl (fun ls hl => ?_)
        refine lv_goto (tgt := 15) hx hb dRR_forget_31 (by decide) ?_
        rw [fillF_upN] at hP hD
        exact ih_15 (i + 1) (by omega) (by omega) _ _ hP hD hS ls (lv_sub hl [0, 1] rfl)
  exact loop_15 (24 + 1) 0 (by omega) (by omega) _ _ hP hD hS ls (lv_sub hl [0, 1] rfl)

set_option maxHeartbeats 4000000 in
set_option maxRecDepth 100000 in
/-- a RESULT -/
theorem c_RR_put (l : Launch) (dC : Nat → ClassId) (dI : Nat → Nat → Nat) (cI cZ cG : ClassId) (h : Nat) (a : Nat) (b : Nat) (d : Nat) (sg : Nat) (pr : Nat → Nat) (vs : Nat → Int32) (tc : Nat → Nat) (x : Int32) (y : Int32) (sz : Nat) (hpr : ∀ j, j < 24 → pr j < 2) : Met l yRR_put wsRR_put ({ frames := 1, cells := 0, slots := 0, locals := 20 }) (va_Pc [.ref h, .int x, .int y] (fun U => U.heap.size = sz ∧ va_P (dC, dI) vwCl [(h, .inr (3, [.int (nI sg), .ref a, .ref b, .ref d])), (a, .inl (cZ, 24, .inl (fun j9 => nI (pr j9)))), (b, .inl (cI, 24, .inl vs)), (d, .inl (cI, 24, .inl (fun j9 => nI (tc j9))))] U.heap ∧ KX dC dI cI cZ cG U ∧ va_D (fun _ => True) [(h, .inr (3, [.int (nI sg), .ref a, .ref b, .ref d])), (a, .inl (cZ, 24, .inl (fun j9 => nI (pr j9)))), (b, .inl (cI, 24, .inl vs)), (d, .inl (cI, 24, .inl (fun j9 => nI (tc j9))))])) (va_Qi (fun (r : Int32) (u : Unit) => r = nI ((putN pr x).elim 0 (fun _ => 1))) (fun u t => va_P (dC, dI) vwCl [(h, .inr (3, [.int (nI sg), .ref a, .ref b, .ref d])), (a, .inl (cZ, 24, .inl (fun j9 => nI (((putN pr x).elim pr (fun j => va_up pr j 1)) j9)))), (b, .inl (cI, 24, .inl ((putN pr x).elim vs (fun j => upd vs j y)))), (d, .inl (cI, 24, .inl (fun j9 => nI (((putN pr x).elim tc (fun j => va_up tc j (tc j + 1))) j9))))] t.heap ∧ va_D (va_A [(h, .inr (3, [.int (nI sg), .ref a, .ref b, .ref d])), (a, .inl (cZ, 24, .inl (fun j9 => nI (pr j9)))), (b, .inl (cI, 24, .inl vs)), (d, .inl (cI, 24, .inl (fun j9 => nI (tc j9))))] sz) [(h, .inr (3, [.int (nI sg), .ref a, .ref b, .ref d])), (a, .inl (cZ, 24, .inl (fun j9 => nI (((putN pr x).elim pr (fun j => va_up pr j 1)) j9)))), (b, .inl (cI, 24, .inl ((putN pr x).elim vs (fun j => upd vs j y)))), (d, .inl (cI, 24, .inl (fun j9 => nI (((putN pr x).elim tc (fun j => va_up tc j (tc j + 1))) j9))))]) (va_A [(h, .inr (3, [.int (nI sg), .ref a, .ref b, .ref d])), (a, .inl (cZ, 24, .inl (fun j9 => nI (pr j9)))), (b, .inl (cI, 24, .inl vs)), (d, .inl (cI, 24, .inl (fun j9 => nI (tc j9))))] sz)) 0 0 (va_A [(h, .inr (3, [.int (nI sg), .ref a, .ref b, .ref d])), (a, .inl (cZ, 24, .inl (fun j9 => nI (pr j9)))), (b, .inl (cI, 24, .inl vs)), (d, .inl (cI, 24, .inl (fun j9 => nI (tc j9))))] sz) := by
  refine Met.ofW (cc := cRR_put) (maxL := 3) (ret := (some .boolean)) (by decide) rfl ?_
  intro p e s m args below meth c s₁ B hml hv
  obtain ⟨rfl, hsz, hP, hKX, hD0⟩ := hv
  have hK := hKX.1
  have hx := B.exec
  have hb := B.bytes
  have hr := B.returns
  have hts := atoms_spec (ws := wsRR_put) B.pre
  have hown : s.vm.findClass RRR = some m.cls := findClass_of_methodNamed B.named
  have hlocks := B.notSynchronized
  subst hsz
  have hD := hD0.self (sz := s.heap.size)
  generalize hAe : va_A [(h, .inr (3, [.int (nI sg), .ref a, .ref b, .ref d])), (a, .inl (cZ, 24, .inl (fun j9 => nI (pr j9)))), (b, .inl (cI, 24, .inl vs)), (d, .inl (cI, 24, .inl (fun j9 => nI (tc j9))))] s.heap.size = A at hD ⊢
  have hA : ∀ q : Nat, s.heap.size ≤ q → A q := fun q h => by rw [← hAe]; exact Or.inr h
  have hS : va_S A s.heap s.heap [] := va_S.rf
  have hl := lv_entry ([.ref h, .int x, .int y]) (n := 3) (Nat.le_of_ble_eq_true rfl)
  rw [lg_entry_eq]
  generalize (lg_sl ([.ref h, .int x, .int y]) ++ List.replicate (3 - (lg_sl ([.ref h, .int x, .int y])).length) Slot.unset).toArray = ls at hl ⊢
  have hl : lv_has ls 3 [(0, .ref h), (1, .int x), (2, .int y)] := hl
  generalize hRe : (headSpec wsRR_put ({ frames := 1, cells := 0, slots := 0, locals := 20 })).room = R
  have hRf : 1 ≤ R.frames := by rw [← hRe]; exact Nat.le_refl _
  have hRl : 20 ≤ R.locals := by rw [← hRe]; exact Nat.le_refl _
  have hRc : 0 ≤ R.cells := by rw [← hRe]; exact Nat.le_refl _
  have hRs : 0 ≤ R.slots := by rw [← hRe]; exact Nat.le_refl _
  generalize hargs : (List.toArray [.ref h, .int x, .int y] : Array Value) = args at hts ⊢
  generalize hQe : MQ below _ args s _ _ _ = Q
  refine lv_iload_n hx hb dRR_put_0 rfl (lv_at hl 1 rfl) ?_
  refine vp_callSi (va_runSN (As := [.int x]) (rest := []) ⟨hx, hb, hml, hown, hts⟩ (c_SR_isTestNumber l dC dI cI cZ cG x) (hr_cnS 1 hts hKX.2.2 kw_338 kw_23 kw_339 (by decide +kernel) (by rw [← hRe]; exact ⟨Nat.le_of_ble_eq_true rfl, Nat.le_of_ble_eq_true rfl⟩)) (hr_preRS hKX hP [] rfl) rfl rfl hl.1 rfl (lv_room (Nat.le_of_ble_eq_true rfl)) dRR_put_1 ⟨by omega, by omega⟩).run (fun rv hrv => ?_)
  refine hr_eqi hrv ?_
  have hb0 := inB_lt x 24
  refine hr_if_eq hx hb (x := inB x 24) (by omega) (tgt := 16) dRR_put_4 (by decide) (fun c_1 => ?_) (fun c_1 => ?_)
  · refine lv_iconst (v := nI 0) hx hb dRR_put_16 (by decide +kernel) ?_
    have ez : putN pr x = none := by simp [putN, c_1]
    rw [← hQe]
    exact W.zret (ty := .boolean) (v := nI 0) hx hb hr (by decide +kernel) (fun t ht hW => ⟨⟨_, (), rfl, by rw [ez]; rfl, by rw [ht, ez]; exact hP, by rw [ez]; exact hD⟩, hS.F ht⟩) hS.2.2 dRR_put_17
  · obtain ⟨j, hj, rfl⟩ := inB_pos (by decide) c_1
    have hpj := hpr j hj
    refine lv_aload_n hx hb dRR_put_7 rfl (lv_at hl 0 rfl) ?_
    refine va_get (D := (dC, dI)) (ci := 3) (v := .ref a) (C := RRR) (T := TRR) (N := 4) hx hb hts (fun w h => List.mem_cons_of_mem _ (inRR w h)) hown hK hP 0 rfl rfl 1 (by decide) (hts _ (List.mem_cons_of_mem _ kw_197)) (fun _ h9 => h9) rfl dRR_put_8 ?_
    refine lv_iload_n hx hb dRR_put_11 rfl (lv_at hl 1 rfl) ?_
    refine hr_zald hx hb hK hP 1 1 rfl rfl (i := j) (by omega) (by omega) dRR_put_12 ?_
    refine hr_if_eq hx hb (x := (pr j)) (by omega) (tgt := 18) dRR_put_13 (by decide) (fun c_2 => ?_) (fun c_2 => ?_)
    · refine lv_aload_n hx hb dRR_put_18 rfl (lv_at hl 0 rfl) ?_
      refine va_get (D := (dC, dI)) (ci := 3) (v := .ref a) (C := RRR) (T := TRR) (N := 4) hx hb hts (fun w h => List.mem_cons_of_mem _ (inRR w h)) hown hK hP 0 rfl rfl 1 (by decide) (hts _ (List.mem_cons_of_mem _ kw_197)) (fun _ h9 => h9) rfl dRR_put_19 ?_
      refine lv_iload_n hx hb dRR_put_22 rfl (lv_at hl 1 rfl) ?_
      refine lv_iconst (v := nI 1) hx hb dRR_put_23 (by decide +kernel) ?_
      refine hr_zastN hx hb hK hP hD hS 1 1 rfl rfl (i := j) (by omega) (by omega) (by omega) dRR_put_24 (fun H locs hP hD hS => ?_)
      have hP : va_P (dC, dI) vwCl [(h, .inr (3, [.int (nI sg), .ref a, .ref b, .ref d])), (a, .inl (cZ, 24, .inl (fun j9 => nI ((va_up pr j 1) j9)))), (b, .inl (cI, 24, .inl vs)), (d, .inl (cI, 24, .inl (fun j9 => nI (tc j9))))] H := hP
      have hD : va_D A [(h, .inr (3, [.int (nI sg), .ref a, .ref b, .ref d])), (a, .inl (cZ, 24, .inl (fun j9 => nI ((va_up pr j 1) j9)))), (b, .inl (cI, 24, .inl vs)), (d, .inl (cI, 24, .inl (fun j9 => nI (tc j9))))] := hD
      refine lv_aload_n hx hb dRR_put_25 rfl (lv_at hl 0 rfl) ?_
      refine va_get (D := (dC, dI)) (ci := 3) (v := .ref b) (C := RRR) (T := TRR) (N := 4) hx hb hts (fun w h => List.mem_cons_of_mem _ (inRR w h)) hown hK hP 0 rfl rfl 2 (by decide) (hts _ (List.mem_cons_of_mem _ kw_198)) (fun _ h9 => h9) rfl dRR_put_26 ?_
      refine lv_iload_n hx hb dRR_put_29 rfl (lv_at hl 1 rfl) ?_
      refine lv_iload_n hx hb dRR_put_30 rfl (lv_at hl 2 rfl) ?_
      refine hr_iast hx hb hK hP hD hS 2 0 rfl rfl (i := j) (by omega) (by omega) dRR_put_31 (fun H locs hP hD hS => ?_)
      have hP : va_P (dC, dI) vwCl [(h, .inr (3, [.int (nI sg), .ref a, .ref b, .ref d])), (a, .inl (cZ, 24, .inl (fun j9 => nI ((va_up pr j 1) j9)))), (b, .inl (cI, 24, .inl (upd vs j y))), (d, .inl (cI, 24, .inl (fun j9 => nI (tc j9))))] H := hP
      have hD : va_D A [(h, .inr (3, [.int (nI sg), .ref a, .ref b, .ref d])), (a, .inl (cZ, 24, .inl (fun j9 => nI ((va_up pr j 1) j9)))), (b, .inl (cI, 24, .inl (upd vs j y))), (d, .inl (cI, 24, .inl (fun j9 => nI (tc j9))))] := hD
      refine lv_aload_n hx hb dRR_put_32 rfl (lv_at hl 0 rfl) ?_
      refine va_get (D := (dC, dI)) (ci := 3) (v := .ref d) (C := RRR) (T := TRR) (N := 4) hx hb hts (fun w h => List.mem_cons_of_mem _ (inRR w h)) hown hK hP 0 rfl rfl 3 (by decide) (hts _ (List.mem_cons_of_mem _ kw_199)) (fun _ h9 => h9) rfl dRR_put_33 ?_
      refine lv_iload_n hx hb dRR_put_36 rfl (lv_at hl 1 rfl) ?_
      refine lv_dup2_11 hx hb dRR_put_37 rfl rfl ?_
      refine hr_iald hx hb hK hP 3 0 rfl rfl (i := j) (by omega) (by omega) dRR_put_38 ?_
      refine lv_iconst (v := nI 1) hx hb dRR_put_39 (by decide +kernel) ?_
      refine lv_iadd hx hb dRR_put_40 ?_
      refine hr_eqi (nI_add _ _) ?_
      refine hr_iastN hx hb hK hP hD hS 3 0 rfl rfl (i := j) (by omega) (by omega) dRR_put_41 (fun H locs hP hD hS => ?_)
      have hP : va_P (dC, dI) vwCl [(h, .inr (3, [.int (nI sg), .ref a, .ref b, .ref d])), (a, .inl (cZ, 24, .inl (fun j9 => nI ((va_up pr j 1) j9)))), (b, .inl (cI, 24, .inl (upd vs j y))), (d, .inl (cI, 24, .inl (fun j9 => nI ((va_up tc j ((tc j) + 1)) j9))))] H := hP
      have hD : va_D A [(h, .inr (3, [.int (nI sg), .ref a, .ref b, .ref d])), (a, .inl (cZ, 24, .inl (fun j9 => nI ((va_up pr j 1) j9)))), (b, .inl (cI, 24, .inl (upd vs j y))), (d, .inl (cI, 24, .inl (fun j9 => nI ((va_up tc j ((tc j) + 1)) j9))))] := hD
      refine lv_iconst (v := nI 1) hx hb dRR_put_42 (by decide +kernel) ?_
      have ez : putN pr (nI j) = some j := by simp [putN, inB_nI hj (show 24 < 2 ^ 31 by decide), nI_clamp (show j < 2 ^ 31 by omega), c_2]
      rw [← hQe]
      exact W.zret (ty := .boolean) (v := nI 1) hx hb hr (by decide +kernel) (fun t ht hW => ⟨⟨_, (), rfl, by rw [ez]; rfl, by rw [ht, ez]; exact hP, by rw [ez]; exact hD⟩, hS.F ht⟩) hS.2.2 dRR_put_43
    · refine lv_iconst (v := nI 0) hx hb dRR_put_16 (by decide +kernel) ?_
      have ez : putN pr (nI j) = none := by simp [putN, inB_nI hj (show 24 < 2 ^ 31 by decide), nI_clamp (show j < 2 ^ 31 by omega), c_2]
      rw [← hQe]
      exact W.zret (ty := .boolean) (v := nI 0) hx hb hr (by decide +kernel) (fun t ht hW => ⟨⟨_, (), rfl, by rw [ez]; rfl, by rw [ht, ez]; exact hP, by rw [ez]; exact hD⟩, hS.F ht⟩) hS.2.2 dRR_put_17

set_option maxHeartbeats 4000000 in
set_option maxRecDepth 100000 in
/-- a RESULT is dropped -/
theorem c_RR_dropBad (l : Launch) (dC : Nat → ClassId) (dI : Nat → Nat → Nat) (cI cZ cG : ClassId) (h : Nat) (a : Nat) (b : Nat) (d : Nat) (sg : Nat) (pr : Nat → Nat) (vs : Nat → Int32) (tc : Nat → Nat) (x : Int32) (sz : Nat) (hpr : ∀ j, j < 24 → pr j < 2) : Met l yRR_dropBad wsRR_dropBad ({ frames := 3, cells := 0, slots := 0, locals := 62 }) (va_Pc [.ref h, .int x] (fun U => U.heap.size = sz ∧ va_P (dC, dI) vwCl [(h, .inr (3, [.int (nI sg), .ref a, .ref b, .ref d])), (a, .inl (cZ, 24, .inl (fun j9 => nI (pr j9)))), (b, .inl (cI, 24, .inl vs)), (d, .inl (cI, 24, .inl (fun j9 => nI (tc j9))))] U.heap ∧ KX dC dI cI cZ cG U ∧ va_D (fun _ => True) [(h, .inr (3, [.int (nI sg), .ref a, .ref b, .ref d])), (a, .inl (cZ, 24, .inl (fun j9 => nI (pr j9)))), (b, .inl (cI, 24, .inl vs)), (d, .inl (cI, 24, .inl (fun j9 => nI (tc j9))))])) (va_Qi (fun (r : Int32) (u : Unit) => r = nI ((dropN pr vs x).elim 0 (fun _ => 1))) (fun u t => va_P (dC, dI) vwCl [(h, .inr (3, [.int (nI sg), .ref a, .ref b, .ref d])), (a, .inl (cZ, 24, .inl (fun j9 => nI (((dropN pr vs x).elim pr (fun j => va_up pr j 0)) j9)))), (b, .inl (cI, 24, .inl vs)), (d, .inl (cI, 24, .inl (fun j9 => nI (tc j9))))] t.heap ∧ va_D (va_A [(h, .inr (3, [.int (nI sg), .ref a, .ref b, .ref d])), (a, .inl (cZ, 24, .inl (fun j9 => nI (pr j9)))), (b, .inl (cI, 24, .inl vs)), (d, .inl (cI, 24, .inl (fun j9 => nI (tc j9))))] sz) [(h, .inr (3, [.int (nI sg), .ref a, .ref b, .ref d])), (a, .inl (cZ, 24, .inl (fun j9 => nI (((dropN pr vs x).elim pr (fun j => va_up pr j 0)) j9)))), (b, .inl (cI, 24, .inl vs)), (d, .inl (cI, 24, .inl (fun j9 => nI (tc j9))))]) (va_A [(h, .inr (3, [.int (nI sg), .ref a, .ref b, .ref d])), (a, .inl (cZ, 24, .inl (fun j9 => nI (pr j9)))), (b, .inl (cI, 24, .inl vs)), (d, .inl (cI, 24, .inl (fun j9 => nI (tc j9))))] sz)) 0 0 (va_A [(h, .inr (3, [.int (nI sg), .ref a, .ref b, .ref d])), (a, .inl (cZ, 24, .inl (fun j9 => nI (pr j9)))), (b, .inl (cI, 24, .inl vs)), (d, .inl (cI, 24, .inl (fun j9 => nI (tc j9))))] sz) := by
  refine Met.ofW (cc := cRR_dropBad) (maxL := 2) (ret := (some .boolean)) (by decide) rfl ?_
  intro p e s m args below meth c s₁ B hml hv
  obtain ⟨rfl, hsz, hP, hKX, hD0⟩ := hv
  have hK := hKX.1
  have hx := B.exec
  have hb := B.bytes
  have hr := B.returns
  have hts := atoms_spec (ws := wsRR_dropBad) B.pre
  have hown : s.vm.findClass RRR = some m.cls := findClass_of_methodNamed B.named
  have hlocks := B.notSynchronized
  subst hsz
  have hD := hD0.self (sz := s.heap.size)
  generalize hAe : va_A [(h, .inr (3, [.int (nI sg), .ref a, .ref b, .ref d])), (a, .inl (cZ, 24, .inl (fun j9 => nI (pr j9)))), (b, .inl (cI, 24, .inl vs)), (d, .inl (cI, 24, .inl (fun j9 => nI (tc j9))))] s.heap.size = A at hD ⊢
  have hA : ∀ q : Nat, s.heap.size ≤ q → A q := fun q h => by rw [← hAe]; exact Or.inr h
  have hS : va_S A s.heap s.heap [] := va_S.rf
  have hl := lv_entry ([.ref h, .int x]) (n := 2) (Nat.le_of_ble_eq_true rfl)
  rw [lg_entry_eq]
  generalize (lg_sl ([.ref h, .int x]) ++ List.replicate (2 - (lg_sl ([.ref h, .int x])).length) Slot.unset).toArray = ls at hl ⊢
  have hl : lv_has ls 2 [(0, .ref h), (1, .int x)] := hl
  generalize hRe : (headSpec wsRR_dropBad ({ frames := 3, cells := 0, slots := 0, locals := 62 })).room = R
  have hRf : 3 ≤ R.frames := by rw [← hRe]; exact Nat.le_refl _
  have hRl : 62 ≤ R.locals := by rw [← hRe]; exact Nat.le_refl _
  have hRc : 0 ≤ R.cells := by rw [← hRe]; exact Nat.le_refl _
  have hRs : 0 ≤ R.slots := by rw [← hRe]; exact Nat.le_refl _
  generalize hargs : (List.toArray [.ref h, .int x] : Array Value) = args at hts ⊢
  generalize hQe : MQ below _ args s _ _ _ = Q
  refine lv_aload_n hx hb dRR_dropBad_0 rfl (lv_at hl 0 rfl) ?_
  refine lv_iload_n hx hb dRR_dropBad_1 rfl (lv_at hl 1 rfl) ?_
  refine vp_callSi (va_runV (C := RRR) (As := [.int x]) (rest := []) ⟨hx, hb, hml, hown, hts⟩ (c_RR_isBad l dC dI cI cZ cG h a b d sg pr vs tc x (hpr)) (hr_cwV 1 hts kw_462 kw_464 kw_9 kw_31 kw_465 (by decide +kernel) (by rw [← hRe]; exact ⟨Nat.le_of_ble_eq_true rfl, Nat.le_of_ble_eq_true rfl⟩)) (hr_preR hKX hP [0, 1, 2, 3] rfl (ci := 3) (q0 := 0) (q := (RRR, TRR, 4)) rfl rfl) rfl rfl hl.1 rfl (lv_room (Nat.le_of_ble_eq_true rfl)) dRR_dropBad_2 ⟨by omega, by omega⟩).run (fun rv hrv => ?_)
  refine hr_eqi hrv ?_
  have hb0 := badB_lt pr vs x
  refine hr_if_ne hx hb (x := badB pr vs x) (by omega) (tgt := 10) dRR_dropBad_5 (by decide) (fun c_1 => ?_) (fun c_1 => ?_)
  · have hin : ¬ inB x 24 = 0 := fun q => c_1 (badB_out q)
    obtain ⟨j, hj, rfl⟩ := inB_pos (by decide) hin
    refine lv_aload_n hx hb dRR_dropBad_10 rfl (lv_at hl 0 rfl) ?_
    refine va_get (D := (dC, dI)) (ci := 3) (v := .ref a) (C := RRR) (T := TRR) (N := 4) hx hb hts (fun w h => List.mem_cons_of_mem _ (inRR w h)) hown hK hP 0 rfl rfl 1 (by decide) (hts _ (List.mem_cons_of_mem _ kw_197)) (fun _ h9 => h9) rfl dRR_dropBad_11 ?_
    refine lv_iload_n hx hb dRR_dropBad_14 rfl (lv_at hl 1 rfl) ?_
    refine lv_iconst (v := nI 0) hx hb dRR_dropBad_15 (by decide +kernel) ?_
    refine hr_zastN hx hb hK hP hD hS 1 1 rfl rfl (i := j) (by omega) (by omega) (by omega) dRR_dropBad_16 (fun H locs hP hD hS => ?_)
    have hP : va_P (dC, dI) vwCl [(h, .inr (3, [.int (nI sg), .ref a, .ref b, .ref d])), (a, .inl (cZ, 24, .inl (fun j9 => nI ((va_up pr j 0) j9)))), (b, .inl (cI, 24, .inl vs)), (d, .inl (cI, 24, .inl (fun j9 => nI (tc j9))))] H := hP
    have hD : va_D A [(h, .inr (3, [.int (nI sg), .ref a, .ref b, .ref d])), (a, .inl (cZ, 24, .inl (fun j9 => nI ((va_up pr j 0) j9)))), (b, .inl (cI, 24, .inl vs)), (d, .inl (cI, 24, .inl (fun j9 => nI (tc j9))))] := hD
    refine lv_iconst (v := nI 1) hx hb dRR_dropBad_17 (by decide +kernel) ?_
    have ez : dropN pr vs (nI j) = some j := by simp [dropN, nI_clamp (show j < 2 ^ 31 by omega), c_1]
    rw [← hQe]
    exact W.zret (ty := .boolean) (v := nI 1) hx hb hr (by decide +kernel) (fun t ht hW => ⟨⟨_, (), rfl, by rw [ez]; rfl, by rw [ht, ez]; exact hP, by rw [ez]; exact hD⟩, hS.F ht⟩) hS.2.2 dRR_dropBad_18
  · refine lv_iconst (v := nI 0) hx hb dRR_dropBad_8 (by decide +kernel) ?_
    have ez : dropN pr vs x = none := by simp [dropN, c_1]
    rw [← hQe]
    exact W.zret (ty := .boolean) (v := nI 0) hx hb hr (by decide +kernel) (fun t ht hW => ⟨⟨_, (), rfl, by rw [ez]; rfl, by rw [ht, ez]; exact hP, by rw [ez]; exact hD⟩, hS.F ht⟩) hS.2.2 dRR_dropBad_9

set_option maxHeartbeats 4000000 in
set_option maxRecDepth 100000 in
/-- a SHARD has more -/
theorem c_SP_addTime (l : Launch) (dC : Nat → ClassId) (dI : Nat → Nat → Nat) (cI cZ cG : ClassId) (h : Nat) (a : Nat) (b : Nat) (d : Nat) (sc : Nat) (mv : Nat) (sm : Nat → Nat) (zs : Nat → Nat) (sf : Nat → Option Nat) (q : Nat) (ti : Nat) (sz : Nat) (hsc : sc ≤ 4) (hq : q < sc) : Met l ySP_addTime wsSP_addTime ({ frames := 1, cells := 0, slots := 0, locals := 21 }) (va_Pc [.ref h, .int (nI q), .int (nI ti)] (fun U => U.heap.size = sz ∧ va_P (dC, dI) vwCl [(h, .inr (5, [.int (nI sc), .int (nI mv), .ref a, .ref b, .ref d])), (a, .inl (cI, 4, .inl (fun j9 => nI (sm j9)))), (b, .inl (cI, 4, .inl (fun j9 => nI (zs j9)))), (d, .inl (cI, 24, .inl (fun j9 => oI (sf j9))))] U.heap ∧ KX dC dI cI cZ cG U ∧ va_D (fun _ => True) [(h, .inr (5, [.int (nI sc), .int (nI mv), .ref a, .ref b, .ref d])), (a, .inl (cI, 4, .inl (fun j9 => nI (sm j9)))), (b, .inl (cI, 4, .inl (fun j9 => nI (zs j9)))), (d, .inl (cI, 24, .inl (fun j9 => oI (sf j9))))])) (va_Qv (fun (u : Unit) => True) (fun u t => va_P (dC, dI) vwCl [(h, .inr (5, [.int (nI sc), .int (nI mv), .ref a, .ref b, .ref d])), (a, .inl (cI, 4, .inl (fun j9 => nI ((va_up sm q (sm q + ti)) j9)))), (b, .inl (cI, 4, .inl (fun j9 => nI (zs j9)))), (d, .inl (cI, 24, .inl (fun j9 => oI (sf j9))))] t.heap ∧ va_D (va_A [(h, .inr (5, [.int (nI sc), .int (nI mv), .ref a, .ref b, .ref d])), (a, .inl (cI, 4, .inl (fun j9 => nI (sm j9)))), (b, .inl (cI, 4, .inl (fun j9 => nI (zs j9)))), (d, .inl (cI, 24, .inl (fun j9 => oI (sf j9))))] sz) [(h, .inr (5, [.int (nI sc), .int (nI mv), .ref a, .ref b, .ref d])), (a, .inl (cI, 4, .inl (fun j9 => nI ((va_up sm q (sm q + ti)) j9)))), (b, .inl (cI, 4, .inl (fun j9 => nI (zs j9)))), (d, .inl (cI, 24, .inl (fun j9 => oI (sf j9))))]) (va_A [(h, .inr (5, [.int (nI sc), .int (nI mv), .ref a, .ref b, .ref d])), (a, .inl (cI, 4, .inl (fun j9 => nI (sm j9)))), (b, .inl (cI, 4, .inl (fun j9 => nI (zs j9)))), (d, .inl (cI, 24, .inl (fun j9 => oI (sf j9))))] sz)) 0 0 (va_A [(h, .inr (5, [.int (nI sc), .int (nI mv), .ref a, .ref b, .ref d])), (a, .inl (cI, 4, .inl (fun j9 => nI (sm j9)))), (b, .inl (cI, 4, .inl (fun j9 => nI (zs j9)))), (d, .inl (cI, 24, .inl (fun j9 => oI (sf j9))))] sz) := by
  refine Met.ofW (cc := cSP_addTime) (maxL := 3) (ret := none) (by decide) rfl ?_
  intro p e s m args below meth c s₁ B hml hv
  obtain ⟨rfl, hsz, hP, hKX, hD0⟩ := hv
  have hK := hKX.1
  have hx := B.exec
  have hb := B.bytes
  have hr := B.returns
  have hts := atoms_spec (ws := wsSP_addTime) B.pre
  have hown : s.vm.findClass RSP = some m.cls := findClass_of_methodNamed B.named
  have hlocks := B.notSynchronized
  subst hsz
  have hD := hD0.self (sz := s.heap.size)
  generalize hAe : va_A [(h, .inr (5, [.int (nI sc), .int (nI mv), .ref a, .ref b, .ref d])), (a, .inl (cI, 4, .inl (fun j9 => nI (sm j9)))), (b, .inl (cI, 4, .inl (fun j9 => nI (zs j9)))), (d, .inl (cI, 24, .inl (fun j9 => oI (sf j9))))] s.heap.size = A at hD ⊢
  have hA : ∀ q : Nat, s.heap.size ≤ q → A q := fun q h => by rw [← hAe]; exact Or.inr h
  have hS : va_S A s.heap s.heap [] := va_S.rf
  have hl := lv_entry ([.ref h, .int (nI q), .int (nI ti)]) (n := 3) (Nat.le_of_ble_eq_true rfl)
  rw [lg_entry_eq]
  generalize (lg_sl ([.ref h, .int (nI q), .int (nI ti)]) ++ List.replicate (3 - (lg_sl ([.ref h, .int (nI q), .int (nI ti)])).length) Slot.unset).toArray = ls at hl ⊢
  have hl : lv_has ls 3 [(0, .ref h), (1, .int (nI q)), (2, .int (nI ti))] := hl
  generalize hRe : (headSpec wsSP_addTime ({ frames := 1, cells := 0, slots := 0, locals := 21 })).room = R
  have hRf : 1 ≤ R.frames := by rw [← hRe]; exact Nat.le_refl _
  have hRl : 21 ≤ R.locals := by rw [← hRe]; exact Nat.le_refl _
  have hRc : 0 ≤ R.cells := by rw [← hRe]; exact Nat.le_refl _
  have hRs : 0 ≤ R.slots := by rw [← hRe]; exact Nat.le_refl _
  generalize hargs : (List.toArray [.ref h, .int (nI q), .int (nI ti)] : Array Value) = args at hts ⊢
  generalize hQe : MQ below _ args s _ _ _ = Q
  refine lv_aload_n hx hb dSP_addTime_0 rfl (lv_at hl 0 rfl) ?_
  refine lv_iload_n hx hb dSP_addTime_1 rfl (lv_at hl 1 rfl) ?_
  refine vp_callSi (va_runV (C := RSP) (As := [.int (nI q)]) (rest := []) ⟨hx, hb, hml, hown, hts⟩ (c_SP_hasShard l dC dI cI cZ cG h a b d sc mv sm zs sf (nI q) (hsc)) (hr_cwV 1 hts kw_382 kw_383 kw_384 kw_29 kw_385 (by decide +kernel) (by rw [← hRe]; exact ⟨Nat.le_of_ble_eq_true rfl, Nat.le_of_ble_eq_true rfl⟩)) (hr_preR hKX hP [0, 1, 2, 3] rfl (ci := 5) (q0 := 0) (q := (RSP, TSP, 5)) rfl rfl) rfl rfl hl.1 rfl (lv_room (Nat.le_of_ble_eq_true rfl)) dSP_addTime_2 ⟨by omega, by omega⟩).run (fun rv hrv => ?_)
  refine hr_eqi hrv ?_
  rw [inB_nI hq (show sc < 2 ^ 31 by omega)]
  refine hr_if_eq hx hb (x := 1) (by omega) (tgt := 18) dSP_addTime_5 (by decide) (fun c_1 => ?_) (fun c_1 => ?_)
  · exact absurd c_1 (by decide)
  · refine lv_aload_n hx hb dSP_addTime_8 rfl (lv_at hl 0 rfl) ?_
    refine va_get (D := (dC, dI)) (ci := 5) (v := .ref a) (C := RSP) (T := TSP) (N := 5) hx hb hts (fun w h => List.mem_cons_of_mem _ (inSP w h)) hown hK hP 0 rfl rfl 2 (by decide) (hts _ (List.mem_cons_of_mem _ kw_173)) (fun _ h9 => h9) rfl dSP_addTime_9 ?_
    refine lv_iload_n hx hb dSP_addTime_12 rfl (lv_at hl 1 rfl) ?_
    refine lv_dup2_11 hx hb dSP_addTime_13 rfl rfl ?_
    refine hr_iald hx hb hK hP 1 0 rfl rfl (i := q) (by omega) (by omega) dSP_addTime_14 ?_
    refine lv_iload_n hx hb dSP_addTime_15 rfl (lv_at hl 2 rfl) ?_
    refine lv_iadd hx hb dSP_addTime_16 ?_
    refine hr_eqi (nI_add _ _) ?_
    refine hr_iastN hx hb hK hP hD hS 1 0 rfl rfl (i := q) (by omega) (by omega) dSP_addTime_17 (fun H locs hP hD hS => ?_)
    have hP : va_P (dC, dI) vwCl [(h, .inr (5, [.int (nI sc), .int (nI mv), .ref a, .ref b, .ref d])), (a, .inl (cI, 4, .inl (fun j9 => nI ((va_up sm q ((sm q) + ti)) j9)))), (b, .inl (cI, 4, .inl (fun j9 => nI (zs j9)))), (d, .inl (cI, 24, .inl (fun j9 => oI (sf j9))))] H := hP
    have hD : va_D A [(h, .inr (5, [.int (nI sc), .int (nI mv), .ref a, .ref b, .ref d])), (a, .inl (cI, 4, .inl (fun j9 => nI ((va_up sm q ((sm q) + ti)) j9)))), (b, .inl (cI, 4, .inl (fun j9 => nI (zs j9)))), (d, .inl (cI, 24, .inl (fun j9 => oI (sf j9))))] := hD
    rw [← hQe]
    exact W.vret hx hb hr (fun t ht hW => ⟨⟨(), rfl, trivial, by rw [ht]; exact hP, hD⟩, hS.F ht⟩) hS.2.2 dSP_addTime_18

set_option maxHeartbeats 4000000 in
set_option maxRecDepth 100000 in
/-- a TEST has a SHARD -/
theorem c_SP_give (l : Launch) (dC : Nat → ClassId) (dI : Nat → Nat → Nat) (cI cZ cG : ClassId) (h : Nat) (a : Nat) (b : Nat) (d : Nat) (sc : Nat) (mv : Nat) (sm : Nat → Nat) (zs : Nat → Nat) (sf : Nat → Option Nat) (j : Nat) (q : Nat) (sz : Nat) (hsc : sc ≤ 4) (hj : j < 24) (hq : q < sc) (hsf : ∀ k, sf j = some k → k < 2 ^ 31) : Met l ySP_give wsSP_give ({ frames := 1, cells := 0, slots := 0, locals := 21 }) (va_Pc [.ref h, .int (nI j), .int (nI q)] (fun U => U.heap.size = sz ∧ va_P (dC, dI) vwCl [(h, .inr (5, [.int (nI sc), .int (nI mv), .ref a, .ref b, .ref d])), (a, .inl (cI, 4, .inl (fun j9 => nI (sm j9)))), (b, .inl (cI, 4, .inl (fun j9 => nI (zs j9)))), (d, .inl (cI, 24, .inl (fun j9 => oI (sf j9))))] U.heap ∧ KX dC dI cI cZ cG U ∧ va_D (fun _ => True) [(h, .inr (5, [.int (nI sc), .int (nI mv), .ref a, .ref b, .ref d])), (a, .inl (cI, 4, .inl (fun j9 => nI (sm j9)))), (b, .inl (cI, 4, .inl (fun j9 => nI (zs j9)))), (d, .inl (cI, 24, .inl (fun j9 => oI (sf j9))))])) (va_Qv (fun (u : Unit) => True) (fun u t => va_P (dC, dI) vwCl [(h, .inr (5, [.int (nI sc), .int (nI (mv + mvdB (sf j) q)), .ref a, .ref b, .ref d])), (a, .inl (cI, 4, .inl (fun j9 => nI (sm j9)))), (b, .inl (cI, 4, .inl (fun j9 => nI ((va_up zs q (zs q + 1)) j9)))), (d, .inl (cI, 24, .inl (fun j9 => oI ((va_up sf j (some q)) j9))))] t.heap ∧ va_D (va_A [(h, .inr (5, [.int (nI sc), .int (nI mv), .ref a, .ref b, .ref d])), (a, .inl (cI, 4, .inl (fun j9 => nI (sm j9)))), (b, .inl (cI, 4, .inl (fun j9 => nI (zs j9)))), (d, .inl (cI, 24, .inl (fun j9 => oI (sf j9))))] sz) [(h, .inr (5, [.int (nI sc), .int (nI (mv + mvdB (sf j) q)), .ref a, .ref b, .ref d])), (a, .inl (cI, 4, .inl (fun j9 => nI (sm j9)))), (b, .inl (cI, 4, .inl (fun j9 => nI ((va_up zs q (zs q + 1)) j9)))), (d, .inl (cI, 24, .inl (fun j9 => oI ((va_up sf j (some q)) j9))))]) (va_A [(h, .inr (5, [.int (nI sc), .int (nI mv), .ref a, .ref b, .ref d])), (a, .inl (cI, 4, .inl (fun j9 => nI (sm j9)))), (b, .inl (cI, 4, .inl (fun j9 => nI (zs j9)))), (d, .inl (cI, 24, .inl (fun j9 => oI (sf j9))))] sz)) 0 0 (va_A [(h, .inr (5, [.int (nI sc), .int (nI mv), .ref a, .ref b, .ref d])), (a, .inl (cI, 4, .inl (fun j9 => nI (sm j9)))), (b, .inl (cI, 4, .inl (fun j9 => nI (zs j9)))), (d, .inl (cI, 24, .inl (fun j9 => oI (sf j9))))] sz) := by
  refine Met.ofW (cc := cSP_give) (maxL := 3) (ret := none) (by decide) rfl ?_
  intro p e s m args below meth c s₁ B hml hv
  obtain ⟨rfl, hsz, hP, hKX, hD0⟩ := hv
  have hK := hKX.1
  have hx := B.exec
  have hb := B.bytes
  have hr := B.returns
  have hts := atoms_spec (ws := wsSP_give) B.pre
  have hown : s.vm.findClass RSP = some m.cls := findClass_of_methodNamed B.named
  have hlocks := B.notSynchronized
  subst hsz
  have hD := hD0.self (sz := s.heap.size)
  generalize hAe : va_A [(h, .inr (5, [.int (nI sc), .int (nI mv), .ref a, .ref b, .ref d])), (a, .inl (cI, 4, .inl (fun j9 => nI (sm j9)))), (b, .inl (cI, 4, .inl (fun j9 => nI (zs j9)))), (d, .inl (cI, 24, .inl (fun j9 => oI (sf j9))))] s.heap.size = A at hD ⊢
  have hA : ∀ q : Nat, s.heap.size ≤ q → A q := fun q h => by rw [← hAe]; exact Or.inr h
  have hS : va_S A s.heap s.heap [] := va_S.rf
  have hl := lv_entry ([.ref h, .int (nI j), .int (nI q)]) (n := 3) (Nat.le_of_ble_eq_true rfl)
  rw [lg_entry_eq]
  generalize (lg_sl ([.ref h, .int (nI j), .int (nI q)]) ++ List.replicate (3 - (lg_sl ([.ref h, .int (nI j), .int (nI q)])).length) Slot.unset).toArray = ls at hl ⊢
  have hl : lv_has ls 3 [(0, .ref h), (1, .int (nI j)), (2, .int (nI q))] := hl
  generalize hRe : (headSpec wsSP_give ({ frames := 1, cells := 0, slots := 0, locals := 21 })).room = R
  have hRf : 1 ≤ R.frames := by rw [← hRe]; exact Nat.le_refl _
  have hRl : 21 ≤ R.locals := by rw [← hRe]; exact Nat.le_refl _
  have hRc : 0 ≤ R.cells := by rw [← hRe]; exact Nat.le_refl _
  have hRs : 0 ≤ R.slots := by rw [← hRe]; exact Nat.le_refl _
  generalize hargs : (List.toArray [.ref h, .int (nI j), .int (nI q)] : Array Value) = args at hts ⊢
  generalize hQe : MQ below _ args s _ _ _ = Q
  refine lv_iload_n hx hb dSP_give_0 rfl (lv_at hl 1 rfl) ?_
  refine vp_callSi (va_runSN (As := [.int (nI j)]) (rest := []) ⟨hx, hb, hml, hown, hts⟩ (c_SR_isTestNumber l dC dI cI cZ cG (nI j)) (hr_cnS 1 hts hKX.2.1 kw_338 kw_23 kw_339 (by decide +kernel) (by rw [← hRe]; exact ⟨Nat.le_of_ble_eq_true rfl, Nat.le_of_ble_eq_true rfl⟩)) (hr_preRS hKX hP [] rfl) rfl rfl hl.1 rfl (lv_room (Nat.le_of_ble_eq_true rfl)) dSP_give_1 ⟨by omega, by omega⟩).run (fun rv hrv => ?_)
  refine hr_eqi hrv ?_
  rw [inB_nI hj (by decide)]
  refine hr_if_eq hx hb (x := 1) (by omega) (tgt := 15) dSP_give_4 (by decide) (fun c_1 => ?_) (fun c_1 => ?_)
  · exact absurd c_1 (by decide)
  · refine lv_aload_n hx hb dSP_give_7 rfl (lv_at hl 0 rfl) ?_
    refine lv_iload_n hx hb dSP_give_8 rfl (lv_at hl 2 rfl) ?_
    refine vp_callSi (va_runV (C := RSP) (As := [.int (nI q)]) (rest := []) ⟨hx, hb, hml, hown, hts⟩ (c_SP_hasShard l dC dI cI cZ cG h a b d sc mv sm zs sf (nI q) (hsc)) (hr_cwV 1 hts kw_382 kw_383 kw_384 kw_29 kw_385 (by decide +kernel) (by rw [← hRe]; exact ⟨Nat.le_of_ble_eq_true rfl, Nat.le_of_ble_eq_true rfl⟩)) (hr_preR hKX hP [0, 1, 2, 3] rfl (ci := 5) (q0 := 0) (q := (RSP, TSP, 5)) rfl rfl) rfl rfl hl.1 rfl (lv_room (Nat.le_of_ble_eq_true rfl)) dSP_give_9 ⟨by omega, by omega⟩).run (fun rv hrv => ?_)
    refine hr_eqi hrv ?_
    rw [inB_nI hq (show sc < 2 ^ 31 by omega)]
    refine hr_if_ne hx hb (x := 1) (by omega) (tgt := 16) dSP_give_12 (by decide) (fun c_2 => ?_) (fun c_2 => ?_)
    · refine lv_aload_n hx hb dSP_give_16 rfl (lv_at hl 0 rfl) ?_
      refine va_get (D := (dC, dI)) (ci := 5) (v := .ref d) (C := RSP) (T := TSP) (N := 5) hx hb hts (fun w h => List.mem_cons_of_mem _ (inSP w h)) hown hK hP 0 rfl rfl 4 (by decide) (hts _ (List.mem_cons_of_mem _ kw_177)) (fun _ h9 => h9) rfl dSP_give_17 ?_
      refine lv_iload_n hx hb dSP_give_20 rfl (lv_at hl 1 rfl) ?_
      refine hr_iald hx hb hK hP 3 0 rfl rfl (i := j) (by omega) (by omega) dSP_give_21 ?_
      refine lv_iconst (v := (-1)) hx hb dSP_give_22 (by decide +kernel) ?_
      refine lv_icmp_eq (tgt := 46) hx hb dSP_give_23 (by decide) (fun c_3 => ?_) (fun c_3 => ?_)
      · refine lv_aload_n hx hb dSP_give_46 rfl (lv_at hl 0 rfl) ?_
        refine va_get (D := (dC, dI)) (ci := 5) (v := .ref d) (C := RSP) (T := TSP) (N := 5) hx hb hts (fun w h => List.mem_cons_of_mem _ (inSP w h)) hown hK hP 0 rfl rfl 4 (by decide) (hts _ (List.mem_cons_of_mem _ kw_177)) (fun _ h9 => h9) rfl dSP_give_47 ?_
        refine lv_iload_n hx hb dSP_give_50 rfl (lv_at hl 1 rfl) ?_
        refine lv_iload_n hx hb dSP_give_51 rfl (lv_at hl 2 rfl) ?_
        refine hr_iastO (x := (some q)) hx hb hK hP hD hS 3 0 rfl rfl (i := j) (by omega) (by omega) dSP_give_52 (fun H locs hP hD hS => ?_)
        have hP : va_P (dC, dI) vwCl [(h, .inr (5, [.int (nI sc), .int (nI mv), .ref a, .ref b, .ref d])), (a, .inl (cI, 4, .inl (fun j9 => nI (sm j9)))), (b, .inl (cI, 4, .inl (fun j9 => nI (zs j9)))), (d, .inl (cI, 24, .inl (fun j9 => oI ((va_up sf j (some q)) j9))))] H := hP
        have hD : va_D A [(h, .inr (5, [.int (nI sc), .int (nI mv), .ref a, .ref b, .ref d])), (a, .inl (cI, 4, .inl (fun j9 => nI (sm j9)))), (b, .inl (cI, 4, .inl (fun j9 => nI (zs j9)))), (d, .inl (cI, 24, .inl (fun j9 => oI ((va_up sf j (some q)) j9))))] := hD
        refine lv_aload_n hx hb dSP_give_53 rfl (lv_at hl 0 rfl) ?_
        refine va_get (D := (dC, dI)) (ci := 5) (v := .ref b) (C := RSP) (T := TSP) (N := 5) hx hb hts (fun w h => List.mem_cons_of_mem _ (inSP w h)) hown hK hP 0 rfl rfl 3 (by decide) (hts _ (List.mem_cons_of_mem _ kw_175)) (fun _ h9 => h9) rfl dSP_give_54 ?_
        refine lv_iload_n hx hb dSP_give_57 rfl (lv_at hl 2 rfl) ?_
        refine lv_dup2_11 hx hb dSP_give_58 rfl rfl ?_
        refine hr_iald hx hb hK hP 2 0 rfl rfl (i := q) (by omega) (by omega) dSP_give_59 ?_
        refine lv_iconst (v := nI 1) hx hb dSP_give_60 (by decide +kernel) ?_
        refine lv_iadd hx hb dSP_give_61 ?_
        refine hr_eqi (nI_add _ _) ?_
        refine hr_iastN hx hb hK hP hD hS 2 0 rfl rfl (i := q) (by omega) (by omega) dSP_give_62 (fun H locs hP hD hS => ?_)
        have hP : va_P (dC, dI) vwCl [(h, .inr (5, [.int (nI sc), .int (nI mv), .ref a, .ref b, .ref d])), (a, .inl (cI, 4, .inl (fun j9 => nI (sm j9)))), (b, .inl (cI, 4, .inl (fun j9 => nI ((va_up zs q ((zs q) + 1)) j9)))), (d, .inl (cI, 24, .inl (fun j9 => oI ((va_up sf j (some q)) j9))))] H := hP
        have hD : va_D A [(h, .inr (5, [.int (nI sc), .int (nI mv), .ref a, .ref b, .ref d])), (a, .inl (cI, 4, .inl (fun j9 => nI (sm j9)))), (b, .inl (cI, 4, .inl (fun j9 => nI ((va_up zs q ((zs q) + 1)) j9)))), (d, .inl (cI, 24, .inl (fun j9 => oI ((va_up sf j (some q)) j9))))] := hD
        have ez : mvdB (sf j) q = 0 := by rw [(oI_m1 hsf).mp c_3]; rfl
        rw [← hQe]
        exact W.vret hx hb hr (fun t ht hW => ⟨⟨(), rfl, trivial, by rw [ht, ez]; exact hP, by rw [ez]; exact hD⟩, hS.F ht⟩) hS.2.2 dSP_give_63
      · refine lv_aload_n hx hb dSP_give_26 rfl (lv_at hl 0 rfl) ?_
        refine va_get (D := (dC, dI)) (ci := 5) (v := .ref d) (C := RSP) (T := TSP) (N := 5) hx hb hts (fun w h => List.mem_cons_of_mem _ (inSP w h)) hown hK hP 0 rfl rfl 4 (by decide) (hts _ (List.mem_cons_of_mem _ kw_177)) (fun _ h9 => h9) rfl dSP_give_27 ?_
        refine lv_iload_n hx hb dSP_give_30 rfl (lv_at hl 1 rfl) ?_
        refine hr_iald hx hb hK hP 3 0 rfl rfl (i := j) (by omega) (by omega) dSP_give_31 ?_
        refine lv_iload_n hx hb dSP_give_32 rfl (lv_at hl 2 rfl) ?_
        refine lv_icmp_eq (tgt := 46) hx hb dSP_give_33 (by decide) (fun c_4 => ?_) (fun c_4 => ?_)
        · refine lv_aload_n hx hb dSP_give_46 rfl (lv_at hl 0 rfl) ?_
          refine va_get (D := (dC, dI)) (ci := 5) (v := .ref d) (C := RSP) (T := TSP) (N := 5) hx hb hts (fun w h => List.mem_cons_of_mem _ (inSP w h)) hown hK hP 0 rfl rfl 4 (by decide) (hts _ (List.mem_cons_of_mem _ kw_177)) (fun _ h9 => h9) rfl dSP_give_47 ?_
          refine lv_iload_n hx hb dSP_give_50 rfl (lv_at hl 1 rfl) ?_
          refine lv_iload_n hx hb dSP_give_51 rfl (lv_at hl 2 rfl) ?_
          refine hr_iastO (x := (some q)) hx hb hK hP hD hS 3 0 rfl rfl (i := j) (by omega) (by omega) dSP_give_52 (fun H locs hP hD hS => ?_)
          have hP : va_P (dC, dI) vwCl [(h, .inr (5, [.int (nI sc), .int (nI mv), .ref a, .ref b, .ref d])), (a, .inl (cI, 4, .inl (fun j9 => nI (sm j9)))), (b, .inl (cI, 4, .inl (fun j9 => nI (zs j9)))), (d, .inl (cI, 24, .inl (fun j9 => oI ((va_up sf j (some q)) j9))))] H := hP
          have hD : va_D A [(h, .inr (5, [.int (nI sc), .int (nI mv), .ref a, .ref b, .ref d])), (a, .inl (cI, 4, .inl (fun j9 => nI (sm j9)))), (b, .inl (cI, 4, .inl (fun j9 => nI (zs j9)))), (d, .inl (cI, 24, .inl (fun j9 => oI ((va_up sf j (some q)) j9))))] := hD
          refine lv_aload_n hx hb dSP_give_53 rfl (lv_at hl 0 rfl) ?_
          refine va_get (D := (dC, dI)) (ci := 5) (v := .ref b) (C := RSP) (T := TSP) (N := 5) hx hb hts (fun w h => List.mem_cons_of_mem _ (inSP w h)) hown hK hP 0 rfl rfl 3 (by decide) (hts _ (List.mem_cons_of_mem _ kw_175)) (fun _ h9 => h9) rfl dSP_give_54 ?_
          refine lv_iload_n hx hb dSP_give_57 rfl (lv_at hl 2 rfl) ?_
          refine lv_dup2_11 hx hb dSP_give_58 rfl rfl ?_
          refine hr_iald hx hb hK hP 2 0 rfl rfl (i := q) (by omega) (by omega) dSP_give_59 ?_
          refine lv_iconst (v := nI 1) hx hb dSP_give_60 (by decide +kernel) ?_
          refine lv_iadd hx hb dSP_give_61 ?_
          refine hr_eqi (nI_add _ _) ?_
          refine hr_iastN hx hb hK hP hD hS 2 0 rfl rfl (i := q) (by omega) (by omega) dSP_give_62 (fun H locs hP hD hS => ?_)
          have hP : va_P (dC, dI) vwCl [(h, .inr (5, [.int (nI sc), .int (nI mv), .ref a, .ref b, .ref d])), (a, .inl (cI, 4, .inl (fun j9 => nI (sm j9)))), (b, .inl (cI, 4, .inl (fun j9 => nI ((va_up zs q ((zs q) + 1)) j9)))), (d, .inl (cI, 24, .inl (fun j9 => oI ((va_up sf j (some q)) j9))))] H := hP
          have hD : va_D A [(h, .inr (5, [.int (nI sc), .int (nI mv), .ref a, .ref b, .ref d])), (a, .inl (cI, 4, .inl (fun j9 => nI (sm j9)))), (b, .inl (cI, 4, .inl (fun j9 => nI ((va_up zs q ((zs q) + 1)) j9)))), (d, .inl (cI, 24, .inl (fun j9 => oI ((va_up sf j (some q)) j9))))] := hD
          have ez : mvdB (sf j) q = 0 := by rw [(oI_nI hsf (by omega)).mp c_4]; simp [mvdB]
          rw [← hQe]
          exact W.vret hx hb hr (fun t ht hW => ⟨⟨(), rfl, trivial, by rw [ht, ez]; exact hP, by rw [ez]; exact hD⟩, hS.F ht⟩) hS.2.2 dSP_give_63
        · refine lv_aload_n hx hb dSP_give_36 rfl (lv_at hl 0 rfl) ?_
          refine lv_dup hx hb dSP_give_37 rfl ?_
          refine va_get (D := (dC, dI)) (ci := 5) (v := .int (nI mv)) (C := RSP) (T := TSP) (N := 5) hx hb hts (fun w h => List.mem_cons_of_mem _ (inSP w h)) hown hK hP 0 rfl rfl 1 (by decide) (hts _ (List.mem_cons_of_mem _ kw_171)) (fun _ h9 => h9) rfl dSP_give_38 ?_
          refine lv_iconst (v := nI 1) hx hb dSP_give_41 (by decide +kernel) ?_
          refine lv_iadd hx hb dSP_give_42 ?_
          refine hr_eqi (nI_add _ _) ?_
          refine va_put (D := (dC, dI)) (ci := 5) (v := .int (nI (mv + 1))) (ty := .int) (C := RSP) (T := TSP) (N := 5) hx hb hts (fun w h => List.mem_cons_of_mem _ (inSP w h)) tySP tySP_ok nmSP hown hK hP hD hS 0 rfl rfl 1 (by decide) (hts _ (List.mem_cons_of_mem _ kw_171)) (fun _ h9 => h9) rfl (by decide +kernel) rfl rfl (Nat.le_of_ble_eq_true rfl) dSP_give_43 (fun H locs hP hD hS => ?_)
          have hP : va_P (dC, dI) vwCl [(h, .inr (5, [.int (nI sc), .int (nI (mv + 1)), .ref a, .ref b, .ref d])), (a, .inl (cI, 4, .inl (fun j9 => nI (sm j9)))), (b, .inl (cI, 4, .inl (fun j9 => nI (zs j9)))), (d, .inl (cI, 24, .inl (fun j9 => oI (sf j9))))] H := hP
          have hD : va_D A [(h, .inr (5, [.int (nI sc), .int (nI (mv + 1)), .ref a, .ref b, .ref d])), (a, .inl (cI, 4, .inl (fun j9 => nI (sm j9)))), (b, .inl (cI, 4, .inl (fun j9 => nI (zs j9)))), (d, .inl (cI, 24, .inl (fun j9 => oI (sf j9))))] := hD
          refine lv_aload_n hx hb dSP_give_46 rfl (lv_at hl 0 rfl) ?_
          refine va_get (D := (dC, dI)) (ci := 5) (v := .ref d) (C := RSP) (T := TSP) (N := 5) hx hb hts (fun w h => List.mem_cons_of_mem _ (inSP w h)) hown hK hP 0 rfl rfl 4 (by decide) (hts _ (List.mem_cons_of_mem _ kw_177)) (fun _ h9 => h9) rfl dSP_give_47 ?_
          refine lv_iload_n hx hb dSP_give_50 rfl (lv_at hl 1 rfl) ?_
          refine lv_iload_n hx hb dSP_give_51 rfl (lv_at hl 2 rfl) ?_
          refine hr_iastO (x := (some q)) hx hb hK hP hD hS 3 0 rfl rfl (i := j) (by omega) (by omega) dSP_give_52 (fun H locs hP hD hS => ?_)
          have hP : va_P (dC, dI) vwCl [(h, .inr (5, [.int (nI sc), .int (nI (mv + 1)), .ref a, .ref b, .ref d])), (a, .inl (cI, 4, .inl (fun j9 => nI (sm j9)))), (b, .inl (cI, 4, .inl (fun j9 => nI (zs j9)))), (d, .inl (cI, 24, .inl (fun j9 => oI ((va_up sf j (some q)) j9))))] H := hP
          have hD : va_D A [(h, .inr (5, [.int (nI sc), .int (nI (mv + 1)), .ref a, .ref b, .ref d])), (a, .inl (cI, 4, .inl (fun j9 => nI (sm j9)))), (b, .inl (cI, 4, .inl (fun j9 => nI (zs j9)))), (d, .inl (cI, 24, .inl (fun j9 => oI ((va_up sf j (some q)) j9))))] := hD
          refine lv_aload_n hx hb dSP_give_53 rfl (lv_at hl 0 rfl) ?_
          refine va_get (D := (dC, dI)) (ci := 5) (v := .ref b) (C := RSP) (T := TSP) (N := 5) hx hb hts (fun w h => List.mem_cons_of_mem _ (inSP w h)) hown hK hP 0 rfl rfl 3 (by decide) (hts _ (List.mem_cons_of_mem _ kw_175)) (fun _ h9 => h9) rfl dSP_give_54 ?_
          refine lv_iload_n hx hb dSP_give_57 rfl (lv_at hl 2 rfl) ?_
          refine lv_dup2_11 hx hb dSP_give_58 rfl rfl ?_
          refine hr_iald hx hb hK hP 2 0 rfl rfl (i := q) (by omega) (by omega) dSP_give_59 ?_
          refine lv_iconst (v := nI 1) hx hb dSP_give_60 (by decide +kernel) ?_
          refine lv_iadd hx hb dSP_give_61 ?_
          refine hr_eqi (nI_add _ _) ?_
          refine hr_iastN hx hb hK hP hD hS 2 0 rfl rfl (i := q) (by omega) (by omega) dSP_give_62 (fun H locs hP hD hS => ?_)
          have hP : va_P (dC, dI) vwCl [(h, .inr (5, [.int (nI sc), .int (nI (mv + 1)), .ref a, .ref b, .ref d])), (a, .inl (cI, 4, .inl (fun j9 => nI (sm j9)))), (b, .inl (cI, 4, .inl (fun j9 => nI ((va_up zs q ((zs q) + 1)) j9)))), (d, .inl (cI, 24, .inl (fun j9 => oI ((va_up sf j (some q)) j9))))] H := hP
          have hD : va_D A [(h, .inr (5, [.int (nI sc), .int (nI (mv + 1)), .ref a, .ref b, .ref d])), (a, .inl (cI, 4, .inl (fun j9 => nI (sm j9)))), (b, .inl (cI, 4, .inl (fun j9 => nI ((va_up zs q ((zs q) + 1)) j9)))), (d, .inl (cI, 24, .inl (fun j9 => oI ((va_up sf j (some q)) j9))))] := hD
          have ez : mvdB (sf j) q = 1 := mvdB_1 (fun z => c_3 ((oI_m1 hsf).mpr z)) (fun z => c_4 ((oI_nI hsf (by omega)).mpr z))
          rw [← hQe]
          exact W.vret hx hb hr (fun t ht hW => ⟨⟨(), rfl, trivial, by rw [ht, ez]; exact hP, by rw [ez]; exact hD⟩, hS.F ht⟩) hS.2.2 dSP_give_63
    · exact absurd c_2 (by decide)
end
section
set_option maxHeartbeats 4000000 in
set_option maxRecDepth 100000 in
/-- the GROUP of a TEST -/
theorem c_GR_groupAt (l : Launch) (dC : Nat → ClassId) (dI : Nat → Nat → Nat) (cI cZ cG : ClassId) (hG : Nat) (aG : Nat) (bG : Nat) (dG : Nat) (gG : Nat) (gc : Nat) (gn : Nat) (gF : Nat → Nat) (gT : Nat → Nat) (gS : Nat → Option Nat) (gO : Nat → Nat) (x : Int32) (hgn : gn ≤ 24) : Met l yGR_groupAt wsGR_groupAt ({ frames := 0, cells := 0, slots := 0, locals := 0 }) (va_Pc [.ref hG, .int x] (fun U => va_P (dC, dI) vwCl [(hG, .inr (1, [.int (nI gc), .int (nI gn), .ref aG, .ref bG, .ref dG, .ref gG])), (aG, .inl (cI, 24, .inl (fun j9 => nI (gF j9)))), (bG, .inl (cI, 24, .inl (fun j9 => nI (gT j9)))), (dG, .inl (cI, 24, .inl (fun j9 => oI (gS j9)))), (gG, .inl (cI, 24, .inl (fun j9 => nI (gO j9))))] U.heap ∧ KX dC dI cI cZ cG U)) (vp_Si (fun r => r = oI (rowA gn gO x))) 0 0 (fun _ => False) := by
  refine Met.ofW (cc := cGR_groupAt) (maxL := 2) (ret := (some .int)) (by decide) rfl ?_
  intro p e s m args below meth c s₁ B hml hv
  obtain ⟨rfl, hP, hKX⟩ := hv
  have hK := hKX.1
  have hx := B.exec
  have hb := B.bytes
  have hr := B.returns
  have hts := atoms_spec (ws := wsGR_groupAt) B.pre
  have hown : s.vm.findClass RGR = some m.cls := findClass_of_methodNamed B.named
  have hlocks := B.notSynchronized
  have hl := lv_entry ([.ref hG, .int x]) (n := 2) (Nat.le_of_ble_eq_true rfl)
  rw [lg_entry_eq]
  generalize (lg_sl ([.ref hG, .int x]) ++ List.replicate (2 - (lg_sl ([.ref hG, .int x])).length) Slot.unset).toArray = ls at hl ⊢
  have hl : lv_has ls 2 [(0, .ref hG), (1, .int x)] := hl
  generalize hRe : (headSpec wsGR_groupAt ({ frames := 0, cells := 0, slots := 0, locals := 0 })).room = R
  have hRf : 0 ≤ R.frames := by rw [← hRe]; exact Nat.le_refl _
  have hRl : 0 ≤ R.locals := by rw [← hRe]; exact Nat.le_refl _
  have hRc : 0 ≤ R.cells := by rw [← hRe]; exact Nat.le_refl _
  have hRs : 0 ≤ R.slots := by rw [← hRe]; exact Nat.le_refl _
  generalize hargs : (List.toArray [.ref hG, .int x] : Array Value) = args at hts ⊢
  generalize hQe : MQ below _ args s _ _ _ = Q
  refine lv_iload_n hx hb dGR_groupAt_0 rfl (lv_at hl 1 rfl) ?_
  refine lv_if_lt (tgt := 21) hx hb dGR_groupAt_1 (by decide) (fun c_1 => ?_) (fun c_1 => ?_)
  · refine lv_iconst (v := (-1)) hx hb dGR_groupAt_21 (by decide +kernel) ?_
    rw [← hQe]
    exact W.iret (v := (-1)) hx hb hr (fun t ht hW => ⟨_, rfl, by rw [rowA, if_pos (inB_neg c_1)]; rfl, by rw [ht]⟩) (fun q h => by cases h) dGR_groupAt_22
  · refine lv_iload_n hx hb dGR_groupAt_4 rfl (lv_at hl 1 rfl) ?_
    refine lv_aload_n hx hb dGR_groupAt_5 rfl (lv_at hl 0 rfl) ?_
    refine va_get (D := (dC, dI)) (ci := 1) (v := .int (nI gn)) (C := RGR) (T := TGR) (N := 6) hx hb hts (fun w h => List.mem_cons_of_mem _ (inGR w h)) hown hK hP 0 rfl rfl 1 (by decide) (hts _ (List.mem_cons_of_mem _ kw_80)) (fun _ h9 => h9) rfl dGR_groupAt_6 ?_
    refine lv_icmp_ge (tgt := 21) hx hb dGR_groupAt_9 (by decide) (fun c_2 => ?_) (fun c_2 => ?_)
    · refine lv_iconst (v := (-1)) hx hb dGR_groupAt_21 (by decide +kernel) ?_
      rw [← hQe]
      exact W.iret (v := (-1)) hx hb hr (fun t ht hW => ⟨_, rfl, by rw [rowA, if_pos (inB_big c_1 c_2)]; rfl, by rw [ht]⟩) (fun q h => by cases h) dGR_groupAt_22
    · obtain ⟨j, hj, rfl⟩ := inB_pos (n := gn) (by omega) (by rw [inB_in c_1 c_2]; decide)
      refine lv_aload_n hx hb dGR_groupAt_12 rfl (lv_at hl 0 rfl) ?_
      refine va_get (D := (dC, dI)) (ci := 1) (v := .ref gG) (C := RGR) (T := TGR) (N := 6) hx hb hts (fun w h => List.mem_cons_of_mem _ (inGR w h)) hown hK hP 0 rfl rfl 5 (by decide) (hts _ (List.mem_cons_of_mem _ kw_94)) (fun _ h9 => h9) rfl dGR_groupAt_13 ?_
      refine lv_iload_n hx hb dGR_groupAt_16 rfl (lv_at hl 1 rfl) ?_
      refine hr_iald hx hb hK hP 4 0 rfl rfl (i := j) (by omega) (by omega) dGR_groupAt_17 ?_
      refine lv_goto (tgt := 22) hx hb dGR_groupAt_18 (by decide) ?_
      rw [← hQe]
      exact W.iret (v := nI (gO j)) hx hb hr (fun t ht hW => ⟨_, rfl, by rw [rowA_nI hj (by omega)]; rfl, by rw [ht]⟩) (fun q h => by cases h) dGR_groupAt_22

set_option maxHeartbeats 4000000 in
set_option maxRecDepth 100000 in
/-- the SHARD that a TEST is given -/
theorem c_GR_shardFor (l : Launch) (dC : Nat → ClassId) (dI : Nat → Nat → Nat) (cI cZ cG : ClassId) (hG : Nat) (aG : Nat) (bG : Nat) (dG : Nat) (gG : Nat) (gc : Nat) (gn : Nat) (gF : Nat → Nat) (gT : Nat → Nat) (gS : Nat → Option Nat) (gO : Nat → Nat) (j : Nat) (hgn : gn ≤ 24) (hgc : gc ≤ 24) (hj : j < gn) (hg : gO j < gc) : Met l yGR_shardFor wsGR_shardFor ({ frames := 1, cells := 0, slots := 0, locals := 21 }) (va_Pc [.ref hG, .int (nI j)] (fun U => va_P (dC, dI) vwCl [(hG, .inr (1, [.int (nI gc), .int (nI gn), .ref aG, .ref bG, .ref dG, .ref gG])), (aG, .inl (cI, 24, .inl (fun j9 => nI (gF j9)))), (bG, .inl (cI, 24, .inl (fun j9 => nI (gT j9)))), (dG, .inl (cI, 24, .inl (fun j9 => oI (gS j9)))), (gG, .inl (cI, 24, .inl (fun j9 => nI (gO j9))))] U.heap ∧ KX dC dI cI cZ cG U)) (vp_Si (fun r => r = oI (gS (gO j)))) 0 0 (fun _ => False) := by
  refine Met.ofW (cc := cGR_shardFor) (maxL := 3) (ret := (some .int)) (by decide) rfl ?_
  intro p e s m args below meth c s₁ B hml hv
  obtain ⟨rfl, hP, hKX⟩ := hv
  have hK := hKX.1
  have hx := B.exec
  have hb := B.bytes
  have hr := B.returns
  have hts := atoms_spec (ws := wsGR_shardFor) B.pre
  have hown : s.vm.findClass RGR = some m.cls := findClass_of_methodNamed B.named
  have hlocks := B.notSynchronized
  have hl := lv_entry ([.ref hG, .int (nI j)]) (n := 3) (Nat.le_of_ble_eq_true rfl)
  rw [lg_entry_eq]
  generalize (lg_sl ([.ref hG, .int (nI j)]) ++ List.replicate (3 - (lg_sl ([.ref hG, .int (nI j)])).length) Slot.unset).toArray = ls at hl ⊢
  have hl : lv_has ls 3 [(0, .ref hG), (1, .int (nI j))] := hl
  generalize hRe : (headSpec wsGR_shardFor ({ frames := 1, cells := 0, slots := 0, locals := 21 })).room = R
  have hRf : 1 ≤ R.frames := by rw [← hRe]; exact Nat.le_refl _
  have hRl : 21 ≤ R.locals := by rw [← hRe]; exact Nat.le_refl _
  have hRc : 0 ≤ R.cells := by rw [← hRe]; exact Nat.le_refl _
  have hRs : 0 ≤ R.slots := by rw [← hRe]; exact Nat.le_refl _
  generalize hargs : (List.toArray [.ref hG, .int (nI j)] : Array Value) = args at hts ⊢
  generalize hQe : MQ below _ args s _ _ _ = Q
  refine lv_aload_n hx hb dGR_shardFor_0 rfl (lv_at hl 0 rfl) ?_
  refine lv_iload_n hx hb dGR_shardFor_1 rfl (lv_at hl 1 rfl) ?_
  refine vp_callSi (va_runV (C := RGR) (As := [.int (nI j)]) (rest := []) ⟨hx, hb, hml, hown, hts⟩ (c_GR_groupAt l dC dI cI cZ cG hG aG bG dG gG gc gn gF gT gS gO (nI j) (hgn)) (hr_cwV 1 hts kw_316 kw_317 kw_318 kw_26 kw_319 (by decide +kernel) (by rw [← hRe]; exact ⟨Nat.le_of_ble_eq_true rfl, Nat.le_of_ble_eq_true rfl⟩)) (hr_preR hKX hP [0, 1, 2, 3, 4] rfl (ci := 1) (q0 := 0) (q := (RGR, TGR, 6)) rfl rfl) rfl rfl hl.1 rfl (lv_room (Nat.le_of_ble_eq_true rfl)) dGR_shardFor_2 ⟨by omega, by omega⟩).run (fun rv hrv => ?_)
  refine hr_eqi hrv ?_
  refine hr_eqi (show oI (rowA gn gO (nI j)) = nI (gO j) by rw [rowA_nI hj (by omega)]; rfl) ?_
  refine lv_istore_n (lv' := [(2, .int (nI (gO j))), (0, .ref hG), (1, .int (nI j))]) hx hb dGR_shardFor_5 rfl hl (by decide) rfl (fun ls hl => ?_)
  refine lv_iload_n hx hb dGR_shardFor_6 rfl (lv_at hl 0 rfl) ?_
  refine hr_if_lt hx hb (x := (gO j)) (by omega) (tgt := 27) dGR_shardFor_7 (by decide) (fun c_1 => ?_) (fun c_1 => ?_)
  · exact absurd c_1 (by omega)
  · refine lv_iload_n hx hb dGR_shardFor_10 rfl (lv_at hl 0 rfl) ?_
    refine lv_aload_n hx hb dGR_shardFor_11 rfl (lv_at hl 1 rfl) ?_
    refine va_get (D := (dC, dI)) (ci := 1) (v := .int (nI gc)) (C := RGR) (T := TGR) (N := 6) hx hb hts (fun w h => List.mem_cons_of_mem _ (inGR w h)) hown hK hP 0 rfl rfl 0 (by decide) (hts _ (List.mem_cons_of_mem _ kw_75)) (fun _ h9 => h9) rfl dGR_shardFor_12 ?_
    refine hr_icmp_ge hx hb (x := (gO j)) (y := gc) (by omega) (by omega) (tgt := 27) dGR_shardFor_15 (by decide) (fun c_2 => ?_) (fun c_2 => ?_)
    · exact absurd c_2 (by omega)
    · refine lv_aload_n hx hb dGR_shardFor_18 rfl (lv_at hl 1 rfl) ?_
      refine va_get (D := (dC, dI)) (ci := 1) (v := .ref dG) (C := RGR) (T := TGR) (N := 6) hx hb hts (fun w h => List.mem_cons_of_mem _ (inGR w h)) hown hK hP 0 rfl rfl 4 (by decide) (hts _ (List.mem_cons_of_mem _ kw_90)) (fun _ h9 => h9) rfl dGR_shardFor_19 ?_
      refine lv_iload_n hx hb dGR_shardFor_22 rfl (lv_at hl 0 rfl) ?_
      refine hr_iald hx hb hK hP 3 0 rfl rfl (i := (gO j)) (by omega) (by omega) dGR_shardFor_23 ?_
      refine lv_goto (tgt := 28) hx hb dGR_shardFor_24 (by decide) ?_
      rw [← hQe]
      exact W.iret (v := oI (gS (gO j))) hx hb hr (fun t ht hW => ⟨_, rfl, rfl, by rw [ht]⟩) (fun q h => by cases h) dGR_shardFor_28

set_option maxHeartbeats 4000000 in
set_option maxRecDepth 100000 in
/-- a new GROUP -/
theorem c_GR_open (l : Launch) (dC : Nat → ClassId) (dI : Nat → Nat → Nat) (cI cZ cG : ClassId) (hG : Nat) (aG : Nat) (bG : Nat) (dG : Nat) (gG : Nat) (gc : Nat) (gn : Nat) (gF : Nat → Nat) (gT : Nat → Nat) (gS : Nat → Option Nat) (gO : Nat → Nat) (tt : Nat) (sz : Nat) (hgc : gc < 24) : Met l yGR_open wsGR_open ({ frames := 0, cells := 0, slots := 0, locals := 0 }) (va_Pc [.ref hG, .int (nI tt)] (fun U => U.heap.size = sz ∧ va_P (dC, dI) vwCl [(hG, .inr (1, [.int (nI gc), .int (nI gn), .ref aG, .ref bG, .ref dG, .ref gG])), (aG, .inl (cI, 24, .inl (fun j9 => nI (gF j9)))), (bG, .inl (cI, 24, .inl (fun j9 => nI (gT j9)))), (dG, .inl (cI, 24, .inl (fun j9 => oI (gS j9)))), (gG, .inl (cI, 24, .inl (fun j9 => nI (gO j9))))] U.heap ∧ KX dC dI cI cZ cG U ∧ va_D (fun _ => True) [(hG, .inr (1, [.int (nI gc), .int (nI gn), .ref aG, .ref bG, .ref dG, .ref gG])), (aG, .inl (cI, 24, .inl (fun j9 => nI (gF j9)))), (bG, .inl (cI, 24, .inl (fun j9 => nI (gT j9)))), (dG, .inl (cI, 24, .inl (fun j9 => oI (gS j9)))), (gG, .inl (cI, 24, .inl (fun j9 => nI (gO j9))))])) (va_Qi (fun (r : Int32) (u : Unit) => r = nI gc) (fun u t => va_P (dC, dI) vwCl [(hG, .inr (1, [.int (nI (gc + 1)), .int (nI gn), .ref aG, .ref bG, .ref dG, .ref gG])), (aG, .inl (cI, 24, .inl (fun j9 => nI ((va_up gF gc tt) j9)))), (bG, .inl (cI, 24, .inl (fun j9 => nI ((va_up gT gc 0) j9)))), (dG, .inl (cI, 24, .inl (fun j9 => oI ((va_up gS gc none) j9)))), (gG, .inl (cI, 24, .inl (fun j9 => nI (gO j9))))] t.heap ∧ va_D (va_A [(hG, .inr (1, [.int (nI gc), .int (nI gn), .ref aG, .ref bG, .ref dG, .ref gG])), (aG, .inl (cI, 24, .inl (fun j9 => nI (gF j9)))), (bG, .inl (cI, 24, .inl (fun j9 => nI (gT j9)))), (dG, .inl (cI, 24, .inl (fun j9 => oI (gS j9)))), (gG, .inl (cI, 24, .inl (fun j9 => nI (gO j9))))] sz) [(hG, .inr (1, [.int (nI (gc + 1)), .int (nI gn), .ref aG, .ref bG, .ref dG, .ref gG])), (aG, .inl (cI, 24, .inl (fun j9 => nI ((va_up gF gc tt) j9)))), (bG, .inl (cI, 24, .inl (fun j9 => nI ((va_up gT gc 0) j9)))), (dG, .inl (cI, 24, .inl (fun j9 => oI ((va_up gS gc none) j9)))), (gG, .inl (cI, 24, .inl (fun j9 => nI (gO j9))))]) (va_A [(hG, .inr (1, [.int (nI gc), .int (nI gn), .ref aG, .ref bG, .ref dG, .ref gG])), (aG, .inl (cI, 24, .inl (fun j9 => nI (gF j9)))), (bG, .inl (cI, 24, .inl (fun j9 => nI (gT j9)))), (dG, .inl (cI, 24, .inl (fun j9 => oI (gS j9)))), (gG, .inl (cI, 24, .inl (fun j9 => nI (gO j9))))] sz)) 0 0 (va_A [(hG, .inr (1, [.int (nI gc), .int (nI gn), .ref aG, .ref bG, .ref dG, .ref gG])), (aG, .inl (cI, 24, .inl (fun j9 => nI (gF j9)))), (bG, .inl (cI, 24, .inl (fun j9 => nI (gT j9)))), (dG, .inl (cI, 24, .inl (fun j9 => oI (gS j9)))), (gG, .inl (cI, 24, .inl (fun j9 => nI (gO j9))))] sz) := by
  refine Met.ofW (cc := cGR_open) (maxL := 3) (ret := (some .int)) (by decide) rfl ?_
  intro p e s m args below meth c s₁ B hml hv
  obtain ⟨rfl, hsz, hP, hKX, hD0⟩ := hv
  have hK := hKX.1
  have hx := B.exec
  have hb := B.bytes
  have hr := B.returns
  have hts := atoms_spec (ws := wsGR_open) B.pre
  have hown : s.vm.findClass RGR = some m.cls := findClass_of_methodNamed B.named
  have hlocks := B.notSynchronized
  subst hsz
  have hD := hD0.self (sz := s.heap.size)
  generalize hAe : va_A [(hG, .inr (1, [.int (nI gc), .int (nI gn), .ref aG, .ref bG, .ref dG, .ref gG])), (aG, .inl (cI, 24, .inl (fun j9 => nI (gF j9)))), (bG, .inl (cI, 24, .inl (fun j9 => nI (gT j9)))), (dG, .inl (cI, 24, .inl (fun j9 => oI (gS j9)))), (gG, .inl (cI, 24, .inl (fun j9 => nI (gO j9))))] s.heap.size = A at hD ⊢
  have hA : ∀ q : Nat, s.heap.size ≤ q → A q := fun q h => by rw [← hAe]; exact Or.inr h
  have hS : va_S A s.heap s.heap [] := va_S.rf
  have hl := lv_entry ([.ref hG, .int (nI tt)]) (n := 3) (Nat.le_of_ble_eq_true rfl)
  rw [lg_entry_eq]
  generalize (lg_sl ([.ref hG, .int (nI tt)]) ++ List.replicate (3 - (lg_sl ([.ref hG, .int (nI tt)])).length) Slot.unset).toArray = ls at hl ⊢
  have hl : lv_has ls 3 [(0, .ref hG), (1, .int (nI tt))] := hl
  generalize hRe : (headSpec wsGR_open ({ frames := 0, cells := 0, slots := 0, locals := 0 })).room = R
  have hRf : 0 ≤ R.frames := by rw [← hRe]; exact Nat.le_refl _
  have hRl : 0 ≤ R.locals := by rw [← hRe]; exact Nat.le_refl _
  have hRc : 0 ≤ R.cells := by rw [← hRe]; exact Nat.le_refl _
  have hRs : 0 ≤ R.slots := by rw [← hRe]; exact Nat.le_refl _
  generalize hargs : (List.toArray [.ref hG, .int (nI tt)] : Array Value) = args at hts ⊢
  generalize hQe : MQ below _ args s _ _ _ = Q
  refine lv_aload_n hx hb dGR_open_0 rfl (lv_at hl 0 rfl) ?_
  refine va_get (D := (dC, dI)) (ci := 1) (v := .int (nI gc)) (C := RGR) (T := TGR) (N := 6) hx hb hts (fun w h => List.mem_cons_of_mem _ (inGR w h)) hown hK hP 0 rfl rfl 0 (by decide) (hts _ (List.mem_cons_of_mem _ kw_75)) (fun _ h9 => h9) rfl dGR_open_1 ?_
  refine lv_istore_n (lv' := [(2, .int (nI gc)), (0, .ref hG), (1, .int (nI tt))]) hx hb dGR_open_4 rfl hl (by decide) rfl (fun ls hl => ?_)
  refine lv_aload_n hx hb dGR_open_5 rfl (lv_at hl 1 rfl) ?_
  refine va_get (D := (dC, dI)) (ci := 1) (v := .ref aG) (C := RGR) (T := TGR) (N := 6) hx hb hts (fun w h => List.mem_cons_of_mem _ (inGR w h)) hown hK hP 0 rfl rfl 2 (by decide) (hts _ (List.mem_cons_of_mem _ kw_83)) (fun _ h9 => h9) rfl dGR_open_6 ?_
  refine lv_iload_n hx hb dGR_open_9 rfl (lv_at hl 0 rfl) ?_
  refine lv_iload_n hx hb dGR_open_10 rfl (lv_at hl 2 rfl) ?_
  refine hr_iastN hx hb hK hP hD hS 1 0 rfl rfl (i := gc) (by omega) (by omega) dGR_open_11 (fun H locs hP hD hS => ?_)
  have hP : va_P (dC, dI) vwCl [(hG, .inr (1, [.int (nI gc), .int (nI gn), .ref aG, .ref bG, .ref dG, .ref gG])), (aG, .inl (cI, 24, .inl (fun j9 => nI ((va_up gF gc tt) j9)))), (bG, .inl (cI, 24, .inl (fun j9 => nI (gT j9)))), (dG, .inl (cI, 24, .inl (fun j9 => oI (gS j9)))), (gG, .inl (cI, 24, .inl (fun j9 => nI (gO j9))))] H := hP
  have hD : va_D A [(hG, .inr (1, [.int (nI gc), .int (nI gn), .ref aG, .ref bG, .ref dG, .ref gG])), (aG, .inl (cI, 24, .inl (fun j9 => nI ((va_up gF gc tt) j9)))), (bG, .inl (cI, 24, .inl (fun j9 => nI (gT j9)))), (dG, .inl (cI, 24, .inl (fun j9 => oI (gS j9)))), (gG, .inl (cI, 24, .inl (fun j9 => nI (gO j9))))] := hD
  refine lv_aload_n hx hb dGR_open_12 rfl (lv_at hl 1 rfl) ?_
  refine va_get (D := (dC, dI)) (ci := 1) (v := .ref bG) (C := RGR) (T := TGR) (N := 6) hx hb hts (fun w h => List.mem_cons_of_mem _ (inGR w h)) hown hK hP 0 rfl rfl 3 (by decide) (hts _ (List.mem_cons_of_mem _ kw_86)) (fun _ h9 => h9) rfl dGR_open_13 ?_
  refine lv_iload_n hx hb dGR_open_16 rfl (lv_at hl 0 rfl) ?_
  refine lv_iconst (v := nI 0) hx hb dGR_open_17 (by decide +kernel) ?_
  refine hr_iastN hx hb hK hP hD hS 2 0 rfl rfl (i := gc) (by omega) (by omega) dGR_open_18 (fun H locs hP hD hS => ?_)
  have hP : va_P (dC, dI) vwCl [(hG, .inr (1, [.int (nI gc), .int (nI gn), .ref aG, .ref bG, .ref dG, .ref gG])), (aG, .inl (cI, 24, .inl (fun j9 => nI ((va_up gF gc tt) j9)))), (bG, .inl (cI, 24, .inl (fun j9 => nI ((va_up gT gc 0) j9)))), (dG, .inl (cI, 24, .inl (fun j9 => oI (gS j9)))), (gG, .inl (cI, 24, .inl (fun j9 => nI (gO j9))))] H := hP
  have hD : va_D A [(hG, .inr (1, [.int (nI gc), .int (nI gn), .ref aG, .ref bG, .ref dG, .ref gG])), (aG, .inl (cI, 24, .inl (fun j9 => nI ((va_up gF gc tt) j9)))), (bG, .inl (cI, 24, .inl (fun j9 => nI ((va_up gT gc 0) j9)))), (dG, .inl (cI, 24, .inl (fun j9 => oI (gS j9)))), (gG, .inl (cI, 24, .inl (fun j9 => nI (gO j9))))] := hD
  refine lv_aload_n hx hb dGR_open_19 rfl (lv_at hl 1 rfl) ?_
  refine va_get (D := (dC, dI)) (ci := 1) (v := .ref dG) (C := RGR) (T := TGR) (N := 6) hx hb hts (fun w h => List.mem_cons_of_mem _ (inGR w h)) hown hK hP 0 rfl rfl 4 (by decide) (hts _ (List.mem_cons_of_mem _ kw_90)) (fun _ h9 => h9) rfl dGR_open_20 ?_
  refine lv_iload_n hx hb dGR_open_23 rfl (lv_at hl 0 rfl) ?_
  refine lv_iconst (v := (-1)) hx hb dGR_open_24 (by decide +kernel) ?_
  refine hr_iastO (x := none) hx hb hK hP hD hS 3 0 rfl rfl (i := gc) (by omega) (by omega) dGR_open_25 (fun H locs hP hD hS => ?_)
  have hP : va_P (dC, dI) vwCl [(hG, .inr (1, [.int (nI gc), .int (nI gn), .ref aG, .ref bG, .ref dG, .ref gG])), (aG, .inl (cI, 24, .inl (fun j9 => nI ((va_up gF gc tt) j9)))), (bG, .inl (cI, 24, .inl (fun j9 => nI ((va_up gT gc 0) j9)))), (dG, .inl (cI, 24, .inl (fun j9 => oI ((va_up gS gc none) j9)))), (gG, .inl (cI, 24, .inl (fun j9 => nI (gO j9))))] H := hP
  have hD : va_D A [(hG, .inr (1, [.int (nI gc), .int (nI gn), .ref aG, .ref bG, .ref dG, .ref gG])), (aG, .inl (cI, 24, .inl (fun j9 => nI ((va_up gF gc tt) j9)))), (bG, .inl (cI, 24, .inl (fun j9 => nI ((va_up gT gc 0) j9)))), (dG, .inl (cI, 24, .inl (fun j9 => oI ((va_up gS gc none) j9)))), (gG, .inl (cI, 24, .inl (fun j9 => nI (gO j9))))] := hD
  refine lv_aload_n hx hb dGR_open_26 rfl (lv_at hl 1 rfl) ?_
  refine lv_dup hx hb dGR_open_27 rfl ?_
  refine va_get (D := (dC, dI)) (ci := 1) (v := .int (nI gc)) (C := RGR) (T := TGR) (N := 6) hx hb hts (fun w h => List.mem_cons_of_mem _ (inGR w h)) hown hK hP 0 rfl rfl 0 (by decide) (hts _ (List.mem_cons_of_mem _ kw_75)) (fun _ h9 => h9) rfl dGR_open_28 ?_
  refine lv_iconst (v := nI 1) hx hb dGR_open_31 (by decide +kernel) ?_
  refine lv_iadd hx hb dGR_open_32 ?_
  refine hr_eqi (nI_add _ _) ?_
  refine va_put (D := (dC, dI)) (ci := 1) (v := .int (nI (gc + 1))) (ty := .int) (C := RGR) (T := TGR) (N := 6) hx hb hts (fun w h => List.mem_cons_of_mem _ (inGR w h)) tyGR tyGR_ok nmGR hown hK hP hD hS 0 rfl rfl 0 (by decide) (hts _ (List.mem_cons_of_mem _ kw_75)) (fun _ h9 => h9) rfl (by decide +kernel) rfl rfl (Nat.le_of_ble_eq_true rfl) dGR_open_33 (fun H locs hP hD hS => ?_)
  have hP : va_P (dC, dI) vwCl [(hG, .inr (1, [.int (nI (gc + 1)), .int (nI gn), .ref aG, .ref bG, .ref dG, .ref gG])), (aG, .inl (cI, 24, .inl (fun j9 => nI ((va_up gF gc tt) j9)))), (bG, .inl (cI, 24, .inl (fun j9 => nI ((va_up gT gc 0) j9)))), (dG, .inl (cI, 24, .inl (fun j9 => oI ((va_up gS gc none) j9)))), (gG, .inl (cI, 24, .inl (fun j9 => nI (gO j9))))] H := hP
  have hD : va_D A [(hG, .inr (1, [.int (nI (gc + 1)), .int (nI gn), .ref aG, .ref bG, .ref dG, .ref gG])), (aG, .inl (cI, 24, .inl (fun j9 => nI ((va_up gF gc tt) j9)))), (bG, .inl (cI, 24, .inl (fun j9 => nI ((va_up gT gc 0) j9)))), (dG, .inl (cI, 24, .inl (fun j9 => oI ((va_up gS gc none) j9)))), (gG, .inl (cI, 24, .inl (fun j9 => nI (gO j9))))] := hD
  refine lv_iload_n hx hb dGR_open_36 rfl (lv_at hl 0 rfl) ?_
  rw [← hQe]
  exact W.iret (v := nI gc) hx hb hr (fun t ht hW => ⟨⟨_, (), rfl, rfl, by rw [ht]; exact hP, hD⟩, hS.F ht⟩) hS.2.2 dGR_open_37

set_option maxHeartbeats 4000000 in
set_option maxRecDepth 100000 in
/-- the GROUPS are gathered -/
theorem c_GR_gather (l : Launch) (dC : Nat → ClassId) (dI : Nat → Nat → Nat) (cI cZ cG : ClassId) (hG : Nat) (aG : Nat) (bG : Nat) (dG : Nat) (gG : Nat) (gc : Nat) (gn : Nat) (gF : Nat → Nat) (gT : Nat → Nat) (gS : Nat → Option Nat) (gO : Nat → Nat) (h : Nat) (a : Nat) (b : Nat) (n : Nat) (tf : Nat → Nat) (ff : Nat → Nat) (sz : Nat) (hn : n ≤ 24) (ht : ∀ j, j < n → tf j ≤ 100000) (hf : ∀ j, j < n → ff j ≤ j) (hff : ∀ j, j < n → ff (ff j) = ff j) : Met l yGR_gather wsGR_gather ({ frames := 1, cells := 0, slots := 0, locals := 24 }) (va_Pc [.ref hG, .ref h] (fun U => U.heap.size = sz ∧ va_P (dC, dI) vwCl [(hG, .inr (1, [.int (nI gc), .int (nI gn), .ref aG, .ref bG, .ref dG, .ref gG])), (aG, .inl (cI, 24, .inl (fun j9 => nI (gF j9)))), (bG, .inl (cI, 24, .inl (fun j9 => nI (gT j9)))), (dG, .inl (cI, 24, .inl (fun j9 => oI (gS j9)))), (gG, .inl (cI, 24, .inl (fun j9 => nI (gO j9)))), (h, .inr (0, [.int (nI n), .ref a, .ref b])), (a, .inl (cI, 24, .inl (fun j9 => nI (tf j9)))), (b, .inl (cI, 24, .inl (fun j9 => nI (ff j9))))] U.heap ∧ KX dC dI cI cZ cG U ∧ va_D (fun _ => True) [(hG, .inr (1, [.int (nI gc), .int (nI gn), .ref aG, .ref bG, .ref dG, .ref gG])), (aG, .inl (cI, 24, .inl (fun j9 => nI (gF j9)))), (bG, .inl (cI, 24, .inl (fun j9 => nI (gT j9)))), (dG, .inl (cI, 24, .inl (fun j9 => oI (gS j9)))), (gG, .inl (cI, 24, .inl (fun j9 => nI (gO j9)))), (h, .inr (0, [.int (nI n), .ref a, .ref b])), (a, .inl (cI, 24, .inl (fun j9 => nI (tf j9)))), (b, .inl (cI, 24, .inl (fun j9 => nI (ff j9))))])) (va_Qv (fun (u : (Nat → Nat) × (Nat → Nat) × (Nat → Option Nat) × (Nat → Nat)) => gInv ff tf (meanN tf n) n u.1 u.2.1 u.2.2.2 u.2.2.1) (fun u t => va_P (dC, dI) vwCl [(hG, .inr (1, [.int (nI (grpN ff n)), .int (nI n), .ref aG, .ref bG, .ref dG, .ref gG])), (aG, .inl (cI, 24, .inl (fun j9 => nI (u.1 j9)))), (bG, .inl (cI, 24, .inl (fun j9 => nI (u.2.1 j9)))), (dG, .inl (cI, 24, .inl (fun j9 => oI (u.2.2.1 j9)))), (gG, .inl (cI, 24, .inl (fun j9 => nI (u.2.2.2 j9)))), (h, .inr (0, [.int (nI n), .ref a, .ref b])), (a, .inl (cI, 24, .inl (fun j9 => nI (tf j9)))), (b, .inl (cI, 24, .inl (fun j9 => nI (ff j9))))] t.heap ∧ va_D (va_A [(hG, .inr (1, [.int (nI gc), .int (nI gn), .ref aG, .ref bG, .ref dG, .ref gG])), (aG, .inl (cI, 24, .inl (fun j9 => nI (gF j9)))), (bG, .inl (cI, 24, .inl (fun j9 => nI (gT j9)))), (dG, .inl (cI, 24, .inl (fun j9 => oI (gS j9)))), (gG, .inl (cI, 24, .inl (fun j9 => nI (gO j9)))), (h, .inr (0, [.int (nI n), .ref a, .ref b])), (a, .inl (cI, 24, .inl (fun j9 => nI (tf j9)))), (b, .inl (cI, 24, .inl (fun j9 => nI (ff j9))))] sz) [(hG, .inr (1, [.int (nI (grpN ff n)), .int (nI n), .ref aG, .ref bG, .ref dG, .ref gG])), (aG, .inl (cI, 24, .inl (fun j9 => nI (u.1 j9)))), (bG, .inl (cI, 24, .inl (fun j9 => nI (u.2.1 j9)))), (dG, .inl (cI, 24, .inl (fun j9 => oI (u.2.2.1 j9)))), (gG, .inl (cI, 24, .inl (fun j9 => nI (u.2.2.2 j9)))), (h, .inr (0, [.int (nI n), .ref a, .ref b])), (a, .inl (cI, 24, .inl (fun j9 => nI (tf j9)))), (b, .inl (cI, 24, .inl (fun j9 => nI (ff j9))))]) (va_A [(hG, .inr (1, [.int (nI gc), .int (nI gn), .ref aG, .ref bG, .ref dG, .ref gG])), (aG, .inl (cI, 24, .inl (fun j9 => nI (gF j9)))), (bG, .inl (cI, 24, .inl (fun j9 => nI (gT j9)))), (dG, .inl (cI, 24, .inl (fun j9 => oI (gS j9)))), (gG, .inl (cI, 24, .inl (fun j9 => nI (gO j9)))), (h, .inr (0, [.int (nI n), .ref a, .ref b])), (a, .inl (cI, 24, .inl (fun j9 => nI (tf j9)))), (b, .inl (cI, 24, .inl (fun j9 => nI (ff j9))))] sz)) 0 0 (va_A [(hG, .inr (1, [.int (nI gc), .int (nI gn), .ref aG, .ref bG, .ref dG, .ref gG])), (aG, .inl (cI, 24, .inl (fun j9 => nI (gF j9)))), (bG, .inl (cI, 24, .inl (fun j9 => nI (gT j9)))), (dG, .inl (cI, 24, .inl (fun j9 => oI (gS j9)))), (gG, .inl (cI, 24, .inl (fun j9 => nI (gO j9)))), (h, .inr (0, [.int (nI n), .ref a, .ref b])), (a, .inl (cI, 24, .inl (fun j9 => nI (tf j9)))), (b, .inl (cI, 24, .inl (fun j9 => nI (ff j9))))] sz) := by
  refine Met.ofW (cc := cGR_gather) (maxL := 6) (ret := none) (by decide) rfl ?_
  intro p e s m args below meth c s₁ B hml hv
  obtain ⟨rfl, hsz, hP, hKX, hD0⟩ := hv
  have hK := hKX.1
  have hx := B.exec
  have hb := B.bytes
  have hr := B.returns
  have hts := atoms_spec (ws := wsGR_gather) B.pre
  have hown : s.vm.findClass RGR = some m.cls := findClass_of_methodNamed B.named
  have hlocks := B.notSynchronized
  subst hsz
  have hD := hD0.self (sz := s.heap.size)
  generalize hAe : va_A [(hG, .inr (1, [.int (nI gc), .int (nI gn), .ref aG, .ref bG, .ref dG, .ref gG])), (aG, .inl (cI, 24, .inl (fun j9 => nI (gF j9)))), (bG, .inl (cI, 24, .inl (fun j9 => nI (gT j9)))), (dG, .inl (cI, 24, .inl (fun j9 => oI (gS j9)))), (gG, .inl (cI, 24, .inl (fun j9 => nI (gO j9)))), (h, .inr (0, [.int (nI n), .ref a, .ref b])), (a, .inl (cI, 24, .inl (fun j9 => nI (tf j9)))), (b, .inl (cI, 24, .inl (fun j9 => nI (ff j9))))] s.heap.size = A at hD ⊢
  have hA : ∀ q : Nat, s.heap.size ≤ q → A q := fun q h => by rw [← hAe]; exact Or.inr h
  have hS : va_S A s.heap s.heap [] := va_S.rf
  have hl := lv_entry ([.ref hG, .ref h]) (n := 6) (Nat.le_of_ble_eq_true rfl)
  rw [lg_entry_eq]
  generalize (lg_sl ([.ref hG, .ref h]) ++ List.replicate (6 - (lg_sl ([.ref hG, .ref h])).length) Slot.unset).toArray = ls at hl ⊢
  have hl : lv_has ls 6 [(0, .ref hG), (1, .ref h)] := hl
  generalize hRe : (headSpec wsGR_gather ({ frames := 1, cells := 0, slots := 0, locals := 24 })).room = R
  have hRf : 1 ≤ R.frames := by rw [← hRe]; exact Nat.le_refl _
  have hRl : 24 ≤ R.locals := by rw [← hRe]; exact Nat.le_refl _
  have hRc : 0 ≤ R.cells := by rw [← hRe]; exact Nat.le_refl _
  have hRs : 0 ≤ R.slots := by rw [← hRe]; exact Nat.le_refl _
  generalize hargs : (List.toArray [.ref hG, .ref h] : Array Value) = args at hts ⊢
  generalize hQe : MQ below _ args s _ _ _ = Q
  refine lv_aload_n hx hb dGR_gather_0 rfl (lv_at hl 1 rfl) ?_
  refine vp_callSi (va_runV (C := RTR) (As := []) (rest := []) ⟨hx, hb, hml, hown, hts⟩ (c_TR_mean l dC dI cI cZ cG h a b n tf ff (hn) (ht)) (hr_cwV 0 hts kw_311 kw_292 kw_293 kw_25 kw_294 (by decide +kernel) (by rw [← hRe]; exact ⟨Nat.le_of_ble_eq_true rfl, Nat.le_of_ble_eq_true rfl⟩)) (hr_preR hKX hP [5, 6, 7] rfl (ci := 0) (q0 := 5) (q := (RTR, TTR, 3)) rfl rfl) rfl rfl hl.1 rfl (lv_room (Nat.le_of_ble_eq_true rfl)) dGR_gather_1 ⟨by omega, by omega⟩).run (fun rv hrv => ?_)
  refine hr_eqi hrv ?_
  refine lv_istore_n (lv' := [(2, .int (nI (meanN tf n))), (0, .ref hG), (1, .ref h)]) hx hb dGR_gather_4 rfl hl (by decide) rfl (fun ls hl => ?_)
  refine lv_aload_n hx hb dGR_gather_5 rfl (lv_at hl 1 rfl) ?_
  refine lv_iconst (v := nI 0) hx hb dGR_gather_6 (by decide +kernel) ?_
  refine va_put (D := (dC, dI)) (ci := 1) (v := .int (nI 0)) (ty := .int) (C := RGR) (T := TGR) (N := 6) hx hb hts (fun w h => List.mem_cons_of_mem _ (inGR w h)) tyGR tyGR_ok nmGR hown hK hP hD hS 0 rfl rfl 0 (by decide) (hts _ (List.mem_cons_of_mem _ kw_75)) (fun _ h9 => h9) rfl (by decide +kernel) rfl rfl (Nat.le_of_ble_eq_true rfl) dGR_gather_7 (fun H locs hP hD hS => ?_)
  have hP : va_P (dC, dI) vwCl [(hG, .inr (1, [.int (nI 0), .int (nI gn), .ref aG, .ref bG, .ref dG, .ref gG])), (aG, .inl (cI, 24, .inl (fun j9 => nI (gF j9)))), (bG, .inl (cI, 24, .inl (fun j9 => nI (gT j9)))), (dG, .inl (cI, 24, .inl (fun j9 => oI (gS j9)))), (gG, .inl (cI, 24, .inl (fun j9 => nI (gO j9)))), (h, .inr (0, [.int (nI n), .ref a, .ref b])), (a, .inl (cI, 24, .inl (fun j9 => nI (tf j9)))), (b, .inl (cI, 24, .inl (fun j9 => nI (ff j9))))] H := hP
  have hD : va_D A [(hG, .inr (1, [.int (nI 0), .int (nI gn), .ref aG, .ref bG, .ref dG, .ref gG])), (aG, .inl (cI, 24, .inl (fun j9 => nI (gF j9)))), (bG, .inl (cI, 24, .inl (fun j9 => nI (gT j9)))), (dG, .inl (cI, 24, .inl (fun j9 => oI (gS j9)))), (gG, .inl (cI, 24, .inl (fun j9 => nI (gO j9)))), (h, .inr (0, [.int (nI n), .ref a, .ref b])), (a, .inl (cI, 24, .inl (fun j9 => nI (tf j9)))), (b, .inl (cI, 24, .inl (fun j9 => nI (ff j9))))] := hD
  refine lv_aload_n hx hb dGR_gather_10 rfl (lv_at hl 1 rfl) ?_
  refine lv_aload_n hx hb dGR_gather_11 rfl (lv_at hl 2 rfl) ?_
  refine va_get (D := (dC, dI)) (ci := 0) (v := .int (nI n)) (C := RTR) (T := TTR) (N := 3) hx hb hts (fun w h => List.mem_cons_of_mem _ (inTR w h)) hown hK hP 5 rfl rfl 0 (by decide) (hts _ (List.mem_cons_of_mem _ kw_56)) (fun _ h9 => h9) rfl dGR_gather_12 ?_
  refine va_put (D := (dC, dI)) (ci := 1) (v := .int (nI n)) (ty := .int) (C := RGR) (T := TGR) (N := 6) hx hb hts (fun w h => List.mem_cons_of_mem _ (inGR w h)) tyGR tyGR_ok nmGR hown hK hP hD hS 0 rfl rfl 1 (by decide) (hts _ (List.mem_cons_of_mem _ kw_80)) (fun _ h9 => h9) rfl (by decide +kernel) rfl rfl (Nat.le_of_ble_eq_true rfl) dGR_gather_15 (fun H locs hP hD hS => ?_)
  have hP : va_P (dC, dI) vwCl [(hG, .inr (1, [.int (nI 0), .int (nI n), .ref aG, .ref bG, .ref dG, .ref gG])), (aG, .inl (cI, 24, .inl (fun j9 => nI (gF j9)))), (bG, .inl (cI, 24, .inl (fun j9 => nI (gT j9)))), (dG, .inl (cI, 24, .inl (fun j9 => oI (gS j9)))), (gG, .inl (cI, 24, .inl (fun j9 => nI (gO j9)))), (h, .inr (0, [.int (nI n), .ref a, .ref b])), (a, .inl (cI, 24, .inl (fun j9 => nI (tf j9)))), (b, .inl (cI, 24, .inl (fun j9 => nI (ff j9))))] H := hP
  have hD : va_D A [(hG, .inr (1, [.int (nI 0), .int (nI n), .ref aG, .ref bG, .ref dG, .ref gG])), (aG, .inl (cI, 24, .inl (fun j9 => nI (gF j9)))), (bG, .inl (cI, 24, .inl (fun j9 => nI (gT j9)))), (dG, .inl (cI, 24, .inl (fun j9 => oI (gS j9)))), (gG, .inl (cI, 24, .inl (fun j9 => nI (gO j9)))), (h, .inr (0, [.int (nI n), .ref a, .ref b])), (a, .inl (cI, 24, .inl (fun j9 => nI (tf j9)))), (b, .inl (cI, 24, .inl (fun j9 => nI (ff j9))))] := hD
  refine lv_iconst (v := nI 0) hx hb dGR_gather_18 (by decide +kernel) ?_
  refine lv_istore_n (lv' := [(3, .int (nI 0)), (2, .int (nI (meanN tf n))), (0, .ref hG), (1, .ref h)]) hx hb dGR_gather_19 rfl hl (by decide) rfl (fun ls hl => ?_)
  have loop_20 : ∀ (n9 : Nat) (i : Nat) (uF : Nat → Nat) (uT : Nat → Nat) (uS : Nat → Option Nat) (uO : Nat → Nat), i ≤ n → gInv ff tf (meanN tf n) i uF uT uO uS → n + 1 ≤ i + n9 → ∀ (H : Heap) (locs : List Loc), va_P (dC, dI) vwCl [(hG, .inr (1, [.int (nI (grpN ff i)), .int (nI n), .ref aG, .ref bG, .ref dG, .ref gG])), (aG, .inl (cI, 24, .inl (fun j9 => nI (uF j9)))), (bG, .inl (cI, 24, .inl (fun j9 => nI (uT j9)))), (dG, .inl (cI, 24, .inl (fun j9 => oI (uS j9)))), (gG, .inl (cI, 24, .inl (fun j9 => nI (uO j9)))), (h, .inr (0, [.int (nI n), .ref a, .ref b])), (a, .inl (cI, 24, .inl (fun j9 => nI (tf j9)))), (b, .inl (cI, 24, .inl (fun j9 => nI (ff j9))))] H → va_D A [(hG, .inr (1, [.int (nI (grpN ff i)), .int (nI n), .ref aG, .ref bG, .ref dG, .ref gG])), (aG, .inl (cI, 24, .inl (fun j9 => nI (uF j9)))), (bG, .inl (cI, 24, .inl (fun j9 => nI (uT j9)))), (dG, .inl (cI, 24, .inl (fun j9 => oI (uS j9)))), (gG, .inl (cI, 24, .inl (fun j9 => nI (uO j9)))), (h, .inr (0, [.int (nI n), .ref a, .ref b])), (a, .inl (cI, 24, .inl (fun j9 => nI (tf j9)))), (b, .inl (cI, 24, .inl (fun j9 => nI (ff j9))))] → va_S A s.heap H locs → ∀ (ls : Array Slot), lv_has ls 6 [(3, .int (nI i)), (2, .int (nI (meanN tf n))), (0, .ref hG), (1, .ref h)] → W p l e R s m args below meth c H locs 0 0 Q (F0 m 20 ls []) := by
    intro n9
    induction n9 with
    | zero =>
      intro i uF uT uS uO hi hg hmeas
      exact absurd hmeas (by omega)
    | succ n9 ih_20 =>
      intro i uF uT uS uO hi hg hmeas H locs hP hD hS ls hl
      have hgl := grpN_le ff i
      refine lv_iload_n hx hb dGR_gather_20 rfl (lv_at hl 0 rfl) ?_
      refine lv_aload_n hx hb dGR_gather_21 rfl (lv_at hl 2 rfl) ?_
      refine va_get (D := (dC, dI)) (ci := 1) (v := .int (nI n)) (C := RGR) (T := TGR) (N := 6) hx hb hts (fun w h => List.mem_cons_of_mem _ (inGR w h)) hown hK hP 0 rfl rfl 1 (by decide) (hts _ (List.mem_cons_of_mem _ kw_80)) (fun _ h9 => h9) rfl dGR_gather_22 ?_
      refine hr_icmp_ge hx hb (x := i) (y := n) (by omega) (by omega) (tgt := 115) dGR_gather_25 (by decide) (fun c_1 => ?_) (fun c_1 => ?_)
      · have ei : i = n := by omega
        subst ei
        rw [← hQe]
        exact W.vret hx hb hr (fun t ht hW => ⟨⟨(uF, uT, uS, uO), rfl, hg, by rw [ht]; exact hP, hD⟩, hS.F ht⟩) hS.2.2 dGR_gather_115
      · have ht1 := ht i (by omega)
        have hf1 := hf i (by omega)
        refine lv_aload_n hx hb dGR_gather_28 rfl (lv_at hl 3 rfl) ?_
        refine va_get (D := (dC, dI)) (ci := 0) (v := .ref b) (C := RTR) (T := TTR) (N := 3) hx hb hts (fun w h => List.mem_cons_of_mem _ (inTR w h)) hown hK hP 5 rfl rfl 2 (by decide) (hts _ (List.mem_cons_of_mem _ kw_60)) (fun _ h9 => h9) rfl dGR_gather_29 ?_
        refine lv_iload_n hx hb dGR_gather_32 rfl (lv_at hl 0 rfl) ?_
        refine hr_iald hx hb hK hP 7 0 rfl rfl (i := i) (by omega) (by omega) dGR_gather_33 ?_
        refine lv_istore (lv' := [(4, .int (nI (ff i))), (3, .int (nI i)), (2, .int (nI (meanN tf n))), (0, .ref hG), (1, .ref h)]) hx hb dGR_gather_34 hl (by decide) rfl (fun ls hl => ?_)
        refine lv_iload hx hb dGR_gather_36 (lv_at hl 0 rfl) ?_
        refine lv_iload_n hx hb dGR_gather_38 rfl (lv_at hl 1 rfl) ?_
        refine hr_icmp_ne hx hb (x := (ff i)) (y := i) (by omega) (by omega) (tgt := 50) dGR_gather_39 (by decide) (fun c_2 => ?_) (fun c_2 => ?_)
        · have hlt : ff i < i := by omega
          have hidm := hff i (by omega)
          have hgi := grpN_lt (f := ff) hidm hlt
          have ho1 := hg.1 (ff i) hlt
          rw [hidm] at ho1
          refine lv_aload_n hx hb dGR_gather_50 rfl (lv_at hl 3 rfl) ?_
          refine lv_iload hx hb dGR_gather_51 (lv_at hl 0 rfl) ?_
          refine vp_callSi (va_runV (C := RGR) (As := [.int (nI (ff i))]) (rest := []) ⟨hx, hb, hml, hown, hts⟩ (c_GR_groupAt l dC dI cI cZ cG hG aG bG dG gG (grpN ff i) n uF uT uS uO (nI (ff i)) (hn)) (hr_cwV 1 hts kw_316 kw_317 kw_318 kw_26 kw_319 (by decide +kernel) (by rw [← hRe]; exact ⟨Nat.le_of_ble_eq_true rfl, Nat.le_of_ble_eq_true rfl⟩)) (hr_preR hKX hP [0, 1, 2, 3, 4] rfl (ci := 1) (q0 := 0) (q := (RGR, TGR, 6)) rfl rfl) rfl rfl hl.1 rfl (lv_room (Nat.le_of_ble_eq_true rfl)) dGR_gather_53 ⟨by omega, by omega⟩).run (fun rv hrv => ?_)
          refine hr_eqi hrv ?_
          refine hr_eqi (show oI (rowA n uO (nI (ff i))) = nI (grpN ff (ff i)) by rw [rowA_nI (by omega) (by omega), ho1]; rfl) ?_
          refine lv_istore (lv' := [(5, .int (nI (grpN ff (ff i)))), (4, .int (nI (ff i))), (3, .int (nI i)), (2, .int (nI (meanN tf n))), (0, .ref hG), (1, .ref h)]) hx hb dGR_gather_56 hl (by decide) rfl (fun ls hl => ?_)
          refine lv_aload_n hx hb dGR_gather_58 rfl (lv_at hl 4 rfl) ?_
          refine va_get (D := (dC, dI)) (ci := 1) (v := .ref gG) (C := RGR) (T := TGR) (N := 6) hx hb hts (fun w h => List.mem_cons_of_mem _ (inGR w h)) hown hK hP 0 rfl rfl 5 (by decide) (hts _ (List.mem_cons_of_mem _ kw_94)) (fun _ h9 => h9) rfl dGR_gather_59 ?_
          refine lv_iload_n hx hb dGR_gather_62 rfl (lv_at hl 2 rfl) ?_
          refine lv_iload hx hb dGR_gather_63 (lv_at hl 0 rfl) ?_
          refine hr_iastN hx hb hK hP hD hS 4 0 rfl rfl (i := i) (by omega) (by omega) dGR_gather_65 (fun H locs hP hD hS => ?_)
          have hP : va_P (dC, dI) vwCl [(hG, .inr (1, [.int (nI (grpN ff i)), .int (nI n), .ref aG, .ref bG, .ref dG, .ref gG])), (aG, .inl (cI, 24, .inl (fun j9 => nI (uF j9)))), (bG, .inl (cI, 24, .inl (fun j9 => nI (uT j9)))), (dG, .inl (cI, 24, .inl (fun j9 => oI (uS j9)))), (gG, .inl (cI, 24, .inl (fun j9 => nI ((va_up uO i (grpN ff (ff i))) j9)))), (h, .inr (0, [.int (nI n), .ref a, .ref b])), (a, .inl (cI, 24, .inl (fun j9 => nI (tf j9)))), (b, .inl (cI, 24, .inl (fun j9 => nI (ff j9))))] H := hP
          have hD : va_D A [(hG, .inr (1, [.int (nI (grpN ff i)), .int (nI n), .ref aG, .ref bG, .ref dG, .ref gG])), (aG, .inl (cI, 24, .inl (fun j9 => nI (uF j9)))), (bG, .inl (cI, 24, .inl (fun j9 => nI (uT j9)))), (dG, .inl (cI, 24, .inl (fun j9 => oI (uS j9)))), (gG, .inl (cI, 24, .inl (fun j9 => nI ((va_up uO i (grpN ff (ff i))) j9)))), (h, .inr (0, [.int (nI n), .ref a, .ref b])), (a, .inl (cI, 24, .inl (fun j9 => nI (tf j9)))), (b, .inl (cI, 24, .inl (fun j9 => nI (ff j9))))] := hD
          refine lv_iload hx hb dGR_gather_66 (lv_at hl 0 rfl) ?_
          refine hr_if_lt hx hb (x := (grpN ff (ff i))) (by omega) (tgt := 109) dGR_gather_68 (by decide) (fun c_3 => ?_) (fun c_3 => ?_)
          · exact absurd c_3 (by omega)
          · refine lv_iload hx hb dGR_gather_71 (lv_at hl 0 rfl) ?_
            refine lv_aload_n hx hb dGR_gather_73 rfl (lv_at hl 4 rfl) ?_
            refine va_get (D := (dC, dI)) (ci := 1) (v := .int (nI (grpN ff i))) (C := RGR) (T := TGR) (N := 6) hx hb hts (fun w h => List.mem_cons_of_mem _ (inGR w h)) hown hK hP 0 rfl rfl 0 (by decide) (hts _ (List.mem_cons_of_mem _ kw_75)) (fun _ h9 => h9) rfl dGR_gather_74 ?_
            refine hr_icmp_ge hx hb (x := (grpN ff (ff i))) (y := (grpN ff i)) (by omega) (by omega) (tgt := 109) dGR_gather_77 (by decide) (fun c_4 => ?_) (fun c_4 => ?_)
            · exact absurd c_4 (by omega)
            · refine lv_aload_n hx hb dGR_gather_80 rfl (lv_at hl 4 rfl) ?_
              refine va_get (D := (dC, dI)) (ci := 1) (v := .ref bG) (C := RGR) (T := TGR) (N := 6) hx hb hts (fun w h => List.mem_cons_of_mem _ (inGR w h)) hown hK hP 0 rfl rfl 3 (by decide) (hts _ (List.mem_cons_of_mem _ kw_86)) (fun _ h9 => h9) rfl dGR_gather_81 ?_
              refine lv_iload hx hb dGR_gather_84 (lv_at hl 0 rfl) ?_
              refine lv_dup2_11 hx hb dGR_gather_86 rfl rfl ?_
              refine hr_iald hx hb hK hP 2 0 rfl rfl (i := (grpN ff (ff i))) (by omega) (by omega) dGR_gather_87 ?_
              refine lv_aload_n hx hb dGR_gather_88 rfl (lv_at hl 5 rfl) ?_
              refine va_get (D := (dC, dI)) (ci := 0) (v := .ref a) (C := RTR) (T := TTR) (N := 3) hx hb hts (fun w h => List.mem_cons_of_mem _ (inTR w h)) hown hK hP 5 rfl rfl 1 (by decide) (hts _ (List.mem_cons_of_mem _ kw_58)) (fun _ h9 => h9) rfl dGR_gather_89 ?_
              refine lv_iload_n hx hb dGR_gather_92 rfl (lv_at hl 2 rfl) ?_
              refine hr_iald hx hb hK hP 6 0 rfl rfl (i := i) (by omega) (by omega) dGR_gather_93 ?_
              refine hr_if_ne hx hb (x := (tf i)) (by omega) (tgt := 101) dGR_gather_94 (by decide) (fun c_5 => ?_) (fun c_5 => ?_)
              · refine lv_aload_n hx hb dGR_gather_101 rfl (lv_at hl 5 rfl) ?_
                refine va_get (D := (dC, dI)) (ci := 0) (v := .ref a) (C := RTR) (T := TTR) (N := 3) hx hb hts (fun w h => List.mem_cons_of_mem _ (inTR w h)) hown hK hP 5 rfl rfl 1 (by decide) (hts _ (List.mem_cons_of_mem _ kw_58)) (fun _ h9 => h9) rfl dGR_gather_102 ?_
                refine lv_iload_n hx hb dGR_gather_105 rfl (lv_at hl 2 rfl) ?_
                refine hr_iald hx hb hK hP 6 0 rfl rfl (i := i) (by omega) (by omega) dGR_gather_106 ?_
                refine lv_iadd hx hb dGR_gather_107 ?_
                refine hr_eqi (nI_add _ _) ?_
                refine hr_iastN hx hb hK hP hD hS 2 0 rfl rfl (i := (grpN ff (ff i))) (by omega) (by omega) dGR_gather_108 (fun H locs hP hD hS => ?_)
                have hP : va_P (dC, dI) vwCl [(hG, .inr (1, [.int (nI (grpN ff i)), .int (nI n), .ref aG, .ref bG, .ref dG, .ref gG])), (aG, .inl (cI, 24, .inl (fun j9 => nI (uF j9)))), (bG, .inl (cI, 24, .inl (fun j9 => nI ((va_up uT (grpN ff (ff i)) ((uT (grpN ff (ff i))) + (tf i))) j9)))), (dG, .inl (cI, 24, .inl (fun j9 => oI (uS j9)))), (gG, .inl (cI, 24, .inl (fun j9 => nI ((va_up uO i (grpN ff (ff i))) j9)))), (h, .inr (0, [.int (nI n), .ref a, .ref b])), (a, .inl (cI, 24, .inl (fun j9 => nI (tf j9)))), (b, .inl (cI, 24, .inl (fun j9 => nI (ff j9))))] H := hP
                have hD : va_D A [(hG, .inr (1, [.int (nI (grpN ff i)), .int (nI n), .ref aG, .ref bG, .ref dG, .ref gG])), (aG, .inl (cI, 24, .inl (fun j9 => nI (uF j9)))), (bG, .inl (cI, 24, .inl (fun j9 => nI ((va_up uT (grpN ff (ff i)) ((uT (grpN ff (ff i))) + (tf i))) j9)))), (dG, .inl (cI, 24, .inl (fun j9 => oI (uS j9)))), (gG, .inl (cI, 24, .inl (fun j9 => nI ((va_up uO i (grpN ff (ff i))) j9)))), (h, .inr (0, [.int (nI n), .ref a, .ref b])), (a, .inl (cI, 24, .inl (fun j9 => nI (tf j9)))), (b, .inl (cI, 24, .inl (fun j9 => nI (ff j9))))] := hD
                refine lv_iinc (v := nI (i + 1)) (lv' := [(3, .int (nI (i + 1))), (5, .int (nI (grpN ff (ff i)))), (4, .int (nI (ff i))), (2, .int (nI (meanN tf n))), (0, .ref hG), (1, .ref h)]) hx hb dGR_gather_109 hl (k := 2) rfl (hr_inc _) (by decide) rfl (fun ls hl => ?_)
                refine lv_goto (tgt := 20) hx hb dGR_gather_112 (by decide) ?_
                rw [← grpN_k (f := ff) c_2] at hP hD
                exact ih_20 (i + 1) uF (va_up uT (grpN ff (ff i)) ((uT (grpN ff (ff i))) + (tf i))) uS (va_up uO i (grpN ff (ff i))) (by omega) (gInv_old hg hlt hidm (by unfold efT; rw [if_neg c_5])) (by omega) _ _ hP hD hS ls (lv_sub hl [0, 3, 4, 5] rfl)
              · refine lv_iload_n hx hb dGR_gather_97 rfl (lv_at hl 3 rfl) ?_
                refine lv_goto (tgt := 107) hx hb dGR_gather_98 (by decide) ?_
                refine lv_iadd hx hb dGR_gather_107 ?_
                refine hr_eqi (nI_add _ _) ?_
                refine hr_iastN hx hb hK hP hD hS 2 0 rfl rfl (i := (grpN ff (ff i))) (by omega) (by omega) dGR_gather_108 (fun H locs hP hD hS => ?_)
                have hP : va_P (dC, dI) vwCl [(hG, .inr (1, [.int (nI (grpN ff i)), .int (nI n), .ref aG, .ref bG, .ref dG, .ref gG])), (aG, .inl (cI, 24, .inl (fun j9 => nI (uF j9)))), (bG, .inl (cI, 24, .inl (fun j9 => nI ((va_up uT (grpN ff (ff i)) ((uT (grpN ff (ff i))) + meanN tf n)) j9)))), (dG, .inl (cI, 24, .inl (fun j9 => oI (uS j9)))), (gG, .inl (cI, 24, .inl (fun j9 => nI ((va_up uO i (grpN ff (ff i))) j9)))), (h, .inr (0, [.int (nI n), .ref a, .ref b])), (a, .inl (cI, 24, .inl (fun j9 => nI (tf j9)))), (b, .inl (cI, 24, .inl (fun j9 => nI (ff j9))))] H := hP
                have hD : va_D A [(hG, .inr (1, [.int (nI (grpN ff i)), .int (nI n), .ref aG, .ref bG, .ref dG, .ref gG])), (aG, .inl (cI, 24, .inl (fun j9 => nI (uF j9)))), (bG, .inl (cI, 24, .inl (fun j9 => nI ((va_up uT (grpN ff (ff i)) ((uT (grpN ff (ff i))) + meanN tf n)) j9)))), (dG, .inl (cI, 24, .inl (fun j9 => oI (uS j9)))), (gG, .inl (cI, 24, .inl (fun j9 => nI ((va_up uO i (grpN ff (ff i))) j9)))), (h, .inr (0, [.int (nI n), .ref a, .ref b])), (a, .inl (cI, 24, .inl (fun j9 => nI (tf j9)))), (b, .inl (cI, 24, .inl (fun j9 => nI (ff j9))))] := hD
                refine lv_iinc (v := nI (i + 1)) (lv' := [(3, .int (nI (i + 1))), (5, .int (nI (grpN ff (ff i)))), (4, .int (nI (ff i))), (2, .int (nI (meanN tf n))), (0, .ref hG), (1, .ref h)]) hx hb dGR_gather_109 hl (k := 2) rfl (hr_inc _) (by decide) rfl (fun ls hl => ?_)
                refine lv_goto (tgt := 20) hx hb dGR_gather_112 (by decide) ?_
                rw [← grpN_k (f := ff) c_2] at hP hD
                exact ih_20 (i + 1) uF (va_up uT (grpN ff (ff i)) ((uT (grpN ff (ff i))) + meanN tf n)) uS (va_up uO i (grpN ff (ff i))) (by omega) (gInv_old hg hlt hidm (by unfold efT; rw [if_pos c_5])) (by omega) _ _ hP hD hS ls (lv_sub hl [0, 3, 4, 5] rfl)
        · refine lv_aload_n hx hb dGR_gather_42 rfl (lv_at hl 3 rfl) ?_
          refine lv_iload_n hx hb dGR_gather_43 rfl (lv_at hl 1 rfl) ?_
          refine hr_calli (wr := [(h, .inr (0, [.int (nI n), .ref a, .ref b])), (a, .inl (cI, 24, .inl (fun j9 => nI (tf j9)))), (b, .inl (cI, 24, .inl (fun j9 => nI (ff j9))))]) (va_runV (C := RGR) (As := [.int (nI i)]) (rest := []) ⟨hx, hb, hml, hown, hts⟩ (c_GR_open l dC dI cI cZ cG hG aG bG dG gG (grpN ff i) n uF uT uS uO i H.size (by omega)) (hr_cwV 1 hts kw_312 kw_314 kw_0 kw_26 kw_315 (by decide +kernel) (by rw [← hRe]; exact ⟨Nat.le_of_ble_eq_true rfl, Nat.le_of_ble_eq_true rfl⟩)) (hr_preW hKX hP hD [0, 1, 2, 3, 4] (by decide) rfl (ci := 1) (q0 := 0) (q := (RGR, TGR, 6)) rfl rfl) rfl rfl hl.1 rfl (lv_room (Nat.le_of_ble_eq_true rfl)) dGR_gather_44 ⟨by omega, by omega⟩) hP hD hS hA [0, 1, 2, 3, 4] [5, 6, 7] rfl rfl (by decide) (by decide) [3, 4, 5, 6, 7, 0, 1, 2] (fun u => [(hG, .inr (1, [.int (nI ((grpN ff i) + 1)), .int (nI n), .ref aG, .ref bG, .ref dG, .ref gG])), (aG, .inl (cI, 24, .inl (fun j9 => nI ((va_up uF (grpN ff i) i) j9)))), (bG, .inl (cI, 24, .inl (fun j9 => nI ((va_up uT (grpN ff i) 0) j9)))), (dG, .inl (cI, 24, .inl (fun j9 => oI ((va_up uS (grpN ff i) none) j9)))), (gG, .inl (cI, 24, .inl (fun j9 => nI (uO j9)))), (h, .inr (0, [.int (nI n), .ref a, .ref b])), (a, .inl (cI, 24, .inl (fun j9 => nI (tf j9)))), (b, .inl (cI, 24, .inl (fun j9 => nI (ff j9))))]) (by decide) (fun u => rfl) (fun rv u H locs hrv hP hD hS => ?_)
          have hP : va_P (dC, dI) vwCl [(hG, .inr (1, [.int (nI ((grpN ff i) + 1)), .int (nI n), .ref aG, .ref bG, .ref dG, .ref gG])), (aG, .inl (cI, 24, .inl (fun j9 => nI ((va_up uF (grpN ff i) i) j9)))), (bG, .inl (cI, 24, .inl (fun j9 => nI ((va_up uT (grpN ff i) 0) j9)))), (dG, .inl (cI, 24, .inl (fun j9 => oI ((va_up uS (grpN ff i) none) j9)))), (gG, .inl (cI, 24, .inl (fun j9 => nI (uO j9)))), (h, .inr (0, [.int (nI n), .ref a, .ref b])), (a, .inl (cI, 24, .inl (fun j9 => nI (tf j9)))), (b, .inl (cI, 24, .inl (fun j9 => nI (ff j9))))] H := hP
          have hD : va_D A [(hG, .inr (1, [.int (nI ((grpN ff i) + 1)), .int (nI n), .ref aG, .ref bG, .ref dG, .ref gG])), (aG, .inl (cI, 24, .inl (fun j9 => nI ((va_up uF (grpN ff i) i) j9)))), (bG, .inl (cI, 24, .inl (fun j9 => nI ((va_up uT (grpN ff i) 0) j9)))), (dG, .inl (cI, 24, .inl (fun j9 => oI ((va_up uS (grpN ff i) none) j9)))), (gG, .inl (cI, 24, .inl (fun j9 => nI (uO j9)))), (h, .inr (0, [.int (nI n), .ref a, .ref b])), (a, .inl (cI, 24, .inl (fun j9 => nI (tf j9)))), (b, .inl (cI, 24, .inl (fun j9 => nI (ff j9))))] := hD
          refine hr_eqi hrv ?_
          refine lv_goto (tgt := 56) hx hb dGR_gather_47 (by decide) ?_
          refine lv_istore (lv' := [(5, .int (nI (grpN ff i))), (4, .int (nI (ff i))), (3, .int (nI i)), (2, .int (nI (meanN tf n))), (0, .ref hG), (1, .ref h)]) hx hb dGR_gather_56 hl (by decide) rfl (fun ls hl => ?_)
          refine lv_aload_n hx hb dGR_gather_58 rfl (lv_at hl 4 rfl) ?_
          refine va_get (D := (dC, dI)) (ci := 1) (v := .ref gG) (C := RGR) (T := TGR) (N := 6) hx hb hts (fun w h => List.mem_cons_of_mem _ (inGR w h)) hown hK hP 0 rfl rfl 5 (by decide) (hts _ (List.mem_cons_of_mem _ kw_94)) (fun _ h9 => h9) rfl dGR_gather_59 ?_
          refine lv_iload_n hx hb dGR_gather_62 rfl (lv_at hl 2 rfl) ?_
          refine lv_iload hx hb dGR_gather_63 (lv_at hl 0 rfl) ?_
          refine hr_iastN hx hb hK hP hD hS 4 0 rfl rfl (i := i) (by omega) (by omega) dGR_gather_65 (fun H locs hP hD hS => ?_)
          have hP : va_P (dC, dI) vwCl [(hG, .inr (1, [.int (nI ((grpN ff i) + 1)), .int (nI n), .ref aG, .ref bG, .ref dG, .ref gG])), (aG, .inl (cI, 24, .inl (fun j9 => nI ((va_up uF (grpN ff i) i) j9)))), (bG, .inl (cI, 24, .inl (fun j9 => nI ((va_up uT (grpN ff i) 0) j9)))), (dG, .inl (cI, 24, .inl (fun j9 => oI ((va_up uS (grpN ff i) none) j9)))), (gG, .inl (cI, 24, .inl (fun j9 => nI ((va_up uO i (grpN ff i)) j9)))), (h, .inr (0, [.int (nI n), .ref a, .ref b])), (a, .inl (cI, 24, .inl (fun j9 => nI (tf j9)))), (b, .inl (cI, 24, .inl (fun j9 => nI (ff j9))))] H := hP
          have hD : va_D A [(hG, .inr (1, [.int (nI ((grpN ff i) + 1)), .int (nI n), .ref aG, .ref bG, .ref dG, .ref gG])), (aG, .inl (cI, 24, .inl (fun j9 => nI ((va_up uF (grpN ff i) i) j9)))), (bG, .inl (cI, 24, .inl (fun j9 => nI ((va_up uT (grpN ff i) 0) j9)))), (dG, .inl (cI, 24, .inl (fun j9 => oI ((va_up uS (grpN ff i) none) j9)))), (gG, .inl (cI, 24, .inl (fun j9 => nI ((va_up uO i (grpN ff i)) j9)))), (h, .inr (0, [.int (nI n), .ref a, .ref b])), (a, .inl (cI, 24, .inl (fun j9 => nI (tf j9)))), (b, .inl (cI, 24, .inl (fun j9 => nI (ff j9))))] := hD
          refine lv_iload hx hb dGR_gather_66 (lv_at hl 0 rfl) ?_
          refine hr_if_lt hx hb (x := (grpN ff i)) (by omega) (tgt := 109) dGR_gather_68 (by decide) (fun c_6 => ?_) (fun c_6 => ?_)
          · exact absurd c_6 (by omega)
          · refine lv_iload hx hb dGR_gather_71 (lv_at hl 0 rfl) ?_
            refine lv_aload_n hx hb dGR_gather_73 rfl (lv_at hl 4 rfl) ?_
            refine va_get (D := (dC, dI)) (ci := 1) (v := .int (nI ((grpN ff i) + 1))) (C := RGR) (T := TGR) (N := 6) hx hb hts (fun w h => List.mem_cons_of_mem _ (inGR w h)) hown hK hP 0 rfl rfl 0 (by decide) (hts _ (List.mem_cons_of_mem _ kw_75)) (fun _ h9 => h9) rfl dGR_gather_74 ?_
            refine hr_icmp_ge hx hb (x := (grpN ff i)) (y := ((grpN ff i) + 1)) (by omega) (by omega) (tgt := 109) dGR_gather_77 (by decide) (fun c_7 => ?_) (fun c_7 => ?_)
            · exact absurd c_7 (by omega)
            · refine lv_aload_n hx hb dGR_gather_80 rfl (lv_at hl 4 rfl) ?_
              refine va_get (D := (dC, dI)) (ci := 1) (v := .ref bG) (C := RGR) (T := TGR) (N := 6) hx hb hts (fun w h => List.mem_cons_of_mem _ (inGR w h)) hown hK hP 0 rfl rfl 3 (by decide) (hts _ (List.mem_cons_of_mem _ kw_86)) (fun _ h9 => h9) rfl dGR_gather_81 ?_
              refine lv_iload hx hb dGR_gather_84 (lv_at hl 0 rfl) ?_
              refine lv_dup2_11 hx hb dGR_gather_86 rfl rfl ?_
              refine hr_iald hx hb hK hP 2 0 rfl rfl (i := (grpN ff i)) (by omega) (by omega) dGR_gather_87 ?_
              refine lv_aload_n hx hb dGR_gather_88 rfl (lv_at hl 5 rfl) ?_
              refine va_get (D := (dC, dI)) (ci := 0) (v := .ref a) (C := RTR) (T := TTR) (N := 3) hx hb hts (fun w h => List.mem_cons_of_mem _ (inTR w h)) hown hK hP 5 rfl rfl 1 (by decide) (hts _ (List.mem_cons_of_mem _ kw_58)) (fun _ h9 => h9) rfl dGR_gather_89 ?_
              refine lv_iload_n hx hb dGR_gather_92 rfl (lv_at hl 2 rfl) ?_
              refine hr_iald hx hb hK hP 6 0 rfl rfl (i := i) (by omega) (by omega) dGR_gather_93 ?_
              refine hr_if_ne hx hb (x := (tf i)) (by omega) (tgt := 101) dGR_gather_94 (by decide) (fun c_8 => ?_) (fun c_8 => ?_)
              · refine lv_aload_n hx hb dGR_gather_101 rfl (lv_at hl 5 rfl) ?_
                refine va_get (D := (dC, dI)) (ci := 0) (v := .ref a) (C := RTR) (T := TTR) (N := 3) hx hb hts (fun w h => List.mem_cons_of_mem _ (inTR w h)) hown hK hP 5 rfl rfl 1 (by decide) (hts _ (List.mem_cons_of_mem _ kw_58)) (fun _ h9 => h9) rfl dGR_gather_102 ?_
                refine lv_iload_n hx hb dGR_gather_105 rfl (lv_at hl 2 rfl) ?_
                refine hr_iald hx hb hK hP 6 0 rfl rfl (i := i) (by omega) (by omega) dGR_gather_106 ?_
                refine lv_iadd hx hb dGR_gather_107 ?_
                refine hr_eqi (nI_add _ _) ?_
                refine hr_iastN hx hb hK hP hD hS 2 0 rfl rfl (i := (grpN ff i)) (by omega) (by omega) dGR_gather_108 (fun H locs hP hD hS => ?_)
                have hP : va_P (dC, dI) vwCl [(hG, .inr (1, [.int (nI ((grpN ff i) + 1)), .int (nI n), .ref aG, .ref bG, .ref dG, .ref gG])), (aG, .inl (cI, 24, .inl (fun j9 => nI ((va_up uF (grpN ff i) i) j9)))), (bG, .inl (cI, 24, .inl (fun j9 => nI ((va_up (va_up uT (grpN ff i) 0) (grpN ff i) (((va_up uT (grpN ff i) 0) (grpN ff i)) + (tf i))) j9)))), (dG, .inl (cI, 24, .inl (fun j9 => oI ((va_up uS (grpN ff i) none) j9)))), (gG, .inl (cI, 24, .inl (fun j9 => nI ((va_up uO i (grpN ff i)) j9)))), (h, .inr (0, [.int (nI n), .ref a, .ref b])), (a, .inl (cI, 24, .inl (fun j9 => nI (tf j9)))), (b, .inl (cI, 24, .inl (fun j9 => nI (ff j9))))] H := hP
                have hD : va_D A [(hG, .inr (1, [.int (nI ((grpN ff i) + 1)), .int (nI n), .ref aG, .ref bG, .ref dG, .ref gG])), (aG, .inl (cI, 24, .inl (fun j9 => nI ((va_up uF (grpN ff i) i) j9)))), (bG, .inl (cI, 24, .inl (fun j9 => nI ((va_up (va_up uT (grpN ff i) 0) (grpN ff i) (((va_up uT (grpN ff i) 0) (grpN ff i)) + (tf i))) j9)))), (dG, .inl (cI, 24, .inl (fun j9 => oI ((va_up uS (grpN ff i) none) j9)))), (gG, .inl (cI, 24, .inl (fun j9 => nI ((va_up uO i (grpN ff i)) j9)))), (h, .inr (0, [.int (nI n), .ref a, .ref b])), (a, .inl (cI, 24, .inl (fun j9 => nI (tf j9)))), (b, .inl (cI, 24, .inl (fun j9 => nI (ff j9))))] := hD
                refine lv_iinc (v := nI (i + 1)) (lv' := [(3, .int (nI (i + 1))), (5, .int (nI (grpN ff i))), (4, .int (nI (ff i))), (2, .int (nI (meanN tf n))), (0, .ref hG), (1, .ref h)]) hx hb dGR_gather_109 hl (k := 2) rfl (hr_inc _) (by decide) rfl (fun ls hl => ?_)
                refine lv_goto (tgt := 20) hx hb dGR_gather_112 (by decide) ?_
                rw [← grpN_s c_2] at hP hD
                exact ih_20 (i + 1) (va_up uF (grpN ff i) i) (va_up (va_up uT (grpN ff i) 0) (grpN ff i) (((va_up uT (grpN ff i) 0) (grpN ff i)) + (tf i))) (va_up uS (grpN ff i) none) (va_up uO i (grpN ff i)) (by omega) (gInv_new hg c_2 (fun j hj => hf j (by omega)) (by unfold efT; rw [if_neg c_8])) (by omega) _ _ hP hD hS ls (lv_sub hl [0, 3, 4, 5] rfl)
              · refine lv_iload_n hx hb dGR_gather_97 rfl (lv_at hl 3 rfl) ?_
                refine lv_goto (tgt := 107) hx hb dGR_gather_98 (by decide) ?_
                refine lv_iadd hx hb dGR_gather_107 ?_
                refine hr_eqi (nI_add _ _) ?_
                refine hr_iastN hx hb hK hP hD hS 2 0 rfl rfl (i := (grpN ff i)) (by omega) (by omega) dGR_gather_108 (fun H locs hP hD hS => ?_)
                have hP : va_P (dC, dI) vwCl [(hG, .inr (1, [.int (nI ((grpN ff i) + 1)), .int (nI n), .ref aG, .ref bG, .ref dG, .ref gG])), (aG, .inl (cI, 24, .inl (fun j9 => nI ((va_up uF (grpN ff i) i) j9)))), (bG, .inl (cI, 24, .inl (fun j9 => nI ((va_up (va_up uT (grpN ff i) 0) (grpN ff i) (((va_up uT (grpN ff i) 0) (grpN ff i)) + meanN tf n)) j9)))), (dG, .inl (cI, 24, .inl (fun j9 => oI ((va_up uS (grpN ff i) none) j9)))), (gG, .inl (cI, 24, .inl (fun j9 => nI ((va_up uO i (grpN ff i)) j9)))), (h, .inr (0, [.int (nI n), .ref a, .ref b])), (a, .inl (cI, 24, .inl (fun j9 => nI (tf j9)))), (b, .inl (cI, 24, .inl (fun j9 => nI (ff j9))))] H := hP
                have hD : va_D A [(hG, .inr (1, [.int (nI ((grpN ff i) + 1)), .int (nI n), .ref aG, .ref bG, .ref dG, .ref gG])), (aG, .inl (cI, 24, .inl (fun j9 => nI ((va_up uF (grpN ff i) i) j9)))), (bG, .inl (cI, 24, .inl (fun j9 => nI ((va_up (va_up uT (grpN ff i) 0) (grpN ff i) (((va_up uT (grpN ff i) 0) (grpN ff i)) + meanN tf n)) j9)))), (dG, .inl (cI, 24, .inl (fun j9 => oI ((va_up uS (grpN ff i) none) j9)))), (gG, .inl (cI, 24, .inl (fun j9 => nI ((va_up uO i (grpN ff i)) j9)))), (h, .inr (0, [.int (nI n), .ref a, .ref b])), (a, .inl (cI, 24, .inl (fun j9 => nI (tf j9)))), (b, .inl (cI, 24, .inl (fun j9 => nI (ff j9))))] := hD
                refine lv_iinc (v := nI (i + 1)) (lv' := [(3, .int (nI (i + 1))), (5, .int (nI (grpN ff i))), (4, .int (nI (ff i))), (2, .int (nI (meanN tf n))), (0, .ref hG), (1, .ref h)]) hx hb dGR_gather_109 hl (k := 2) rfl (hr_inc _) (by decide) rfl (fun ls hl => ?_)
                refine lv_goto (tgt := 20) hx hb dGR_gather_112 (by decide) ?_
                rw [← grpN_s c_2] at hP hD
                exact ih_20 (i + 1) (va_up uF (grpN ff i) i) (va_up (va_up uT (grpN ff i) 0) (grpN ff i) (((va_up uT (grpN ff i) 0) (grpN ff i)) + meanN tf n)) (va_up uS (grpN ff i) none) (va_up uO i (grpN ff i)) (by omega) (gInv_new hg c_2 (fun j hj => hf j (by omega)) (by unfold efT; rw [if_pos c_8])) (by omega) _ _ hP hD hS ls (lv_sub hl [0, 3, 4, 5] rfl)
  exact loop_20 (n + 1) 0 gF gT gS gO (by omega) (gInv_0) (by omega) _ _ hP hD hS ls (lv_sub hl [0, 1, 2, 3] rfl)

set_option maxHeartbeats 4000000 in
set_option maxRecDepth 100000 in
/-- the longest GROUP that has no SHARD yet -/
theorem c_GY_longest (l : Launch) (dC : Nat → ClassId) (dI : Nat → Nat → Nat) (cI cZ cG : ClassId) (hG : Nat) (aG : Nat) (bG : Nat) (dG : Nat) (gG : Nat) (gc : Nat) (gn : Nat) (gF : Nat → Nat) (gT : Nat → Nat) (gS : Nat → Option Nat) (gO : Nat → Nat) (hgc : gc ≤ 24) (hgT : ∀ g, g < gc → 1 ≤ gT g ∧ gT g ≤ 2400000) (hgS : ∀ g, g < gc → ∀ k, gS g = some k → k < 2 ^ 31) : Met l yGY_longestUnplaced wsGY_longestUnplaced ({ frames := 0, cells := 0, slots := 0, locals := 0 }) (va_Pc [.ref hG] (fun U => va_P (dC, dI) vwCl [(hG, .inr (1, [.int (nI gc), .int (nI gn), .ref aG, .ref bG, .ref dG, .ref gG])), (aG, .inl (cI, 24, .inl (fun j9 => nI (gF j9)))), (bG, .inl (cI, 24, .inl (fun j9 => nI (gT j9)))), (dG, .inl (cI, 24, .inl (fun j9 => oI (gS j9)))), (gG, .inl (cI, 24, .inl (fun j9 => nI (gO j9))))] U.heap ∧ KX dC dI cI cZ cG U)) (vp_Si (fun r => r = nI ((sel gT gS gc).getD 0))) 0 0 (fun _ => False) := by
  refine Met.ofW (cc := cGY_longestUnplaced) (maxL := 4) (ret := (some .int)) (by decide) rfl ?_
  intro p e s m args below meth c s₁ B hml hv
  obtain ⟨rfl, hP, hKX⟩ := hv
  have hK := hKX.1
  have hx := B.exec
  have hb := B.bytes
  have hr := B.returns
  have hts := atoms_spec (ws := wsGY_longestUnplaced) B.pre
  have hown : s.vm.findClass RGY = some m.cls := findClass_of_methodNamed B.named
  have hlocks := B.notSynchronized
  have hl := lv_entry ([.ref hG]) (n := 4) (Nat.le_of_ble_eq_true rfl)
  rw [lg_entry_eq]
  generalize (lg_sl ([.ref hG]) ++ List.replicate (4 - (lg_sl ([.ref hG])).length) Slot.unset).toArray = ls at hl ⊢
  have hl : lv_has ls 4 [(0, .ref hG)] := hl
  generalize hRe : (headSpec wsGY_longestUnplaced ({ frames := 0, cells := 0, slots := 0, locals := 0 })).room = R
  have hRf : 0 ≤ R.frames := by rw [← hRe]; exact Nat.le_refl _
  have hRl : 0 ≤ R.locals := by rw [← hRe]; exact Nat.le_refl _
  have hRc : 0 ≤ R.cells := by rw [← hRe]; exact Nat.le_refl _
  have hRs : 0 ≤ R.slots := by rw [← hRe]; exact Nat.le_refl _
  generalize hargs : (List.toArray [.ref hG] : Array Value) = args at hts ⊢
  generalize hQe : MQ below _ args s _ _ _ = Q
  refine lv_iconst (v := nI 0) hx hb dGY_longestUnplaced_0 (by decide +kernel) ?_
  refine lv_istore_n (lv' := [(1, .int (nI 0)), (0, .ref hG)]) hx hb dGY_longestUnplaced_1 rfl hl (by decide) rfl (fun ls hl => ?_)
  refine lv_iconst (v := nI 0) hx hb dGY_longestUnplaced_2 (by decide +kernel) ?_
  refine lv_istore_n (lv' := [(2, .int (nI 0)), (1, .int (nI 0)), (0, .ref hG)]) hx hb dGY_longestUnplaced_3 rfl hl (by decide) rfl (fun ls hl => ?_)
  refine lv_iconst (v := nI 0) hx hb dGY_longestUnplaced_4 (by decide +kernel) ?_
  refine lv_istore_n (lv' := [(3, .int (nI 0)), (2, .int (nI 0)), (1, .int (nI 0)), (0, .ref hG)]) hx hb dGY_longestUnplaced_5 rfl hl (by decide) rfl (fun ls hl => ?_)
  have loop_6 : ∀ (n9 : Nat) (i : Nat) (s1 : Nat) (s2 : Nat), i ≤ gc → s1 = (sel gT gS i).getD 0 → s2 = (sel gT gS i).elim 0 gT → s2 ≤ 2400000 → gc + 1 ≤ i + n9 → ∀ (ls : Array Slot), lv_has ls 4 [(3, .int (nI i)), (2, .int (nI s2)), (1, .int (nI s1)), (0, .ref hG)] → W p l e R s m args below meth c s.heap [] 0 0 Q (F0 m 6 ls []) := by
    intro n9
    induction n9 with
    | zero =>
      intro i s1 s2 hi h1 h2 h3 hmeas
      exact absurd hmeas (by omega)
    | succ n9 ih_6 =>
      intro i s1 s2 hi h1 h2 h3 hmeas ls hl
      refine lv_iload_n hx hb dGY_longestUnplaced_6 rfl (lv_at hl 0 rfl) ?_
      refine lv_aload_n hx hb dGY_longestUnplaced_7 rfl (lv_at hl 3 rfl) ?_
      refine va_get (D := (dC, dI)) (ci := 1) (v := .int (nI gc)) (C := RGR) (T := TGR) (N := 6) hx hb hts (fun w h => List.mem_cons_of_mem _ (inGR w h)) hown hK hP 0 rfl rfl 0 (by decide) (hts _ (List.mem_cons_of_mem _ kw_77)) (fun _ h9 => h9) rfl dGY_longestUnplaced_8 ?_
      refine hr_icmp_ge hx hb (x := i) (y := gc) (by omega) (by omega) (tgt := 49) dGY_longestUnplaced_11 (by decide) (fun c_1 => ?_) (fun c_1 => ?_)
      · have ei : i = gc := by omega
        subst ei
        refine lv_iload_n hx hb dGY_longestUnplaced_49 rfl (lv_at hl 2 rfl) ?_
        rw [← hQe]
        exact W.iret (v := nI s1) hx hb hr (fun t ht hW => ⟨_, rfl, by rw [h1], by rw [ht]⟩) (fun q h => by cases h) dGY_longestUnplaced_50
      · have hT1 := hgT i (by omega)
        refine lv_aload_n hx hb dGY_longestUnplaced_14 rfl (lv_at hl 3 rfl) ?_
        refine va_get (D := (dC, dI)) (ci := 1) (v := .ref dG) (C := RGR) (T := TGR) (N := 6) hx hb hts (fun w h => List.mem_cons_of_mem _ (inGR w h)) hown hK hP 0 rfl rfl 4 (by decide) (hts _ (List.mem_cons_of_mem _ kw_91)) (fun _ h9 => h9) rfl dGY_longestUnplaced_15 ?_
        refine lv_iload_n hx hb dGY_longestUnplaced_18 rfl (lv_at hl 0 rfl) ?_
        refine hr_iald hx hb hK hP 3 0 rfl rfl (i := i) (by omega) (by omega) dGY_longestUnplaced_19 ?_
        refine lv_iconst (v := (-1)) hx hb dGY_longestUnplaced_20 (by decide +kernel) ?_
        refine lv_icmp_ne (tgt := 43) hx hb dGY_longestUnplaced_21 (by decide) (fun c_2 => ?_) (fun c_2 => ?_)
        · refine lv_iinc (v := nI (i + 1)) (lv' := [(3, .int (nI (i + 1))), (2, .int (nI s2)), (1, .int (nI s1)), (0, .ref hG)]) hx hb dGY_longestUnplaced_43 hl (k := 0) rfl (hr_inc _) (by decide) rfl (fun ls hl => ?_)
          refine lv_goto (tgt := 6) hx hb dGY_longestUnplaced_46 (by decide) ?_
          exact ih_6 (i + 1) s1 s2 (by omega) (by rw [sel_skip (fun z => c_2 (by rw [z]; rfl))]; exact h1) (by rw [sel_skip (fun z => c_2 (by rw [z]; rfl))]; exact h2) (by omega) (by omega) ls (lv_sub hl [0, 1, 2, 3] rfl)
        · refine lv_aload_n hx hb dGY_longestUnplaced_24 rfl (lv_at hl 3 rfl) ?_
          refine va_get (D := (dC, dI)) (ci := 1) (v := .ref bG) (C := RGR) (T := TGR) (N := 6) hx hb hts (fun w h => List.mem_cons_of_mem _ (inGR w h)) hown hK hP 0 rfl rfl 3 (by decide) (hts _ (List.mem_cons_of_mem _ kw_88)) (fun _ h9 => h9) rfl dGY_longestUnplaced_25 ?_
          refine lv_iload_n hx hb dGY_longestUnplaced_28 rfl (lv_at hl 0 rfl) ?_
          refine hr_iald hx hb hK hP 2 0 rfl rfl (i := i) (by omega) (by omega) dGY_longestUnplaced_29 ?_
          refine lv_iload_n hx hb dGY_longestUnplaced_30 rfl (lv_at hl 1 rfl) ?_
          refine hr_icmp_le hx hb (x := (gT i)) (y := s2) (by omega) (by omega) (tgt := 43) dGY_longestUnplaced_31 (by decide) (fun c_3 => ?_) (fun c_3 => ?_)
          · refine lv_iinc (v := nI (i + 1)) (lv' := [(3, .int (nI (i + 1))), (2, .int (nI s2)), (1, .int (nI s1)), (0, .ref hG)]) hx hb dGY_longestUnplaced_43 hl (k := 0) rfl (hr_inc _) (by decide) rfl (fun ls hl => ?_)
            refine lv_goto (tgt := 6) hx hb dGY_longestUnplaced_46 (by decide) ?_
            exact ih_6 (i + 1) s1 s2 (by omega) (by rw [sel_keep ((oI_m1 (hgS i (by omega))).mp c_2) (by omega) (by omega)]; exact h1) (by rw [sel_keep ((oI_m1 (hgS i (by omega))).mp c_2) (by omega) (by omega)]; exact h2) (by omega) (by omega) ls (lv_sub hl [0, 1, 2, 3] rfl)
          · refine lv_iload_n hx hb dGY_longestUnplaced_34 rfl (lv_at hl 0 rfl) ?_
            refine lv_istore_n (lv' := [(1, .int (nI i)), (3, .int (nI i)), (2, .int (nI s2)), (0, .ref hG)]) hx hb dGY_longestUnplaced_35 rfl hl (by decide) rfl (fun ls hl => ?_)
            refine lv_aload_n hx hb dGY_longestUnplaced_36 rfl (lv_at hl 3 rfl) ?_
            refine va_get (D := (dC, dI)) (ci := 1) (v := .ref bG) (C := RGR) (T := TGR) (N := 6) hx hb hts (fun w h => List.mem_cons_of_mem _ (inGR w h)) hown hK hP 0 rfl rfl 3 (by decide) (hts _ (List.mem_cons_of_mem _ kw_88)) (fun _ h9 => h9) rfl dGY_longestUnplaced_37 ?_
            refine lv_iload_n hx hb dGY_longestUnplaced_40 rfl (lv_at hl 1 rfl) ?_
            refine hr_iald hx hb hK hP 2 0 rfl rfl (i := i) (by omega) (by omega) dGY_longestUnplaced_41 ?_
            refine lv_istore_n (lv' := [(2, .int (nI (gT i))), (1, .int (nI i)), (3, .int (nI i)), (0, .ref hG)]) hx hb dGY_longestUnplaced_42 rfl hl (by decide) rfl (fun ls hl => ?_)
            refine lv_iinc (v := nI (i + 1)) (lv' := [(3, .int (nI (i + 1))), (2, .int (nI (gT i))), (1, .int (nI i)), (0, .ref hG)]) hx hb dGY_longestUnplaced_43 hl (k := 2) rfl (hr_inc _) (by decide) rfl (fun ls hl => ?_)
            refine lv_goto (tgt := 6) hx hb dGY_longestUnplaced_46 (by decide) ?_
            exact ih_6 (i + 1) i (gT i) (by omega) (by rw [sel_take ((oI_m1 (hgS i (by omega))).mp c_2) (by omega)]; rfl) (by rw [sel_take ((oI_m1 (hgS i (by omega))).mp c_2) (by omega)]; rfl) (by omega) (by omega) ls (lv_sub hl [0, 1, 2, 3] rfl)
  exact loop_6 (gc + 1) 0 0 0 (by omega) (rfl) (rfl) (by omega) (by omega) ls (lv_sub hl [0, 1, 2, 3] rfl)

set_option maxHeartbeats 4000000 in
set_option maxRecDepth 100000 in
/-- the SHARD with the least sum -/
theorem c_GY_least (l : Launch) (dC : Nat → ClassId) (dI : Nat → Nat → Nat) (cI cZ cG : ClassId) (hY : Nat) (aY : Nat) (yc : Nat) (ym : Nat → Nat) (o : Option Nat) (hyc : 1 ≤ yc ∧ yc ≤ 4) (hym : ∀ q, q < 4 → ym q < 2 ^ 30) (ho : ∀ k, o = some k → k < 2 ^ 30) : Met l yGY_leastShard wsGY_leastShard ({ frames := 0, cells := 0, slots := 0, locals := 0 }) (va_Pc [.ref hY, .int (oI o)] (fun U => va_P (dC, dI) vwCl [(hY, .inr (4, [.int (nI yc), .ref aY])), (aY, .inl (cI, 4, .inl (fun j9 => nI (ym j9))))] U.heap ∧ KX dC dI cI cZ cG U)) (vp_Si (fun r => r = nI (lsh ym yc o))) 0 0 (fun _ => False) := by
  refine Met.ofW (cc := cGY_leastShard) (maxL := 4) (ret := (some .int)) (by decide) rfl ?_
  intro p e s m args below meth c s₁ B hml hv
  obtain ⟨rfl, hP, hKX⟩ := hv
  have hK := hKX.1
  have hx := B.exec
  have hb := B.bytes
  have hr := B.returns
  have hts := atoms_spec (ws := wsGY_leastShard) B.pre
  have hown : s.vm.findClass RGY = some m.cls := findClass_of_methodNamed B.named
  have hlocks := B.notSynchronized
  have hl := lv_entry ([.ref hY, .int (oI o)]) (n := 4) (Nat.le_of_ble_eq_true rfl)
  rw [lg_entry_eq]
  generalize (lg_sl ([.ref hY, .int (oI o)]) ++ List.replicate (4 - (lg_sl ([.ref hY, .int (oI o)])).length) Slot.unset).toArray = ls at hl ⊢
  have hl : lv_has ls 4 [(0, .ref hY), (1, .int (oI o))] := hl
  generalize hRe : (headSpec wsGY_leastShard ({ frames := 0, cells := 0, slots := 0, locals := 0 })).room = R
  have hRf : 0 ≤ R.frames := by rw [← hRe]; exact Nat.le_refl _
  have hRl : 0 ≤ R.locals := by rw [← hRe]; exact Nat.le_refl _
  have hRc : 0 ≤ R.cells := by rw [← hRe]; exact Nat.le_refl _
  have hRs : 0 ≤ R.slots := by rw [← hRe]; exact Nat.le_refl _
  generalize hargs : (List.toArray [.ref hY, .int (oI o)] : Array Value) = args at hts ⊢
  generalize hQe : MQ below _ args s _ _ _ = Q
  refine lv_iconst (v := nI 0) hx hb dGY_leastShard_0 (by decide +kernel) ?_
  refine lv_istore_n (lv' := [(2, .int (nI 0)), (0, .ref hY), (1, .int (oI o))]) hx hb dGY_leastShard_1 rfl hl (by decide) rfl (fun ls hl => ?_)
  refine lv_iconst (v := nI 1) hx hb dGY_leastShard_2 (by decide +kernel) ?_
  refine lv_istore_n (lv' := [(3, .int (nI 1)), (2, .int (nI 0)), (0, .ref hY), (1, .int (oI o))]) hx hb dGY_leastShard_3 rfl hl (by decide) rfl (fun ls hl => ?_)
  have loop_4 : ∀ (n9 : Nat) (i : Nat) (s2 : Nat), 1 ≤ i → i ≤ yc → s2 = lst ym (i - 1) → s2 < i → yc + 1 ≤ i + n9 → ∀ (ls : Array Slot), lv_has ls 4 [(3, .int (nI i)), (2, .int (nI s2)), (0, .ref hY), (1, .int (oI o))] → W p l e R s m args below meth c s.heap [] 0 0 Q (F0 m 4 ls []) := by
    intro n9
    induction n9 with
    | zero =>
      intro i s2 hi1 hi h2 h3 hmeas
      exact absurd hmeas (by omega)
    | succ n9 ih_4 =>
      intro i s2 hi1 hi h2 h3 hmeas ls hl
      refine lv_iload_n hx hb dGY_leastShard_4 rfl (lv_at hl 0 rfl) ?_
      refine lv_aload_n hx hb dGY_leastShard_5 rfl (lv_at hl 2 rfl) ?_
      refine va_get (D := (dC, dI)) (ci := 4) (v := .int (nI yc)) (C := RGY) (T := TGY) (N := 2) hx hb hts (fun w h => List.mem_cons_of_mem _ (inGY w h)) hown hK hP 0 rfl rfl 0 (by decide) (hts _ (List.mem_cons_of_mem _ kw_153)) (fun _ h9 => h9) rfl dGY_leastShard_6 ?_
      refine hr_icmp_ge hx hb (x := i) (y := yc) (by omega) (by omega) (tgt := 35) dGY_leastShard_9 (by decide) (fun c_1 => ?_) (fun c_1 => ?_)
      · have ei : yc = i := by omega
        subst ei
        have hm2 := hym s2 (by omega)
        cases o with
        | none =>
            have hl : lv_has ls 4 [(3, .int (nI yc)), (2, .int (nI s2)), (0, .ref hY), (1, .int (-1))] := hl
            refine lv_iload_n hx hb dGY_leastShard_35 rfl (lv_at hl 3 rfl) ?_
            refine lv_if_lt (tgt := 66) hx hb dGY_leastShard_36 (by decide) (fun c_2 => ?_) (fun c_2 => ?_)
            · refine lv_iconst (v := nI 0) hx hb dGY_leastShard_66 (by decide +kernel) ?_
              refine lv_istore_n (lv' := [(3, .int (nI 0)), (2, .int (nI s2)), (0, .ref hY), (1, .int (-1))]) hx hb dGY_leastShard_67 rfl hl (by decide) rfl (fun ls hl => ?_)
              refine lv_iload_n hx hb dGY_leastShard_68 rfl (lv_at hl 0 rfl) ?_
              refine hr_if_eq hx hb (x := 0) (by omega) (tgt := 76) dGY_leastShard_69 (by decide) (fun c_3 => ?_) (fun c_3 => ?_)
              · refine lv_iload_n hx hb dGY_leastShard_76 rfl (lv_at hl 1 rfl) ?_
                rw [← hQe]
                exact W.iret (v := nI s2) hx hb hr (fun t ht hW => ⟨_, rfl, by rw [h2]; rfl, by rw [ht]⟩) (fun q h => by cases h) dGY_leastShard_77
              · exact absurd rfl c_3
            · exact absurd (by decide +kernel) c_2
        | some q =>
            have hl : lv_has ls 4 [(3, .int (nI yc)), (2, .int (nI s2)), (0, .ref hY), (1, .int (nI q))] := hl
            have hq := ho q rfl
            refine lv_iload_n hx hb dGY_leastShard_35 rfl (lv_at hl 3 rfl) ?_
            refine hr_if_lt hx hb (x := q) (by omega) (tgt := 66) dGY_leastShard_36 (by decide) (fun c_4 => ?_) (fun c_4 => ?_)
            · exact absurd c_4 (by omega)
            · refine lv_iload_n hx hb dGY_leastShard_39 rfl (lv_at hl 3 rfl) ?_
              refine lv_aload_n hx hb dGY_leastShard_40 rfl (lv_at hl 2 rfl) ?_
              refine va_get (D := (dC, dI)) (ci := 4) (v := .int (nI yc)) (C := RGY) (T := TGY) (N := 2) hx hb hts (fun w h => List.mem_cons_of_mem _ (inGY w h)) hown hK hP 0 rfl rfl 0 (by decide) (hts _ (List.mem_cons_of_mem _ kw_153)) (fun _ h9 => h9) rfl dGY_leastShard_41 ?_
              refine hr_icmp_ge hx hb (x := q) (y := yc) (by omega) (by omega) (tgt := 66) dGY_leastShard_44 (by decide) (fun c_5 => ?_) (fun c_5 => ?_)
              · refine lv_iconst (v := nI 0) hx hb dGY_leastShard_66 (by decide +kernel) ?_
                refine lv_istore_n (lv' := [(3, .int (nI 0)), (2, .int (nI s2)), (0, .ref hY), (1, .int (nI q))]) hx hb dGY_leastShard_67 rfl hl (by decide) rfl (fun ls hl => ?_)
                refine lv_iload_n hx hb dGY_leastShard_68 rfl (lv_at hl 0 rfl) ?_
                refine hr_if_eq hx hb (x := 0) (by omega) (tgt := 76) dGY_leastShard_69 (by decide) (fun c_6 => ?_) (fun c_6 => ?_)
                · refine lv_iload_n hx hb dGY_leastShard_76 rfl (lv_at hl 1 rfl) ?_
                  rw [← hQe]
                  exact W.iret (v := nI s2) hx hb hr (fun t ht hW => ⟨_, rfl, by rw [h2] at *; show _ = nI (if q < yc ∧ ym q = ym (lst ym (yc - 1)) then q else lst ym (yc - 1)); rw [if_neg (by omega)], by rw [ht]⟩) (fun q h => by cases h) dGY_leastShard_77
                · exact absurd rfl c_6
              · have hm3 := hym q (by omega)
                refine lv_aload_n hx hb dGY_leastShard_47 rfl (lv_at hl 2 rfl) ?_
                refine va_get (D := (dC, dI)) (ci := 4) (v := .ref aY) (C := RGY) (T := TGY) (N := 2) hx hb hts (fun w h => List.mem_cons_of_mem _ (inGY w h)) hown hK hP 0 rfl rfl 1 (by decide) (hts _ (List.mem_cons_of_mem _ kw_154)) (fun _ h9 => h9) rfl dGY_leastShard_48 ?_
                refine lv_iload_n hx hb dGY_leastShard_51 rfl (lv_at hl 3 rfl) ?_
                refine hr_iald hx hb hK hP 1 0 rfl rfl (i := q) (by omega) (by omega) dGY_leastShard_52 ?_
                refine lv_aload_n hx hb dGY_leastShard_53 rfl (lv_at hl 2 rfl) ?_
                refine va_get (D := (dC, dI)) (ci := 4) (v := .ref aY) (C := RGY) (T := TGY) (N := 2) hx hb hts (fun w h => List.mem_cons_of_mem _ (inGY w h)) hown hK hP 0 rfl rfl 1 (by decide) (hts _ (List.mem_cons_of_mem _ kw_154)) (fun _ h9 => h9) rfl dGY_leastShard_54 ?_
                refine lv_iload_n hx hb dGY_leastShard_57 rfl (lv_at hl 1 rfl) ?_
                refine hr_iald hx hb hK hP 1 0 rfl rfl (i := s2) (by omega) (by omega) dGY_leastShard_58 ?_
                refine hr_icmp_ne hx hb (x := (ym q)) (y := (ym s2)) (by omega) (by omega) (tgt := 66) dGY_leastShard_59 (by decide) (fun c_7 => ?_) (fun c_7 => ?_)
                · refine lv_iconst (v := nI 0) hx hb dGY_leastShard_66 (by decide +kernel) ?_
                  refine lv_istore_n (lv' := [(3, .int (nI 0)), (2, .int (nI s2)), (0, .ref hY), (1, .int (nI q))]) hx hb dGY_leastShard_67 rfl hl (by decide) rfl (fun ls hl => ?_)
                  refine lv_iload_n hx hb dGY_leastShard_68 rfl (lv_at hl 0 rfl) ?_
                  refine hr_if_eq hx hb (x := 0) (by omega) (tgt := 76) dGY_leastShard_69 (by decide) (fun c_8 => ?_) (fun c_8 => ?_)
                  · refine lv_iload_n hx hb dGY_leastShard_76 rfl (lv_at hl 1 rfl) ?_
                    rw [← hQe]
                    exact W.iret (v := nI s2) hx hb hr (fun t ht hW => ⟨_, rfl, by rw [h2] at *; show _ = nI (if q < yc ∧ ym q = ym (lst ym (yc - 1)) then q else lst ym (yc - 1)); rw [if_neg (by omega)], by rw [ht]⟩) (fun q h => by cases h) dGY_leastShard_77
                  · exact absurd rfl c_8
                · refine lv_iconst (v := nI 1) hx hb dGY_leastShard_62 (by decide +kernel) ?_
                  refine lv_goto (tgt := 67) hx hb dGY_leastShard_63 (by decide) ?_
                  refine lv_istore_n (lv' := [(3, .int (nI 1)), (2, .int (nI s2)), (0, .ref hY), (1, .int (nI q))]) hx hb dGY_leastShard_67 rfl hl (by decide) rfl (fun ls hl => ?_)
                  refine lv_iload_n hx hb dGY_leastShard_68 rfl (lv_at hl 0 rfl) ?_
                  refine hr_if_eq hx hb (x := 1) (by omega) (tgt := 76) dGY_leastShard_69 (by decide) (fun c_9 => ?_) (fun c_9 => ?_)
                  · exact absurd c_9 (by decide)
                  · refine lv_iload_n hx hb dGY_leastShard_72 rfl (lv_at hl 3 rfl) ?_
                    refine lv_goto (tgt := 77) hx hb dGY_leastShard_73 (by decide) ?_
                    rw [← hQe]
                    exact W.iret (v := nI q) hx hb hr (fun t ht hW => ⟨_, rfl, by rw [h2] at *; show _ = nI (if q < yc ∧ ym q = ym (lst ym (yc - 1)) then q else lst ym (yc - 1)); rw [if_pos ⟨by omega, by omega⟩], by rw [ht]⟩) (fun q h => by cases h) dGY_leastShard_77
      · have hm1 := hym i (by omega)
        have hm2 := hym s2 (by omega)
        refine lv_aload_n hx hb dGY_leastShard_12 rfl (lv_at hl 2 rfl) ?_
        refine va_get (D := (dC, dI)) (ci := 4) (v := .ref aY) (C := RGY) (T := TGY) (N := 2) hx hb hts (fun w h => List.mem_cons_of_mem _ (inGY w h)) hown hK hP 0 rfl rfl 1 (by decide) (hts _ (List.mem_cons_of_mem _ kw_154)) (fun _ h9 => h9) rfl dGY_leastShard_13 ?_
        refine lv_iload_n hx hb dGY_leastShard_16 rfl (lv_at hl 0 rfl) ?_
        refine hr_iald hx hb hK hP 1 0 rfl rfl (i := i) (by omega) (by omega) dGY_leastShard_17 ?_
        refine lv_aload_n hx hb dGY_leastShard_18 rfl (lv_at hl 2 rfl) ?_
        refine va_get (D := (dC, dI)) (ci := 4) (v := .ref aY) (C := RGY) (T := TGY) (N := 2) hx hb hts (fun w h => List.mem_cons_of_mem _ (inGY w h)) hown hK hP 0 rfl rfl 1 (by decide) (hts _ (List.mem_cons_of_mem _ kw_154)) (fun _ h9 => h9) rfl dGY_leastShard_19 ?_
        refine lv_iload_n hx hb dGY_leastShard_22 rfl (lv_at hl 1 rfl) ?_
        refine hr_iald hx hb hK hP 1 0 rfl rfl (i := s2) (by omega) (by omega) dGY_leastShard_23 ?_
        refine hr_icmp_ge hx hb (x := (ym i)) (y := (ym s2)) (by omega) (by omega) (tgt := 29) dGY_leastShard_24 (by decide) (fun c_10 => ?_) (fun c_10 => ?_)
        · refine lv_iinc (v := nI (i + 1)) (lv' := [(3, .int (nI (i + 1))), (2, .int (nI s2)), (0, .ref hY), (1, .int (oI o))]) hx hb dGY_leastShard_29 hl (k := 0) rfl (hr_inc _) (by decide) rfl (fun ls hl => ?_)
          refine lv_goto (tgt := 4) hx hb dGY_leastShard_32 (by decide) ?_
          exact ih_4 (i + 1) s2 (by omega) (by omega) (by rw [lst_keep hi1 (by rw [← h2]; omega)]; exact h2) (by omega) (by omega) ls (lv_sub hl [0, 1, 2, 3] rfl)
        · refine lv_iload_n hx hb dGY_leastShard_27 rfl (lv_at hl 0 rfl) ?_
          refine lv_istore_n (lv' := [(2, .int (nI i)), (3, .int (nI i)), (0, .ref hY), (1, .int (oI o))]) hx hb dGY_leastShard_28 rfl hl (by decide) rfl (fun ls hl => ?_)
          refine lv_iinc (v := nI (i + 1)) (lv' := [(3, .int (nI (i + 1))), (2, .int (nI i)), (0, .ref hY), (1, .int (oI o))]) hx hb dGY_leastShard_29 hl (k := 1) rfl (hr_inc _) (by decide) rfl (fun ls hl => ?_)
          refine lv_goto (tgt := 4) hx hb dGY_leastShard_32 (by decide) ?_
          exact ih_4 (i + 1) i (by omega) (by omega) (by rw [lst_take hi1 (by rw [← h2]; omega)]) (by omega) (by omega) ls (lv_sub hl [0, 1, 2, 3] rfl)
  exact loop_4 (yc + 1) 1 0 (by omega) (by omega) (rfl) (by omega) (by omega) ls (lv_sub hl [0, 1, 2, 3] rfl)
end
section
set_option maxHeartbeats 4000000 in
set_option maxRecDepth 100000 in
/-- GROUPS by falling TIMES -/
theorem c_GY_place (l : Launch) (dC : Nat → ClassId) (dI : Nat → Nat → Nat) (cI cZ cG : ClassId) (hY : Nat) (aY : Nat) (yc : Nat) (ym : Nat → Nat) (hG : Nat) (aG : Nat) (bG : Nat) (dG : Nat) (gG : Nat) (gc : Nat) (gn : Nat) (gF : Nat → Nat) (gT : Nat → Nat) (gS : Nat → Option Nat) (gO : Nat → Nat) (h : Nat) (a : Nat) (b : Nat) (d : Nat) (sc : Nat) (mv : Nat) (sm : Nat → Nat) (zs : Nat → Nat) (sf : Nat → Option Nat) (k : Nat) (sz : Nat) (hk : 1 ≤ k ∧ k ≤ 4) (hgc : gc ≤ 24) (hgT : ∀ g, g < gc → 1 ≤ gT g ∧ gT g ≤ 2400000) (hgS : ∀ g, g < gc → gS g = none) (hgF : ∀ g, g < gc → gF g < 24) (hsf : ∀ j, j < 24 → ∀ q, sf j = some q → q < 4) : Met l yGY_place wsGY_place ({ frames := 2, cells := 0, slots := 0, locals := 41 }) (va_Pc [.ref hY, .ref hG, .ref h, .int (nI k)] (fun U => U.heap.size = sz ∧ va_P (dC, dI) vwCl [(hY, .inr (4, [.int (nI yc), .ref aY])), (aY, .inl (cI, 4, .inl (fun j9 => nI (ym j9)))), (hG, .inr (1, [.int (nI gc), .int (nI gn), .ref aG, .ref bG, .ref dG, .ref gG])), (aG, .inl (cI, 24, .inl (fun j9 => nI (gF j9)))), (bG, .inl (cI, 24, .inl (fun j9 => nI (gT j9)))), (dG, .inl (cI, 24, .inl (fun j9 => oI (gS j9)))), (gG, .inl (cI, 24, .inl (fun j9 => nI (gO j9)))), (h, .inr (5, [.int (nI sc), .int (nI mv), .ref a, .ref b, .ref d])), (a, .inl (cI, 4, .inl (fun j9 => nI (sm j9)))), (b, .inl (cI, 4, .inl (fun j9 => nI (zs j9)))), (d, .inl (cI, 24, .inl (fun j9 => oI (sf j9))))] U.heap ∧ KX dC dI cI cZ cG U ∧ va_D (fun _ => True) [(hY, .inr (4, [.int (nI yc), .ref aY])), (aY, .inl (cI, 4, .inl (fun j9 => nI (ym j9)))), (hG, .inr (1, [.int (nI gc), .int (nI gn), .ref aG, .ref bG, .ref dG, .ref gG])), (aG, .inl (cI, 24, .inl (fun j9 => nI (gF j9)))), (bG, .inl (cI, 24, .inl (fun j9 => nI (gT j9)))), (dG, .inl (cI, 24, .inl (fun j9 => oI (gS j9)))), (gG, .inl (cI, 24, .inl (fun j9 => nI (gO j9)))), (h, .inr (5, [.int (nI sc), .int (nI mv), .ref a, .ref b, .ref d])), (a, .inl (cI, 4, .inl (fun j9 => nI (sm j9)))), (b, .inl (cI, 4, .inl (fun j9 => nI (zs j9)))), (d, .inl (cI, 24, .inl (fun j9 => oI (sf j9))))])) (va_Qv (fun (u : Unit) => True) (fun u t => va_P (dC, dI) vwCl [(hY, .inr (4, [.int (nI k), .ref aY])), (aY, .inl (cI, 4, .inl (fun j9 => nI (((grd gT gF sf gc k gS gc).2) j9)))), (hG, .inr (1, [.int (nI gc), .int (nI gn), .ref aG, .ref bG, .ref dG, .ref gG])), (aG, .inl (cI, 24, .inl (fun j9 => nI (gF j9)))), (bG, .inl (cI, 24, .inl (fun j9 => nI (gT j9)))), (dG, .inl (cI, 24, .inl (fun j9 => oI (((grd gT gF sf gc k gS gc).1) j9)))), (gG, .inl (cI, 24, .inl (fun j9 => nI (gO j9)))), (h, .inr (5, [.int (nI sc), .int (nI mv), .ref a, .ref b, .ref d])), (a, .inl (cI, 4, .inl (fun j9 => nI (sm j9)))), (b, .inl (cI, 4, .inl (fun j9 => nI (zs j9)))), (d, .inl (cI, 24, .inl (fun j9 => oI (sf j9))))] t.heap ∧ va_D (va_A [(hY, .inr (4, [.int (nI yc), .ref aY])), (aY, .inl (cI, 4, .inl (fun j9 => nI (ym j9)))), (hG, .inr (1, [.int (nI gc), .int (nI gn), .ref aG, .ref bG, .ref dG, .ref gG])), (aG, .inl (cI, 24, .inl (fun j9 => nI (gF j9)))), (bG, .inl (cI, 24, .inl (fun j9 => nI (gT j9)))), (dG, .inl (cI, 24, .inl (fun j9 => oI (gS j9)))), (gG, .inl (cI, 24, .inl (fun j9 => nI (gO j9)))), (h, .inr (5, [.int (nI sc), .int (nI mv), .ref a, .ref b, .ref d])), (a, .inl (cI, 4, .inl (fun j9 => nI (sm j9)))), (b, .inl (cI, 4, .inl (fun j9 => nI (zs j9)))), (d, .inl (cI, 24, .inl (fun j9 => oI (sf j9))))] sz) [(hY, .inr (4, [.int (nI k), .ref aY])), (aY, .inl (cI, 4, .inl (fun j9 => nI (((grd gT gF sf gc k gS gc).2) j9)))), (hG, .inr (1, [.int (nI gc), .int (nI gn), .ref aG, .ref bG, .ref dG, .ref gG])), (aG, .inl (cI, 24, .inl (fun j9 => nI (gF j9)))), (bG, .inl (cI, 24, .inl (fun j9 => nI (gT j9)))), (dG, .inl (cI, 24, .inl (fun j9 => oI (((grd gT gF sf gc k gS gc).1) j9)))), (gG, .inl (cI, 24, .inl (fun j9 => nI (gO j9)))), (h, .inr (5, [.int (nI sc), .int (nI mv), .ref a, .ref b, .ref d])), (a, .inl (cI, 4, .inl (fun j9 => nI (sm j9)))), (b, .inl (cI, 4, .inl (fun j9 => nI (zs j9)))), (d, .inl (cI, 24, .inl (fun j9 => oI (sf j9))))]) (va_A [(hY, .inr (4, [.int (nI yc), .ref aY])), (aY, .inl (cI, 4, .inl (fun j9 => nI (ym j9)))), (hG, .inr (1, [.int (nI gc), .int (nI gn), .ref aG, .ref bG, .ref dG, .ref gG])), (aG, .inl (cI, 24, .inl (fun j9 => nI (gF j9)))), (bG, .inl (cI, 24, .inl (fun j9 => nI (gT j9)))), (dG, .inl (cI, 24, .inl (fun j9 => oI (gS j9)))), (gG, .inl (cI, 24, .inl (fun j9 => nI (gO j9)))), (h, .inr (5, [.int (nI sc), .int (nI mv), .ref a, .ref b, .ref d])), (a, .inl (cI, 4, .inl (fun j9 => nI (sm j9)))), (b, .inl (cI, 4, .inl (fun j9 => nI (zs j9)))), (d, .inl (cI, 24, .inl (fun j9 => oI (sf j9))))] sz)) 0 0 (va_A [(hY, .inr (4, [.int (nI yc), .ref aY])), (aY, .inl (cI, 4, .inl (fun j9 => nI (ym j9)))), (hG, .inr (1, [.int (nI gc), .int (nI gn), .ref aG, .ref bG, .ref dG, .ref gG])), (aG, .inl (cI, 24, .inl (fun j9 => nI (gF j9)))), (bG, .inl (cI, 24, .inl (fun j9 => nI (gT j9)))), (dG, .inl (cI, 24, .inl (fun j9 => oI (gS j9)))), (gG, .inl (cI, 24, .inl (fun j9 => nI (gO j9)))), (h, .inr (5, [.int (nI sc), .int (nI mv), .ref a, .ref b, .ref d])), (a, .inl (cI, 4, .inl (fun j9 => nI (sm j9)))), (b, .inl (cI, 4, .inl (fun j9 => nI (zs j9)))), (d, .inl (cI, 24, .inl (fun j9 => oI (sf j9))))] sz) := by
  refine Met.ofW (cc := cGY_place) (maxL := 7) (ret := none) (by decide) rfl ?_
  intro p e s m args below meth c s₁ B hml hv
  obtain ⟨rfl, hsz, hP, hKX, hD0⟩ := hv
  have hK := hKX.1
  have hx := B.exec
  have hb := B.bytes
  have hr := B.returns
  have hts := atoms_spec (ws := wsGY_place) B.pre
  have hown : s.vm.findClass RGY = some m.cls := findClass_of_methodNamed B.named
  have hlocks := B.notSynchronized
  subst hsz
  have hD := hD0.self (sz := s.heap.size)
  generalize hAe : va_A [(hY, .inr (4, [.int (nI yc), .ref aY])), (aY, .inl (cI, 4, .inl (fun j9 => nI (ym j9)))), (hG, .inr (1, [.int (nI gc), .int (nI gn), .ref aG, .ref bG, .ref dG, .ref gG])), (aG, .inl (cI, 24, .inl (fun j9 => nI (gF j9)))), (bG, .inl (cI, 24, .inl (fun j9 => nI (gT j9)))), (dG, .inl (cI, 24, .inl (fun j9 => oI (gS j9)))), (gG, .inl (cI, 24, .inl (fun j9 => nI (gO j9)))), (h, .inr (5, [.int (nI sc), .int (nI mv), .ref a, .ref b, .ref d])), (a, .inl (cI, 4, .inl (fun j9 => nI (sm j9)))), (b, .inl (cI, 4, .inl (fun j9 => nI (zs j9)))), (d, .inl (cI, 24, .inl (fun j9 => oI (sf j9))))] s.heap.size = A at hD ⊢
  have hA : ∀ q : Nat, s.heap.size ≤ q → A q := fun q h => by rw [← hAe]; exact Or.inr h
  have hS : va_S A s.heap s.heap [] := va_S.rf
  have hl := lv_entry ([.ref hY, .ref hG, .ref h, .int (nI k)]) (n := 7) (Nat.le_of_ble_eq_true rfl)
  rw [lg_entry_eq]
  generalize (lg_sl ([.ref hY, .ref hG, .ref h, .int (nI k)]) ++ List.replicate (7 - (lg_sl ([.ref hY, .ref hG, .ref h, .int (nI k)])).length) Slot.unset).toArray = ls at hl ⊢
  have hl : lv_has ls 7 [(0, .ref hY), (1, .ref hG), (2, .ref h), (3, .int (nI k))] := hl
  generalize hRe : (headSpec wsGY_place ({ frames := 2, cells := 0, slots := 0, locals := 41 })).room = R
  have hRf : 2 ≤ R.frames := by rw [← hRe]; exact Nat.le_refl _
  have hRl : 41 ≤ R.locals := by rw [← hRe]; exact Nat.le_refl _
  have hRc : 0 ≤ R.cells := by rw [← hRe]; exact Nat.le_refl _
  have hRs : 0 ≤ R.slots := by rw [← hRe]; exact Nat.le_refl _
  generalize hargs : (List.toArray [.ref hY, .ref hG, .ref h, .int (nI k)] : Array Value) = args at hts ⊢
  generalize hQe : MQ below _ args s _ _ _ = Q
  refine lv_aload_n hx hb dGY_place_0 rfl (lv_at hl 0 rfl) ?_
  refine lv_iload_n hx hb dGY_place_1 rfl (lv_at hl 3 rfl) ?_
  refine lv_iconst (v := nI 4) hx hb dGY_place_2 (by decide +kernel) ?_
  refine va_mmin (rest := [.ref hY]) hx hb (by rw [hml]; exact hl.1.symm) hown (hts (.methodLink RGY 15 Lib.Math.min.name) (by decide +kernel)) (hts (.static Lib.Math.min.name) (by decide +kernel)) (hts (.initialized "java/lang/Math") (by decide +kernel)) (hts (.code Lib.Math.min.name Lib.Math.min.code 2 (some .int)) (by decide +kernel)) (Nat.le_trans (Nat.le_of_ble_eq_true rfl) hRf) (Nat.le_trans (Nat.le_of_ble_eq_true rfl) hRl) (Nat.zero_le _) (Nat.zero_le _) dGY_place_3 ?_
  refine hr_eqi (hr_min (by omega) (by omega)) ?_
  rw [show min k 4 = k by omega]
  refine va_put (D := (dC, dI)) (ci := 4) (v := .int (nI k)) (ty := .int) (C := RGY) (T := TGY) (N := 2) hx hb hts (fun w h => List.mem_cons_of_mem _ (inGY w h)) tyGY tyGY_ok nmGY hown hK hP hD hS 0 rfl rfl 0 (by decide) (hts _ (List.mem_cons_of_mem _ kw_153)) (fun _ h9 => h9) rfl (by decide +kernel) rfl rfl (Nat.le_of_ble_eq_true rfl) dGY_place_6 (fun H locs hP hD hS => ?_)
  have hP : va_P (dC, dI) vwCl [(hY, .inr (4, [.int (nI k), .ref aY])), (aY, .inl (cI, 4, .inl (fun j9 => nI (ym j9)))), (hG, .inr (1, [.int (nI gc), .int (nI gn), .ref aG, .ref bG, .ref dG, .ref gG])), (aG, .inl (cI, 24, .inl (fun j9 => nI (gF j9)))), (bG, .inl (cI, 24, .inl (fun j9 => nI (gT j9)))), (dG, .inl (cI, 24, .inl (fun j9 => oI (gS j9)))), (gG, .inl (cI, 24, .inl (fun j9 => nI (gO j9)))), (h, .inr (5, [.int (nI sc), .int (nI mv), .ref a, .ref b, .ref d])), (a, .inl (cI, 4, .inl (fun j9 => nI (sm j9)))), (b, .inl (cI, 4, .inl (fun j9 => nI (zs j9)))), (d, .inl (cI, 24, .inl (fun j9 => oI (sf j9))))] H := hP
  have hD : va_D A [(hY, .inr (4, [.int (nI k), .ref aY])), (aY, .inl (cI, 4, .inl (fun j9 => nI (ym j9)))), (hG, .inr (1, [.int (nI gc), .int (nI gn), .ref aG, .ref bG, .ref dG, .ref gG])), (aG, .inl (cI, 24, .inl (fun j9 => nI (gF j9)))), (bG, .inl (cI, 24, .inl (fun j9 => nI (gT j9)))), (dG, .inl (cI, 24, .inl (fun j9 => oI (gS j9)))), (gG, .inl (cI, 24, .inl (fun j9 => nI (gO j9)))), (h, .inr (5, [.int (nI sc), .int (nI mv), .ref a, .ref b, .ref d])), (a, .inl (cI, 4, .inl (fun j9 => nI (sm j9)))), (b, .inl (cI, 4, .inl (fun j9 => nI (zs j9)))), (d, .inl (cI, 24, .inl (fun j9 => oI (sf j9))))] := hD
  refine lv_aload_n hx hb dGY_place_9 rfl (lv_at hl 0 rfl) ?_
  refine va_get (D := (dC, dI)) (ci := 4) (v := .ref aY) (C := RGY) (T := TGY) (N := 2) hx hb hts (fun w h => List.mem_cons_of_mem _ (inGY w h)) hown hK hP 0 rfl rfl 1 (by decide) (hts _ (List.mem_cons_of_mem _ kw_154)) (fun _ h9 => h9) rfl dGY_place_10 ?_
  refine lv_iconst (v := nI 0) hx hb dGY_place_13 (by decide +kernel) ?_
  refine hr_callv (wr := [(hY, .inr (4, [.int (nI k), .ref aY])), (hG, .inr (1, [.int (nI gc), .int (nI gn), .ref aG, .ref bG, .ref dG, .ref gG])), (aG, .inl (cI, 24, .inl (fun j9 => nI (gF j9)))), (bG, .inl (cI, 24, .inl (fun j9 => nI (gT j9)))), (dG, .inl (cI, 24, .inl (fun j9 => oI (gS j9)))), (gG, .inl (cI, 24, .inl (fun j9 => nI (gO j9)))), (h, .inr (5, [.int (nI sc), .int (nI mv), .ref a, .ref b, .ref d])), (a, .inl (cI, 4, .inl (fun j9 => nI (sm j9)))), (b, .inl (cI, 4, .inl (fun j9 => nI (zs j9)))), (d, .inl (cI, 24, .inl (fun j9 => oI (sf j9))))]) (va_runS (As := [.ref aY, .int (nI 0)]) (rest := []) ⟨hx, hb, hml, hown, hts⟩ (c_AR_fill l dC dI cI cZ cG aY 4 (fun j9 => nI (ym j9)) (nI 0) H.size (by decide)) (hr_cwS 2 hts kw_364 kw_167 kw_30 kw_168 (by decide +kernel) (by rw [← hRe]; exact ⟨Nat.le_of_ble_eq_true rfl, Nat.le_of_ble_eq_true rfl⟩)) (hr_preWS hKX hP hD [1] (by decide) rfl) rfl rfl hl.1 rfl (lv_room (Nat.le_of_ble_eq_true rfl)) dGY_place_14 ⟨by omega, by omega⟩) hP hD hS hA [1] [0, 2, 3, 4, 5, 6, 7, 8, 9, 10] rfl rfl (by decide) (by decide) [0, 10, 1, 2, 3, 4, 5, 6, 7, 8, 9] (fun u => [(hY, .inr (4, [.int (nI k), .ref aY])), (aY, .inl (cI, 4, .inl (fun j9 => nI ((fun _ => 0) j9)))), (hG, .inr (1, [.int (nI gc), .int (nI gn), .ref aG, .ref bG, .ref dG, .ref gG])), (aG, .inl (cI, 24, .inl (fun j9 => nI (gF j9)))), (bG, .inl (cI, 24, .inl (fun j9 => nI (gT j9)))), (dG, .inl (cI, 24, .inl (fun j9 => oI (gS j9)))), (gG, .inl (cI, 24, .inl (fun j9 => nI (gO j9)))), (h, .inr (5, [.int (nI sc), .int (nI mv), .ref a, .ref b, .ref d])), (a, .inl (cI, 4, .inl (fun j9 => nI (sm j9)))), (b, .inl (cI, 4, .inl (fun j9 => nI (zs j9)))), (d, .inl (cI, 24, .inl (fun j9 => oI (sf j9))))]) (by decide) (fun u => rfl) (fun u H locs hrv hP hD hS => ?_)
  have hP : va_P (dC, dI) vwCl [(hY, .inr (4, [.int (nI k), .ref aY])), (aY, .inl (cI, 4, .inl (fun j9 => nI ((fun _ => 0) j9)))), (hG, .inr (1, [.int (nI gc), .int (nI gn), .ref aG, .ref bG, .ref dG, .ref gG])), (aG, .inl (cI, 24, .inl (fun j9 => nI (gF j9)))), (bG, .inl (cI, 24, .inl (fun j9 => nI (gT j9)))), (dG, .inl (cI, 24, .inl (fun j9 => oI (gS j9)))), (gG, .inl (cI, 24, .inl (fun j9 => nI (gO j9)))), (h, .inr (5, [.int (nI sc), .int (nI mv), .ref a, .ref b, .ref d])), (a, .inl (cI, 4, .inl (fun j9 => nI (sm j9)))), (b, .inl (cI, 4, .inl (fun j9 => nI (zs j9)))), (d, .inl (cI, 24, .inl (fun j9 => oI (sf j9))))] H := hP
  have hD : va_D A [(hY, .inr (4, [.int (nI k), .ref aY])), (aY, .inl (cI, 4, .inl (fun j9 => nI ((fun _ => 0) j9)))), (hG, .inr (1, [.int (nI gc), .int (nI gn), .ref aG, .ref bG, .ref dG, .ref gG])), (aG, .inl (cI, 24, .inl (fun j9 => nI (gF j9)))), (bG, .inl (cI, 24, .inl (fun j9 => nI (gT j9)))), (dG, .inl (cI, 24, .inl (fun j9 => oI (gS j9)))), (gG, .inl (cI, 24, .inl (fun j9 => nI (gO j9)))), (h, .inr (5, [.int (nI sc), .int (nI mv), .ref a, .ref b, .ref d])), (a, .inl (cI, 4, .inl (fun j9 => nI (sm j9)))), (b, .inl (cI, 4, .inl (fun j9 => nI (zs j9)))), (d, .inl (cI, 24, .inl (fun j9 => oI (sf j9))))] := hD
  refine lv_iconst (v := nI 0) hx hb dGY_place_17 (by decide +kernel) ?_
  refine lv_istore (lv' := [(4, .int (nI 0)), (0, .ref hY), (1, .ref hG), (2, .ref h), (3, .int (nI k))]) hx hb dGY_place_18 hl (by decide) rfl (fun ls hl => ?_)
  have loop_20 : ∀ (n9 : Nat) (i : Nat), i ≤ gc → gc + 1 ≤ i + n9 → ∀ (H : Heap) (locs : List Loc), va_P (dC, dI) vwCl [(hY, .inr (4, [.int (nI k), .ref aY])), (aY, .inl (cI, 4, .inl (fun j9 => nI (((grd gT gF sf gc k gS i).2) j9)))), (hG, .inr (1, [.int (nI gc), .int (nI gn), .ref aG, .ref bG, .ref dG, .ref gG])), (aG, .inl (cI, 24, .inl (fun j9 => nI (gF j9)))), (bG, .inl (cI, 24, .inl (fun j9 => nI (gT j9)))), (dG, .inl (cI, 24, .inl (fun j9 => oI (((grd gT gF sf gc k gS i).1) j9)))), (gG, .inl (cI, 24, .inl (fun j9 => nI (gO j9)))), (h, .inr (5, [.int (nI sc), .int (nI mv), .ref a, .ref b, .ref d])), (a, .inl (cI, 4, .inl (fun j9 => nI (sm j9)))), (b, .inl (cI, 4, .inl (fun j9 => nI (zs j9)))), (d, .inl (cI, 24, .inl (fun j9 => oI (sf j9))))] H → va_D A [(hY, .inr (4, [.int (nI k), .ref aY])), (aY, .inl (cI, 4, .inl (fun j9 => nI (((grd gT gF sf gc k gS i).2) j9)))), (hG, .inr (1, [.int (nI gc), .int (nI gn), .ref aG, .ref bG, .ref dG, .ref gG])), (aG, .inl (cI, 24, .inl (fun j9 => nI (gF j9)))), (bG, .inl (cI, 24, .inl (fun j9 => nI (gT j9)))), (dG, .inl (cI, 24, .inl (fun j9 => oI (((grd gT gF sf gc k gS i).1) j9)))), (gG, .inl (cI, 24, .inl (fun j9 => nI (gO j9)))), (h, .inr (5, [.int (nI sc), .int (nI mv), .ref a, .ref b, .ref d])), (a, .inl (cI, 4, .inl (fun j9 => nI (sm j9)))), (b, .inl (cI, 4, .inl (fun j9 => nI (zs j9)))), (d, .inl (cI, 24, .inl (fun j9 => oI (sf j9))))] → va_S A s.heap H locs → ∀ (ls : Array Slot), lv_has ls 7 [(4, .int (nI i)), (0, .ref hY), (1, .ref hG), (2, .ref h), (3, .int (nI k))] → W p l e R s m args below meth c H locs 0 0 Q (F0 m 20 ls []) := by
    intro n9
    induction n9 with
    | zero =>
      intro i hi hmeas
      exact absurd hmeas (by omega)
    | succ n9 ih_20 =>
      intro i hi hmeas H locs hP hD hS ls hl
      refine lv_iload hx hb dGY_place_20 (lv_at hl 0 rfl) ?_
      refine lv_aload_n hx hb dGY_place_22 rfl (lv_at hl 2 rfl) ?_
      refine va_get (D := (dC, dI)) (ci := 1) (v := .int (nI gc)) (C := RGR) (T := TGR) (N := 6) hx hb hts (fun w h => List.mem_cons_of_mem _ (inGR w h)) hown hK hP 2 rfl rfl 0 (by decide) (hts _ (List.mem_cons_of_mem _ kw_77)) (fun _ h9 => h9) rfl dGY_place_23 ?_
      refine hr_icmp_ge hx hb (x := i) (y := gc) (by omega) (by omega) (tgt := 84) dGY_place_26 (by decide) (fun c_1 => ?_) (fun c_1 => ?_)
      · have ei : gc = i := by omega
        subst ei
        rw [← hQe]
        exact W.vret hx hb hr (fun t ht hW => ⟨⟨(), rfl, trivial, by rw [ht]; exact hP, hD⟩, hS.F ht⟩) hS.2.2 dGY_place_84
      · have hgl := sel_getD (w := gT) (gs := (grd gT gF sf gc k gS i).1) (G := gc) (by omega)
        have hFl := hgF ((sel gT (grd gT gF sf gc k gS i).1 gc).getD 0) hgl
        have hql := lsh_lt (sm := (grd gT gF sf gc k gS i).2) (k := k) (o := sf (gF ((sel gT (grd gT gF sf gc k gS i).1 gc).getD 0))) hk.1
        have hsl : ∀ q, q < 4 → (grd gT gF sf gc k gS i).2 q < 2 ^ 30 := fun q _ => by have := grd_le (F := gF) (sf := sf) (k := k) (g0 := gS) (B := 2400000) (show 0 < gc by omega) (fun g hg => (hgT g hg).2) i q; have : 2400000 * i ≤ 2400000 * 24 := Nat.mul_le_mul_left _ (by omega); omega
        refine lv_aload_n hx hb dGY_place_29 rfl (lv_at hl 2 rfl) ?_
        refine vp_callSi (va_runS (As := [.ref hG]) (rest := []) ⟨hx, hb, hml, hown, hts⟩ (c_GY_longest l dC dI cI cZ cG hG aG bG dG gG gc gn gF gT ((grd gT gF sf gc k gS i).1) gO (hgc) (hgT) (fun g hg q hq => by have := grd_S hk.1 hgS i g q hg hq; omega)) (hr_cwS 1 hts kw_365 kw_366 kw_28 kw_367 (by decide +kernel) (by rw [← hRe]; exact ⟨Nat.le_of_ble_eq_true rfl, Nat.le_of_ble_eq_true rfl⟩)) (hr_preRS hKX hP [2, 3, 4, 5, 6] rfl) rfl rfl hl.1 rfl (lv_room (Nat.le_of_ble_eq_true rfl)) dGY_place_30 ⟨by omega, by omega⟩).run (fun rv hrv => ?_)
        refine hr_eqi hrv ?_
        refine lv_istore (lv' := [(5, .int (nI ((sel gT ((grd gT gF sf gc k gS i).1) gc).getD 0))), (4, .int (nI i)), (0, .ref hY), (1, .ref hG), (2, .ref h), (3, .int (nI k))]) hx hb dGY_place_33 hl (by decide) rfl (fun ls hl => ?_)
        refine lv_aload_n hx hb dGY_place_35 rfl (lv_at hl 2 rfl) ?_
        refine lv_aload_n hx hb dGY_place_36 rfl (lv_at hl 4 rfl) ?_
        refine lv_aload_n hx hb dGY_place_37 rfl (lv_at hl 3 rfl) ?_
        refine va_get (D := (dC, dI)) (ci := 1) (v := .ref aG) (C := RGR) (T := TGR) (N := 6) hx hb hts (fun w h => List.mem_cons_of_mem _ (inGR w h)) hown hK hP 2 rfl rfl 2 (by decide) (hts _ (List.mem_cons_of_mem _ kw_84)) (fun _ h9 => h9) rfl dGY_place_38 ?_
        refine lv_iload hx hb dGY_place_41 (lv_at hl 0 rfl) ?_
        refine hr_iald hx hb hK hP 3 0 rfl rfl (i := ((sel gT ((grd gT gF sf gc k gS i).1) gc).getD 0)) (by omega) (by omega) dGY_place_43 ?_
        refine vp_callSi (va_runV (C := RSP) (As := [.int (nI (gF ((sel gT ((grd gT gF sf gc k gS i).1) gc).getD 0)))]) (rest := [.ref hY]) ⟨hx, hb, hml, hown, hts⟩ (c_SP_shardAt l dC dI cI cZ cG h a b d sc mv sm zs sf (nI (gF ((sel gT (grd gT gF sf gc k gS i).1 gc).getD 0)))) (hr_cwV 1 hts kw_368 kw_334 kw_335 kw_29 kw_336 (by decide +kernel) (by rw [← hRe]; exact ⟨Nat.le_of_ble_eq_true rfl, Nat.le_of_ble_eq_true rfl⟩)) (hr_preR hKX hP [7, 8, 9, 10] rfl (ci := 5) (q0 := 7) (q := (RSP, TSP, 5)) rfl rfl) rfl rfl hl.1 rfl (lv_room (Nat.le_of_ble_eq_true rfl)) dGY_place_44 ⟨by omega, by omega⟩).run (fun rv hrv => ?_)
        refine hr_eqi hrv ?_
        refine hr_eqi (show oI (shA sf (nI (gF ((sel gT (grd gT gF sf gc k gS i).1 gc).getD 0)))) = oI (sf (gF ((sel gT (grd gT gF sf gc k gS i).1 gc).getD 0))) by rw [shA_nI hFl]) ?_
        refine vp_callSi (va_runV (C := RGY) (As := [.int (oI (sf (gF ((sel gT (grd gT gF sf gc k gS i).1 gc).getD 0))))]) (rest := []) ⟨hx, hb, hml, hown, hts⟩ (c_GY_least l dC dI cI cZ cG hY aY k ((grd gT gF sf gc k gS i).2) (sf (gF ((sel gT (grd gT gF sf gc k gS i).1 gc).getD 0))) (hk) (hsl) (fun q hq => by have := hsf _ hFl q hq; omega)) (hr_cwV 1 hts kw_369 kw_371 kw_6 kw_28 kw_372 (by decide +kernel) (by rw [← hRe]; exact ⟨Nat.le_of_ble_eq_true rfl, Nat.le_of_ble_eq_true rfl⟩)) (hr_preR hKX hP [0, 1] rfl (ci := 4) (q0 := 0) (q := (RGY, TGY, 2)) rfl rfl) rfl rfl hl.1 rfl (lv_room (Nat.le_of_ble_eq_true rfl)) dGY_place_47 ⟨by omega, by omega⟩).run (fun rv hrv => ?_)
        refine hr_eqi hrv ?_
        refine lv_istore (lv' := [(6, .int (nI (lsh ((grd gT gF sf gc k gS i).2) k (sf (gF ((sel gT (grd gT gF sf gc k gS i).1 gc).getD 0)))))), (5, .int (nI ((sel gT ((grd gT gF sf gc k gS i).1) gc).getD 0))), (4, .int (nI i)), (0, .ref hY), (1, .ref hG), (2, .ref h), (3, .int (nI k))]) hx hb dGY_place_50 hl (by decide) rfl (fun ls hl => ?_)
        refine lv_aload_n hx hb dGY_place_52 rfl (lv_at hl 4 rfl) ?_
        refine va_get (D := (dC, dI)) (ci := 1) (v := .ref dG) (C := RGR) (T := TGR) (N := 6) hx hb hts (fun w h => List.mem_cons_of_mem _ (inGR w h)) hown hK hP 2 rfl rfl 4 (by decide) (hts _ (List.mem_cons_of_mem _ kw_91)) (fun _ h9 => h9) rfl dGY_place_53 ?_
        refine lv_iload hx hb dGY_place_56 (lv_at hl 1 rfl) ?_
        refine lv_iload hx hb dGY_place_58 (lv_at hl 0 rfl) ?_
        refine hr_iastO (x := (some (lsh ((grd gT gF sf gc k gS i).2) k (sf (gF ((sel gT (grd gT gF sf gc k gS i).1 gc).getD 0)))))) hx hb hK hP hD hS 5 0 rfl rfl (i := ((sel gT ((grd gT gF sf gc k gS i).1) gc).getD 0)) (by omega) (by omega) dGY_place_60 (fun H locs hP hD hS => ?_)
        have hP : va_P (dC, dI) vwCl [(hY, .inr (4, [.int (nI k), .ref aY])), (aY, .inl (cI, 4, .inl (fun j9 => nI (((grd gT gF sf gc k gS i).2) j9)))), (hG, .inr (1, [.int (nI gc), .int (nI gn), .ref aG, .ref bG, .ref dG, .ref gG])), (aG, .inl (cI, 24, .inl (fun j9 => nI (gF j9)))), (bG, .inl (cI, 24, .inl (fun j9 => nI (gT j9)))), (dG, .inl (cI, 24, .inl (fun j9 => oI ((va_up ((grd gT gF sf gc k gS i).1) ((sel gT ((grd gT gF sf gc k gS i).1) gc).getD 0) (some (lsh ((grd gT gF sf gc k gS i).2) k (sf (gF ((sel gT (grd gT gF sf gc k gS i).1 gc).getD 0)))))) j9)))), (gG, .inl (cI, 24, .inl (fun j9 => nI (gO j9)))), (h, .inr (5, [.int (nI sc), .int (nI mv), .ref a, .ref b, .ref d])), (a, .inl (cI, 4, .inl (fun j9 => nI (sm j9)))), (b, .inl (cI, 4, .inl (fun j9 => nI (zs j9)))), (d, .inl (cI, 24, .inl (fun j9 => oI (sf j9))))] H := hP
        have hD : va_D A [(hY, .inr (4, [.int (nI k), .ref aY])), (aY, .inl (cI, 4, .inl (fun j9 => nI (((grd gT gF sf gc k gS i).2) j9)))), (hG, .inr (1, [.int (nI gc), .int (nI gn), .ref aG, .ref bG, .ref dG, .ref gG])), (aG, .inl (cI, 24, .inl (fun j9 => nI (gF j9)))), (bG, .inl (cI, 24, .inl (fun j9 => nI (gT j9)))), (dG, .inl (cI, 24, .inl (fun j9 => oI ((va_up ((grd gT gF sf gc k gS i).1) ((sel gT ((grd gT gF sf gc k gS i).1) gc).getD 0) (some (lsh ((grd gT gF sf gc k gS i).2) k (sf (gF ((sel gT (grd gT gF sf gc k gS i).1 gc).getD 0)))))) j9)))), (gG, .inl (cI, 24, .inl (fun j9 => nI (gO j9)))), (h, .inr (5, [.int (nI sc), .int (nI mv), .ref a, .ref b, .ref d])), (a, .inl (cI, 4, .inl (fun j9 => nI (sm j9)))), (b, .inl (cI, 4, .inl (fun j9 => nI (zs j9)))), (d, .inl (cI, 24, .inl (fun j9 => oI (sf j9))))] := hD
        refine lv_aload_n hx hb dGY_place_61 rfl (lv_at hl 3 rfl) ?_
        refine va_get (D := (dC, dI)) (ci := 4) (v := .ref aY) (C := RGY) (T := TGY) (N := 2) hx hb hts (fun w h => List.mem_cons_of_mem _ (inGY w h)) hown hK hP 0 rfl rfl 1 (by decide) (hts _ (List.mem_cons_of_mem _ kw_154)) (fun _ h9 => h9) rfl dGY_place_62 ?_
        refine lv_iload hx hb dGY_place_65 (lv_at hl 0 rfl) ?_
        refine lv_dup2_11 hx hb dGY_place_67 rfl rfl ?_
        refine hr_iald hx hb hK hP 1 0 rfl rfl (i := (lsh ((grd gT gF sf gc k gS i).2) k (sf (gF ((sel gT (grd gT gF sf gc k gS i).1 gc).getD 0))))) (by omega) (by omega) dGY_place_68 ?_
        refine lv_aload_n hx hb dGY_place_69 rfl (lv_at hl 4 rfl) ?_
        refine va_get (D := (dC, dI)) (ci := 1) (v := .ref bG) (C := RGR) (T := TGR) (N := 6) hx hb hts (fun w h => List.mem_cons_of_mem _ (inGR w h)) hown hK hP 2 rfl rfl 3 (by decide) (hts _ (List.mem_cons_of_mem _ kw_88)) (fun _ h9 => h9) rfl dGY_place_70 ?_
        refine lv_iload hx hb dGY_place_73 (lv_at hl 1 rfl) ?_
        refine hr_iald hx hb hK hP 4 0 rfl rfl (i := ((sel gT ((grd gT gF sf gc k gS i).1) gc).getD 0)) (by omega) (by omega) dGY_place_75 ?_
        refine lv_iadd hx hb dGY_place_76 ?_
        refine hr_eqi (nI_add _ _) ?_
        refine hr_iastN hx hb hK hP hD hS 1 0 rfl rfl (i := (lsh ((grd gT gF sf gc k gS i).2) k (sf (gF ((sel gT (grd gT gF sf gc k gS i).1 gc).getD 0))))) (by omega) (by omega) dGY_place_77 (fun H locs hP hD hS => ?_)
        have hP : va_P (dC, dI) vwCl [(hY, .inr (4, [.int (nI k), .ref aY])), (aY, .inl (cI, 4, .inl (fun j9 => nI ((va_up ((grd gT gF sf gc k gS i).2) (lsh ((grd gT gF sf gc k gS i).2) k (sf (gF ((sel gT (grd gT gF sf gc k gS i).1 gc).getD 0)))) ((((grd gT gF sf gc k gS i).2) (lsh ((grd gT gF sf gc k gS i).2) k (sf (gF ((sel gT (grd gT gF sf gc k gS i).1 gc).getD 0))))) + (gT ((sel gT ((grd gT gF sf gc k gS i).1) gc).getD 0)))) j9)))), (hG, .inr (1, [.int (nI gc), .int (nI gn), .ref aG, .ref bG, .ref dG, .ref gG])), (aG, .inl (cI, 24, .inl (fun j9 => nI (gF j9)))), (bG, .inl (cI, 24, .inl (fun j9 => nI (gT j9)))), (dG, .inl (cI, 24, .inl (fun j9 => oI ((va_up ((grd gT gF sf gc k gS i).1) ((sel gT ((grd gT gF sf gc k gS i).1) gc).getD 0) (some (lsh ((grd gT gF sf gc k gS i).2) k (sf (gF ((sel gT (grd gT gF sf gc k gS i).1 gc).getD 0)))))) j9)))), (gG, .inl (cI, 24, .inl (fun j9 => nI (gO j9)))), (h, .inr (5, [.int (nI sc), .int (nI mv), .ref a, .ref b, .ref d])), (a, .inl (cI, 4, .inl (fun j9 => nI (sm j9)))), (b, .inl (cI, 4, .inl (fun j9 => nI (zs j9)))), (d, .inl (cI, 24, .inl (fun j9 => oI (sf j9))))] H := hP
        have hD : va_D A [(hY, .inr (4, [.int (nI k), .ref aY])), (aY, .inl (cI, 4, .inl (fun j9 => nI ((va_up ((grd gT gF sf gc k gS i).2) (lsh ((grd gT gF sf gc k gS i).2) k (sf (gF ((sel gT (grd gT gF sf gc k gS i).1 gc).getD 0)))) ((((grd gT gF sf gc k gS i).2) (lsh ((grd gT gF sf gc k gS i).2) k (sf (gF ((sel gT (grd gT gF sf gc k gS i).1 gc).getD 0))))) + (gT ((sel gT ((grd gT gF sf gc k gS i).1) gc).getD 0)))) j9)))), (hG, .inr (1, [.int (nI gc), .int (nI gn), .ref aG, .ref bG, .ref dG, .ref gG])), (aG, .inl (cI, 24, .inl (fun j9 => nI (gF j9)))), (bG, .inl (cI, 24, .inl (fun j9 => nI (gT j9)))), (dG, .inl (cI, 24, .inl (fun j9 => oI ((va_up ((grd gT gF sf gc k gS i).1) ((sel gT ((grd gT gF sf gc k gS i).1) gc).getD 0) (some (lsh ((grd gT gF sf gc k gS i).2) k (sf (gF ((sel gT (grd gT gF sf gc k gS i).1 gc).getD 0)))))) j9)))), (gG, .inl (cI, 24, .inl (fun j9 => nI (gO j9)))), (h, .inr (5, [.int (nI sc), .int (nI mv), .ref a, .ref b, .ref d])), (a, .inl (cI, 4, .inl (fun j9 => nI (sm j9)))), (b, .inl (cI, 4, .inl (fun j9 => nI (zs j9)))), (d, .inl (cI, 24, .inl (fun j9 => oI (sf j9))))] := hD
        refine lv_iinc (v := nI (i + 1)) (lv' := [(4, .int (nI (i + 1))), (6, .int (nI (lsh ((grd gT gF sf gc k gS i).2) k (sf (gF ((sel gT (grd gT gF sf gc k gS i).1 gc).getD 0)))))), (5, .int (nI ((sel gT ((grd gT gF sf gc k gS i).1) gc).getD 0))), (0, .ref hY), (1, .ref hG), (2, .ref h), (3, .int (nI k))]) hx hb dGY_place_78 hl (k := 2) rfl (hr_inc _) (by decide) rfl (fun ls hl => ?_)
        refine lv_goto (tgt := 20) hx hb dGY_place_81 (by decide) ?_
        exact ih_20 (i + 1) (by omega) (by omega) _ _ hP hD hS ls (lv_sub hl [0, 3, 4, 5, 6] rfl)
  exact loop_20 (gc + 1) 0 (by omega) (by omega) _ _ hP hD hS ls (lv_sub hl [0, 1, 2, 3, 4] rfl)

set_option maxHeartbeats 4000000 in
set_option maxRecDepth 100000 in
/-- the SPLIT is taken -/
theorem c_SP_take (l : Launch) (dC : Nat → ClassId) (dI : Nat → Nat → Nat) (cI cZ cG : ClassId) (h : Nat) (a : Nat) (b : Nat) (d : Nat) (sc : Nat) (mv : Nat) (sm : Nat → Nat) (zs : Nat → Nat) (sf : Nat → Option Nat) (hG : Nat) (aG : Nat) (bG : Nat) (dG : Nat) (gG : Nat) (gc : Nat) (gn : Nat) (gF : Nat → Nat) (gT : Nat → Nat) (gS : Nat → Option Nat) (gO : Nat → Nat) (sh : Nat → Nat) (k : Nat) (sz : Nat) (hk : 1 ≤ k ∧ k ≤ 4) (hgc : gc ≤ 24) (hgn : gn ≤ 24) (hgS : ∀ g, g < gc → gS g = some (sh g) ∧ sh g < k) (hgO : ∀ j, j < gn → gO j < gc) (hsf : ∀ j, j < 24 → ∀ q, sf j = some q → q < 4) : Met l ySP_take wsSP_take ({ frames := 2, cells := 0, slots := 0, locals := 43 }) (va_Pc [.ref h, .ref hG, .int (nI k)] (fun U => U.heap.size = sz ∧ va_P (dC, dI) vwCl [(h, .inr (5, [.int (nI sc), .int (nI mv), .ref a, .ref b, .ref d])), (a, .inl (cI, 4, .inl (fun j9 => nI (sm j9)))), (b, .inl (cI, 4, .inl (fun j9 => nI (zs j9)))), (d, .inl (cI, 24, .inl (fun j9 => oI (sf j9)))), (hG, .inr (1, [.int (nI gc), .int (nI gn), .ref aG, .ref bG, .ref dG, .ref gG])), (aG, .inl (cI, 24, .inl (fun j9 => nI (gF j9)))), (bG, .inl (cI, 24, .inl (fun j9 => nI (gT j9)))), (dG, .inl (cI, 24, .inl (fun j9 => oI (gS j9)))), (gG, .inl (cI, 24, .inl (fun j9 => nI (gO j9))))] U.heap ∧ KX dC dI cI cZ cG U ∧ va_D (fun _ => True) [(h, .inr (5, [.int (nI sc), .int (nI mv), .ref a, .ref b, .ref d])), (a, .inl (cI, 4, .inl (fun j9 => nI (sm j9)))), (b, .inl (cI, 4, .inl (fun j9 => nI (zs j9)))), (d, .inl (cI, 24, .inl (fun j9 => oI (sf j9)))), (hG, .inr (1, [.int (nI gc), .int (nI gn), .ref aG, .ref bG, .ref dG, .ref gG])), (aG, .inl (cI, 24, .inl (fun j9 => nI (gF j9)))), (bG, .inl (cI, 24, .inl (fun j9 => nI (gT j9)))), (dG, .inl (cI, 24, .inl (fun j9 => oI (gS j9)))), (gG, .inl (cI, 24, .inl (fun j9 => nI (gO j9))))])) (va_Qv (fun (u : Unit) => True) (fun u t => va_P (dC, dI) vwCl [(h, .inr (5, [.int (nI k), .int (nI (mvA sf sh gO gn)), .ref a, .ref b, .ref d])), (a, .inl (cI, 4, .inl (fun j9 => nI ((smA gT sh gc) j9)))), (b, .inl (cI, 4, .inl (fun j9 => nI ((zsA sh gO gn) j9)))), (d, .inl (cI, 24, .inl (fun j9 => oI ((sfA sf sh gO gn) j9)))), (hG, .inr (1, [.int (nI gc), .int (nI gn), .ref aG, .ref bG, .ref dG, .ref gG])), (aG, .inl (cI, 24, .inl (fun j9 => nI (gF j9)))), (bG, .inl (cI, 24, .inl (fun j9 => nI (gT j9)))), (dG, .inl (cI, 24, .inl (fun j9 => oI (gS j9)))), (gG, .inl (cI, 24, .inl (fun j9 => nI (gO j9))))] t.heap ∧ va_D (va_A [(h, .inr (5, [.int (nI sc), .int (nI mv), .ref a, .ref b, .ref d])), (a, .inl (cI, 4, .inl (fun j9 => nI (sm j9)))), (b, .inl (cI, 4, .inl (fun j9 => nI (zs j9)))), (d, .inl (cI, 24, .inl (fun j9 => oI (sf j9)))), (hG, .inr (1, [.int (nI gc), .int (nI gn), .ref aG, .ref bG, .ref dG, .ref gG])), (aG, .inl (cI, 24, .inl (fun j9 => nI (gF j9)))), (bG, .inl (cI, 24, .inl (fun j9 => nI (gT j9)))), (dG, .inl (cI, 24, .inl (fun j9 => oI (gS j9)))), (gG, .inl (cI, 24, .inl (fun j9 => nI (gO j9))))] sz) [(h, .inr (5, [.int (nI k), .int (nI (mvA sf sh gO gn)), .ref a, .ref b, .ref d])), (a, .inl (cI, 4, .inl (fun j9 => nI ((smA gT sh gc) j9)))), (b, .inl (cI, 4, .inl (fun j9 => nI ((zsA sh gO gn) j9)))), (d, .inl (cI, 24, .inl (fun j9 => oI ((sfA sf sh gO gn) j9)))), (hG, .inr (1, [.int (nI gc), .int (nI gn), .ref aG, .ref bG, .ref dG, .ref gG])), (aG, .inl (cI, 24, .inl (fun j9 => nI (gF j9)))), (bG, .inl (cI, 24, .inl (fun j9 => nI (gT j9)))), (dG, .inl (cI, 24, .inl (fun j9 => oI (gS j9)))), (gG, .inl (cI, 24, .inl (fun j9 => nI (gO j9))))]) (va_A [(h, .inr (5, [.int (nI sc), .int (nI mv), .ref a, .ref b, .ref d])), (a, .inl (cI, 4, .inl (fun j9 => nI (sm j9)))), (b, .inl (cI, 4, .inl (fun j9 => nI (zs j9)))), (d, .inl (cI, 24, .inl (fun j9 => oI (sf j9)))), (hG, .inr (1, [.int (nI gc), .int (nI gn), .ref aG, .ref bG, .ref dG, .ref gG])), (aG, .inl (cI, 24, .inl (fun j9 => nI (gF j9)))), (bG, .inl (cI, 24, .inl (fun j9 => nI (gT j9)))), (dG, .inl (cI, 24, .inl (fun j9 => oI (gS j9)))), (gG, .inl (cI, 24, .inl (fun j9 => nI (gO j9))))] sz)) 0 0 (va_A [(h, .inr (5, [.int (nI sc), .int (nI mv), .ref a, .ref b, .ref d])), (a, .inl (cI, 4, .inl (fun j9 => nI (sm j9)))), (b, .inl (cI, 4, .inl (fun j9 => nI (zs j9)))), (d, .inl (cI, 24, .inl (fun j9 => oI (sf j9)))), (hG, .inr (1, [.int (nI gc), .int (nI gn), .ref aG, .ref bG, .ref dG, .ref gG])), (aG, .inl (cI, 24, .inl (fun j9 => nI (gF j9)))), (bG, .inl (cI, 24, .inl (fun j9 => nI (gT j9)))), (dG, .inl (cI, 24, .inl (fun j9 => oI (gS j9)))), (gG, .inl (cI, 24, .inl (fun j9 => nI (gO j9))))] sz) := by
  refine Met.ofW (cc := cSP_take) (maxL := 4) (ret := none) (by decide) rfl ?_
  intro p e s m args below meth c s₁ B hml hv
  obtain ⟨rfl, hsz, hP, hKX, hD0⟩ := hv
  have hK := hKX.1
  have hx := B.exec
  have hb := B.bytes
  have hr := B.returns
  have hts := atoms_spec (ws := wsSP_take) B.pre
  have hown : s.vm.findClass RSP = some m.cls := findClass_of_methodNamed B.named
  have hlocks := B.notSynchronized
  subst hsz
  have hD := hD0.self (sz := s.heap.size)
  generalize hAe : va_A [(h, .inr (5, [.int (nI sc), .int (nI mv), .ref a, .ref b, .ref d])), (a, .inl (cI, 4, .inl (fun j9 => nI (sm j9)))), (b, .inl (cI, 4, .inl (fun j9 => nI (zs j9)))), (d, .inl (cI, 24, .inl (fun j9 => oI (sf j9)))), (hG, .inr (1, [.int (nI gc), .int (nI gn), .ref aG, .ref bG, .ref dG, .ref gG])), (aG, .inl (cI, 24, .inl (fun j9 => nI (gF j9)))), (bG, .inl (cI, 24, .inl (fun j9 => nI (gT j9)))), (dG, .inl (cI, 24, .inl (fun j9 => oI (gS j9)))), (gG, .inl (cI, 24, .inl (fun j9 => nI (gO j9))))] s.heap.size = A at hD ⊢
  have hA : ∀ q : Nat, s.heap.size ≤ q → A q := fun q h => by rw [← hAe]; exact Or.inr h
  have hS : va_S A s.heap s.heap [] := va_S.rf
  have hl := lv_entry ([.ref h, .ref hG, .int (nI k)]) (n := 4) (Nat.le_of_ble_eq_true rfl)
  rw [lg_entry_eq]
  generalize (lg_sl ([.ref h, .ref hG, .int (nI k)]) ++ List.replicate (4 - (lg_sl ([.ref h, .ref hG, .int (nI k)])).length) Slot.unset).toArray = ls at hl ⊢
  have hl : lv_has ls 4 [(0, .ref h), (1, .ref hG), (2, .int (nI k))] := hl
  generalize hRe : (headSpec wsSP_take ({ frames := 2, cells := 0, slots := 0, locals := 43 })).room = R
  have hRf : 2 ≤ R.frames := by rw [← hRe]; exact Nat.le_refl _
  have hRl : 43 ≤ R.locals := by rw [← hRe]; exact Nat.le_refl _
  have hRc : 0 ≤ R.cells := by rw [← hRe]; exact Nat.le_refl _
  have hRs : 0 ≤ R.slots := by rw [← hRe]; exact Nat.le_refl _
  generalize hargs : (List.toArray [.ref h, .ref hG, .int (nI k)] : Array Value) = args at hts ⊢
  generalize hQe : MQ below _ args s _ _ _ = Q
  refine lv_aload_n hx hb dSP_take_0 rfl (lv_at hl 0 rfl) ?_
  refine lv_iload_n hx hb dSP_take_1 rfl (lv_at hl 2 rfl) ?_
  refine lv_iconst (v := nI 4) hx hb dSP_take_2 (by decide +kernel) ?_
  refine va_mmin (rest := [.ref h]) hx hb (by rw [hml]; exact hl.1.symm) hown (hts (.methodLink RSP 41 Lib.Math.min.name) (by decide +kernel)) (hts (.static Lib.Math.min.name) (by decide +kernel)) (hts (.initialized "java/lang/Math") (by decide +kernel)) (hts (.code Lib.Math.min.name Lib.Math.min.code 2 (some .int)) (by decide +kernel)) (Nat.le_trans (Nat.le_of_ble_eq_true rfl) hRf) (Nat.le_trans (Nat.le_of_ble_eq_true rfl) hRl) (Nat.zero_le _) (Nat.zero_le _) dSP_take_3 ?_
  refine hr_eqi (hr_min (by omega) (by omega)) ?_
  rw [show min k 4 = k by omega]
  refine va_put (D := (dC, dI)) (ci := 5) (v := .int (nI k)) (ty := .int) (C := RSP) (T := TSP) (N := 5) hx hb hts (fun w h => List.mem_cons_of_mem _ (inSP w h)) tySP tySP_ok nmSP hown hK hP hD hS 0 rfl rfl 0 (by decide) (hts _ (List.mem_cons_of_mem _ kw_169)) (fun _ h9 => h9) rfl (by decide +kernel) rfl rfl (Nat.le_of_ble_eq_true rfl) dSP_take_6 (fun H locs hP hD hS => ?_)
  have hP : va_P (dC, dI) vwCl [(h, .inr (5, [.int (nI k), .int (nI mv), .ref a, .ref b, .ref d])), (a, .inl (cI, 4, .inl (fun j9 => nI (sm j9)))), (b, .inl (cI, 4, .inl (fun j9 => nI (zs j9)))), (d, .inl (cI, 24, .inl (fun j9 => oI (sf j9)))), (hG, .inr (1, [.int (nI gc), .int (nI gn), .ref aG, .ref bG, .ref dG, .ref gG])), (aG, .inl (cI, 24, .inl (fun j9 => nI (gF j9)))), (bG, .inl (cI, 24, .inl (fun j9 => nI (gT j9)))), (dG, .inl (cI, 24, .inl (fun j9 => oI (gS j9)))), (gG, .inl (cI, 24, .inl (fun j9 => nI (gO j9))))] H := hP
  have hD : va_D A [(h, .inr (5, [.int (nI k), .int (nI mv), .ref a, .ref b, .ref d])), (a, .inl (cI, 4, .inl (fun j9 => nI (sm j9)))), (b, .inl (cI, 4, .inl (fun j9 => nI (zs j9)))), (d, .inl (cI, 24, .inl (fun j9 => oI (sf j9)))), (hG, .inr (1, [.int (nI gc), .int (nI gn), .ref aG, .ref bG, .ref dG, .ref gG])), (aG, .inl (cI, 24, .inl (fun j9 => nI (gF j9)))), (bG, .inl (cI, 24, .inl (fun j9 => nI (gT j9)))), (dG, .inl (cI, 24, .inl (fun j9 => oI (gS j9)))), (gG, .inl (cI, 24, .inl (fun j9 => nI (gO j9))))] := hD
  refine lv_aload_n hx hb dSP_take_9 rfl (lv_at hl 0 rfl) ?_
  refine lv_iconst (v := nI 0) hx hb dSP_take_10 (by decide +kernel) ?_
  refine va_put (D := (dC, dI)) (ci := 5) (v := .int (nI 0)) (ty := .int) (C := RSP) (T := TSP) (N := 5) hx hb hts (fun w h => List.mem_cons_of_mem _ (inSP w h)) tySP tySP_ok nmSP hown hK hP hD hS 0 rfl rfl 1 (by decide) (hts _ (List.mem_cons_of_mem _ kw_171)) (fun _ h9 => h9) rfl (by decide +kernel) rfl rfl (Nat.le_of_ble_eq_true rfl) dSP_take_11 (fun H locs hP hD hS => ?_)
  have hP : va_P (dC, dI) vwCl [(h, .inr (5, [.int (nI k), .int (nI 0), .ref a, .ref b, .ref d])), (a, .inl (cI, 4, .inl (fun j9 => nI (sm j9)))), (b, .inl (cI, 4, .inl (fun j9 => nI (zs j9)))), (d, .inl (cI, 24, .inl (fun j9 => oI (sf j9)))), (hG, .inr (1, [.int (nI gc), .int (nI gn), .ref aG, .ref bG, .ref dG, .ref gG])), (aG, .inl (cI, 24, .inl (fun j9 => nI (gF j9)))), (bG, .inl (cI, 24, .inl (fun j9 => nI (gT j9)))), (dG, .inl (cI, 24, .inl (fun j9 => oI (gS j9)))), (gG, .inl (cI, 24, .inl (fun j9 => nI (gO j9))))] H := hP
  have hD : va_D A [(h, .inr (5, [.int (nI k), .int (nI 0), .ref a, .ref b, .ref d])), (a, .inl (cI, 4, .inl (fun j9 => nI (sm j9)))), (b, .inl (cI, 4, .inl (fun j9 => nI (zs j9)))), (d, .inl (cI, 24, .inl (fun j9 => oI (sf j9)))), (hG, .inr (1, [.int (nI gc), .int (nI gn), .ref aG, .ref bG, .ref dG, .ref gG])), (aG, .inl (cI, 24, .inl (fun j9 => nI (gF j9)))), (bG, .inl (cI, 24, .inl (fun j9 => nI (gT j9)))), (dG, .inl (cI, 24, .inl (fun j9 => oI (gS j9)))), (gG, .inl (cI, 24, .inl (fun j9 => nI (gO j9))))] := hD
  refine lv_aload_n hx hb dSP_take_14 rfl (lv_at hl 0 rfl) ?_
  refine va_get (D := (dC, dI)) (ci := 5) (v := .ref a) (C := RSP) (T := TSP) (N := 5) hx hb hts (fun w h => List.mem_cons_of_mem _ (inSP w h)) hown hK hP 0 rfl rfl 2 (by decide) (hts _ (List.mem_cons_of_mem _ kw_173)) (fun _ h9 => h9) rfl dSP_take_15 ?_
  refine lv_iconst (v := nI 0) hx hb dSP_take_18 (by decide +kernel) ?_
  refine hr_callv (wr := [(h, .inr (5, [.int (nI k), .int (nI 0), .ref a, .ref b, .ref d])), (b, .inl (cI, 4, .inl (fun j9 => nI (zs j9)))), (d, .inl (cI, 24, .inl (fun j9 => oI (sf j9)))), (hG, .inr (1, [.int (nI gc), .int (nI gn), .ref aG, .ref bG, .ref dG, .ref gG])), (aG, .inl (cI, 24, .inl (fun j9 => nI (gF j9)))), (bG, .inl (cI, 24, .inl (fun j9 => nI (gT j9)))), (dG, .inl (cI, 24, .inl (fun j9 => oI (gS j9)))), (gG, .inl (cI, 24, .inl (fun j9 => nI (gO j9))))]) (va_runS (As := [.ref a, .int (nI 0)]) (rest := []) ⟨hx, hb, hml, hown, hts⟩ (c_AR_fill l dC dI cI cZ cG a 4 (fun j9 => nI (sm j9)) (nI 0) H.size (by decide)) (hr_cwS 2 hts kw_166 kw_167 kw_30 kw_168 (by decide +kernel) (by rw [← hRe]; exact ⟨Nat.le_of_ble_eq_true rfl, Nat.le_of_ble_eq_true rfl⟩)) (hr_preWS hKX hP hD [1] (by decide) rfl) rfl rfl hl.1 rfl (lv_room (Nat.le_of_ble_eq_true rfl)) dSP_take_19 ⟨by omega, by omega⟩) hP hD hS hA [1] [0, 2, 3, 4, 5, 6, 7, 8] rfl rfl (by decide) (by decide) [0, 8, 1, 2, 3, 4, 5, 6, 7] (fun u => [(h, .inr (5, [.int (nI k), .int (nI 0), .ref a, .ref b, .ref d])), (a, .inl (cI, 4, .inl (fun j9 => nI ((fun _ => 0) j9)))), (b, .inl (cI, 4, .inl (fun j9 => nI (zs j9)))), (d, .inl (cI, 24, .inl (fun j9 => oI (sf j9)))), (hG, .inr (1, [.int (nI gc), .int (nI gn), .ref aG, .ref bG, .ref dG, .ref gG])), (aG, .inl (cI, 24, .inl (fun j9 => nI (gF j9)))), (bG, .inl (cI, 24, .inl (fun j9 => nI (gT j9)))), (dG, .inl (cI, 24, .inl (fun j9 => oI (gS j9)))), (gG, .inl (cI, 24, .inl (fun j9 => nI (gO j9))))]) (by decide) (fun u => rfl) (fun u H locs hrv hP hD hS => ?_)
  have hP : va_P (dC, dI) vwCl [(h, .inr (5, [.int (nI k), .int (nI 0), .ref a, .ref b, .ref d])), (a, .inl (cI, 4, .inl (fun j9 => nI ((fun _ => 0) j9)))), (b, .inl (cI, 4, .inl (fun j9 => nI (zs j9)))), (d, .inl (cI, 24, .inl (fun j9 => oI (sf j9)))), (hG, .inr (1, [.int (nI gc), .int (nI gn), .ref aG, .ref bG, .ref dG, .ref gG])), (aG, .inl (cI, 24, .inl (fun j9 => nI (gF j9)))), (bG, .inl (cI, 24, .inl (fun j9 => nI (gT j9)))), (dG, .inl (cI, 24, .inl (fun j9 => oI (gS j9)))), (gG, .inl (cI, 24, .inl (fun j9 => nI (gO j9))))] H := hP
  have hD : va_D A [(h, .inr (5, [.int (nI k), .int (nI 0), .ref a, .ref b, .ref d])), (a, .inl (cI, 4, .inl (fun j9 => nI ((fun _ => 0) j9)))), (b, .inl (cI, 4, .inl (fun j9 => nI (zs j9)))), (d, .inl (cI, 24, .inl (fun j9 => oI (sf j9)))), (hG, .inr (1, [.int (nI gc), .int (nI gn), .ref aG, .ref bG, .ref dG, .ref gG])), (aG, .inl (cI, 24, .inl (fun j9 => nI (gF j9)))), (bG, .inl (cI, 24, .inl (fun j9 => nI (gT j9)))), (dG, .inl (cI, 24, .inl (fun j9 => oI (gS j9)))), (gG, .inl (cI, 24, .inl (fun j9 => nI (gO j9))))] := hD
  refine lv_aload_n hx hb dSP_take_22 rfl (lv_at hl 0 rfl) ?_
  refine va_get (D := (dC, dI)) (ci := 5) (v := .ref b) (C := RSP) (T := TSP) (N := 5) hx hb hts (fun w h => List.mem_cons_of_mem _ (inSP w h)) hown hK hP 0 rfl rfl 3 (by decide) (hts _ (List.mem_cons_of_mem _ kw_175)) (fun _ h9 => h9) rfl dSP_take_23 ?_
  refine lv_iconst (v := nI 0) hx hb dSP_take_26 (by decide +kernel) ?_
  refine hr_callv (wr := [(h, .inr (5, [.int (nI k), .int (nI 0), .ref a, .ref b, .ref d])), (a, .inl (cI, 4, .inl (fun j9 => nI ((fun _ => 0) j9)))), (d, .inl (cI, 24, .inl (fun j9 => oI (sf j9)))), (hG, .inr (1, [.int (nI gc), .int (nI gn), .ref aG, .ref bG, .ref dG, .ref gG])), (aG, .inl (cI, 24, .inl (fun j9 => nI (gF j9)))), (bG, .inl (cI, 24, .inl (fun j9 => nI (gT j9)))), (dG, .inl (cI, 24, .inl (fun j9 => oI (gS j9)))), (gG, .inl (cI, 24, .inl (fun j9 => nI (gO j9))))]) (va_runS (As := [.ref b, .int (nI 0)]) (rest := []) ⟨hx, hb, hml, hown, hts⟩ (c_AR_fill l dC dI cI cZ cG b 4 (fun j9 => nI (zs j9)) (nI 0) H.size (by decide)) (hr_cwS 2 hts kw_166 kw_167 kw_30 kw_168 (by decide +kernel) (by rw [← hRe]; exact ⟨Nat.le_of_ble_eq_true rfl, Nat.le_of_ble_eq_true rfl⟩)) (hr_preWS hKX hP hD [2] (by decide) rfl) rfl rfl hl.1 rfl (lv_room (Nat.le_of_ble_eq_true rfl)) dSP_take_27 ⟨by omega, by omega⟩) hP hD hS hA [2] [0, 1, 3, 4, 5, 6, 7, 8] rfl rfl (by decide) (by decide) [0, 1, 8, 2, 3, 4, 5, 6, 7] (fun u => [(h, .inr (5, [.int (nI k), .int (nI 0), .ref a, .ref b, .ref d])), (a, .inl (cI, 4, .inl (fun j9 => nI ((fun _ => 0) j9)))), (b, .inl (cI, 4, .inl (fun j9 => nI ((fun _ => 0) j9)))), (d, .inl (cI, 24, .inl (fun j9 => oI (sf j9)))), (hG, .inr (1, [.int (nI gc), .int (nI gn), .ref aG, .ref bG, .ref dG, .ref gG])), (aG, .inl (cI, 24, .inl (fun j9 => nI (gF j9)))), (bG, .inl (cI, 24, .inl (fun j9 => nI (gT j9)))), (dG, .inl (cI, 24, .inl (fun j9 => oI (gS j9)))), (gG, .inl (cI, 24, .inl (fun j9 => nI (gO j9))))]) (by decide) (fun u => rfl) (fun u H locs hrv hP hD hS => ?_)
  have hP : va_P (dC, dI) vwCl [(h, .inr (5, [.int (nI k), .int (nI 0), .ref a, .ref b, .ref d])), (a, .inl (cI, 4, .inl (fun j9 => nI ((fun _ => 0) j9)))), (b, .inl (cI, 4, .inl (fun j9 => nI ((fun _ => 0) j9)))), (d, .inl (cI, 24, .inl (fun j9 => oI (sf j9)))), (hG, .inr (1, [.int (nI gc), .int (nI gn), .ref aG, .ref bG, .ref dG, .ref gG])), (aG, .inl (cI, 24, .inl (fun j9 => nI (gF j9)))), (bG, .inl (cI, 24, .inl (fun j9 => nI (gT j9)))), (dG, .inl (cI, 24, .inl (fun j9 => oI (gS j9)))), (gG, .inl (cI, 24, .inl (fun j9 => nI (gO j9))))] H := hP
  have hD : va_D A [(h, .inr (5, [.int (nI k), .int (nI 0), .ref a, .ref b, .ref d])), (a, .inl (cI, 4, .inl (fun j9 => nI ((fun _ => 0) j9)))), (b, .inl (cI, 4, .inl (fun j9 => nI ((fun _ => 0) j9)))), (d, .inl (cI, 24, .inl (fun j9 => oI (sf j9)))), (hG, .inr (1, [.int (nI gc), .int (nI gn), .ref aG, .ref bG, .ref dG, .ref gG])), (aG, .inl (cI, 24, .inl (fun j9 => nI (gF j9)))), (bG, .inl (cI, 24, .inl (fun j9 => nI (gT j9)))), (dG, .inl (cI, 24, .inl (fun j9 => oI (gS j9)))), (gG, .inl (cI, 24, .inl (fun j9 => nI (gO j9))))] := hD
  refine lv_iconst (v := nI 0) hx hb dSP_take_30 (by decide +kernel) ?_
  refine lv_istore_n (lv' := [(3, .int (nI 0)), (0, .ref h), (1, .ref hG), (2, .int (nI k))]) hx hb dSP_take_31 rfl hl (by decide) rfl (fun ls hl => ?_)
  have loop_32 : ∀ (n9 : Nat) (i : Nat), i ≤ gc → gc + 1 ≤ i + n9 → ∀ (H : Heap) (locs : List Loc), va_P (dC, dI) vwCl [(h, .inr (5, [.int (nI k), .int (nI 0), .ref a, .ref b, .ref d])), (a, .inl (cI, 4, .inl (fun j9 => nI ((smA gT sh i) j9)))), (b, .inl (cI, 4, .inl (fun j9 => nI ((fun _ => 0) j9)))), (d, .inl (cI, 24, .inl (fun j9 => oI (sf j9)))), (hG, .inr (1, [.int (nI gc), .int (nI gn), .ref aG, .ref bG, .ref dG, .ref gG])), (aG, .inl (cI, 24, .inl (fun j9 => nI (gF j9)))), (bG, .inl (cI, 24, .inl (fun j9 => nI (gT j9)))), (dG, .inl (cI, 24, .inl (fun j9 => oI (gS j9)))), (gG, .inl (cI, 24, .inl (fun j9 => nI (gO j9))))] H → va_D A [(h, .inr (5, [.int (nI k), .int (nI 0), .ref a, .ref b, .ref d])), (a, .inl (cI, 4, .inl (fun j9 => nI ((smA gT sh i) j9)))), (b, .inl (cI, 4, .inl (fun j9 => nI ((fun _ => 0) j9)))), (d, .inl (cI, 24, .inl (fun j9 => oI (sf j9)))), (hG, .inr (1, [.int (nI gc), .int (nI gn), .ref aG, .ref bG, .ref dG, .ref gG])), (aG, .inl (cI, 24, .inl (fun j9 => nI (gF j9)))), (bG, .inl (cI, 24, .inl (fun j9 => nI (gT j9)))), (dG, .inl (cI, 24, .inl (fun j9 => oI (gS j9)))), (gG, .inl (cI, 24, .inl (fun j9 => nI (gO j9))))] → va_S A s.heap H locs → ∀ (ls : Array Slot), lv_has ls 4 [(3, .int (nI i)), (0, .ref h), (1, .ref hG), (2, .int (nI k))] → W p l e R s m args below meth c H locs 0 0 Q (F0 m 32 ls []) := by
    intro n9
    induction n9 with
    | zero =>
      intro i hi hmeas
      exact absurd hmeas (by omega)
    | succ n9 ih_32 =>
      intro i hi hmeas H locs hP hD hS ls hl
      refine lv_iload_n hx hb dSP_take_32 rfl (lv_at hl 0 rfl) ?_
      refine lv_aload_n hx hb dSP_take_33 rfl (lv_at hl 2 rfl) ?_
      refine va_get (D := (dC, dI)) (ci := 1) (v := .int (nI gc)) (C := RGR) (T := TGR) (N := 6) hx hb hts (fun w h => List.mem_cons_of_mem _ (inGR w h)) hown hK hP 4 rfl rfl 0 (by decide) (hts _ (List.mem_cons_of_mem _ kw_78)) (fun _ h9 => h9) rfl dSP_take_34 ?_
      refine hr_icmp_ge hx hb (x := i) (y := gc) (by omega) (by omega) (tgt := 62) dSP_take_37 (by decide) (fun c_1 => ?_) (fun c_1 => ?_)
      · have ei : gc = i := by omega
        subst ei
        refine lv_iconst (v := nI 0) hx hb dSP_take_62 (by decide +kernel) ?_
        refine lv_istore_n (lv' := [(3, .int (nI 0)), (0, .ref h), (1, .ref hG), (2, .int (nI k))]) hx hb dSP_take_63 rfl hl (by decide) rfl (fun ls hl => ?_)
        rw [← sfA_0 sf sh gO] at hP hD
        have loop_64 : ∀ (n9 : Nat) (j : Nat), j ≤ gn → gn + 1 ≤ j + n9 → ∀ (H : Heap) (locs : List Loc), va_P (dC, dI) vwCl [(h, .inr (5, [.int (nI k), .int (nI (mvA sf sh gO j)), .ref a, .ref b, .ref d])), (a, .inl (cI, 4, .inl (fun j9 => nI ((smA gT sh gc) j9)))), (b, .inl (cI, 4, .inl (fun j9 => nI ((zsA sh gO j) j9)))), (d, .inl (cI, 24, .inl (fun j9 => oI ((sfA sf sh gO j) j9)))), (hG, .inr (1, [.int (nI gc), .int (nI gn), .ref aG, .ref bG, .ref dG, .ref gG])), (aG, .inl (cI, 24, .inl (fun j9 => nI (gF j9)))), (bG, .inl (cI, 24, .inl (fun j9 => nI (gT j9)))), (dG, .inl (cI, 24, .inl (fun j9 => oI (gS j9)))), (gG, .inl (cI, 24, .inl (fun j9 => nI (gO j9))))] H → va_D A [(h, .inr (5, [.int (nI k), .int (nI (mvA sf sh gO j)), .ref a, .ref b, .ref d])), (a, .inl (cI, 4, .inl (fun j9 => nI ((smA gT sh gc) j9)))), (b, .inl (cI, 4, .inl (fun j9 => nI ((zsA sh gO j) j9)))), (d, .inl (cI, 24, .inl (fun j9 => oI ((sfA sf sh gO j) j9)))), (hG, .inr (1, [.int (nI gc), .int (nI gn), .ref aG, .ref bG, .ref dG, .ref gG])), (aG, .inl (cI, 24, .inl (fun j9 => nI (gF j9)))), (bG, .inl (cI, 24, .inl (fun j9 => nI (gT j9)))), (dG, .inl (cI, 24, .inl (fun j9 => oI (gS j9)))), (gG, .inl (cI, 24, .inl (fun j9 => nI (gO j9))))] → va_S A s.heap H locs → ∀ (ls : Array Slot), lv_has ls 4 [(3, .int (nI j)), (0, .ref h), (1, .ref hG), (2, .int (nI k))] → W p l e R s m args below meth c H locs 0 0 Q (F0 m 64 ls []) := by
          intro n9
          induction n9 with
          | zero =>
            intro j hj hmeas
            exact absurd hmeas (by omega)
          | succ n9 ih_64 =>
            intro j hj hmeas H locs hP hD hS ls hl
            refine lv_iload_n hx hb dSP_take_64 rfl (lv_at hl 0 rfl) ?_
            refine lv_aload_n hx hb dSP_take_65 rfl (lv_at hl 2 rfl) ?_
            refine va_get (D := (dC, dI)) (ci := 1) (v := .int (nI gn)) (C := RGR) (T := TGR) (N := 6) hx hb hts (fun w h => List.mem_cons_of_mem _ (inGR w h)) hown hK hP 4 rfl rfl 1 (by decide) (hts _ (List.mem_cons_of_mem _ kw_82)) (fun _ h9 => h9) rfl dSP_take_66 ?_
            refine hr_icmp_ge hx hb (x := j) (y := gn) (by omega) (by omega) (tgt := 88) dSP_take_69 (by decide) (fun c_2 => ?_) (fun c_2 => ?_)
            · have ej : gn = j := by omega
              subst ej
              rw [← hQe]
              exact W.vret hx hb hr (fun t ht hW => ⟨⟨(), rfl, trivial, by rw [ht]; exact hP, hD⟩, hS.F ht⟩) hS.2.2 dSP_take_88
            · have hO1 := hgO j (by omega)
              obtain ⟨hs1, hs2⟩ := hgS (gO j) hO1
              refine lv_aload_n hx hb dSP_take_72 rfl (lv_at hl 1 rfl) ?_
              refine lv_iload_n hx hb dSP_take_73 rfl (lv_at hl 0 rfl) ?_
              refine lv_aload_n hx hb dSP_take_74 rfl (lv_at hl 2 rfl) ?_
              refine lv_iload_n hx hb dSP_take_75 rfl (lv_at hl 0 rfl) ?_
              refine vp_callSi (va_runV (C := RGR) (As := [.int (nI j)]) (rest := [.int (nI j), .ref h]) ⟨hx, hb, hml, hown, hts⟩ (c_GR_shardFor l dC dI cI cZ cG hG aG bG dG gG gc gn gF gT gS gO j (hgn) (hgc) (by omega) (hO1)) (hr_cwV 1 hts kw_386 kw_387 kw_388 kw_26 kw_389 (by decide +kernel) (by rw [← hRe]; exact ⟨Nat.le_of_ble_eq_true rfl, Nat.le_of_ble_eq_true rfl⟩)) (hr_preR hKX hP [4, 5, 6, 7, 8] rfl (ci := 1) (q0 := 4) (q := (RGR, TGR, 6)) rfl rfl) rfl rfl hl.1 rfl (lv_room (Nat.le_of_ble_eq_true rfl)) dSP_take_76 ⟨by omega, by omega⟩).run (fun rv hrv => ?_)
              refine hr_eqi hrv ?_
              refine hr_eqi (show oI (gS (gO j)) = nI (sh (gO j)) by rw [hs1]; rfl) ?_
              refine hr_callv (wr := [(hG, .inr (1, [.int (nI gc), .int (nI gn), .ref aG, .ref bG, .ref dG, .ref gG])), (aG, .inl (cI, 24, .inl (fun j9 => nI (gF j9)))), (bG, .inl (cI, 24, .inl (fun j9 => nI (gT j9)))), (dG, .inl (cI, 24, .inl (fun j9 => oI (gS j9)))), (gG, .inl (cI, 24, .inl (fun j9 => nI (gO j9))))]) (va_runV (C := RSP) (As := [.int (nI j), .int (nI (sh (gO j)))]) (rest := []) ⟨hx, hb, hml, hown, hts⟩ (c_SP_give l dC dI cI cZ cG h a b d k (mvA sf sh gO j) (smA gT sh gc) (zsA sh gO j) (sfA sf sh gO j) j (sh (gO j)) H.size (hk.2) (by omega) (hs2) (fun q hq => by rw [sfA_at] at hq; have := hsf j (by omega) q hq; omega)) (hr_cwV 2 hts kw_390 kw_392 kw_8 kw_29 kw_393 (by decide +kernel) (by rw [← hRe]; exact ⟨Nat.le_of_ble_eq_true rfl, Nat.le_of_ble_eq_true rfl⟩)) (hr_preW hKX hP hD [0, 1, 2, 3] (by decide) rfl (ci := 5) (q0 := 0) (q := (RSP, TSP, 5)) rfl rfl) rfl rfl hl.1 rfl (lv_room (Nat.le_of_ble_eq_true rfl)) dSP_take_79 ⟨by omega, by omega⟩) hP hD hS hA [0, 1, 2, 3] [4, 5, 6, 7, 8] rfl rfl (by decide) (by decide) [5, 6, 7, 8, 0, 1, 2, 3, 4] (fun u => [(h, .inr (5, [.int (nI k), .int (nI ((mvA sf sh gO j) + mvdB ((sfA sf sh gO j) j) (sh (gO j)))), .ref a, .ref b, .ref d])), (a, .inl (cI, 4, .inl (fun j9 => nI ((smA gT sh gc) j9)))), (b, .inl (cI, 4, .inl (fun j9 => nI ((va_up (zsA sh gO j) (sh (gO j)) ((zsA sh gO j) (sh (gO j)) + 1)) j9)))), (d, .inl (cI, 24, .inl (fun j9 => oI ((va_up (sfA sf sh gO j) j (some (sh (gO j)))) j9)))), (hG, .inr (1, [.int (nI gc), .int (nI gn), .ref aG, .ref bG, .ref dG, .ref gG])), (aG, .inl (cI, 24, .inl (fun j9 => nI (gF j9)))), (bG, .inl (cI, 24, .inl (fun j9 => nI (gT j9)))), (dG, .inl (cI, 24, .inl (fun j9 => oI (gS j9)))), (gG, .inl (cI, 24, .inl (fun j9 => nI (gO j9))))]) (by decide) (fun u => rfl) (fun u H locs hrv hP hD hS => ?_)
              have hP : va_P (dC, dI) vwCl [(h, .inr (5, [.int (nI k), .int (nI ((mvA sf sh gO j) + mvdB ((sfA sf sh gO j) j) (sh (gO j)))), .ref a, .ref b, .ref d])), (a, .inl (cI, 4, .inl (fun j9 => nI ((smA gT sh gc) j9)))), (b, .inl (cI, 4, .inl (fun j9 => nI ((va_up (zsA sh gO j) (sh (gO j)) ((zsA sh gO j) (sh (gO j)) + 1)) j9)))), (d, .inl (cI, 24, .inl (fun j9 => oI ((va_up (sfA sf sh gO j) j (some (sh (gO j)))) j9)))), (hG, .inr (1, [.int (nI gc), .int (nI gn), .ref aG, .ref bG, .ref dG, .ref gG])), (aG, .inl (cI, 24, .inl (fun j9 => nI (gF j9)))), (bG, .inl (cI, 24, .inl (fun j9 => nI (gT j9)))), (dG, .inl (cI, 24, .inl (fun j9 => oI (gS j9)))), (gG, .inl (cI, 24, .inl (fun j9 => nI (gO j9))))] H := hP
              have hD : va_D A [(h, .inr (5, [.int (nI k), .int (nI ((mvA sf sh gO j) + mvdB ((sfA sf sh gO j) j) (sh (gO j)))), .ref a, .ref b, .ref d])), (a, .inl (cI, 4, .inl (fun j9 => nI ((smA gT sh gc) j9)))), (b, .inl (cI, 4, .inl (fun j9 => nI ((va_up (zsA sh gO j) (sh (gO j)) ((zsA sh gO j) (sh (gO j)) + 1)) j9)))), (d, .inl (cI, 24, .inl (fun j9 => oI ((va_up (sfA sf sh gO j) j (some (sh (gO j)))) j9)))), (hG, .inr (1, [.int (nI gc), .int (nI gn), .ref aG, .ref bG, .ref dG, .ref gG])), (aG, .inl (cI, 24, .inl (fun j9 => nI (gF j9)))), (bG, .inl (cI, 24, .inl (fun j9 => nI (gT j9)))), (dG, .inl (cI, 24, .inl (fun j9 => oI (gS j9)))), (gG, .inl (cI, 24, .inl (fun j9 => nI (gO j9))))] := hD
              refine lv_iinc (v := nI (j + 1)) (lv' := [(3, .int (nI (j + 1))), (0, .ref h), (1, .ref hG), (2, .int (nI k))]) hx hb dSP_take_82 hl (k := 0) rfl (hr_inc _) (by decide) rfl (fun ls hl => ?_)
              refine lv_goto (tgt := 64) hx hb dSP_take_85 (by decide) ?_
              rw [sfA_up, sfA_at] at hP hD
              exact ih_64 (j + 1) (by omega) (by omega) _ _ hP hD hS ls (lv_sub hl [0, 1, 2, 3] rfl)
        exact loop_64 (gn + 1) 0 (by omega) (by omega) _ _ hP hD hS ls (lv_sub hl [0, 1, 2, 3] rfl)
      · obtain ⟨hs1, hs2⟩ := hgS i (by omega)
        refine lv_aload_n hx hb dSP_take_40 rfl (lv_at hl 1 rfl) ?_
        refine lv_aload_n hx hb dSP_take_41 rfl (lv_at hl 2 rfl) ?_
        refine va_get (D := (dC, dI)) (ci := 1) (v := .ref dG) (C := RGR) (T := TGR) (N := 6) hx hb hts (fun w h => List.mem_cons_of_mem _ (inGR w h)) hown hK hP 4 rfl rfl 4 (by decide) (hts _ (List.mem_cons_of_mem _ kw_93)) (fun _ h9 => h9) rfl dSP_take_42 ?_
        refine lv_iload_n hx hb dSP_take_45 rfl (lv_at hl 0 rfl) ?_
        refine hr_iald hx hb hK hP 7 0 rfl rfl (i := i) (by omega) (by omega) dSP_take_46 ?_
        refine hr_eqi (show oI (gS i) = nI (sh i) by rw [hs1]; rfl) ?_
        refine lv_aload_n hx hb dSP_take_47 rfl (lv_at hl 2 rfl) ?_
        refine va_get (D := (dC, dI)) (ci := 1) (v := .ref bG) (C := RGR) (T := TGR) (N := 6) hx hb hts (fun w h => List.mem_cons_of_mem _ (inGR w h)) hown hK hP 4 rfl rfl 3 (by decide) (hts _ (List.mem_cons_of_mem _ kw_89)) (fun _ h9 => h9) rfl dSP_take_48 ?_
        refine lv_iload_n hx hb dSP_take_51 rfl (lv_at hl 0 rfl) ?_
        refine hr_iald hx hb hK hP 6 0 rfl rfl (i := i) (by omega) (by omega) dSP_take_52 ?_
        refine hr_callv (wr := [(hG, .inr (1, [.int (nI gc), .int (nI gn), .ref aG, .ref bG, .ref dG, .ref gG])), (aG, .inl (cI, 24, .inl (fun j9 => nI (gF j9)))), (bG, .inl (cI, 24, .inl (fun j9 => nI (gT j9)))), (dG, .inl (cI, 24, .inl (fun j9 => oI (gS j9)))), (gG, .inl (cI, 24, .inl (fun j9 => nI (gO j9))))]) (va_runV (C := RSP) (As := [.int (nI (sh i)), .int (nI (gT i))]) (rest := []) ⟨hx, hb, hml, hown, hts⟩ (c_SP_addTime l dC dI cI cZ cG h a b d k 0 (smA gT sh i) (fun _ => 0) sf (sh i) (gT i) H.size (hk.2) (hs2)) (hr_cwV 2 hts kw_378 kw_380 kw_7 kw_29 kw_381 (by decide +kernel) (by rw [← hRe]; exact ⟨Nat.le_of_ble_eq_true rfl, Nat.le_of_ble_eq_true rfl⟩)) (hr_preW hKX hP hD [0, 1, 2, 3] (by decide) rfl (ci := 5) (q0 := 0) (q := (RSP, TSP, 5)) rfl rfl) rfl rfl hl.1 rfl (lv_room (Nat.le_of_ble_eq_true rfl)) dSP_take_53 ⟨by omega, by omega⟩) hP hD hS hA [0, 1, 2, 3] [4, 5, 6, 7, 8] rfl rfl (by decide) (by decide) [5, 6, 7, 8, 0, 1, 2, 3, 4] (fun u => [(h, .inr (5, [.int (nI k), .int (nI 0), .ref a, .ref b, .ref d])), (a, .inl (cI, 4, .inl (fun j9 => nI ((va_up (smA gT sh i) (sh i) ((smA gT sh i) (sh i) + (gT i))) j9)))), (b, .inl (cI, 4, .inl (fun j9 => nI ((fun _ => 0) j9)))), (d, .inl (cI, 24, .inl (fun j9 => oI (sf j9)))), (hG, .inr (1, [.int (nI gc), .int (nI gn), .ref aG, .ref bG, .ref dG, .ref gG])), (aG, .inl (cI, 24, .inl (fun j9 => nI (gF j9)))), (bG, .inl (cI, 24, .inl (fun j9 => nI (gT j9)))), (dG, .inl (cI, 24, .inl (fun j9 => oI (gS j9)))), (gG, .inl (cI, 24, .inl (fun j9 => nI (gO j9))))]) (by decide) (fun u => rfl) (fun u H locs hrv hP hD hS => ?_)
        have hP : va_P (dC, dI) vwCl [(h, .inr (5, [.int (nI k), .int (nI 0), .ref a, .ref b, .ref d])), (a, .inl (cI, 4, .inl (fun j9 => nI ((va_up (smA gT sh i) (sh i) ((smA gT sh i) (sh i) + (gT i))) j9)))), (b, .inl (cI, 4, .inl (fun j9 => nI ((fun _ => 0) j9)))), (d, .inl (cI, 24, .inl (fun j9 => oI (sf j9)))), (hG, .inr (1, [.int (nI gc), .int (nI gn), .ref aG, .ref bG, .ref dG, .ref gG])), (aG, .inl (cI, 24, .inl (fun j9 => nI (gF j9)))), (bG, .inl (cI, 24, .inl (fun j9 => nI (gT j9)))), (dG, .inl (cI, 24, .inl (fun j9 => oI (gS j9)))), (gG, .inl (cI, 24, .inl (fun j9 => nI (gO j9))))] H := hP
        have hD : va_D A [(h, .inr (5, [.int (nI k), .int (nI 0), .ref a, .ref b, .ref d])), (a, .inl (cI, 4, .inl (fun j9 => nI ((va_up (smA gT sh i) (sh i) ((smA gT sh i) (sh i) + (gT i))) j9)))), (b, .inl (cI, 4, .inl (fun j9 => nI ((fun _ => 0) j9)))), (d, .inl (cI, 24, .inl (fun j9 => oI (sf j9)))), (hG, .inr (1, [.int (nI gc), .int (nI gn), .ref aG, .ref bG, .ref dG, .ref gG])), (aG, .inl (cI, 24, .inl (fun j9 => nI (gF j9)))), (bG, .inl (cI, 24, .inl (fun j9 => nI (gT j9)))), (dG, .inl (cI, 24, .inl (fun j9 => oI (gS j9)))), (gG, .inl (cI, 24, .inl (fun j9 => nI (gO j9))))] := hD
        refine lv_iinc (v := nI (i + 1)) (lv' := [(3, .int (nI (i + 1))), (0, .ref h), (1, .ref hG), (2, .int (nI k))]) hx hb dSP_take_56 hl (k := 0) rfl (hr_inc _) (by decide) rfl (fun ls hl => ?_)
        refine lv_goto (tgt := 32) hx hb dSP_take_59 (by decide) ?_
        exact ih_32 (i + 1) (by omega) (by omega) _ _ hP hD hS ls (lv_sub hl [0, 1, 2, 3] rfl)
  exact loop_32 (gc + 1) 0 (by omega) (by omega) _ _ hP hD hS ls (lv_sub hl [0, 1, 2, 3] rfl)

set_option maxHeartbeats 4000000 in
set_option maxRecDepth 100000 in
/-- the TESTS of a SHARD -/
theorem c_DR_gather (l : Launch) (dC : Nat → ClassId) (dI : Nat → Nat → Nat) (cI cZ cG : ClassId) (kD : Nat) (aD : Nat) (dn : Nat) (wr : Nat → Nat) (h : Nat) (a : Nat) (b : Nat) (d : Nat) (sc : Nat) (mv : Nat) (sm : Nat → Nat) (zs : Nat → Nat) (sf : Nat → Option Nat) (q : Nat) (sz : Nat) (hq : q < 4) (hsf : ∀ j, j < 24 → ∀ q, sf j = some q → q < 4) : Met l yDR_gather wsDR_gather ({ frames := 2, cells := 0, slots := 0, locals := 41 }) (va_Pc [.ref kD, .ref h, .int (nI q)] (fun U => U.heap.size = sz ∧ va_P (dC, dI) vwCl [(kD, .inr (2, [.int (nI dn), .ref aD])), (aD, .inl (cI, 24, .inl (fun j9 => nI (wr j9)))), (h, .inr (5, [.int (nI sc), .int (nI mv), .ref a, .ref b, .ref d])), (a, .inl (cI, 4, .inl (fun j9 => nI (sm j9)))), (b, .inl (cI, 4, .inl (fun j9 => nI (zs j9)))), (d, .inl (cI, 24, .inl (fun j9 => oI (sf j9))))] U.heap ∧ KX dC dI cI cZ cG U ∧ va_D (fun _ => True) [(kD, .inr (2, [.int (nI dn), .ref aD])), (aD, .inl (cI, 24, .inl (fun j9 => nI (wr j9)))), (h, .inr (5, [.int (nI sc), .int (nI mv), .ref a, .ref b, .ref d])), (a, .inl (cI, 4, .inl (fun j9 => nI (sm j9)))), (b, .inl (cI, 4, .inl (fun j9 => nI (zs j9)))), (d, .inl (cI, 24, .inl (fun j9 => oI (sf j9))))])) (va_Qv (fun (u : Unit) => True) (fun u t => va_P (dC, dI) vwCl [(kD, .inr (2, [.int (nI (dgN sf q 24)), .ref aD])), (aD, .inl (cI, 24, .inl (fun j9 => nI ((dgR sf q wr 24) j9)))), (h, .inr (5, [.int (nI sc), .int (nI mv), .ref a, .ref b, .ref d])), (a, .inl (cI, 4, .inl (fun j9 => nI (sm j9)))), (b, .inl (cI, 4, .inl (fun j9 => nI (zs j9)))), (d, .inl (cI, 24, .inl (fun j9 => oI (sf j9))))] t.heap ∧ va_D (va_A [(kD, .inr (2, [.int (nI dn), .ref aD])), (aD, .inl (cI, 24, .inl (fun j9 => nI (wr j9)))), (h, .inr (5, [.int (nI sc), .int (nI mv), .ref a, .ref b, .ref d])), (a, .inl (cI, 4, .inl (fun j9 => nI (sm j9)))), (b, .inl (cI, 4, .inl (fun j9 => nI (zs j9)))), (d, .inl (cI, 24, .inl (fun j9 => oI (sf j9))))] sz) [(kD, .inr (2, [.int (nI (dgN sf q 24)), .ref aD])), (aD, .inl (cI, 24, .inl (fun j9 => nI ((dgR sf q wr 24) j9)))), (h, .inr (5, [.int (nI sc), .int (nI mv), .ref a, .ref b, .ref d])), (a, .inl (cI, 4, .inl (fun j9 => nI (sm j9)))), (b, .inl (cI, 4, .inl (fun j9 => nI (zs j9)))), (d, .inl (cI, 24, .inl (fun j9 => oI (sf j9))))]) (va_A [(kD, .inr (2, [.int (nI dn), .ref aD])), (aD, .inl (cI, 24, .inl (fun j9 => nI (wr j9)))), (h, .inr (5, [.int (nI sc), .int (nI mv), .ref a, .ref b, .ref d])), (a, .inl (cI, 4, .inl (fun j9 => nI (sm j9)))), (b, .inl (cI, 4, .inl (fun j9 => nI (zs j9)))), (d, .inl (cI, 24, .inl (fun j9 => oI (sf j9))))] sz)) 0 0 (va_A [(kD, .inr (2, [.int (nI dn), .ref aD])), (aD, .inl (cI, 24, .inl (fun j9 => nI (wr j9)))), (h, .inr (5, [.int (nI sc), .int (nI mv), .ref a, .ref b, .ref d])), (a, .inl (cI, 4, .inl (fun j9 => nI (sm j9)))), (b, .inl (cI, 4, .inl (fun j9 => nI (zs j9)))), (d, .inl (cI, 24, .inl (fun j9 => oI (sf j9))))] sz) := by
  refine Met.ofW (cc := cDR_gather) (maxL := 4) (ret := none) (by decide) rfl ?_
  intro p e s m args below meth c s₁ B hml hv
  obtain ⟨rfl, hsz, hP, hKX, hD0⟩ := hv
  have hK := hKX.1
  have hx := B.exec
  have hb := B.bytes
  have hr := B.returns
  have hts := atoms_spec (ws := wsDR_gather) B.pre
  have hown : s.vm.findClass RDR = some m.cls := findClass_of_methodNamed B.named
  have hlocks := B.notSynchronized
  subst hsz
  have hD := hD0.self (sz := s.heap.size)
  generalize hAe : va_A [(kD, .inr (2, [.int (nI dn), .ref aD])), (aD, .inl (cI, 24, .inl (fun j9 => nI (wr j9)))), (h, .inr (5, [.int (nI sc), .int (nI mv), .ref a, .ref b, .ref d])), (a, .inl (cI, 4, .inl (fun j9 => nI (sm j9)))), (b, .inl (cI, 4, .inl (fun j9 => nI (zs j9)))), (d, .inl (cI, 24, .inl (fun j9 => oI (sf j9))))] s.heap.size = A at hD ⊢
  have hA : ∀ q : Nat, s.heap.size ≤ q → A q := fun q h => by rw [← hAe]; exact Or.inr h
  have hS : va_S A s.heap s.heap [] := va_S.rf
  have hl := lv_entry ([.ref kD, .ref h, .int (nI q)]) (n := 4) (Nat.le_of_ble_eq_true rfl)
  rw [lg_entry_eq]
  generalize (lg_sl ([.ref kD, .ref h, .int (nI q)]) ++ List.replicate (4 - (lg_sl ([.ref kD, .ref h, .int (nI q)])).length) Slot.unset).toArray = ls at hl ⊢
  have hl : lv_has ls 4 [(0, .ref kD), (1, .ref h), (2, .int (nI q))] := hl
  generalize hRe : (headSpec wsDR_gather ({ frames := 2, cells := 0, slots := 0, locals := 41 })).room = R
  have hRf : 2 ≤ R.frames := by rw [← hRe]; exact Nat.le_refl _
  have hRl : 41 ≤ R.locals := by rw [← hRe]; exact Nat.le_refl _
  have hRc : 0 ≤ R.cells := by rw [← hRe]; exact Nat.le_refl _
  have hRs : 0 ≤ R.slots := by rw [← hRe]; exact Nat.le_refl _
  generalize hargs : (List.toArray [.ref kD, .ref h, .int (nI q)] : Array Value) = args at hts ⊢
  generalize hQe : MQ below _ args s _ _ _ = Q
  refine lv_aload_n hx hb dDR_gather_0 rfl (lv_at hl 0 rfl) ?_
  refine lv_iconst (v := nI 0) hx hb dDR_gather_1 (by decide +kernel) ?_
  refine va_put (D := (dC, dI)) (ci := 2) (v := .int (nI 0)) (ty := .int) (C := RDR) (T := TDR) (N := 2) hx hb hts (fun w h => List.mem_cons_of_mem _ (inDR w h)) tyDR tyDR_ok nmDR hown hK hP hD hS 0 rfl rfl 0 (by decide) (hts _ (List.mem_cons_of_mem _ kw_216)) (fun _ h9 => h9) rfl (by decide +kernel) rfl rfl (Nat.le_of_ble_eq_true rfl) dDR_gather_2 (fun H locs hP hD hS => ?_)
  have hP : va_P (dC, dI) vwCl [(kD, .inr (2, [.int (nI 0), .ref aD])), (aD, .inl (cI, 24, .inl (fun j9 => nI (wr j9)))), (h, .inr (5, [.int (nI sc), .int (nI mv), .ref a, .ref b, .ref d])), (a, .inl (cI, 4, .inl (fun j9 => nI (sm j9)))), (b, .inl (cI, 4, .inl (fun j9 => nI (zs j9)))), (d, .inl (cI, 24, .inl (fun j9 => oI (sf j9))))] H := hP
  have hD : va_D A [(kD, .inr (2, [.int (nI 0), .ref aD])), (aD, .inl (cI, 24, .inl (fun j9 => nI (wr j9)))), (h, .inr (5, [.int (nI sc), .int (nI mv), .ref a, .ref b, .ref d])), (a, .inl (cI, 4, .inl (fun j9 => nI (sm j9)))), (b, .inl (cI, 4, .inl (fun j9 => nI (zs j9)))), (d, .inl (cI, 24, .inl (fun j9 => oI (sf j9))))] := hD
  refine lv_iconst (v := nI 0) hx hb dDR_gather_5 (by decide +kernel) ?_
  refine lv_istore_n (lv' := [(3, .int (nI 0)), (0, .ref kD), (1, .ref h), (2, .int (nI q))]) hx hb dDR_gather_6 rfl hl (by decide) rfl (fun ls hl => ?_)
  have loop_7 : ∀ (n9 : Nat) (i : Nat), i ≤ 24 → 24 + 1 ≤ i + n9 → ∀ (H : Heap) (locs : List Loc), va_P (dC, dI) vwCl [(kD, .inr (2, [.int (nI (dgN sf q i)), .ref aD])), (aD, .inl (cI, 24, .inl (fun j9 => nI ((dgR sf q wr i) j9)))), (h, .inr (5, [.int (nI sc), .int (nI mv), .ref a, .ref b, .ref d])), (a, .inl (cI, 4, .inl (fun j9 => nI (sm j9)))), (b, .inl (cI, 4, .inl (fun j9 => nI (zs j9)))), (d, .inl (cI, 24, .inl (fun j9 => oI (sf j9))))] H → va_D A [(kD, .inr (2, [.int (nI (dgN sf q i)), .ref aD])), (aD, .inl (cI, 24, .inl (fun j9 => nI ((dgR sf q wr i) j9)))), (h, .inr (5, [.int (nI sc), .int (nI mv), .ref a, .ref b, .ref d])), (a, .inl (cI, 4, .inl (fun j9 => nI (sm j9)))), (b, .inl (cI, 4, .inl (fun j9 => nI (zs j9)))), (d, .inl (cI, 24, .inl (fun j9 => oI (sf j9))))] → va_S A s.heap H locs → ∀ (ls : Array Slot), lv_has ls 4 [(3, .int (nI i)), (0, .ref kD), (1, .ref h), (2, .int (nI q))] → W p l e R s m args below meth c H locs 0 0 Q (F0 m 7 ls []) := by
    intro n9
    induction n9 with
    | zero =>
      intro i hi hmeas
      exact absurd hmeas (by omega)
    | succ n9 ih_7 =>
      intro i hi hmeas H locs hP hD hS ls hl
      have hdl := dgN_le sf q i
      refine lv_iload_n hx hb dDR_gather_7 rfl (lv_at hl 0 rfl) ?_
      refine lv_bipush (v := nI 24) hx hb dDR_gather_8 (by decide +kernel) ?_
      refine hr_icmp_ge hx hb (x := i) (y := 24) (by omega) (by omega) (tgt := 48) dDR_gather_10 (by decide) (fun c_1 => ?_) (fun c_1 => ?_)
      · have ei : 24 = i := by omega
        subst ei
        rw [← hQe]
        exact W.vret hx hb hr (fun t ht hW => ⟨⟨(), rfl, trivial, by rw [ht]; exact hP, hD⟩, hS.F ht⟩) hS.2.2 dDR_gather_48
      · refine lv_aload_n hx hb dDR_gather_13 rfl (lv_at hl 2 rfl) ?_
        refine lv_iload_n hx hb dDR_gather_14 rfl (lv_at hl 0 rfl) ?_
        refine vp_callSi (va_runV (C := RSP) (As := [.int (nI i)]) (rest := []) ⟨hx, hb, hml, hown, hts⟩ (c_SP_shardAt l dC dI cI cZ cG h a b d sc mv sm zs sf (nI i)) (hr_cwV 1 hts kw_430 kw_334 kw_335 kw_29 kw_336 (by decide +kernel) (by rw [← hRe]; exact ⟨Nat.le_of_ble_eq_true rfl, Nat.le_of_ble_eq_true rfl⟩)) (hr_preR hKX hP [2, 3, 4, 5] rfl (ci := 5) (q0 := 2) (q := (RSP, TSP, 5)) rfl rfl) rfl rfl hl.1 rfl (lv_room (Nat.le_of_ble_eq_true rfl)) dDR_gather_15 ⟨by omega, by omega⟩).run (fun rv hrv => ?_)
        refine hr_eqi hrv ?_
        refine hr_eqi (show oI (shA sf (nI i)) = oI (sf i) by rw [shA_nI (by omega)]) ?_
        refine lv_iload_n hx hb dDR_gather_18 rfl (lv_at hl 3 rfl) ?_
        refine lv_icmp_ne (tgt := 42) hx hb dDR_gather_19 (by decide) (fun c_2 => ?_) (fun c_2 => ?_)
        · have hsi : ¬ sf i = some q := fun z => c_2 (by rw [z]; rfl)
          refine lv_iinc (v := nI (i + 1)) (lv' := [(3, .int (nI (i + 1))), (0, .ref kD), (1, .ref h), (2, .int (nI q))]) hx hb dDR_gather_42 hl (k := 0) rfl (hr_inc _) (by decide) rfl (fun ls hl => ?_)
          refine lv_goto (tgt := 7) hx hb dDR_gather_45 (by decide) ?_
          rw [← dgN_miss hsi, ← dgR_miss (r := wr) hsi] at hP hD
          exact ih_7 (i + 1) (by omega) (by omega) _ _ hP hD hS ls (lv_sub hl [0, 1, 2, 3] rfl)
        · have hsi : sf i = some q := (oI_nI (fun z hz => by have := hsf i (by omega) z hz; omega) (by omega)).mp c_2
          refine lv_aload_n hx hb dDR_gather_22 rfl (lv_at hl 1 rfl) ?_
          refine va_get (D := (dC, dI)) (ci := 2) (v := .ref aD) (C := RDR) (T := TDR) (N := 2) hx hb hts (fun w h => List.mem_cons_of_mem _ (inDR w h)) hown hK hP 0 rfl rfl 1 (by decide) (hts _ (List.mem_cons_of_mem _ kw_218)) (fun _ h9 => h9) rfl dDR_gather_23 ?_
          refine lv_aload_n hx hb dDR_gather_26 rfl (lv_at hl 1 rfl) ?_
          refine va_get (D := (dC, dI)) (ci := 2) (v := .int (nI (dgN sf q i))) (C := RDR) (T := TDR) (N := 2) hx hb hts (fun w h => List.mem_cons_of_mem _ (inDR w h)) hown hK hP 0 rfl rfl 0 (by decide) (hts _ (List.mem_cons_of_mem _ kw_216)) (fun _ h9 => h9) rfl dDR_gather_27 ?_
          refine lv_iload_n hx hb dDR_gather_30 rfl (lv_at hl 0 rfl) ?_
          refine hr_iastN hx hb hK hP hD hS 1 0 rfl rfl (i := (dgN sf q i)) (by omega) (by omega) dDR_gather_31 (fun H locs hP hD hS => ?_)
          have hP : va_P (dC, dI) vwCl [(kD, .inr (2, [.int (nI (dgN sf q i)), .ref aD])), (aD, .inl (cI, 24, .inl (fun j9 => nI ((va_up (dgR sf q wr i) (dgN sf q i) i) j9)))), (h, .inr (5, [.int (nI sc), .int (nI mv), .ref a, .ref b, .ref d])), (a, .inl (cI, 4, .inl (fun j9 => nI (sm j9)))), (b, .inl (cI, 4, .inl (fun j9 => nI (zs j9)))), (d, .inl (cI, 24, .inl (fun j9 => oI (sf j9))))] H := hP
          have hD : va_D A [(kD, .inr (2, [.int (nI (dgN sf q i)), .ref aD])), (aD, .inl (cI, 24, .inl (fun j9 => nI ((va_up (dgR sf q wr i) (dgN sf q i) i) j9)))), (h, .inr (5, [.int (nI sc), .int (nI mv), .ref a, .ref b, .ref d])), (a, .inl (cI, 4, .inl (fun j9 => nI (sm j9)))), (b, .inl (cI, 4, .inl (fun j9 => nI (zs j9)))), (d, .inl (cI, 24, .inl (fun j9 => oI (sf j9))))] := hD
          refine lv_aload_n hx hb dDR_gather_32 rfl (lv_at hl 1 rfl) ?_
          refine lv_dup hx hb dDR_gather_33 rfl ?_
          refine va_get (D := (dC, dI)) (ci := 2) (v := .int (nI (dgN sf q i))) (C := RDR) (T := TDR) (N := 2) hx hb hts (fun w h => List.mem_cons_of_mem _ (inDR w h)) hown hK hP 0 rfl rfl 0 (by decide) (hts _ (List.mem_cons_of_mem _ kw_216)) (fun _ h9 => h9) rfl dDR_gather_34 ?_
          refine lv_iconst (v := nI 1) hx hb dDR_gather_37 (by decide +kernel) ?_
          refine lv_iadd hx hb dDR_gather_38 ?_
          refine hr_eqi (nI_add _ _) ?_
          refine va_put (D := (dC, dI)) (ci := 2) (v := .int (nI ((dgN sf q i) + 1))) (ty := .int) (C := RDR) (T := TDR) (N := 2) hx hb hts (fun w h => List.mem_cons_of_mem _ (inDR w h)) tyDR tyDR_ok nmDR hown hK hP hD hS 0 rfl rfl 0 (by decide) (hts _ (List.mem_cons_of_mem _ kw_216)) (fun _ h9 => h9) rfl (by decide +kernel) rfl rfl (Nat.le_of_ble_eq_true rfl) dDR_gather_39 (fun H locs hP hD hS => ?_)
          have hP : va_P (dC, dI) vwCl [(kD, .inr (2, [.int (nI ((dgN sf q i) + 1)), .ref aD])), (aD, .inl (cI, 24, .inl (fun j9 => nI ((va_up (dgR sf q wr i) (dgN sf q i) i) j9)))), (h, .inr (5, [.int (nI sc), .int (nI mv), .ref a, .ref b, .ref d])), (a, .inl (cI, 4, .inl (fun j9 => nI (sm j9)))), (b, .inl (cI, 4, .inl (fun j9 => nI (zs j9)))), (d, .inl (cI, 24, .inl (fun j9 => oI (sf j9))))] H := hP
          have hD : va_D A [(kD, .inr (2, [.int (nI ((dgN sf q i) + 1)), .ref aD])), (aD, .inl (cI, 24, .inl (fun j9 => nI ((va_up (dgR sf q wr i) (dgN sf q i) i) j9)))), (h, .inr (5, [.int (nI sc), .int (nI mv), .ref a, .ref b, .ref d])), (a, .inl (cI, 4, .inl (fun j9 => nI (sm j9)))), (b, .inl (cI, 4, .inl (fun j9 => nI (zs j9)))), (d, .inl (cI, 24, .inl (fun j9 => oI (sf j9))))] := hD
          refine lv_iinc (v := nI (i + 1)) (lv' := [(3, .int (nI (i + 1))), (0, .ref kD), (1, .ref h), (2, .int (nI q))]) hx hb dDR_gather_42 hl (k := 0) rfl (hr_inc _) (by decide) rfl (fun ls hl => ?_)
          refine lv_goto (tgt := 7) hx hb dDR_gather_45 (by decide) ?_
          rw [← dgN_hit hsi, ← dgR_hit hsi] at hP hD
          exact ih_7 (i + 1) (by omega) (by omega) _ _ hP hD hS ls (lv_sub hl [0, 1, 2, 3] rfl)
  exact loop_7 (24 + 1) 0 (by omega) (by omega) _ _ hP hD hS ls (lv_sub hl [0, 1, 2, 3] rfl)

set_option maxHeartbeats 4000000 in
set_option maxRecDepth 100000 in
/-- an order drawn by a seed -/
theorem c_DR_shuffle (l : Launch) (dC : Nat → ClassId) (dI : Nat → Nat → Nat) (cI cZ cG : ClassId) (kD : Nat) (aD : Nat) (dn : Nat) (wr : Nat → Nat) (z : Int64) (sz : Nat) (hdn : dn ≤ 24) : Met l yDR_shuffle wsDR_shuffle ({ frames := 0, cells := 0, slots := 0, locals := 0 }) (va_Pc [.ref kD, .long z] (fun U => U.heap.size = sz ∧ va_P (dC, dI) vwCl [(kD, .inr (2, [.int (nI dn), .ref aD])), (aD, .inl (cI, 24, .inl (fun j9 => nI (wr j9))))] U.heap ∧ KX dC dI cI cZ cG U ∧ va_D (fun _ => True) [(kD, .inr (2, [.int (nI dn), .ref aD])), (aD, .inl (cI, 24, .inl (fun j9 => nI (wr j9))))])) (va_Qv (fun (u : Unit) => True) (fun u t => va_P (dC, dI) vwCl [(kD, .inr (2, [.int (nI dn), .ref aD])), (aD, .inl (cI, 24, .inl (fun j9 => nI ((shf (dn - 1) z wr) j9))))] t.heap ∧ va_D (va_A [(kD, .inr (2, [.int (nI dn), .ref aD])), (aD, .inl (cI, 24, .inl (fun j9 => nI (wr j9))))] sz) [(kD, .inr (2, [.int (nI dn), .ref aD])), (aD, .inl (cI, 24, .inl (fun j9 => nI ((shf (dn - 1) z wr) j9))))]) (va_A [(kD, .inr (2, [.int (nI dn), .ref aD])), (aD, .inl (cI, 24, .inl (fun j9 => nI (wr j9))))] sz)) 0 0 (va_A [(kD, .inr (2, [.int (nI dn), .ref aD])), (aD, .inl (cI, 24, .inl (fun j9 => nI (wr j9))))] sz) := by
  refine Met.ofW (cc := cDR_shuffle) (maxL := 8) (ret := none) (by decide) rfl ?_
  intro p e s m args below meth c s₁ B hml hv
  obtain ⟨rfl, hsz, hP, hKX, hD0⟩ := hv
  have hK := hKX.1
  have hx := B.exec
  have hb := B.bytes
  have hr := B.returns
  have hts := atoms_spec (ws := wsDR_shuffle) B.pre
  have hown : s.vm.findClass RDR = some m.cls := findClass_of_methodNamed B.named
  have hlocks := B.notSynchronized
  subst hsz
  have hD := hD0.self (sz := s.heap.size)
  generalize hAe : va_A [(kD, .inr (2, [.int (nI dn), .ref aD])), (aD, .inl (cI, 24, .inl (fun j9 => nI (wr j9))))] s.heap.size = A at hD ⊢
  have hA : ∀ q : Nat, s.heap.size ≤ q → A q := fun q h => by rw [← hAe]; exact Or.inr h
  have hS : va_S A s.heap s.heap [] := va_S.rf
  have hl := lv_entry ([.ref kD, .long z]) (n := 8) (Nat.le_of_ble_eq_true rfl)
  rw [lg_entry_eq]
  generalize (lg_sl ([.ref kD, .long z]) ++ List.replicate (8 - (lg_sl ([.ref kD, .long z])).length) Slot.unset).toArray = ls at hl ⊢
  have hl : lv_has ls 8 [(0, .ref kD), (1, .long z)] := hl
  generalize hRe : (headSpec wsDR_shuffle ({ frames := 0, cells := 0, slots := 0, locals := 0 })).room = R
  have hRf : 0 ≤ R.frames := by rw [← hRe]; exact Nat.le_refl _
  have hRl : 0 ≤ R.locals := by rw [← hRe]; exact Nat.le_refl _
  have hRc : 0 ≤ R.cells := by rw [← hRe]; exact Nat.le_refl _
  have hRs : 0 ≤ R.slots := by rw [← hRe]; exact Nat.le_refl _
  generalize hargs : (List.toArray [.ref kD, .long z] : Array Value) = args at hts ⊢
  generalize hQe : MQ below _ args s _ _ _ = Q
  cases dn with
  | zero =>
      have hl : lv_has ls 8 [(0, .ref kD), (1, .long z)] := hl
      refine lv_lload_n hx hb dDR_shuffle_0 rfl (lv_at hl 1 rfl) ?_
      refine lv_lstore_n (lv' := [(3, .long z), (0, .ref kD), (1, .long z)]) hx hb dDR_shuffle_1 rfl hl (by decide) rfl (fun ls hl => ?_)
      refine lv_aload_n hx hb dDR_shuffle_2 rfl (lv_at hl 1 rfl) ?_
      refine va_get (D := (dC, dI)) (ci := 2) (v := .int (nI 0)) (C := RDR) (T := TDR) (N := 2) hx hb hts (fun w h => List.mem_cons_of_mem _ (inDR w h)) hown hK hP 0 rfl rfl 0 (by decide) (hts _ (List.mem_cons_of_mem _ kw_216)) (fun _ h9 => h9) rfl dDR_shuffle_3 ?_
      refine lv_iconst (v := nI 1) hx hb dDR_shuffle_6 (by decide +kernel) ?_
      refine lv_isub hx hb dDR_shuffle_7 ?_
      refine hr_eqi (show nI 0 - nI 1 = (-1 : Int32) by decide +kernel) ?_
      refine lv_istore (lv' := [(5, .int (-1)), (3, .long z), (0, .ref kD), (1, .long z)]) hx hb dDR_shuffle_8 hl (by decide) rfl (fun ls hl => ?_)
      refine lv_iload hx hb dDR_shuffle_10 (lv_at hl 0 rfl) ?_
      refine lv_iconst (v := nI 1) hx hb dDR_shuffle_12 (by decide +kernel) ?_
      refine lv_icmp_lt (tgt := 77) hx hb dDR_shuffle_13 (by decide) (fun c_1 => ?_) (fun c_1 => ?_)
      · have hT : wr = shf (0 - 1) z wr := rfl
        rw [← hQe]
        exact W.vret hx hb hr (fun t ht hW => ⟨⟨(), rfl, trivial, by rw [ht, ← hT]; exact hP, by rw [← hT]; exact hD⟩, hS.F ht⟩) hS.2.2 dDR_shuffle_77
      · exact absurd (by decide +kernel) c_1
  | succ dn =>
      refine lv_lload_n hx hb dDR_shuffle_0 rfl (lv_at hl 1 rfl) ?_
      refine lv_lstore_n (lv' := [(3, .long z), (0, .ref kD), (1, .long z)]) hx hb dDR_shuffle_1 rfl hl (by decide) rfl (fun ls hl => ?_)
      refine lv_aload_n hx hb dDR_shuffle_2 rfl (lv_at hl 1 rfl) ?_
      refine va_get (D := (dC, dI)) (ci := 2) (v := .int (nI (dn + 1))) (C := RDR) (T := TDR) (N := 2) hx hb hts (fun w h => List.mem_cons_of_mem _ (inDR w h)) hown hK hP 0 rfl rfl 0 (by decide) (hts _ (List.mem_cons_of_mem _ kw_216)) (fun _ h9 => h9) rfl dDR_shuffle_3 ?_
      refine lv_iconst (v := nI 1) hx hb dDR_shuffle_6 (by decide +kernel) ?_
      refine lv_isub hx hb dDR_shuffle_7 ?_
      refine hr_eqi (pk_sub (by omega)) ?_
      rw [Nat.add_sub_cancel]
      refine lv_istore (lv' := [(5, .int (nI dn)), (3, .long z), (0, .ref kD), (1, .long z)]) hx hb dDR_shuffle_8 hl (by decide) rfl (fun ls hl => ?_)
      have loop_10 : ∀ (n9 : Nat) (i : Nat) (x : Int64) (r : Nat → Nat), i ≤ dn → shf i x r = shf dn z wr → i + 1 ≤ n9 → ∀ (H : Heap) (locs : List Loc), va_P (dC, dI) vwCl [(kD, .inr (2, [.int (nI (dn + 1)), .ref aD])), (aD, .inl (cI, 24, .inl (fun j9 => nI (r j9))))] H → va_D A [(kD, .inr (2, [.int (nI (dn + 1)), .ref aD])), (aD, .inl (cI, 24, .inl (fun j9 => nI (r j9))))] → va_S A s.heap H locs → ∀ (ls : Array Slot), lv_has ls 8 [(3, .long x), (5, .int (nI i)), (0, .ref kD)] → W p l e R s m args below meth c H locs 0 0 Q (F0 m 10 ls []) := by
        intro n9
        induction n9 with
        | zero =>
          intro i x r hi hT hmeas
          exact absurd hmeas (by omega)
        | succ n9 ih_10 =>
          intro i x r hi hT hmeas H locs hP hD hS ls hl
          refine lv_iload hx hb dDR_shuffle_10 (lv_at hl 1 rfl) ?_
          refine lv_iconst (v := nI 1) hx hb dDR_shuffle_12 (by decide +kernel) ?_
          refine hr_icmp_lt hx hb (x := i) (y := 1) (by omega) (by omega) (tgt := 77) dDR_shuffle_13 (by decide) (fun c_2 => ?_) (fun c_2 => ?_)
          · have hT : r = shf (dn + 1 - 1) z wr := by rw [show dn + 1 - 1 = dn by omega, ← hT, show i = 0 by omega]; rfl
            rw [← hQe]
            exact W.vret hx hb hr (fun t ht hW => ⟨⟨(), rfl, trivial, by rw [ht, ← hT]; exact hP, by rw [← hT]; exact hD⟩, hS.F ht⟩) hS.2.2 dDR_shuffle_77
          · obtain ⟨t, rfl⟩ : ∃ t, i = t + 1 := ⟨i - 1, by omega⟩
            have hjl := jx_lt (lcg x) (n := t + 1 + 1) (by omega)
            refine lv_lload_n hx hb dDR_shuffle_16 rfl (lv_at hl 0 rfl) ?_
            refine lv_ldc2 (v := 6364136223846793005) hx hb hown (hts (.constantLong RDR 25 6364136223846793005) (by decide +kernel)) dDR_shuffle_17 ?_
            refine lv_lmul hx hb dDR_shuffle_20 ?_
            refine lv_ldc2 (v := 1442695040888963407) hx hb hown (hts (.constantLong RDR 27 1442695040888963407) (by decide +kernel)) dDR_shuffle_21 ?_
            refine lv_ladd hx hb dDR_shuffle_24 ?_
            refine hr_eql (show x * 6364136223846793005 + 1442695040888963407 = lcg x from rfl) ?_
            refine lv_lstore_n (lv' := [(3, .long (lcg x)), (5, .int (nI (t + 1))), (0, .ref kD)]) hx hb dDR_shuffle_25 rfl hl (by decide) rfl (fun ls hl => ?_)
            refine lv_lload_n hx hb dDR_shuffle_26 rfl (lv_at hl 0 rfl) ?_
            refine lv_bipush (v := nI 33) hx hb dDR_shuffle_27 (by decide +kernel) ?_
            refine lv_lushr hx hb dDR_shuffle_29 (lcg_shr (lcg x)) ?_
            refine lv_iload hx hb dDR_shuffle_30 (lv_at hl 1 rfl) ?_
            refine lv_iconst (v := nI 1) hx hb dDR_shuffle_32 (by decide +kernel) ?_
            refine lv_iadd hx hb dDR_shuffle_33 ?_
            refine hr_eqi (nI_add _ _) ?_
            refine lv_i2l hx hb dDR_shuffle_34 (nI_l (by omega)) ?_
            refine lv_lrem hx hb dDR_shuffle_35 (lN_ne0 (by omega) (by omega)) ?_
            refine hr_eql (lcg_rem (lcg x) (by omega) (by omega)) ?_
            refine lv_l2i hx hb dDR_shuffle_36 (lN_i _) ?_
            refine lv_istore (lv' := [(6, .int (nI (jx (lcg x) (t + 1 + 1)))), (3, .long (lcg x)), (5, .int (nI (t + 1))), (0, .ref kD)]) hx hb dDR_shuffle_37 hl (by decide) rfl (fun ls hl => ?_)
            refine lv_aload_n hx hb dDR_shuffle_39 rfl (lv_at hl 3 rfl) ?_
            refine va_get (D := (dC, dI)) (ci := 2) (v := .ref aD) (C := RDR) (T := TDR) (N := 2) hx hb hts (fun w h => List.mem_cons_of_mem _ (inDR w h)) hown hK hP 0 rfl rfl 1 (by decide) (hts _ (List.mem_cons_of_mem _ kw_218)) (fun _ h9 => h9) rfl dDR_shuffle_40 ?_
            refine lv_iload hx hb dDR_shuffle_43 (lv_at hl 2 rfl) ?_
            refine hr_iald hx hb hK hP 1 0 rfl rfl (i := (t + 1)) (by omega) (by omega) dDR_shuffle_45 ?_
            refine lv_istore (lv' := [(7, .int (nI (r (t + 1)))), (6, .int (nI (jx (lcg x) (t + 1 + 1)))), (3, .long (lcg x)), (5, .int (nI (t + 1))), (0, .ref kD)]) hx hb dDR_shuffle_46 hl (by decide) rfl (fun ls hl => ?_)
            refine lv_aload_n hx hb dDR_shuffle_48 rfl (lv_at hl 4 rfl) ?_
            refine va_get (D := (dC, dI)) (ci := 2) (v := .ref aD) (C := RDR) (T := TDR) (N := 2) hx hb hts (fun w h => List.mem_cons_of_mem _ (inDR w h)) hown hK hP 0 rfl rfl 1 (by decide) (hts _ (List.mem_cons_of_mem _ kw_218)) (fun _ h9 => h9) rfl dDR_shuffle_49 ?_
            refine lv_iload hx hb dDR_shuffle_52 (lv_at hl 3 rfl) ?_
            refine lv_aload_n hx hb dDR_shuffle_54 rfl (lv_at hl 4 rfl) ?_
            refine va_get (D := (dC, dI)) (ci := 2) (v := .ref aD) (C := RDR) (T := TDR) (N := 2) hx hb hts (fun w h => List.mem_cons_of_mem _ (inDR w h)) hown hK hP 0 rfl rfl 1 (by decide) (hts _ (List.mem_cons_of_mem _ kw_218)) (fun _ h9 => h9) rfl dDR_shuffle_55 ?_
            refine lv_iload hx hb dDR_shuffle_58 (lv_at hl 1 rfl) ?_
            refine hr_iald hx hb hK hP 1 0 rfl rfl (i := (jx (lcg x) (t + 1 + 1))) (by omega) (by omega) dDR_shuffle_60 ?_
            refine hr_iastN hx hb hK hP hD hS 1 0 rfl rfl (i := (t + 1)) (by omega) (by omega) dDR_shuffle_61 (fun H locs hP hD hS => ?_)
            have hP : va_P (dC, dI) vwCl [(kD, .inr (2, [.int (nI (dn + 1)), .ref aD])), (aD, .inl (cI, 24, .inl (fun j9 => nI ((va_up r (t + 1) (r (jx (lcg x) (t + 1 + 1)))) j9))))] H := hP
            have hD : va_D A [(kD, .inr (2, [.int (nI (dn + 1)), .ref aD])), (aD, .inl (cI, 24, .inl (fun j9 => nI ((va_up r (t + 1) (r (jx (lcg x) (t + 1 + 1)))) j9))))] := hD
            refine lv_aload_n hx hb dDR_shuffle_62 rfl (lv_at hl 4 rfl) ?_
            refine va_get (D := (dC, dI)) (ci := 2) (v := .ref aD) (C := RDR) (T := TDR) (N := 2) hx hb hts (fun w h => List.mem_cons_of_mem _ (inDR w h)) hown hK hP 0 rfl rfl 1 (by decide) (hts _ (List.mem_cons_of_mem _ kw_218)) (fun _ h9 => h9) rfl dDR_shuffle_63 ?_
            refine lv_iload hx hb dDR_shuffle_66 (lv_at hl 1 rfl) ?_
            refine lv_iload hx hb dDR_shuffle_68 (lv_at hl 0 rfl) ?_
            refine hr_iastN hx hb hK hP hD hS 1 0 rfl rfl (i := (jx (lcg x) (t + 1 + 1))) (by omega) (by omega) dDR_shuffle_70 (fun H locs hP hD hS => ?_)
            have hP : va_P (dC, dI) vwCl [(kD, .inr (2, [.int (nI (dn + 1)), .ref aD])), (aD, .inl (cI, 24, .inl (fun j9 => nI ((va_up (va_up r (t + 1) (r (jx (lcg x) (t + 1 + 1)))) (jx (lcg x) (t + 1 + 1)) (r (t + 1))) j9))))] H := hP
            have hD : va_D A [(kD, .inr (2, [.int (nI (dn + 1)), .ref aD])), (aD, .inl (cI, 24, .inl (fun j9 => nI ((va_up (va_up r (t + 1) (r (jx (lcg x) (t + 1 + 1)))) (jx (lcg x) (t + 1 + 1)) (r (t + 1))) j9))))] := hD
            refine lv_iinc (v := nI t) (lv' := [(5, .int (nI t)), (7, .int (nI (r (t + 1)))), (6, .int (nI (jx (lcg x) (t + 1 + 1)))), (3, .long (lcg x)), (0, .ref kD)]) hx hb dDR_shuffle_71 hl (k := 3) rfl (hr_dec1) (by decide) rfl (fun ls hl => ?_)
            refine lv_goto (tgt := 10) hx hb dDR_shuffle_74 (by decide) ?_
            exact ih_10 t (lcg x) (va_up (va_up r (t + 1) (r (jx (lcg x) (t + 1 + 1)))) (jx (lcg x) (t + 1 + 1)) (r (t + 1))) (by omega) (hT) (by omega) _ _ hP hD hS ls (lv_sub hl [3, 0, 4] rfl)
      exact loop_10 (dn + 1) dn z wr (by omega) (rfl) (by omega) _ _ hP hD hS ls (lv_sub hl [1, 0, 2] rfl)
end
section
/-! a grid: the rows stand behind the other cells -/
def grf (ro : Nat → Nat) : Nat → Option Nat := fun i => if i < 8 then some (ro i) else none
def rws (ro : Nat → Nat) (cI : ClassId) (mv : Nat → Nat → Nat) : va_W := (List.range 8).map (fun i => (ro i, .inl (cI, 4, .inl (fun j9 => nI (mv i j9)))))
theorem rws_at {X : va_W} {ro : Nat → Nat} {cI : ClassId} {mv : Nat → Nat → Nat} {g K : Nat} (hK : X.length = K) (hg : g < 8) : (X ++ rws ro cI mv)[K + g]? = some (ro g, .inl (cI, 4, .inl (fun j9 => nI (mv g j9)))) := by
  subst hK
  rw [List.getElem?_append_right (by omega), show X.length + g - X.length = g by omega]
  unfold rws
  rw [List.getElem?_map, List.getElem?_range hg]
  rfl
theorem rws_set {X : va_W} {ro : Nat → Nat} {cI : ClassId} {mv : Nat → Nat → Nat} {g K : Nat} {r : Nat → Nat} (hK : X.length = K) : (X ++ rws ro cI mv).set (K + g) (ro g, .inl (cI, 4, .inl (fun j9 => nI (r j9)))) = X ++ rws ro cI (va_up mv g r) := by
  subst hK
  rw [List.set_append_right _ _ (by omega), show X.length + g - X.length = g by omega]
  congr 1
  unfold rws
  apply List.ext_getElem?
  intro k
  by_cases h : g = k
  · subst h
    by_cases hk : g < 8
    · rw [List.getElem?_set_self (by simp [hk]), List.getElem?_map, List.getElem?_range hk]
      simp [va_up_self]
    · rw [List.getElem?_set, if_pos rfl, if_neg (by simp [hk]), List.getElem?_eq_none (by simp; omega)]
  · rw [List.getElem?_set_ne h, List.getElem?_map, List.getElem?_map]
    cases e : (List.range 8)[k]? with
    | none => rfl
    | some i =>
      have hi : i = k := by
        have hl := (List.getElem?_eq_some_iff.mp e).1
        rw [List.length_range] at hl
        rw [List.getElem?_range hl] at e
        cases e
        rfl
      subst hi
      simp [va_up_ne _ _ (fun z => h z.symm)]
section HR2
variable {p : Program} {l : Launch} {e : Env} {R : Room} {s : State} {m : MethodId} {args : Array Value} {below : List Frame} {meth : Method} {c : Code} {H : Heap} {locs : List Loc} {cells slots : Nat} {Q : State → Prop}
variable {cc : ByteArray} {pc : Nat} {ls : Array Slot} {rest : List Value} {D : va_G} {cl : List vw_C} {A : Nat → Prop} {a : Nat} {tys : List (ClassId × FieldType)} {ws : va_W} {H0 : Heap}
theorem hr_aaldG (hexec : p.tables.exec = Jvm.exec) (hb : c.code = cc) (hK : va_K D cl tys s) (hP : va_P D cl ws H) (q0 t0 : Nat) {cA : ClassId} {ro : Nat → Nat} (ha : ws[q0]? = some (a, .inl (cA, 8, .inr (.inr (.inr (.inr (grf ro))))))) (ht : tys[t0]? = some (cA, .array .int)) {i : Nat} (hi : i < 8) (hdg : decode cc pc = .ok (.aaload, 1)) (kk : W p l e R s m args below meth c H locs cells slots Q (F0 m (pc + 1) ls (.ref (ro i) :: rest))) : W p l e R s m args below meth c H locs cells slots Q (F0 m pc ls (.int (nI i) :: .ref a :: rest)) := by
  have hin : vp_in (nI i) 8 := vp_in_nI hi (by decide)
  have hc : (nI i).toNatClampNeg = i := nI_clamp (by omega)
  refine W.aald (v := .ref (ro i)) (ty := .array .int) hexec hb (hP q0 _ ha) ((hK.2 t0 _ ht).1 8 (fun j => va_rf (grf ro j))) rfl (fun q => by cases q) (by show ¬ (nI i < 0 ∨ (arrV _ _ _).slots.size ≤ _); rw [arrV_size]; exact hin) ?_ rfl rfl hdg kk
  show (arrV _ _ _).slots[_]? = _
  rw [hc, arrV_read _ _ hi]
  unfold grf
  rw [if_pos hi]
  rfl
/-- a call whose world is one cell -/
theorem hr_call1v {post : Unit → Prop} {e0 e1 : va_E} {mc ms : Nat} {st0 : List Value} {av : Array Value} (hr : va_Run p l e R s m args below meth c H locs cells slots mc ms (F0 m pc ls st0) rest (va_Qv post (fun _ t => va_P D cl [(a, e1)] t.heap ∧ va_D (va_A [(a, e0)] H.size) [(a, e1)]) (va_A [(a, e0)] H.size) av) (va_A [(a, e0)] H.size)) (hP : va_P D cl ws H) (hD : va_D A ws) (hS : va_S A H0 H locs) (hA : ∀ q, H0.size ≤ q → A q) (q0 : Nat) (ha : ws[q0]? = some (a, e0))
    (kk : ∀ (H1 : Heap) (locs1 : List Loc), va_P D cl (ws.set q0 (a, e1)) H1 → va_D A (ws.set q0 (a, e1)) → va_S A H0 H1 locs1 → W p l e R s m args below meth c H1 locs1 (cells + mc) (slots + ms) Q (F0 m (pc + 3) ls rest)) : W p l e R s m args below meth c H locs cells slots Q (F0 m pc ls st0) := by
  have hC : [q0].map (fun i => ws[i]?) = [(a, e0)].map some := by simp [ha]
  have hF := va_free hD hS hA [q0] hC
  refine va_callv hr hS (fun q _ h => hF q h) hF (fun u t H1 locs1 ht hvm hp hB hz hk hS1 => ?_)
  obtain ⟨hP1, hD1⟩ := hB
  rw [ht] at hP1
  refine kk H1 locs1 (fun k q hq => ?_) (hD.set ha) hS1
  by_cases e : q0 = k
  · subst e
    rw [List.getElem?_set_self (List.getElem?_eq_some_iff.mp ha).1] at hq
    cases hq
    exact hP1 0 _ rfl
  · rw [List.getElem?_set_ne e] at hq
    refine (hP k q hq).kept (hk q.1 (hP k q hq).lt (fun z => ?_))
    rcases z with ⟨k2, e2, z⟩ | z
    · have h0 : k2 < 1 := (List.getElem?_eq_some_iff.mp z).1
      rw [show k2 = 0 by omega] at z
      have hz : (a, e0) = (q.1, e2) := Option.some.inj z
      have hz2 : a = q.1 := congrArg Prod.fst hz
      exact e (hD.1 q0 k (a, e0) q ha hq hz2)
    · have := (hP k q hq).lt
      omega
theorem hr_pre1S {dC : Nat → ClassId} {dI : Nat → Nat → Nat} {cI cZ cG : ClassId} (hK : KX dC dI cI cZ cG s) (hP : va_P (dC, dI) vwCl ws H) (hD : va_D A ws) (q0 : Nat) {x : Nat × va_E} (ha : ws[q0]? = some x) {As : List Value} : PreS s H (va_Pc As (fun U => U.heap.size = H.size ∧ va_P (dC, dI) vwCl [x] U.heap ∧ KX dC dI cI cZ cG U ∧ va_D (fun _ => True) [x])) As := hr_preWS hK hP hD [q0] rfl (w := [x]) (by simp [ha])
end HR2
theorem up_back (f : Nat → Nat) (s x : Nat) : va_up (va_up f s (f s + x)) s (f s + x - x) = f := by
  funext j
  unfold va_up
  by_cases h : j = s
  · subst h
    simp
  · simp [h]
/-- one more is MOVED in a row, but for the SHARD that it had, below i -/
def amF (mv : Nat → Nat → Nat) (g o i : Nat) : Nat → Nat → Nat := fun x y => if x = g ∧ y < i ∧ ¬ y = o then mv x y + 1 else mv x y
theorem amF_0 (mv : Nat → Nat → Nat) (g o : Nat) : amF mv g o 0 = mv := by
  funext x y
  simp [amF]
theorem amF_at (mv : Nat → Nat → Nat) (g o i : Nat) : amF mv g o i g i = mv g i := by
  simp [amF]
theorem amF_up (mv : Nat → Nat → Nat) (g o i : Nat) {v : Nat} (hv : v = if i = o then 0 else 1) : va_up (amF mv g o i) g (va_up (amF mv g o i g) i (amF mv g o i g i + v)) = amF mv g o (i + 1) := by
  funext x y
  by_cases h : x = g
  · subst h
    rw [va_up_self]
    by_cases k : y = i
    · subst k
      rw [va_up_self, amF_at, hv]
      unfold amF
      by_cases z : y = o
      · simp [z]
      · simp [z]
    · rw [va_up_ne _ _ k]
      unfold amF
      by_cases l : y < i
      · simp [l, show y < i + 1 by omega]
      · simp [l, show ¬ y < i + 1 by omega]
  · rw [va_up_ne _ _ h]
    unfold amF
    simp [h]
/-- how many TESTS of GROUP g, below i, are MOVED if they go to s -/
def mvI (sf : Nat → Option Nat) (gO : Nat → Nat) (g s : Nat) : Nat → Nat
  | 0 => 0
  | i + 1 => mvI sf gO g s i + (if gO i = g then mvdB (sf i) s else 0)
theorem mvI_skip {sf : Nat → Option Nat} {gO : Nat → Nat} {g s i : Nat} (h : ¬ gO i = g) : mvI sf gO g s (i + 1) = mvI sf gO g s i := by
  show mvI sf gO g s i + (if gO i = g then mvdB (sf i) s else 0) = _
  rw [if_neg h]
  rfl
theorem mvI_no {sf : Nat → Option Nat} {gO : Nat → Nat} {g s i : Nat} (h : sf i = none) : mvI sf gO g s (i + 1) = mvI sf gO g s i := by
  show mvI sf gO g s i + (if gO i = g then mvdB (sf i) s else 0) = _
  rw [h]
  split <;> rfl
theorem mvI_0 {sf : Nat → Option Nat} {gO : Nat → Nat} {g s : Nat} : ∀ {i : Nat}, (∀ j, j < i → ¬ gO j = g) → mvI sf gO g s i = 0
  | 0, _ => rfl
  | i + 1, h => by rw [mvI_skip (h i (by omega)), mvI_0 (i := i) (fun j hj => h j (by omega))]
theorem mvI_hit {sf : Nat → Option Nat} {gO : Nat → Nat} {g s i q : Nat} (h : gO i = g) (hq : sf i = some q) : mvI sf gO g s (i + 1) = mvI sf gO g s i + (if s = q then 0 else 1) := by
  show mvI sf gO g s i + (if gO i = g then mvdB (sf i) s else 0) = _
  rw [if_pos h, hq]
  congr 1
  unfold mvdB
  by_cases z : s = q
  · simp [z]
  · simp [z]
    intro w
    exact z w.symm
theorem mvI_le {sf : Nat → Option Nat} {gO : Nat → Nat} {g s : Nat} : ∀ i : Nat, mvI sf gO g s i ≤ i
  | 0 => Nat.le_refl _
  | i + 1 => by
    have h1 := mvI_le (sf := sf) (gO := gO) (g := g) (s := s) i
    show mvI sf gO g s i + (if gO i = g then mvdB (sf i) s else 0) ≤ i + 1
    unfold mvdB
    split
    · split
      · omega
      · split <;> omega
    · omega
theorem amF_row {mv : Nat → Nat → Nat} {g o k s : Nat} (hs : s < k) : amF mv g o k g s = mv g s + (if s = o then 0 else 1) := by
  unfold amF
  by_cases z : s = o
  · simp [z]
  · simp [z, hs]
theorem amF_other {mv : Nat → Nat → Nat} {g o k x s : Nat} (h : ¬ x = g) : amF mv g o k x s = mv x s := by
  unfold amF
  simp [h]
/-! the search for the SHARDS -/
def fldB {β : Type} (F : Nat → β → β) : Nat → β → β
  | 0, b => b
  | c + 1, b => F c (fldB F c b)
theorem fldB_same {β : Type} {F : Nat → β → β} {b : β} : ∀ {c : Nat}, (∀ s, s < c → F s b = b) → fldB F c b = b
  | 0, _ => rfl
  | c + 1, h => by
    show F c (fldB F c b) = b
    rw [fldB_same (c := c) (fun s hs => h s (by omega))]
    exact h c (by omega)
theorem fldB_congr {β : Type} {F G : Nat → β → β} {b : β} : ∀ {c : Nat}, (∀ s, s < c → ∀ b, F s b = G s b) → fldB F c b = fldB G c b
  | 0, _ => rfl
  | c + 1, h => by
    show F c (fldB F c b) = G c (fldB G c b)
    rw [fldB_congr (c := c) (fun s hs => h s (by omega))]
    exact h c (by omega) _
/-- the best so far (how many MOVED, the SHARDS) when all SPLITS of groups g .. g + r - 1 under the LENGTH L have been seen -/
def fs (t : Nat → Nat) (mv : Nat → Nat → Nat) (K L G : Nat) : Nat → Nat → Nat → (Nat → Nat) → (Nat → Nat) → Nat × (Nat → Nat) → Nat × (Nat → Nat)
  | 0, _, md, _, tr, b => if md < b.1 then (md, va_cpy tr b.2 0 0 G) else b
  | r + 1, g, md, sm, tr, b => fldB (fun s b => if sm s + t g ≤ L then fs t mv K L G r (g + 1) (md + mv g s) (va_up sm s (sm s + t g)) (va_up tr g s) b else b) (K + 1) b
theorem fs_prune {t : Nat → Nat} {mv : Nat → Nat → Nat} {K L G : Nat} {mf : Nat → Nat} (h0 : mf G = 0) (hm : ∀ g, g < G → ∀ s, s < K + 1 → mf g ≤ mv g s + mf (g + 1)) : ∀ (r g md : Nat) (sm tr : Nat → Nat) (b : Nat × (Nat → Nat)), g + r = G → b.1 ≤ md + mf g → fs t mv K L G r g md sm tr b = b
  | 0, g, md, sm, tr, b, hg, hb => by
    have e : g = G := by omega
    rw [e, h0] at hb
    show (if md < b.1 then (md, va_cpy tr b.2 0 0 G) else b) = b
    rw [if_neg (by omega)]
  | r + 1, g, md, sm, tr, b, hg, hb => by
    show fldB _ (K + 1) b = b
    refine fldB_same (fun s hs => ?_)
    have h1 := hm g (by omega) s hs
    by_cases h : sm s + t g ≤ L
    · rw [if_pos h]
      exact fs_prune h0 hm r (g + 1) (md + mv g s) _ _ b (by omega) (by omega)
    · rw [if_neg h]
theorem va_cpy_congr {f f' g : Nat → Nat} {n : Nat} (h : ∀ j, j < n → f j = f' j) : va_cpy f g 0 0 n = va_cpy f' g 0 0 n := by
  funext j
  unfold va_cpy
  by_cases hj : 0 ≤ j ∧ j < 0 + n
  · rw [if_pos hj, if_pos hj]
    exact h _ (by omega)
  · rw [if_neg hj, if_neg hj]
theorem fs_congr {t : Nat → Nat} {mv : Nat → Nat → Nat} {K L G : Nat} : ∀ (r g md : Nat) (sm tr tr' : Nat → Nat) (b : Nat × (Nat → Nat)), g + r = G → (∀ j, j < g → tr j = tr' j) → fs t mv K L G r g md sm tr b = fs t mv K L G r g md sm tr' b
  | 0, g, md, sm, tr, tr', b, hg, h => by
    show (if md < b.1 then (md, va_cpy tr b.2 0 0 G) else b) = (if md < b.1 then (md, va_cpy tr' b.2 0 0 G) else b)
    rw [va_cpy_congr (fun j hj => h j (by omega))]
  | r + 1, g, md, sm, tr, tr', b, hg, h => by
    show fldB _ (K + 1) b = fldB _ (K + 1) b
    refine fldB_congr (fun s hs b2 => ?_)
    by_cases z : sm s + t g ≤ L
    · rw [if_pos z, if_pos z]
      refine fs_congr r (g + 1) _ _ _ _ b2 (by omega) (fun j hj => ?_)
      unfold va_up
      by_cases e : j = g
      · simp [e]
      · simp [e]
        exact h j (by omega)
    · rw [if_neg z, if_neg z]
/-- SHARDS of the first n from a row, the others as they were -/
def cpO (f : Nat → Nat) (g : Nat → Option Nat) (n : Nat) : Nat → Option Nat := fun j => if j < n then some (f j) else g j
theorem cpO_eq (f : Nat → Nat) (g : Nat → Option Nat) (n : Nat) : va_cpy (fun j9 => nI (f j9)) (fun j9 => oI (g j9)) 0 0 n = fun j9 => oI (cpO f g n j9) := by
  funext j
  unfold va_cpy cpO
  by_cases h : j < n
  · rw [if_pos ⟨by omega, by omega⟩, if_pos h]
    show nI (f (0 + (j - 0))) = nI (f j)
    rw [show 0 + (j - 0) = j by omega]
  · rw [if_neg (by omega), if_neg h]
theorem fs_le {t : Nat → Nat} {mv : Nat → Nat → Nat} {K L G : Nat} : ∀ (r g md : Nat) (sm tr : Nat → Nat) (b : Nat × (Nat → Nat)), (fs t mv K L G r g md sm tr b).1 ≤ b.1
  | 0, g, md, sm, tr, b => by
    show (if md < b.1 then (md, va_cpy tr b.2 0 0 G) else b).1 ≤ b.1
    split
    · show md ≤ b.1
      omega
    · exact Nat.le_refl _
  | r + 1, g, md, sm, tr, b => by
    have key : ∀ c, (fldB (fun s b => if sm s + t g ≤ L then fs t mv K L G r (g + 1) (md + mv g s) (va_up sm s (sm s + t g)) (va_up tr g s) b else b) c b).1 ≤ b.1 := by
      intro c
      induction c with
      | zero => exact Nat.le_refl _
      | succ c ih =>
        refine Nat.le_trans ?_ ih
        show (if sm c + t g ≤ L then fs t mv K L G r (g + 1) (md + mv g c) (va_up sm c (sm c + t g)) (va_up tr g c) (fldB _ c b) else fldB _ c b).1 ≤ _
        split
        · exact fs_le r (g + 1) _ _ _ _
        · exact Nat.le_refl _
    exact key (K + 1)
def fsF (t : Nat → Nat) (mv : Nat → Nat → Nat) (K L G r g md : Nat) (sm tr : Nat → Nat) : Nat → Nat × (Nat → Nat) → Nat × (Nat → Nat) := fun s b => if sm s + t g ≤ L then fs t mv K L G r (g + 1) (md + mv g s) (va_up sm s (sm s + t g)) (va_up tr g s) b else b
theorem fs_succ (t : Nat → Nat) (mv : Nat → Nat → Nat) (K L G r g md : Nat) (sm tr : Nat → Nat) (b : Nat × (Nat → Nat)) : fs t mv K L G (r + 1) g md sm tr b = fldB (fsF t mv K L G r g md sm tr) (K + 1) b := rfl
theorem fs_step {t : Nat → Nat} {mv : Nat → Nat → Nat} {K L G r g md q : Nat} {sm tr ts : Nat → Nat} {b : Nat × (Nat → Nat)} {b1 : Nat} {b2 : Nat → Nat} (hb : (b1, b2) = fldB (fsF t mv K L G r g md sm tr) q b) (h : sm q + t g ≤ L) (hg : g + (r + 1) = G) (hts : ∀ j, j < g → ts j = tr j) : ((fs t mv K L G r (g + 1) (md + mv g q) (va_up sm q (sm q + t g)) (va_up ts g q) (b1, b2)).1, (fs t mv K L G r (g + 1) (md + mv g q) (va_up sm q (sm q + t g)) (va_up ts g q) (b1, b2)).2) = fldB (fsF t mv K L G r g md sm tr) (q + 1) b := by
  show _ = fsF t mv K L G r g md sm tr q (fldB (fsF t mv K L G r g md sm tr) q b)
  rw [← hb]
  show _ = if sm q + t g ≤ L then fs t mv K L G r (g + 1) (md + mv g q) (va_up sm q (sm q + t g)) (va_up tr g q) (b1, b2) else (b1, b2)
  rw [if_pos h]
  refine fs_congr r (g + 1) _ _ _ _ _ (by omega) (fun j hj => ?_)
  unfold va_up
  by_cases e : j = g
  · simp [e]
  · simp [e]
    exact hts j (by omega)
theorem fs_skip {t : Nat → Nat} {mv : Nat → Nat → Nat} {K L G r g md q : Nat} {sm tr : Nat → Nat} {b : Nat × (Nat → Nat)} {b1 : Nat} {b2 : Nat → Nat} (hb : (b1, b2) = fldB (fsF t mv K L G r g md sm tr) q b) (h : L < sm q + t g) : (b1, b2) = fldB (fsF t mv K L G r g md sm tr) (q + 1) b := by
  show _ = fsF t mv K L G r g md sm tr q (fldB (fsF t mv K L G r g md sm tr) q b)
  rw [← hb]
  show _ = if sm q + t g ≤ L then fs t mv K L G r (g + 1) (md + mv g q) (va_up sm q (sm q + t g)) (va_up tr g q) (b1, b2) else (b1, b2)
  rw [if_neg (by omega)]
section HR3
variable {p : Program} {l : Launch} {e : Env} {R : Room} {s : State} {m : MethodId} {args : Array Value} {below : List Frame} {meth : Method} {c : Code} {H : Heap} {locs : List Loc} {cells slots : Nat} {Q : State → Prop}
variable {cc : ByteArray} {pc : Nat} {ls : Array Slot} {rest : List Value} {D : va_G} {cl : List vw_C} {A : Nat → Prop} {a : Nat} {tys : List (ClassId × FieldType)} {ws : va_W} {H0 : Heap}
theorem hr_copy {own : String} {index : Nat} (hexec : p.tables.exec = Jvm.exec) (hb : c.code = cc) (hml : c.maxLocals = ls.size) (hown : s.vm.findClass own = some m.cls) (hlink : (Cond.methodLink own index arraycopyName).before args s = true) (hnat : (Cond.native arraycopyName).before args s = true) (hstat : (Cond.static arraycopyName).before args s = true) (hini : (Cond.initialized "java/lang/System").before args s = true)
    (hK : va_K D cl tys s) (hP : va_P D cl ws H) (hD : va_D A ws) (hS : va_S A H0 H locs) (q0 q1 t0 : Nat) {a0 : Nat} {c0 : ClassId} {n0 n1 : Nat} {f g : Nat → Int32} (ha0 : ws[q0]? = some (a0, .inl (c0, n0, .inl f))) (ha1 : ws[q1]? = some (a, .inl (c0, n1, .inl g))) (ht0 : tys[t0]? = some (c0, .int)) {n : Nat} (hn : n < 2 ^ 31) (h4 : n ≤ n0) (h5 : n ≤ n1)
    (hframes : 1 ≤ R.frames) (hlocals : (rest.map fun v => v.category).sum + (nativeFrameWords "java/lang/System" "arraycopy" 5 + 11) ≤ R.locals) (hdg : decode cc pc = .ok (.invokestatic index, 3))
    (kk : ∀ (H1 : Heap) (locs1 : List Loc), va_P D cl (ws.set q1 (a, .inl (c0, n1, .inl (va_cpy f g 0 0 n)))) H1 → va_D A (ws.set q1 (a, .inl (c0, n1, .inl (va_cpy f g 0 0 n)))) → va_S A H0 H1 locs1 → W p l e R s m args below meth c H1 locs1 cells slots Q (F0 m (pc + 3) ls rest)) : W p l e R s m args below meth c H locs cells slots Q (F0 m pc ls (.int (nI n) :: .int (nI 0) :: .ref a :: .int (nI 0) :: .ref a0 :: rest)) := by
  have e0 : (nI 0).toNatClampNeg = 0 := nI_clamp (by decide)
  have en : (nI n).toNatClampNeg = n := nI_clamp hn
  refine va_copyi hexec hb hml hown hlink hnat hstat hini hK hP hD hS q0 q1 t0 t0 ha0 ha1 ht0 ht0 rfl (nI_pos (by decide)) (nI_pos (by decide)) (nI_pos hn) (by rw [e0, en]; omega) (by rw [e0, en]; omega) (fun i hi => rfl) hframes hlocals hdg (fun H1 locs1 h1 h2 h3 => ?_)
  rw [e0, en] at h1 h2
  exact kk H1 locs1 h1 h2 h3
end HR3
/-- the SHARDS that the search gives -/
def plOK (gT : Nat → Nat) (sf : Nat → Option Nat) (gO : Nat → Nat) (gn K gc : Nat) (x7 : Nat → Option Nat) : Prop := ∃ (x1 : Nat → Nat) (x6 : Nat → Nat → Nat) (tr be : Nat → Nat), (∀ g, g < gc → x1 g = gT g) ∧ (∀ x, x < gc → ∀ q, q < K + 1 → x6 x q = mvI sf gO x q gn) ∧ ∀ g, g < gc → x7 g = some ((fs x1 x6 K (min 2147483647 (lo x1 K gc 0 (fun _ => 0) 0)) gc gc 0 0 (fun _ => 0) tr (2147483647, be)).2 g)
end
section
set_option maxHeartbeats 4000000 in
set_option maxRecDepth 100000 in
/-- a TEST more would be MOVED -/
theorem c_SE_addMove (l : Launch) (dC : Nat → ClassId) (dI : Nat → Nat → Nat) (cI cZ cG : ClassId) (kS : Nat) (aS : Nat) (bS : Nat) (dS : Nat) (eS : Nat) (gS9 : Nat) (fS : Nat) (K : Nat) (G : Nat) (ll : Nat) (lm : Nat) (ro : Nat → Nat) (mx : Nat → Nat → Nat) (g : Nat) (o : Nat) (sz : Nat) (hK3 : K ≤ 3) (hg : g < 8) (ho : o < 2 ^ 31) : Met l ySE_addMove wsSE_addMove ({ frames := 0, cells := 0, slots := 0, locals := 0 }) (va_Pc [.ref kS, .int (nI g), .int (nI o)] (fun U => U.heap.size = sz ∧ va_P (dC, dI) vwCl ([(kS, .inr (6, [.int (nI (K + 1)), .int (nI G), .int (nI ll), .int (nI lm), .ref aS, .ref bS, .ref dS, .ref eS, .ref gS9, .ref fS])), (gS9, .inl (cG, 8, .inr (.inr (.inr (.inr (grf ro))))))] ++ rws ro cI mx) U.heap ∧ KX dC dI cI cZ cG U ∧ va_D (fun _ => True) ([(kS, .inr (6, [.int (nI (K + 1)), .int (nI G), .int (nI ll), .int (nI lm), .ref aS, .ref bS, .ref dS, .ref eS, .ref gS9, .ref fS])), (gS9, .inl (cG, 8, .inr (.inr (.inr (.inr (grf ro))))))] ++ rws ro cI mx))) (va_Qv (fun (u : Unit) => True) (fun u t => va_P (dC, dI) vwCl ([(kS, .inr (6, [.int (nI (K + 1)), .int (nI G), .int (nI ll), .int (nI lm), .ref aS, .ref bS, .ref dS, .ref eS, .ref gS9, .ref fS])), (gS9, .inl (cG, 8, .inr (.inr (.inr (.inr (grf ro))))))] ++ rws ro cI (amF mx g o (K + 1))) t.heap ∧ va_D (va_A ([(kS, .inr (6, [.int (nI (K + 1)), .int (nI G), .int (nI ll), .int (nI lm), .ref aS, .ref bS, .ref dS, .ref eS, .ref gS9, .ref fS])), (gS9, .inl (cG, 8, .inr (.inr (.inr (.inr (grf ro))))))] ++ rws ro cI mx) sz) ([(kS, .inr (6, [.int (nI (K + 1)), .int (nI G), .int (nI ll), .int (nI lm), .ref aS, .ref bS, .ref dS, .ref eS, .ref gS9, .ref fS])), (gS9, .inl (cG, 8, .inr (.inr (.inr (.inr (grf ro))))))] ++ rws ro cI (amF mx g o (K + 1)))) (va_A ([(kS, .inr (6, [.int (nI (K + 1)), .int (nI G), .int (nI ll), .int (nI lm), .ref aS, .ref bS, .ref dS, .ref eS, .ref gS9, .ref fS])), (gS9, .inl (cG, 8, .inr (.inr (.inr (.inr (grf ro))))))] ++ rws ro cI mx) sz)) 0 0 (va_A ([(kS, .inr (6, [.int (nI (K + 1)), .int (nI G), .int (nI ll), .int (nI lm), .ref aS, .ref bS, .ref dS, .ref eS, .ref gS9, .ref fS])), (gS9, .inl (cG, 8, .inr (.inr (.inr (.inr (grf ro))))))] ++ rws ro cI mx) sz) := by
  refine Met.ofW (cc := cSE_addMove) (maxL := 4) (ret := none) (by decide) rfl ?_
  intro p e s m args below meth c s₁ B hml hv
  obtain ⟨rfl, hsz, hP, hKX, hD0⟩ := hv
  have hK := hKX.1
  have hx := B.exec
  have hb := B.bytes
  have hr := B.returns
  have hts := atoms_spec (ws := wsSE_addMove) B.pre
  have hown : s.vm.findClass RSE = some m.cls := findClass_of_methodNamed B.named
  have hlocks := B.notSynchronized
  subst hsz
  have hD := hD0.self (sz := s.heap.size)
  generalize hAe : va_A ([(kS, .inr (6, [.int (nI (K + 1)), .int (nI G), .int (nI ll), .int (nI lm), .ref aS, .ref bS, .ref dS, .ref eS, .ref gS9, .ref fS])), (gS9, .inl (cG, 8, .inr (.inr (.inr (.inr (grf ro))))))] ++ rws ro cI mx) s.heap.size = A at hD ⊢
  have hA : ∀ q : Nat, s.heap.size ≤ q → A q := fun q h => by rw [← hAe]; exact Or.inr h
  have hS : va_S A s.heap s.heap [] := va_S.rf
  have hl := lv_entry ([.ref kS, .int (nI g), .int (nI o)]) (n := 4) (Nat.le_of_ble_eq_true rfl)
  rw [lg_entry_eq]
  generalize (lg_sl ([.ref kS, .int (nI g), .int (nI o)]) ++ List.replicate (4 - (lg_sl ([.ref kS, .int (nI g), .int (nI o)])).length) Slot.unset).toArray = ls at hl ⊢
  have hl : lv_has ls 4 [(0, .ref kS), (1, .int (nI g)), (2, .int (nI o))] := hl
  generalize hRe : (headSpec wsSE_addMove ({ frames := 0, cells := 0, slots := 0, locals := 0 })).room = R
  have hRf : 0 ≤ R.frames := by rw [← hRe]; exact Nat.le_refl _
  have hRl : 0 ≤ R.locals := by rw [← hRe]; exact Nat.le_refl _
  have hRc : 0 ≤ R.cells := by rw [← hRe]; exact Nat.le_refl _
  have hRs : 0 ≤ R.slots := by rw [← hRe]; exact Nat.le_refl _
  generalize hargs : (List.toArray [.ref kS, .int (nI g), .int (nI o)] : Array Value) = args at hts ⊢
  generalize hQe : MQ below _ args s _ _ _ = Q
  refine lv_iconst (v := nI 0) hx hb dSE_addMove_0 (by decide +kernel) ?_
  refine lv_istore_n (lv' := [(3, .int (nI 0)), (0, .ref kS), (1, .int (nI g)), (2, .int (nI o))]) hx hb dSE_addMove_1 rfl hl (by decide) rfl (fun ls hl => ?_)
  rw [← amF_0 mx g o] at hP hD
  have loop_2 : ∀ (n9 : Nat) (i : Nat), i ≤ K + 1 → (K + 1) + 1 ≤ i + n9 → ∀ (H : Heap) (locs : List Loc), va_P (dC, dI) vwCl ([(kS, .inr (6, [.int (nI (K + 1)), .int (nI G), .int (nI ll), .int (nI lm), .ref aS, .ref bS, .ref dS, .ref eS, .ref gS9, .ref fS])), (gS9, .inl (cG, 8, .inr (.inr (.inr (.inr (grf ro))))))] ++ rws ro cI (amF mx g o i)) H → va_D A ([(kS, .inr (6, [.int (nI (K + 1)), .int (nI G), .int (nI ll), .int (nI lm), .ref aS, .ref bS, .ref dS, .ref eS, .ref gS9, .ref fS])), (gS9, .inl (cG, 8, .inr (.inr (.inr (.inr (grf ro))))))] ++ rws ro cI (amF mx g o i)) → va_S A s.heap H locs → ∀ (ls : Array Slot), lv_has ls 4 [(3, .int (nI i)), (0, .ref kS), (1, .int (nI g)), (2, .int (nI o))] → W p l e R s m args below meth c H locs 0 0 Q (F0 m 2 ls []) := by
    intro n9
    induction n9 with
    | zero =>
      intro i hi hmeas
      exact absurd hmeas (by omega)
    | succ n9 ih_2 =>
      intro i hi hmeas H locs hP hD hS ls hl
      refine lv_iload_n hx hb dSE_addMove_2 rfl (lv_at hl 0 rfl) ?_
      refine lv_aload_n hx hb dSE_addMove_3 rfl (lv_at hl 1 rfl) ?_
      refine va_get (D := (dC, dI)) (ci := 6) (v := .int (nI (K + 1))) (C := RSE) (T := TSE) (N := 10) hx hb hts (fun w h => List.mem_cons_of_mem _ (inSE w h)) hown hK hP 0 rfl rfl 0 (by decide) (hts _ (List.mem_cons_of_mem _ kw_116)) (fun _ h9 => h9) rfl dSE_addMove_4 ?_
      refine hr_icmp_ge hx hb (x := i) (y := (K + 1)) (by omega) (by omega) (tgt := 37) dSE_addMove_7 (by decide) (fun c_1 => ?_) (fun c_1 => ?_)
      · have ei : i = K + 1 := by omega
        rw [ei] at hP hD
        rw [← hQe]
        exact W.vret hx hb hr (fun t ht hW => ⟨⟨(), rfl, trivial, by rw [ht]; exact hP, hD⟩, hS.F ht⟩) hS.2.2 dSE_addMove_37
      · refine lv_aload_n hx hb dSE_addMove_10 rfl (lv_at hl 1 rfl) ?_
        refine va_get (D := (dC, dI)) (ci := 6) (v := .ref gS9) (C := RSE) (T := TSE) (N := 10) hx hb hts (fun w h => List.mem_cons_of_mem _ (inSE w h)) hown hK hP 0 rfl rfl 8 (by decide) (hts _ (List.mem_cons_of_mem _ kw_124)) (fun _ h9 => h9) rfl dSE_addMove_11 ?_
        refine lv_iload_n hx hb dSE_addMove_14 rfl (lv_at hl 2 rfl) ?_
        refine hr_aaldG hx hb hK hP 1 2 rfl rfl (i := g) (by omega) dSE_addMove_15 ?_
        refine lv_iload_n hx hb dSE_addMove_16 rfl (lv_at hl 0 rfl) ?_
        refine lv_dup2_11 hx hb dSE_addMove_17 rfl rfl ?_
        refine hr_iald hx hb hK hP (2 + g) 0 (rws_at (K := 2) rfl (by omega)) rfl (i := i) (by omega) (by omega) dSE_addMove_18 ?_
        refine lv_iload_n hx hb dSE_addMove_19 rfl (lv_at hl 0 rfl) ?_
        refine lv_iload_n hx hb dSE_addMove_20 rfl (lv_at hl 3 rfl) ?_
        refine hr_icmp_ne hx hb (x := i) (y := o) (by omega) (by omega) (tgt := 28) dSE_addMove_21 (by decide) (fun c_2 => ?_) (fun c_2 => ?_)
        · refine lv_iconst (v := nI 1) hx hb dSE_addMove_28 (by decide +kernel) ?_
          refine lv_iadd hx hb dSE_addMove_29 ?_
          refine hr_eqi (nI_add _ _) ?_
          refine hr_iastN hx hb hK hP hD hS (2 + g) 0 (rws_at (K := 2) rfl (by omega)) rfl (i := i) (by omega) (by omega) dSE_addMove_30 (fun H locs hP hD hS => ?_)
          rw [rws_set (K := 2) rfl] at hP hD
          have hP : va_P (dC, dI) vwCl ([(kS, .inr (6, [.int (nI (K + 1)), .int (nI G), .int (nI ll), .int (nI lm), .ref aS, .ref bS, .ref dS, .ref eS, .ref gS9, .ref fS])), (gS9, .inl (cG, 8, .inr (.inr (.inr (.inr (grf ro))))))] ++ rws ro cI (va_up (amF mx g o i) g (va_up ((amF mx g o i) g) i ((((amF mx g o i) g) i) + 1)))) H := hP
          have hD : va_D A ([(kS, .inr (6, [.int (nI (K + 1)), .int (nI G), .int (nI ll), .int (nI lm), .ref aS, .ref bS, .ref dS, .ref eS, .ref gS9, .ref fS])), (gS9, .inl (cG, 8, .inr (.inr (.inr (.inr (grf ro))))))] ++ rws ro cI (va_up (amF mx g o i) g (va_up ((amF mx g o i) g) i ((((amF mx g o i) g) i) + 1)))) := hD
          refine lv_iinc (v := nI (i + 1)) (lv' := [(3, .int (nI (i + 1))), (0, .ref kS), (1, .int (nI g)), (2, .int (nI o))]) hx hb dSE_addMove_31 hl (k := 0) rfl (hr_inc _) (by decide) rfl (fun ls hl => ?_)
          refine lv_goto (tgt := 2) hx hb dSE_addMove_34 (by decide) ?_
          rw [amF_up mx g o i (by rw [if_neg c_2])] at hP hD
          exact ih_2 (i + 1) (by omega) (by omega) _ _ hP hD hS ls (lv_sub hl [0, 1, 2, 3] rfl)
        · refine lv_iconst (v := nI 0) hx hb dSE_addMove_24 (by decide +kernel) ?_
          refine lv_goto (tgt := 29) hx hb dSE_addMove_25 (by decide) ?_
          refine lv_iadd hx hb dSE_addMove_29 ?_
          refine hr_eqi (nI_add _ _) ?_
          refine hr_iastN hx hb hK hP hD hS (2 + g) 0 (rws_at (K := 2) rfl (by omega)) rfl (i := i) (by omega) (by omega) dSE_addMove_30 (fun H locs hP hD hS => ?_)
          rw [rws_set (K := 2) rfl] at hP hD
          have hP : va_P (dC, dI) vwCl ([(kS, .inr (6, [.int (nI (K + 1)), .int (nI G), .int (nI ll), .int (nI lm), .ref aS, .ref bS, .ref dS, .ref eS, .ref gS9, .ref fS])), (gS9, .inl (cG, 8, .inr (.inr (.inr (.inr (grf ro))))))] ++ rws ro cI (va_up (amF mx g o i) g (va_up ((amF mx g o i) g) i ((((amF mx g o i) g) i) + 0)))) H := hP
          have hD : va_D A ([(kS, .inr (6, [.int (nI (K + 1)), .int (nI G), .int (nI ll), .int (nI lm), .ref aS, .ref bS, .ref dS, .ref eS, .ref gS9, .ref fS])), (gS9, .inl (cG, 8, .inr (.inr (.inr (.inr (grf ro))))))] ++ rws ro cI (va_up (amF mx g o i) g (va_up ((amF mx g o i) g) i ((((amF mx g o i) g) i) + 0)))) := hD
          refine lv_iinc (v := nI (i + 1)) (lv' := [(3, .int (nI (i + 1))), (0, .ref kS), (1, .int (nI g)), (2, .int (nI o))]) hx hb dSE_addMove_31 hl (k := 0) rfl (hr_inc _) (by decide) rfl (fun ls hl => ?_)
          refine lv_goto (tgt := 2) hx hb dSE_addMove_34 (by decide) ?_
          rw [amF_up mx g o i (by rw [if_pos c_2])] at hP hD
          exact ih_2 (i + 1) (by omega) (by omega) _ _ hP hD hS ls (lv_sub hl [0, 1, 2, 3] rfl)
  exact loop_2 ((K + 1) + 1) 0 (by omega) (by omega) _ _ hP hD hS ls (lv_sub hl [0, 1, 2, 3] rfl)

set_option maxHeartbeats 4000000 in
set_option maxRecDepth 100000 in
/-- how many would be MOVED -/
theorem c_SE_countMoves (l : Launch) (dC : Nat → ClassId) (dI : Nat → Nat → Nat) (cI cZ cG : ClassId) (kS : Nat) (aS : Nat) (bS : Nat) (dS : Nat) (eS : Nat) (gS9 : Nat) (fS : Nat) (K : Nat) (G : Nat) (ll : Nat) (lm : Nat) (ro : Nat → Nat) (mx : Nat → Nat → Nat) (hG : Nat) (aG : Nat) (bG : Nat) (dG : Nat) (gG : Nat) (gc : Nat) (gn : Nat) (gF : Nat → Nat) (gT : Nat → Nat) (gS : Nat → Option Nat) (gO : Nat → Nat) (h : Nat) (a : Nat) (b : Nat) (d : Nat) (sc : Nat) (mv : Nat) (sm : Nat → Nat) (zs : Nat → Nat) (sf : Nat → Option Nat) (sz : Nat) (hK3 : K ≤ 3) (hG8 : G ≤ 8) (hgn : gn ≤ 24) (hgF : ∀ g, g < G → gF g ≤ gn ∧ ∀ j, j < gF g → ¬ gO j = g) (hgO : ∀ j, j < gn → gO j < 24) (hsf : ∀ j, j < 24 → ∀ q, sf j = some q → q < 4) : Met l ySE_countMoves wsSE_countMoves ({ frames := 2, cells := 0, slots := 0, locals := 43 }) (va_Pc [.ref kS, .ref hG, .ref h] (fun U => U.heap.size = sz ∧ va_P (dC, dI) vwCl ([(kS, .inr (6, [.int (nI (K + 1)), .int (nI G), .int (nI ll), .int (nI lm), .ref aS, .ref bS, .ref dS, .ref eS, .ref gS9, .ref fS])), (gS9, .inl (cG, 8, .inr (.inr (.inr (.inr (grf ro)))))), (hG, .inr (1, [.int (nI gc), .int (nI gn), .ref aG, .ref bG, .ref dG, .ref gG])), (aG, .inl (cI, 24, .inl (fun j9 => nI (gF j9)))), (bG, .inl (cI, 24, .inl (fun j9 => nI (gT j9)))), (dG, .inl (cI, 24, .inl (fun j9 => oI (gS j9)))), (gG, .inl (cI, 24, .inl (fun j9 => nI (gO j9)))), (h, .inr (5, [.int (nI sc), .int (nI mv), .ref a, .ref b, .ref d])), (a, .inl (cI, 4, .inl (fun j9 => nI (sm j9)))), (b, .inl (cI, 4, .inl (fun j9 => nI (zs j9)))), (d, .inl (cI, 24, .inl (fun j9 => oI (sf j9))))] ++ rws ro cI mx) U.heap ∧ KX dC dI cI cZ cG U ∧ va_D (fun _ => True) ([(kS, .inr (6, [.int (nI (K + 1)), .int (nI G), .int (nI ll), .int (nI lm), .ref aS, .ref bS, .ref dS, .ref eS, .ref gS9, .ref fS])), (gS9, .inl (cG, 8, .inr (.inr (.inr (.inr (grf ro)))))), (hG, .inr (1, [.int (nI gc), .int (nI gn), .ref aG, .ref bG, .ref dG, .ref gG])), (aG, .inl (cI, 24, .inl (fun j9 => nI (gF j9)))), (bG, .inl (cI, 24, .inl (fun j9 => nI (gT j9)))), (dG, .inl (cI, 24, .inl (fun j9 => oI (gS j9)))), (gG, .inl (cI, 24, .inl (fun j9 => nI (gO j9)))), (h, .inr (5, [.int (nI sc), .int (nI mv), .ref a, .ref b, .ref d])), (a, .inl (cI, 4, .inl (fun j9 => nI (sm j9)))), (b, .inl (cI, 4, .inl (fun j9 => nI (zs j9)))), (d, .inl (cI, 24, .inl (fun j9 => oI (sf j9))))] ++ rws ro cI mx))) (va_Qv (fun (u : (Nat → Nat → Nat)) => ∀ x, x < G → ∀ s, s < K + 1 → u x s = mvI sf gO x s gn) (fun u t => va_P (dC, dI) vwCl ([(kS, .inr (6, [.int (nI (K + 1)), .int (nI G), .int (nI ll), .int (nI lm), .ref aS, .ref bS, .ref dS, .ref eS, .ref gS9, .ref fS])), (gS9, .inl (cG, 8, .inr (.inr (.inr (.inr (grf ro)))))), (hG, .inr (1, [.int (nI gc), .int (nI gn), .ref aG, .ref bG, .ref dG, .ref gG])), (aG, .inl (cI, 24, .inl (fun j9 => nI (gF j9)))), (bG, .inl (cI, 24, .inl (fun j9 => nI (gT j9)))), (dG, .inl (cI, 24, .inl (fun j9 => oI (gS j9)))), (gG, .inl (cI, 24, .inl (fun j9 => nI (gO j9)))), (h, .inr (5, [.int (nI sc), .int (nI mv), .ref a, .ref b, .ref d])), (a, .inl (cI, 4, .inl (fun j9 => nI (sm j9)))), (b, .inl (cI, 4, .inl (fun j9 => nI (zs j9)))), (d, .inl (cI, 24, .inl (fun j9 => oI (sf j9))))] ++ rws ro cI u) t.heap ∧ va_D (va_A ([(kS, .inr (6, [.int (nI (K + 1)), .int (nI G), .int (nI ll), .int (nI lm), .ref aS, .ref bS, .ref dS, .ref eS, .ref gS9, .ref fS])), (gS9, .inl (cG, 8, .inr (.inr (.inr (.inr (grf ro)))))), (hG, .inr (1, [.int (nI gc), .int (nI gn), .ref aG, .ref bG, .ref dG, .ref gG])), (aG, .inl (cI, 24, .inl (fun j9 => nI (gF j9)))), (bG, .inl (cI, 24, .inl (fun j9 => nI (gT j9)))), (dG, .inl (cI, 24, .inl (fun j9 => oI (gS j9)))), (gG, .inl (cI, 24, .inl (fun j9 => nI (gO j9)))), (h, .inr (5, [.int (nI sc), .int (nI mv), .ref a, .ref b, .ref d])), (a, .inl (cI, 4, .inl (fun j9 => nI (sm j9)))), (b, .inl (cI, 4, .inl (fun j9 => nI (zs j9)))), (d, .inl (cI, 24, .inl (fun j9 => oI (sf j9))))] ++ rws ro cI mx) sz) ([(kS, .inr (6, [.int (nI (K + 1)), .int (nI G), .int (nI ll), .int (nI lm), .ref aS, .ref bS, .ref dS, .ref eS, .ref gS9, .ref fS])), (gS9, .inl (cG, 8, .inr (.inr (.inr (.inr (grf ro)))))), (hG, .inr (1, [.int (nI gc), .int (nI gn), .ref aG, .ref bG, .ref dG, .ref gG])), (aG, .inl (cI, 24, .inl (fun j9 => nI (gF j9)))), (bG, .inl (cI, 24, .inl (fun j9 => nI (gT j9)))), (dG, .inl (cI, 24, .inl (fun j9 => oI (gS j9)))), (gG, .inl (cI, 24, .inl (fun j9 => nI (gO j9)))), (h, .inr (5, [.int (nI sc), .int (nI mv), .ref a, .ref b, .ref d])), (a, .inl (cI, 4, .inl (fun j9 => nI (sm j9)))), (b, .inl (cI, 4, .inl (fun j9 => nI (zs j9)))), (d, .inl (cI, 24, .inl (fun j9 => oI (sf j9))))] ++ rws ro cI u)) (va_A ([(kS, .inr (6, [.int (nI (K + 1)), .int (nI G), .int (nI ll), .int (nI lm), .ref aS, .ref bS, .ref dS, .ref eS, .ref gS9, .ref fS])), (gS9, .inl (cG, 8, .inr (.inr (.inr (.inr (grf ro)))))), (hG, .inr (1, [.int (nI gc), .int (nI gn), .ref aG, .ref bG, .ref dG, .ref gG])), (aG, .inl (cI, 24, .inl (fun j9 => nI (gF j9)))), (bG, .inl (cI, 24, .inl (fun j9 => nI (gT j9)))), (dG, .inl (cI, 24, .inl (fun j9 => oI (gS j9)))), (gG, .inl (cI, 24, .inl (fun j9 => nI (gO j9)))), (h, .inr (5, [.int (nI sc), .int (nI mv), .ref a, .ref b, .ref d])), (a, .inl (cI, 4, .inl (fun j9 => nI (sm j9)))), (b, .inl (cI, 4, .inl (fun j9 => nI (zs j9)))), (d, .inl (cI, 24, .inl (fun j9 => oI (sf j9))))] ++ rws ro cI mx) sz)) 0 0 (va_A ([(kS, .inr (6, [.int (nI (K + 1)), .int (nI G), .int (nI ll), .int (nI lm), .ref aS, .ref bS, .ref dS, .ref eS, .ref gS9, .ref fS])), (gS9, .inl (cG, 8, .inr (.inr (.inr (.inr (grf ro)))))), (hG, .inr (1, [.int (nI gc), .int (nI gn), .ref aG, .ref bG, .ref dG, .ref gG])), (aG, .inl (cI, 24, .inl (fun j9 => nI (gF j9)))), (bG, .inl (cI, 24, .inl (fun j9 => nI (gT j9)))), (dG, .inl (cI, 24, .inl (fun j9 => oI (gS j9)))), (gG, .inl (cI, 24, .inl (fun j9 => nI (gO j9)))), (h, .inr (5, [.int (nI sc), .int (nI mv), .ref a, .ref b, .ref d])), (a, .inl (cI, 4, .inl (fun j9 => nI (sm j9)))), (b, .inl (cI, 4, .inl (fun j9 => nI (zs j9)))), (d, .inl (cI, 24, .inl (fun j9 => oI (sf j9))))] ++ rws ro cI mx) sz) := by
  refine Met.ofW (cc := cSE_countMoves) (maxL := 6) (ret := none) (by decide) rfl ?_
  intro p e s m args below meth c s₁ B hml hv
  obtain ⟨rfl, hsz, hP, hKX, hD0⟩ := hv
  have hK := hKX.1
  have hx := B.exec
  have hb := B.bytes
  have hr := B.returns
  have hts := atoms_spec (ws := wsSE_countMoves) B.pre
  have hown : s.vm.findClass RSE = some m.cls := findClass_of_methodNamed B.named
  have hlocks := B.notSynchronized
  subst hsz
  have hD := hD0.self (sz := s.heap.size)
  generalize hAe : va_A ([(kS, .inr (6, [.int (nI (K + 1)), .int (nI G), .int (nI ll), .int (nI lm), .ref aS, .ref bS, .ref dS, .ref eS, .ref gS9, .ref fS])), (gS9, .inl (cG, 8, .inr (.inr (.inr (.inr (grf ro)))))), (hG, .inr (1, [.int (nI gc), .int (nI gn), .ref aG, .ref bG, .ref dG, .ref gG])), (aG, .inl (cI, 24, .inl (fun j9 => nI (gF j9)))), (bG, .inl (cI, 24, .inl (fun j9 => nI (gT j9)))), (dG, .inl (cI, 24, .inl (fun j9 => oI (gS j9)))), (gG, .inl (cI, 24, .inl (fun j9 => nI (gO j9)))), (h, .inr (5, [.int (nI sc), .int (nI mv), .ref a, .ref b, .ref d])), (a, .inl (cI, 4, .inl (fun j9 => nI (sm j9)))), (b, .inl (cI, 4, .inl (fun j9 => nI (zs j9)))), (d, .inl (cI, 24, .inl (fun j9 => oI (sf j9))))] ++ rws ro cI mx) s.heap.size = A at hD ⊢
  have hA : ∀ q : Nat, s.heap.size ≤ q → A q := fun q h => by rw [← hAe]; exact Or.inr h
  have hS : va_S A s.heap s.heap [] := va_S.rf
  have hl := lv_entry ([.ref kS, .ref hG, .ref h]) (n := 6) (Nat.le_of_ble_eq_true rfl)
  rw [lg_entry_eq]
  generalize (lg_sl ([.ref kS, .ref hG, .ref h]) ++ List.replicate (6 - (lg_sl ([.ref kS, .ref hG, .ref h])).length) Slot.unset).toArray = ls at hl ⊢
  have hl : lv_has ls 6 [(0, .ref kS), (1, .ref hG), (2, .ref h)] := hl
  generalize hRe : (headSpec wsSE_countMoves ({ frames := 2, cells := 0, slots := 0, locals := 43 })).room = R
  have hRf : 2 ≤ R.frames := by rw [← hRe]; exact Nat.le_refl _
  have hRl : 43 ≤ R.locals := by rw [← hRe]; exact Nat.le_refl _
  have hRc : 0 ≤ R.cells := by rw [← hRe]; exact Nat.le_refl _
  have hRs : 0 ≤ R.slots := by rw [← hRe]; exact Nat.le_refl _
  generalize hargs : (List.toArray [.ref kS, .ref hG, .ref h] : Array Value) = args at hts ⊢
  generalize hQe : MQ below _ args s _ _ _ = Q
  refine lv_iconst (v := nI 0) hx hb dSE_countMoves_0 (by decide +kernel) ?_
  refine lv_istore_n (lv' := [(3, .int (nI 0)), (0, .ref kS), (1, .ref hG), (2, .ref h)]) hx hb dSE_countMoves_1 rfl hl (by decide) rfl (fun ls hl => ?_)
  have loop_2 : ∀ (n9 : Nat) (g : Nat) (mm : Nat → Nat → Nat), g ≤ G → (∀ x, x < g → ∀ q, q < K + 1 → mm x q = mvI sf gO x q gn) → G + 1 ≤ g + n9 → ∀ (H : Heap) (locs : List Loc), va_P (dC, dI) vwCl ([(kS, .inr (6, [.int (nI (K + 1)), .int (nI G), .int (nI ll), .int (nI lm), .ref aS, .ref bS, .ref dS, .ref eS, .ref gS9, .ref fS])), (gS9, .inl (cG, 8, .inr (.inr (.inr (.inr (grf ro)))))), (hG, .inr (1, [.int (nI gc), .int (nI gn), .ref aG, .ref bG, .ref dG, .ref gG])), (aG, .inl (cI, 24, .inl (fun j9 => nI (gF j9)))), (bG, .inl (cI, 24, .inl (fun j9 => nI (gT j9)))), (dG, .inl (cI, 24, .inl (fun j9 => oI (gS j9)))), (gG, .inl (cI, 24, .inl (fun j9 => nI (gO j9)))), (h, .inr (5, [.int (nI sc), .int (nI mv), .ref a, .ref b, .ref d])), (a, .inl (cI, 4, .inl (fun j9 => nI (sm j9)))), (b, .inl (cI, 4, .inl (fun j9 => nI (zs j9)))), (d, .inl (cI, 24, .inl (fun j9 => oI (sf j9))))] ++ rws ro cI mm) H → va_D A ([(kS, .inr (6, [.int (nI (K + 1)), .int (nI G), .int (nI ll), .int (nI lm), .ref aS, .ref bS, .ref dS, .ref eS, .ref gS9, .ref fS])), (gS9, .inl (cG, 8, .inr (.inr (.inr (.inr (grf ro)))))), (hG, .inr (1, [.int (nI gc), .int (nI gn), .ref aG, .ref bG, .ref dG, .ref gG])), (aG, .inl (cI, 24, .inl (fun j9 => nI (gF j9)))), (bG, .inl (cI, 24, .inl (fun j9 => nI (gT j9)))), (dG, .inl (cI, 24, .inl (fun j9 => oI (gS j9)))), (gG, .inl (cI, 24, .inl (fun j9 => nI (gO j9)))), (h, .inr (5, [.int (nI sc), .int (nI mv), .ref a, .ref b, .ref d])), (a, .inl (cI, 4, .inl (fun j9 => nI (sm j9)))), (b, .inl (cI, 4, .inl (fun j9 => nI (zs j9)))), (d, .inl (cI, 24, .inl (fun j9 => oI (sf j9))))] ++ rws ro cI mm) → va_S A s.heap H locs → ∀ (ls : Array Slot), lv_has ls 6 [(3, .int (nI g)), (0, .ref kS), (1, .ref hG), (2, .ref h)] → W p l e R s m args below meth c H locs 0 0 Q (F0 m 2 ls []) := by
    intro n9
    induction n9 with
    | zero =>
      intro g mm hg hm hmeas
      exact absurd hmeas (by omega)
    | succ n9 ih_2 =>
      intro g mm hg hm hmeas H locs hP hD hS ls hl
      refine lv_iload_n hx hb dSE_countMoves_2 rfl (lv_at hl 0 rfl) ?_
      refine lv_aload_n hx hb dSE_countMoves_3 rfl (lv_at hl 1 rfl) ?_
      refine va_get (D := (dC, dI)) (ci := 6) (v := .int (nI G)) (C := RSE) (T := TSE) (N := 10) hx hb hts (fun w h => List.mem_cons_of_mem _ (inSE w h)) hown hK hP 0 rfl rfl 1 (by decide) (hts _ (List.mem_cons_of_mem _ kw_117)) (fun _ h9 => h9) rfl dSE_countMoves_4 ?_
      refine hr_icmp_ge hx hb (x := g) (y := G) (by omega) (by omega) (tgt := 80) dSE_countMoves_7 (by decide) (fun c_1 => ?_) (fun c_1 => ?_)
      · rw [← hQe]
        exact W.vret hx hb hr (fun t ht hW => ⟨⟨mm, rfl, fun x hx s hs => hm x (by omega) s hs, by rw [ht]; exact hP, hD⟩, hS.F ht⟩) hS.2.2 dSE_countMoves_80
      · have hF1 := hgF g (by omega)
        refine lv_aload_n hx hb dSE_countMoves_10 rfl (lv_at hl 1 rfl) ?_
        refine va_get (D := (dC, dI)) (ci := 6) (v := .ref gS9) (C := RSE) (T := TSE) (N := 10) hx hb hts (fun w h => List.mem_cons_of_mem _ (inSE w h)) hown hK hP 0 rfl rfl 8 (by decide) (hts _ (List.mem_cons_of_mem _ kw_124)) (fun _ h9 => h9) rfl dSE_countMoves_11 ?_
        refine lv_iload_n hx hb dSE_countMoves_14 rfl (lv_at hl 0 rfl) ?_
        refine hr_aaldG hx hb hK hP 1 2 rfl rfl (i := g) (by omega) dSE_countMoves_15 ?_
        refine lv_iconst (v := nI 0) hx hb dSE_countMoves_16 (by decide +kernel) ?_
        have hat : ([(kS, .inr (6, [.int (nI (K + 1)), .int (nI G), .int (nI ll), .int (nI lm), .ref aS, .ref bS, .ref dS, .ref eS, .ref gS9, .ref fS])), (gS9, .inl (cG, 8, .inr (.inr (.inr (.inr (grf ro)))))), (hG, .inr (1, [.int (nI gc), .int (nI gn), .ref aG, .ref bG, .ref dG, .ref gG])), (aG, .inl (cI, 24, .inl (fun j9 => nI (gF j9)))), (bG, .inl (cI, 24, .inl (fun j9 => nI (gT j9)))), (dG, .inl (cI, 24, .inl (fun j9 => oI (gS j9)))), (gG, .inl (cI, 24, .inl (fun j9 => nI (gO j9)))), (h, .inr (5, [.int (nI sc), .int (nI mv), .ref a, .ref b, .ref d])), (a, .inl (cI, 4, .inl (fun j9 => nI (sm j9)))), (b, .inl (cI, 4, .inl (fun j9 => nI (zs j9)))), (d, .inl (cI, 24, .inl (fun j9 => oI (sf j9))))] ++ rws ro cI mm)[11 + g]? = some (ro g, .inl (cI, 4, .inl (fun j9 => nI (mm g j9)))) := rws_at (K := 11) rfl (by omega)
        refine hr_call1v (va_runS (As := [.ref (ro g), .int (nI 0)]) (rest := []) ⟨hx, hb, hml, hown, hts⟩ (c_AR_fill l dC dI cI cZ cG (ro g) 4 (fun j9 => nI (mm g j9)) (nI 0) H.size (by decide)) (hr_cwS 2 hts kw_332 kw_167 kw_30 kw_168 (by decide +kernel) (by rw [← hRe]; exact ⟨Nat.le_of_ble_eq_true rfl, Nat.le_of_ble_eq_true rfl⟩)) (hr_pre1S hKX hP hD (11 + g) hat) rfl rfl hl.1 rfl (lv_room (Nat.le_of_ble_eq_true rfl)) dSE_countMoves_17 ⟨by omega, by omega⟩) hP hD hS hA (11 + g) hat (fun H locs hP hD hS => ?_)
        rw [show (fun _ => nI 0 : Nat → Int32) = (fun j9 => nI ((fun _ => 0 : Nat → Nat) j9)) from rfl, rws_set (K := 11) rfl] at hP hD
        have hP : va_P (dC, dI) vwCl ([(kS, .inr (6, [.int (nI (K + 1)), .int (nI G), .int (nI ll), .int (nI lm), .ref aS, .ref bS, .ref dS, .ref eS, .ref gS9, .ref fS])), (gS9, .inl (cG, 8, .inr (.inr (.inr (.inr (grf ro)))))), (hG, .inr (1, [.int (nI gc), .int (nI gn), .ref aG, .ref bG, .ref dG, .ref gG])), (aG, .inl (cI, 24, .inl (fun j9 => nI (gF j9)))), (bG, .inl (cI, 24, .inl (fun j9 => nI (gT j9)))), (dG, .inl (cI, 24, .inl (fun j9 => oI (gS j9)))), (gG, .inl (cI, 24, .inl (fun j9 => nI (gO j9)))), (h, .inr (5, [.int (nI sc), .int (nI mv), .ref a, .ref b, .ref d])), (a, .inl (cI, 4, .inl (fun j9 => nI (sm j9)))), (b, .inl (cI, 4, .inl (fun j9 => nI (zs j9)))), (d, .inl (cI, 24, .inl (fun j9 => oI (sf j9))))] ++ rws ro cI (va_up mm g (fun _ => 0))) H := hP
        have hD : va_D A ([(kS, .inr (6, [.int (nI (K + 1)), .int (nI G), .int (nI ll), .int (nI lm), .ref aS, .ref bS, .ref dS, .ref eS, .ref gS9, .ref fS])), (gS9, .inl (cG, 8, .inr (.inr (.inr (.inr (grf ro)))))), (hG, .inr (1, [.int (nI gc), .int (nI gn), .ref aG, .ref bG, .ref dG, .ref gG])), (aG, .inl (cI, 24, .inl (fun j9 => nI (gF j9)))), (bG, .inl (cI, 24, .inl (fun j9 => nI (gT j9)))), (dG, .inl (cI, 24, .inl (fun j9 => oI (gS j9)))), (gG, .inl (cI, 24, .inl (fun j9 => nI (gO j9)))), (h, .inr (5, [.int (nI sc), .int (nI mv), .ref a, .ref b, .ref d])), (a, .inl (cI, 4, .inl (fun j9 => nI (sm j9)))), (b, .inl (cI, 4, .inl (fun j9 => nI (zs j9)))), (d, .inl (cI, 24, .inl (fun j9 => oI (sf j9))))] ++ rws ro cI (va_up mm g (fun _ => 0))) := hD
        refine lv_aload_n hx hb dSE_countMoves_20 rfl (lv_at hl 2 rfl) ?_
        refine va_get (D := (dC, dI)) (ci := 1) (v := .ref aG) (C := RGR) (T := TGR) (N := 6) hx hb hts (fun w h => List.mem_cons_of_mem _ (inGR w h)) hown hK hP 2 rfl rfl 2 (by decide) (hts _ (List.mem_cons_of_mem _ kw_85)) (fun _ h9 => h9) rfl dSE_countMoves_21 ?_
        refine lv_iload_n hx hb dSE_countMoves_24 rfl (lv_at hl 0 rfl) ?_
        refine hr_iald hx hb hK hP 3 0 rfl rfl (i := g) (by omega) (by omega) dSE_countMoves_25 ?_
        refine lv_istore (lv' := [(4, .int (nI (gF g))), (3, .int (nI g)), (0, .ref kS), (1, .ref hG), (2, .ref h)]) hx hb dSE_countMoves_26 hl (by decide) rfl (fun ls hl => ?_)
        have loop_28 : ∀ (n9 : Nat) (t : Nat) (m2 : Nat → Nat → Nat), t ≤ gn → (∀ x, x < g → ∀ q, q < K + 1 → m2 x q = mvI sf gO x q gn) → (∀ q, q < K + 1 → m2 g q = mvI sf gO g q t) → gn + 1 ≤ t + n9 → ∀ (H : Heap) (locs : List Loc), va_P (dC, dI) vwCl ([(kS, .inr (6, [.int (nI (K + 1)), .int (nI G), .int (nI ll), .int (nI lm), .ref aS, .ref bS, .ref dS, .ref eS, .ref gS9, .ref fS])), (gS9, .inl (cG, 8, .inr (.inr (.inr (.inr (grf ro)))))), (hG, .inr (1, [.int (nI gc), .int (nI gn), .ref aG, .ref bG, .ref dG, .ref gG])), (aG, .inl (cI, 24, .inl (fun j9 => nI (gF j9)))), (bG, .inl (cI, 24, .inl (fun j9 => nI (gT j9)))), (dG, .inl (cI, 24, .inl (fun j9 => oI (gS j9)))), (gG, .inl (cI, 24, .inl (fun j9 => nI (gO j9)))), (h, .inr (5, [.int (nI sc), .int (nI mv), .ref a, .ref b, .ref d])), (a, .inl (cI, 4, .inl (fun j9 => nI (sm j9)))), (b, .inl (cI, 4, .inl (fun j9 => nI (zs j9)))), (d, .inl (cI, 24, .inl (fun j9 => oI (sf j9))))] ++ rws ro cI m2) H → va_D A ([(kS, .inr (6, [.int (nI (K + 1)), .int (nI G), .int (nI ll), .int (nI lm), .ref aS, .ref bS, .ref dS, .ref eS, .ref gS9, .ref fS])), (gS9, .inl (cG, 8, .inr (.inr (.inr (.inr (grf ro)))))), (hG, .inr (1, [.int (nI gc), .int (nI gn), .ref aG, .ref bG, .ref dG, .ref gG])), (aG, .inl (cI, 24, .inl (fun j9 => nI (gF j9)))), (bG, .inl (cI, 24, .inl (fun j9 => nI (gT j9)))), (dG, .inl (cI, 24, .inl (fun j9 => oI (gS j9)))), (gG, .inl (cI, 24, .inl (fun j9 => nI (gO j9)))), (h, .inr (5, [.int (nI sc), .int (nI mv), .ref a, .ref b, .ref d])), (a, .inl (cI, 4, .inl (fun j9 => nI (sm j9)))), (b, .inl (cI, 4, .inl (fun j9 => nI (zs j9)))), (d, .inl (cI, 24, .inl (fun j9 => oI (sf j9))))] ++ rws ro cI m2) → va_S A s.heap H locs → ∀ (ls : Array Slot), lv_has ls 6 [(4, .int (nI t)), (3, .int (nI g)), (0, .ref kS), (1, .ref hG), (2, .ref h)] → W p l e R s m args below meth c H locs 0 0 Q (F0 m 28 ls []) := by
          intro n9
          induction n9 with
          | zero =>
            intro t m2 ht hm2 hm3 hmeas
            exact absurd hmeas (by omega)
          | succ n9 ih_28 =>
            intro t m2 ht hm2 hm3 hmeas H locs hP hD hS ls hl
            refine lv_iload hx hb dSE_countMoves_28 (lv_at hl 0 rfl) ?_
            refine lv_aload_n hx hb dSE_countMoves_30 rfl (lv_at hl 3 rfl) ?_
            refine va_get (D := (dC, dI)) (ci := 1) (v := .int (nI gn)) (C := RGR) (T := TGR) (N := 6) hx hb hts (fun w h => List.mem_cons_of_mem _ (inGR w h)) hown hK hP 2 rfl rfl 1 (by decide) (hts _ (List.mem_cons_of_mem _ kw_81)) (fun _ h9 => h9) rfl dSE_countMoves_31 ?_
            refine hr_icmp_ge hx hb (x := t) (y := gn) (by omega) (by omega) (tgt := 74) dSE_countMoves_34 (by decide) (fun c_2 => ?_) (fun c_2 => ?_)
            · refine lv_iinc (v := nI (g + 1)) (lv' := [(3, .int (nI (g + 1))), (4, .int (nI t)), (0, .ref kS), (1, .ref hG), (2, .ref h)]) hx hb dSE_countMoves_74 hl (k := 1) rfl (hr_inc _) (by decide) rfl (fun ls hl => ?_)
              refine lv_goto (tgt := 2) hx hb dSE_countMoves_77 (by decide) ?_
              exact ih_2 (g + 1) m2 (by omega) (fun x hx s hs => by
      rcases (show x = g ∨ x < g by omega) with z | z
      · rw [z, hm3 s hs, show t = gn by omega]
      · exact hm2 x z s hs) (by omega) _ _ hP hD hS ls (lv_sub hl [0, 2, 3, 4] rfl)
            · refine lv_aload_n hx hb dSE_countMoves_37 rfl (lv_at hl 4 rfl) ?_
              refine lv_iload hx hb dSE_countMoves_38 (lv_at hl 0 rfl) ?_
              refine vp_callSi (va_runV (C := RSP) (As := [.int (nI t)]) (rest := []) ⟨hx, hb, hml, hown, hts⟩ (c_SP_shardAt l dC dI cI cZ cG h a b d sc mv sm zs sf (nI t)) (hr_cwV 1 hts kw_333 kw_334 kw_335 kw_29 kw_336 (by decide +kernel) (by rw [← hRe]; exact ⟨Nat.le_of_ble_eq_true rfl, Nat.le_of_ble_eq_true rfl⟩)) (hr_preR hKX hP [7, 8, 9, 10] rfl (ci := 5) (q0 := 7) (q := (RSP, TSP, 5)) rfl rfl) rfl rfl hl.1 rfl (lv_room (Nat.le_of_ble_eq_true rfl)) dSE_countMoves_40 ⟨by omega, by omega⟩).run (fun rv hrv => ?_)
              refine hr_eqi hrv ?_
              refine hr_eqi (show oI (shA sf (nI t)) = oI (sf t) by rw [shA_nI (by omega)]) ?_
              refine lv_istore (lv' := [(5, .int (oI (sf t))), (4, .int (nI t)), (3, .int (nI g)), (0, .ref kS), (1, .ref hG), (2, .ref h)]) hx hb dSE_countMoves_43 hl (by decide) rfl (fun ls hl => ?_)
              refine lv_iload hx hb dSE_countMoves_45 (lv_at hl 0 rfl) ?_
              refine lv_iconst (v := (-1)) hx hb dSE_countMoves_47 (by decide +kernel) ?_
              refine lv_icmp_eq (tgt := 68) hx hb dSE_countMoves_48 (by decide) (fun c_3 => ?_) (fun c_3 => ?_)
              · have hsf1 := (oI_m1 (fun z hz => by have := hsf t (by omega) z hz; omega)).mp c_3
                refine lv_iinc (v := nI (t + 1)) (lv' := [(4, .int (nI (t + 1))), (5, .int (oI (sf t))), (3, .int (nI g)), (0, .ref kS), (1, .ref hG), (2, .ref h)]) hx hb dSE_countMoves_68 hl (k := 1) rfl (hr_inc _) (by decide) rfl (fun ls hl => ?_)
                refine lv_goto (tgt := 28) hx hb dSE_countMoves_71 (by decide) ?_
                exact ih_28 (t + 1) m2 (by omega) (hm2) (fun s hs => by rw [mvI_no hsf1]; exact hm3 s hs) (by omega) _ _ hP hD hS ls (lv_sub hl [0, 2, 3, 4, 5] rfl)
              · obtain ⟨q, hsf1⟩ : ∃ q, sf t = some q := by
                  cases e9 : sf t with
                  | none => exact absurd (by rw [e9]; rfl) c_3
                  | some q => exact ⟨q, rfl⟩
                have hq4 := hsf t (by omega) q hsf1
                rw [hsf1] at hl
                have hl : lv_has ls 6 [(5, .int (nI q)), (4, .int (nI t)), (3, .int (nI g)), (0, .ref kS), (1, .ref hG), (2, .ref h)] := hl
                refine lv_aload_n hx hb dSE_countMoves_51 rfl (lv_at hl 4 rfl) ?_
                refine lv_iload hx hb dSE_countMoves_52 (lv_at hl 1 rfl) ?_
                refine vp_callSi (va_runV (C := RGR) (As := [.int (nI t)]) (rest := []) ⟨hx, hb, hml, hown, hts⟩ (c_GR_groupAt l dC dI cI cZ cG hG aG bG dG gG gc gn gF gT gS gO (nI t) (hgn)) (hr_cwV 1 hts kw_340 kw_317 kw_318 kw_26 kw_319 (by decide +kernel) (by rw [← hRe]; exact ⟨Nat.le_of_ble_eq_true rfl, Nat.le_of_ble_eq_true rfl⟩)) (hr_preR hKX hP [2, 3, 4, 5, 6] rfl (ci := 1) (q0 := 2) (q := (RGR, TGR, 6)) rfl rfl) rfl rfl hl.1 rfl (lv_room (Nat.le_of_ble_eq_true rfl)) dSE_countMoves_54 ⟨by omega, by omega⟩).run (fun rv hrv => ?_)
                refine hr_eqi hrv ?_
                refine hr_eqi (show oI (rowA gn gO (nI t)) = nI (gO t) by rw [rowA_nI (by omega) (by omega)]; rfl) ?_
                have hO1 := hgO t (by omega)
                refine lv_iload_n hx hb dSE_countMoves_57 rfl (lv_at hl 2 rfl) ?_
                refine hr_icmp_ne hx hb (x := (gO t)) (y := g) (by omega) (by omega) (tgt := 68) dSE_countMoves_58 (by decide) (fun c_4 => ?_) (fun c_4 => ?_)
                · refine lv_iinc (v := nI (t + 1)) (lv' := [(4, .int (nI (t + 1))), (5, .int (nI q)), (3, .int (nI g)), (0, .ref kS), (1, .ref hG), (2, .ref h)]) hx hb dSE_countMoves_68 hl (k := 1) rfl (hr_inc _) (by decide) rfl (fun ls hl => ?_)
                  refine lv_goto (tgt := 28) hx hb dSE_countMoves_71 (by decide) ?_
                  exact ih_28 (t + 1) m2 (by omega) (hm2) (fun s hs => by rw [mvI_skip c_4]; exact hm3 s hs) (by omega) _ _ hP hD hS ls (lv_sub hl [0, 2, 3, 4, 5] rfl)
                · refine lv_aload_n hx hb dSE_countMoves_61 rfl (lv_at hl 3 rfl) ?_
                  refine lv_iload_n hx hb dSE_countMoves_62 rfl (lv_at hl 2 rfl) ?_
                  refine lv_iload hx hb dSE_countMoves_63 (lv_at hl 0 rfl) ?_
                  refine hr_callv (wr := [(hG, .inr (1, [.int (nI gc), .int (nI gn), .ref aG, .ref bG, .ref dG, .ref gG])), (aG, .inl (cI, 24, .inl (fun j9 => nI (gF j9)))), (bG, .inl (cI, 24, .inl (fun j9 => nI (gT j9)))), (dG, .inl (cI, 24, .inl (fun j9 => oI (gS j9)))), (gG, .inl (cI, 24, .inl (fun j9 => nI (gO j9)))), (h, .inr (5, [.int (nI sc), .int (nI mv), .ref a, .ref b, .ref d])), (a, .inl (cI, 4, .inl (fun j9 => nI (sm j9)))), (b, .inl (cI, 4, .inl (fun j9 => nI (zs j9)))), (d, .inl (cI, 24, .inl (fun j9 => oI (sf j9))))]) (va_runV (C := RSE) (As := [.int (nI g), .int (nI q)]) (rest := []) ⟨hx, hb, hml, hown, hts⟩ (c_SE_addMove l dC dI cI cZ cG kS aS bS dS eS gS9 fS K G ll lm ro m2 g q H.size (hK3) (by omega) (by omega)) (hr_cwV 2 hts kw_341 kw_343 kw_2 kw_27 kw_344 (by decide +kernel) (by rw [← hRe]; exact ⟨Nat.le_of_ble_eq_true rfl, Nat.le_of_ble_eq_true rfl⟩)) (hr_preW hKX hP hD [0, 1, 11, 12, 13, 14, 15, 16, 17, 18] (by decide) rfl (ci := 6) (q0 := 0) (q := (RSE, TSE, 10)) rfl rfl) rfl rfl hl.1 rfl (lv_room (Nat.le_of_ble_eq_true rfl)) dSE_countMoves_65 ⟨by omega, by omega⟩) hP hD hS hA [0, 1, 11, 12, 13, 14, 15, 16, 17, 18] [2, 3, 4, 5, 6, 7, 8, 9, 10] rfl rfl (by decide) (by decide) [9, 10, 0, 1, 2, 3, 4, 5, 6, 7, 8, 11, 12, 13, 14, 15, 16, 17, 18] (fun u => [(kS, .inr (6, [.int (nI (K + 1)), .int (nI G), .int (nI ll), .int (nI lm), .ref aS, .ref bS, .ref dS, .ref eS, .ref gS9, .ref fS])), (gS9, .inl (cG, 8, .inr (.inr (.inr (.inr (grf ro)))))), (hG, .inr (1, [.int (nI gc), .int (nI gn), .ref aG, .ref bG, .ref dG, .ref gG])), (aG, .inl (cI, 24, .inl (fun j9 => nI (gF j9)))), (bG, .inl (cI, 24, .inl (fun j9 => nI (gT j9)))), (dG, .inl (cI, 24, .inl (fun j9 => oI (gS j9)))), (gG, .inl (cI, 24, .inl (fun j9 => nI (gO j9)))), (h, .inr (5, [.int (nI sc), .int (nI mv), .ref a, .ref b, .ref d])), (a, .inl (cI, 4, .inl (fun j9 => nI (sm j9)))), (b, .inl (cI, 4, .inl (fun j9 => nI (zs j9)))), (d, .inl (cI, 24, .inl (fun j9 => oI (sf j9))))] ++ rws ro cI (amF m2 g q (K + 1))) (by decide) (fun u => rfl) (fun u H locs hrv hP hD hS => ?_)
                  have hP : va_P (dC, dI) vwCl ([(kS, .inr (6, [.int (nI (K + 1)), .int (nI G), .int (nI ll), .int (nI lm), .ref aS, .ref bS, .ref dS, .ref eS, .ref gS9, .ref fS])), (gS9, .inl (cG, 8, .inr (.inr (.inr (.inr (grf ro)))))), (hG, .inr (1, [.int (nI gc), .int (nI gn), .ref aG, .ref bG, .ref dG, .ref gG])), (aG, .inl (cI, 24, .inl (fun j9 => nI (gF j9)))), (bG, .inl (cI, 24, .inl (fun j9 => nI (gT j9)))), (dG, .inl (cI, 24, .inl (fun j9 => oI (gS j9)))), (gG, .inl (cI, 24, .inl (fun j9 => nI (gO j9)))), (h, .inr (5, [.int (nI sc), .int (nI mv), .ref a, .ref b, .ref d])), (a, .inl (cI, 4, .inl (fun j9 => nI (sm j9)))), (b, .inl (cI, 4, .inl (fun j9 => nI (zs j9)))), (d, .inl (cI, 24, .inl (fun j9 => oI (sf j9))))] ++ rws ro cI (amF m2 g q (K + 1))) H := hP
                  have hD : va_D A ([(kS, .inr (6, [.int (nI (K + 1)), .int (nI G), .int (nI ll), .int (nI lm), .ref aS, .ref bS, .ref dS, .ref eS, .ref gS9, .ref fS])), (gS9, .inl (cG, 8, .inr (.inr (.inr (.inr (grf ro)))))), (hG, .inr (1, [.int (nI gc), .int (nI gn), .ref aG, .ref bG, .ref dG, .ref gG])), (aG, .inl (cI, 24, .inl (fun j9 => nI (gF j9)))), (bG, .inl (cI, 24, .inl (fun j9 => nI (gT j9)))), (dG, .inl (cI, 24, .inl (fun j9 => oI (gS j9)))), (gG, .inl (cI, 24, .inl (fun j9 => nI (gO j9)))), (h, .inr (5, [.int (nI sc), .int (nI mv), .ref a, .ref b, .ref d])), (a, .inl (cI, 4, .inl (fun j9 => nI (sm j9)))), (b, .inl (cI, 4, .inl (fun j9 => nI (zs j9)))), (d, .inl (cI, 24, .inl (fun j9 => oI (sf j9))))] ++ rws ro cI (amF m2 g q (K + 1))) := hD
                  refine lv_iinc (v := nI (t + 1)) (lv' := [(4, .int (nI (t + 1))), (5, .int (nI q)), (3, .int (nI g)), (0, .ref kS), (1, .ref hG), (2, .ref h)]) hx hb dSE_countMoves_68 hl (k := 1) rfl (hr_inc _) (by decide) rfl (fun ls hl => ?_)
                  refine lv_goto (tgt := 28) hx hb dSE_countMoves_71 (by decide) ?_
                  exact ih_28 (t + 1) (amF m2 g q (K + 1)) (by omega) (fun x hx s hs => by rw [amF_other (by omega)]; exact hm2 x hx s hs) (fun s hs => by rw [amF_row hs, hm3 s hs, mvI_hit c_4 hsf1]) (by omega) _ _ hP hD hS ls (lv_sub hl [0, 2, 3, 4, 5] rfl)
        exact loop_28 (gn + 1) (gF g) (va_up mm g (fun _ => 0)) (by omega) (fun x hx s hs => by rw [va_up_ne _ _ (by omega)]; exact hm x hx s hs) (fun s hs => by rw [va_up_self, mvI_0 hF1.2]) (by omega) _ _ hP hD hS ls (lv_sub hl [0, 1, 2, 3, 4] rfl)
  exact loop_2 (G + 1) 0 mx (by omega) (fun x hx => absurd hx (Nat.not_lt_zero _)) (by omega) _ _ hP hD hS ls (lv_sub hl [0, 1, 2, 3] rfl)

set_option maxHeartbeats 4000000 in
set_option maxRecDepth 100000 in
/-- how many are MOVED at the least from a GROUP on -/
theorem c_SE_sumLeast (l : Launch) (dC : Nat → ClassId) (dI : Nat → Nat → Nat) (cI cZ cG : ClassId) (kS : Nat) (aS : Nat) (bS : Nat) (dS : Nat) (eS : Nat) (gS9 : Nat) (fS : Nat) (K : Nat) (G : Nat) (ll : Nat) (lm : Nat) (ro : Nat → Nat) (mx : Nat → Nat → Nat) (mf : Nat → Nat) (sz : Nat) (hK3 : K ≤ 3) (hG8 : G ≤ 8) (hmx : ∀ g, g < G → ∀ s, s < K + 1 → mx g s ≤ 24) : Met l ySE_sumLeastMoves wsSE_sumLeastMoves ({ frames := 1, cells := 0, slots := 0, locals := 24 }) (va_Pc [.ref kS] (fun U => U.heap.size = sz ∧ va_P (dC, dI) vwCl ([(kS, .inr (6, [.int (nI (K + 1)), .int (nI G), .int (nI ll), .int (nI lm), .ref aS, .ref bS, .ref dS, .ref eS, .ref gS9, .ref fS])), (gS9, .inl (cG, 8, .inr (.inr (.inr (.inr (grf ro)))))), (fS, .inl (cI, 9, .inl (fun j9 => nI (mf j9))))] ++ rws ro cI mx) U.heap ∧ KX dC dI cI cZ cG U ∧ va_D (fun _ => True) ([(kS, .inr (6, [.int (nI (K + 1)), .int (nI G), .int (nI ll), .int (nI lm), .ref aS, .ref bS, .ref dS, .ref eS, .ref gS9, .ref fS])), (gS9, .inl (cG, 8, .inr (.inr (.inr (.inr (grf ro)))))), (fS, .inl (cI, 9, .inl (fun j9 => nI (mf j9))))] ++ rws ro cI mx))) (va_Qv (fun (u : (Nat → Nat)) => u G = 0 ∧ (∀ g, g < G → ∀ s, s < K + 1 → u g ≤ mx g s + u (g + 1)) ∧ ∀ g, g ≤ G → u g ≤ 192) (fun u t => va_P (dC, dI) vwCl ([(kS, .inr (6, [.int (nI (K + 1)), .int (nI G), .int (nI ll), .int (nI lm), .ref aS, .ref bS, .ref dS, .ref eS, .ref gS9, .ref fS])), (gS9, .inl (cG, 8, .inr (.inr (.inr (.inr (grf ro)))))), (fS, .inl (cI, 9, .inl (fun j9 => nI (u j9))))] ++ rws ro cI mx) t.heap ∧ va_D (va_A ([(kS, .inr (6, [.int (nI (K + 1)), .int (nI G), .int (nI ll), .int (nI lm), .ref aS, .ref bS, .ref dS, .ref eS, .ref gS9, .ref fS])), (gS9, .inl (cG, 8, .inr (.inr (.inr (.inr (grf ro)))))), (fS, .inl (cI, 9, .inl (fun j9 => nI (mf j9))))] ++ rws ro cI mx) sz) ([(kS, .inr (6, [.int (nI (K + 1)), .int (nI G), .int (nI ll), .int (nI lm), .ref aS, .ref bS, .ref dS, .ref eS, .ref gS9, .ref fS])), (gS9, .inl (cG, 8, .inr (.inr (.inr (.inr (grf ro)))))), (fS, .inl (cI, 9, .inl (fun j9 => nI (u j9))))] ++ rws ro cI mx)) (va_A ([(kS, .inr (6, [.int (nI (K + 1)), .int (nI G), .int (nI ll), .int (nI lm), .ref aS, .ref bS, .ref dS, .ref eS, .ref gS9, .ref fS])), (gS9, .inl (cG, 8, .inr (.inr (.inr (.inr (grf ro)))))), (fS, .inl (cI, 9, .inl (fun j9 => nI (mf j9))))] ++ rws ro cI mx) sz)) 0 0 (va_A ([(kS, .inr (6, [.int (nI (K + 1)), .int (nI G), .int (nI ll), .int (nI lm), .ref aS, .ref bS, .ref dS, .ref eS, .ref gS9, .ref fS])), (gS9, .inl (cG, 8, .inr (.inr (.inr (.inr (grf ro)))))), (fS, .inl (cI, 9, .inl (fun j9 => nI (mf j9))))] ++ rws ro cI mx) sz) := by
  refine Met.ofW (cc := cSE_sumLeastMoves) (maxL := 4) (ret := none) (by decide) rfl ?_
  intro p e s m args below meth c s₁ B hml hv
  obtain ⟨rfl, hsz, hP, hKX, hD0⟩ := hv
  have hK := hKX.1
  have hx := B.exec
  have hb := B.bytes
  have hr := B.returns
  have hts := atoms_spec (ws := wsSE_sumLeastMoves) B.pre
  have hown : s.vm.findClass RSE = some m.cls := findClass_of_methodNamed B.named
  have hlocks := B.notSynchronized
  subst hsz
  have hD := hD0.self (sz := s.heap.size)
  generalize hAe : va_A ([(kS, .inr (6, [.int (nI (K + 1)), .int (nI G), .int (nI ll), .int (nI lm), .ref aS, .ref bS, .ref dS, .ref eS, .ref gS9, .ref fS])), (gS9, .inl (cG, 8, .inr (.inr (.inr (.inr (grf ro)))))), (fS, .inl (cI, 9, .inl (fun j9 => nI (mf j9))))] ++ rws ro cI mx) s.heap.size = A at hD ⊢
  have hA : ∀ q : Nat, s.heap.size ≤ q → A q := fun q h => by rw [← hAe]; exact Or.inr h
  have hS : va_S A s.heap s.heap [] := va_S.rf
  have hl := lv_entry ([.ref kS]) (n := 4) (Nat.le_of_ble_eq_true rfl)
  rw [lg_entry_eq]
  generalize (lg_sl ([.ref kS]) ++ List.replicate (4 - (lg_sl ([.ref kS])).length) Slot.unset).toArray = ls at hl ⊢
  have hl : lv_has ls 4 [(0, .ref kS)] := hl
  generalize hRe : (headSpec wsSE_sumLeastMoves ({ frames := 1, cells := 0, slots := 0, locals := 24 })).room = R
  have hRf : 1 ≤ R.frames := by rw [← hRe]; exact Nat.le_refl _
  have hRl : 24 ≤ R.locals := by rw [← hRe]; exact Nat.le_refl _
  have hRc : 0 ≤ R.cells := by rw [← hRe]; exact Nat.le_refl _
  have hRs : 0 ≤ R.slots := by rw [← hRe]; exact Nat.le_refl _
  generalize hargs : (List.toArray [.ref kS] : Array Value) = args at hts ⊢
  generalize hQe : MQ below _ args s _ _ _ = Q
  cases G with
  | zero =>
    refine lv_aload_n hx hb dSE_sumLeastMoves_0 rfl (lv_at hl 0 rfl) ?_
    refine va_get (D := (dC, dI)) (ci := 6) (v := .ref fS) (C := RSE) (T := TSE) (N := 10) hx hb hts (fun w h => List.mem_cons_of_mem _ (inSE w h)) hown hK hP 0 rfl rfl 9 (by decide) (hts _ (List.mem_cons_of_mem _ kw_125)) (fun _ h9 => h9) rfl dSE_sumLeastMoves_1 ?_
    refine lv_aload_n hx hb dSE_sumLeastMoves_4 rfl (lv_at hl 0 rfl) ?_
    refine va_get (D := (dC, dI)) (ci := 6) (v := .int (nI 0)) (C := RSE) (T := TSE) (N := 10) hx hb hts (fun w h => List.mem_cons_of_mem _ (inSE w h)) hown hK hP 0 rfl rfl 1 (by decide) (hts _ (List.mem_cons_of_mem _ kw_117)) (fun _ h9 => h9) rfl dSE_sumLeastMoves_5 ?_
    refine lv_iconst (v := nI 0) hx hb dSE_sumLeastMoves_8 (by decide +kernel) ?_
    refine hr_iastN hx hb hK hP hD hS 2 0 rfl rfl (i := 0) (by omega) (by omega) dSE_sumLeastMoves_9 (fun H locs hP hD hS => ?_)
    have hP : va_P (dC, dI) vwCl ([(kS, .inr (6, [.int (nI (K + 1)), .int (nI 0), .int (nI ll), .int (nI lm), .ref aS, .ref bS, .ref dS, .ref eS, .ref gS9, .ref fS])), (gS9, .inl (cG, 8, .inr (.inr (.inr (.inr (grf ro)))))), (fS, .inl (cI, 9, .inl (fun j9 => nI ((va_up mf 0 0) j9))))] ++ rws ro cI mx) H := hP
    have hD : va_D A ([(kS, .inr (6, [.int (nI (K + 1)), .int (nI 0), .int (nI ll), .int (nI lm), .ref aS, .ref bS, .ref dS, .ref eS, .ref gS9, .ref fS])), (gS9, .inl (cG, 8, .inr (.inr (.inr (.inr (grf ro)))))), (fS, .inl (cI, 9, .inl (fun j9 => nI ((va_up mf 0 0) j9))))] ++ rws ro cI mx) := hD
    refine lv_aload_n hx hb dSE_sumLeastMoves_10 rfl (lv_at hl 0 rfl) ?_
    refine va_get (D := (dC, dI)) (ci := 6) (v := .int (nI 0)) (C := RSE) (T := TSE) (N := 10) hx hb hts (fun w h => List.mem_cons_of_mem _ (inSE w h)) hown hK hP 0 rfl rfl 1 (by decide) (hts _ (List.mem_cons_of_mem _ kw_117)) (fun _ h9 => h9) rfl dSE_sumLeastMoves_11 ?_
    refine lv_iconst (v := nI 1) hx hb dSE_sumLeastMoves_14 (by decide +kernel) ?_
    refine lv_isub hx hb dSE_sumLeastMoves_15 ?_
    refine hr_eqi (show nI 0 - nI 1 = (-1 : Int32) by decide +kernel) ?_
    refine lv_istore_n (lv' := [(1, .int (-1)), (0, .ref kS)]) hx hb dSE_sumLeastMoves_16 rfl hl (by decide) rfl (fun ls hl => ?_)
    refine lv_iload_n hx hb dSE_sumLeastMoves_17 rfl (lv_at hl 0 rfl) ?_
    refine lv_if_lt (tgt := 81) hx hb dSE_sumLeastMoves_18 (by decide) (fun c_1 => ?_) (fun c_1 => ?_)
    · rw [← hQe]
      exact W.vret hx hb hr (fun t ht hW => ⟨⟨(va_up mf 0 0), rfl, ⟨va_up_self _ _ _, fun g hg => absurd hg (Nat.not_lt_zero _), fun g hg => by rw [show g = 0 by omega, va_up_self]; omega⟩, by rw [ht]; exact hP, hD⟩, hS.F ht⟩) hS.2.2 dSE_sumLeastMoves_81
    · exact absurd c_1 (by decide +kernel)
  | succ G =>
    refine lv_aload_n hx hb dSE_sumLeastMoves_0 rfl (lv_at hl 0 rfl) ?_
    refine va_get (D := (dC, dI)) (ci := 6) (v := .ref fS) (C := RSE) (T := TSE) (N := 10) hx hb hts (fun w h => List.mem_cons_of_mem _ (inSE w h)) hown hK hP 0 rfl rfl 9 (by decide) (hts _ (List.mem_cons_of_mem _ kw_125)) (fun _ h9 => h9) rfl dSE_sumLeastMoves_1 ?_
    refine lv_aload_n hx hb dSE_sumLeastMoves_4 rfl (lv_at hl 0 rfl) ?_
    refine va_get (D := (dC, dI)) (ci := 6) (v := .int (nI (G + 1))) (C := RSE) (T := TSE) (N := 10) hx hb hts (fun w h => List.mem_cons_of_mem _ (inSE w h)) hown hK hP 0 rfl rfl 1 (by decide) (hts _ (List.mem_cons_of_mem _ kw_117)) (fun _ h9 => h9) rfl dSE_sumLeastMoves_5 ?_
    refine lv_iconst (v := nI 0) hx hb dSE_sumLeastMoves_8 (by decide +kernel) ?_
    refine hr_iastN hx hb hK hP hD hS 2 0 rfl rfl (i := (G + 1)) (by omega) (by omega) dSE_sumLeastMoves_9 (fun H locs hP hD hS => ?_)
    have hP : va_P (dC, dI) vwCl ([(kS, .inr (6, [.int (nI (K + 1)), .int (nI (G + 1)), .int (nI ll), .int (nI lm), .ref aS, .ref bS, .ref dS, .ref eS, .ref gS9, .ref fS])), (gS9, .inl (cG, 8, .inr (.inr (.inr (.inr (grf ro)))))), (fS, .inl (cI, 9, .inl (fun j9 => nI ((va_up mf (G + 1) 0) j9))))] ++ rws ro cI mx) H := hP
    have hD : va_D A ([(kS, .inr (6, [.int (nI (K + 1)), .int (nI (G + 1)), .int (nI ll), .int (nI lm), .ref aS, .ref bS, .ref dS, .ref eS, .ref gS9, .ref fS])), (gS9, .inl (cG, 8, .inr (.inr (.inr (.inr (grf ro)))))), (fS, .inl (cI, 9, .inl (fun j9 => nI ((va_up mf (G + 1) 0) j9))))] ++ rws ro cI mx) := hD
    refine lv_aload_n hx hb dSE_sumLeastMoves_10 rfl (lv_at hl 0 rfl) ?_
    refine va_get (D := (dC, dI)) (ci := 6) (v := .int (nI (G + 1))) (C := RSE) (T := TSE) (N := 10) hx hb hts (fun w h => List.mem_cons_of_mem _ (inSE w h)) hown hK hP 0 rfl rfl 1 (by decide) (hts _ (List.mem_cons_of_mem _ kw_117)) (fun _ h9 => h9) rfl dSE_sumLeastMoves_11 ?_
    refine lv_iconst (v := nI 1) hx hb dSE_sumLeastMoves_14 (by decide +kernel) ?_
    refine lv_isub hx hb dSE_sumLeastMoves_15 ?_
    refine hr_eqi (pk_sub (by omega)) ?_
    rw [Nat.add_sub_cancel]
    refine lv_istore_n (lv' := [(1, .int (nI G)), (0, .ref kS)]) hx hb dSE_sumLeastMoves_16 rfl hl (by decide) rfl (fun ls hl => ?_)
    have loop_17 : ∀ (n9 : Nat) (i : Nat) (f : Nat → Nat), i ≤ G → f (G + 1) = 0 → (∀ g, i < g → g < G + 1 → ∀ q, q < K + 1 → f g ≤ mx g q + f (g + 1)) → (∀ g, i < g → g ≤ G + 1 → f g ≤ 24 * (G + 1 - g)) → i + 1 ≤ n9 → ∀ (H : Heap) (locs : List Loc), va_P (dC, dI) vwCl ([(kS, .inr (6, [.int (nI (K + 1)), .int (nI (G + 1)), .int (nI ll), .int (nI lm), .ref aS, .ref bS, .ref dS, .ref eS, .ref gS9, .ref fS])), (gS9, .inl (cG, 8, .inr (.inr (.inr (.inr (grf ro)))))), (fS, .inl (cI, 9, .inl (fun j9 => nI (f j9))))] ++ rws ro cI mx) H → va_D A ([(kS, .inr (6, [.int (nI (K + 1)), .int (nI (G + 1)), .int (nI ll), .int (nI lm), .ref aS, .ref bS, .ref dS, .ref eS, .ref gS9, .ref fS])), (gS9, .inl (cG, 8, .inr (.inr (.inr (.inr (grf ro)))))), (fS, .inl (cI, 9, .inl (fun j9 => nI (f j9))))] ++ rws ro cI mx) → va_S A s.heap H locs → ∀ (ls : Array Slot), lv_has ls 4 [(1, .int (nI i)), (0, .ref kS)] → W p l e R s m args below meth c H locs 0 0 Q (F0 m 17 ls []) := by
      intro n9
      induction n9 with
      | zero =>
        intro i f hi h0 h1 h2 hmeas
        exact absurd hmeas (by omega)
      | succ n9 ih_17 =>
        intro i f hi h0 h1 h2 hmeas H locs hP hD hS ls hl
        refine lv_iload_n hx hb dSE_sumLeastMoves_17 rfl (lv_at hl 0 rfl) ?_
        refine hr_if_lt hx hb (x := i) (by omega) (tgt := 81) dSE_sumLeastMoves_18 (by decide) (fun c_2 => ?_) (fun c_2 => ?_)
        · exact absurd c_2 (by omega)
        · have hm0 := hmx i (by omega) 0 (by omega)
          refine lv_aload_n hx hb dSE_sumLeastMoves_21 rfl (lv_at hl 1 rfl) ?_
          refine va_get (D := (dC, dI)) (ci := 6) (v := .ref gS9) (C := RSE) (T := TSE) (N := 10) hx hb hts (fun w h => List.mem_cons_of_mem _ (inSE w h)) hown hK hP 0 rfl rfl 8 (by decide) (hts _ (List.mem_cons_of_mem _ kw_124)) (fun _ h9 => h9) rfl dSE_sumLeastMoves_22 ?_
          refine lv_iload_n hx hb dSE_sumLeastMoves_25 rfl (lv_at hl 0 rfl) ?_
          refine hr_aaldG hx hb hK hP 1 2 rfl rfl (i := i) (by omega) dSE_sumLeastMoves_26 ?_
          refine lv_iconst (v := nI 0) hx hb dSE_sumLeastMoves_27 (by decide +kernel) ?_
          refine hr_iald hx hb hK hP (3 + i) 0 (rws_at (K := 3) rfl (by omega)) rfl (i := 0) (by omega) (by omega) dSE_sumLeastMoves_28 ?_
          refine lv_istore_n (lv' := [(2, .int (nI ((mx i) 0))), (1, .int (nI i)), (0, .ref kS)]) hx hb dSE_sumLeastMoves_29 rfl hl (by decide) rfl (fun ls hl => ?_)
          refine lv_iconst (v := nI 1) hx hb dSE_sumLeastMoves_30 (by decide +kernel) ?_
          refine lv_istore_n (lv' := [(3, .int (nI 1)), (2, .int (nI ((mx i) 0))), (1, .int (nI i)), (0, .ref kS)]) hx hb dSE_sumLeastMoves_31 rfl hl (by decide) rfl (fun ls hl => ?_)
          have loop_32 : ∀ (n9 : Nat) (j : Nat) (le : Nat), 1 ≤ j ∧ j ≤ K + 1 → (∀ q, q < j → le ≤ mx i q) → le ≤ 24 → (K + 1) + 1 ≤ j + n9 → ∀ (H : Heap) (locs : List Loc), va_P (dC, dI) vwCl ([(kS, .inr (6, [.int (nI (K + 1)), .int (nI (G + 1)), .int (nI ll), .int (nI lm), .ref aS, .ref bS, .ref dS, .ref eS, .ref gS9, .ref fS])), (gS9, .inl (cG, 8, .inr (.inr (.inr (.inr (grf ro)))))), (fS, .inl (cI, 9, .inl (fun j9 => nI (f j9))))] ++ rws ro cI mx) H → va_D A ([(kS, .inr (6, [.int (nI (K + 1)), .int (nI (G + 1)), .int (nI ll), .int (nI lm), .ref aS, .ref bS, .ref dS, .ref eS, .ref gS9, .ref fS])), (gS9, .inl (cG, 8, .inr (.inr (.inr (.inr (grf ro)))))), (fS, .inl (cI, 9, .inl (fun j9 => nI (f j9))))] ++ rws ro cI mx) → va_S A s.heap H locs → ∀ (ls : Array Slot), lv_has ls 4 [(3, .int (nI j)), (2, .int (nI le)), (1, .int (nI i)), (0, .ref kS)] → W p l e R s m args below meth c H locs 0 0 Q (F0 m 32 ls []) := by
            intro n9
            induction n9 with
            | zero =>
              intro j le hj hle hlb hmeas
              exact absurd hmeas (by omega)
            | succ n9 ih_32 =>
              intro j le hj hle hlb hmeas H locs hP hD hS ls hl
              refine lv_iload_n hx hb dSE_sumLeastMoves_32 rfl (lv_at hl 0 rfl) ?_
              refine lv_aload_n hx hb dSE_sumLeastMoves_33 rfl (lv_at hl 3 rfl) ?_
              refine va_get (D := (dC, dI)) (ci := 6) (v := .int (nI (K + 1))) (C := RSE) (T := TSE) (N := 10) hx hb hts (fun w h => List.mem_cons_of_mem _ (inSE w h)) hown hK hP 0 rfl rfl 0 (by decide) (hts _ (List.mem_cons_of_mem _ kw_116)) (fun _ h9 => h9) rfl dSE_sumLeastMoves_34 ?_
              refine hr_icmp_ge hx hb (x := j) (y := (K + 1)) (by omega) (by omega) (tgt := 59) dSE_sumLeastMoves_37 (by decide) (fun c_3 => ?_) (fun c_3 => ?_)
              · have hf1 := h2 (i + 1) (by omega) (by omega)
                refine lv_aload_n hx hb dSE_sumLeastMoves_59 rfl (lv_at hl 3 rfl) ?_
                refine va_get (D := (dC, dI)) (ci := 6) (v := .ref fS) (C := RSE) (T := TSE) (N := 10) hx hb hts (fun w h => List.mem_cons_of_mem _ (inSE w h)) hown hK hP 0 rfl rfl 9 (by decide) (hts _ (List.mem_cons_of_mem _ kw_125)) (fun _ h9 => h9) rfl dSE_sumLeastMoves_60 ?_
                refine lv_iload_n hx hb dSE_sumLeastMoves_63 rfl (lv_at hl 2 rfl) ?_
                refine lv_aload_n hx hb dSE_sumLeastMoves_64 rfl (lv_at hl 3 rfl) ?_
                refine va_get (D := (dC, dI)) (ci := 6) (v := .ref fS) (C := RSE) (T := TSE) (N := 10) hx hb hts (fun w h => List.mem_cons_of_mem _ (inSE w h)) hown hK hP 0 rfl rfl 9 (by decide) (hts _ (List.mem_cons_of_mem _ kw_125)) (fun _ h9 => h9) rfl dSE_sumLeastMoves_65 ?_
                refine lv_iload_n hx hb dSE_sumLeastMoves_68 rfl (lv_at hl 2 rfl) ?_
                refine lv_iconst (v := nI 1) hx hb dSE_sumLeastMoves_69 (by decide +kernel) ?_
                refine lv_iadd hx hb dSE_sumLeastMoves_70 ?_
                refine hr_eqi (nI_add _ _) ?_
                refine hr_iald hx hb hK hP 2 0 rfl rfl (i := (i + 1)) (by omega) (by omega) dSE_sumLeastMoves_71 ?_
                refine lv_iload_n hx hb dSE_sumLeastMoves_72 rfl (lv_at hl 1 rfl) ?_
                refine lv_iadd hx hb dSE_sumLeastMoves_73 ?_
                refine hr_eqi (nI_add _ _) ?_
                refine hr_iastN hx hb hK hP hD hS 2 0 rfl rfl (i := i) (by omega) (by omega) dSE_sumLeastMoves_74 (fun H locs hP hD hS => ?_)
                have hP : va_P (dC, dI) vwCl ([(kS, .inr (6, [.int (nI (K + 1)), .int (nI (G + 1)), .int (nI ll), .int (nI lm), .ref aS, .ref bS, .ref dS, .ref eS, .ref gS9, .ref fS])), (gS9, .inl (cG, 8, .inr (.inr (.inr (.inr (grf ro)))))), (fS, .inl (cI, 9, .inl (fun j9 => nI ((va_up f i ((f (i + 1)) + le)) j9))))] ++ rws ro cI mx) H := hP
                have hD : va_D A ([(kS, .inr (6, [.int (nI (K + 1)), .int (nI (G + 1)), .int (nI ll), .int (nI lm), .ref aS, .ref bS, .ref dS, .ref eS, .ref gS9, .ref fS])), (gS9, .inl (cG, 8, .inr (.inr (.inr (.inr (grf ro)))))), (fS, .inl (cI, 9, .inl (fun j9 => nI ((va_up f i ((f (i + 1)) + le)) j9))))] ++ rws ro cI mx) := hD
                have g0 : (va_up f i ((f (i + 1)) + le)) (G + 1) = 0 := by rw [va_up_ne _ _ (by omega)]; exact h0
                have g1 : ∀ g, i ≤ g → g < G + 1 → ∀ s, s < K + 1 → (va_up f i ((f (i + 1)) + le)) g ≤ mx g s + (va_up f i ((f (i + 1)) + le)) (g + 1) := fun g h3 h4 s hs => by
                  rcases (show g = i ∨ i < g by omega) with z | z
                  · rw [z, va_up_self, va_up_ne _ _ (by omega)]; have := hle s (by omega); omega
                  · rw [va_up_ne _ _ (by omega), va_up_ne _ _ (by omega)]; exact h1 g z h4 s hs
                have g2 : ∀ g, i ≤ g → g ≤ G + 1 → (va_up f i ((f (i + 1)) + le)) g ≤ 24 * (G + 1 - g) := fun g h3 h4 => by
                  rcases (show g = i ∨ i < g by omega) with z | z
                  · rw [z, va_up_self]; omega
                  · rw [va_up_ne _ _ (by omega)]; exact h2 g z h4
                cases i with
                | zero =>
                  refine lv_iinc (v := (-1)) (lv' := [(1, .int (-1)), (3, .int (nI j)), (2, .int (nI le)), (0, .ref kS)]) hx hb dSE_sumLeastMoves_75 hl (k := 2) rfl (show nI 0 + Int32.ofInt (-1) = -1 by decide +kernel) (by decide) rfl (fun ls hl => ?_)
                  refine lv_goto (tgt := 17) hx hb dSE_sumLeastMoves_78 (by decide) ?_
                  refine lv_iload_n hx hb dSE_sumLeastMoves_17 rfl (lv_at hl 0 rfl) ?_
                  refine lv_if_lt (tgt := 81) hx hb dSE_sumLeastMoves_18 (by decide) (fun c_4 => ?_) (fun c_4 => ?_)
                  · rw [← hQe]
                    exact W.vret hx hb hr (fun t ht hW => ⟨⟨(va_up f 0 ((f (0 + 1)) + le)), rfl, ⟨g0, fun g hg s hs => g1 g (by omega) hg s hs, fun g hg => by have := g2 g (by omega) hg; omega⟩, by rw [ht]; exact hP, hD⟩, hS.F ht⟩) hS.2.2 dSE_sumLeastMoves_81
                  · exact absurd c_4 (by decide +kernel)
                | succ i =>
                  refine lv_iinc (v := nI i) (lv' := [(1, .int (nI i)), (3, .int (nI j)), (2, .int (nI le)), (0, .ref kS)]) hx hb dSE_sumLeastMoves_75 hl (k := 2) rfl (hr_dec1) (by decide) rfl (fun ls hl => ?_)
                  refine lv_goto (tgt := 17) hx hb dSE_sumLeastMoves_78 (by decide) ?_
                  exact ih_17 i (va_up f (i + 1) ((f ((i + 1) + 1)) + le)) (by omega) (g0) (fun g h3 h4 => g1 g (by omega) h4) (fun g h3 h4 => g2 g (by omega) h4) (by omega) _ _ hP hD hS ls (lv_sub hl [0, 3] rfl)
              · have hm1 := hmx i (by omega) j (by omega)
                refine lv_iload_n hx hb dSE_sumLeastMoves_40 rfl (lv_at hl 1 rfl) ?_
                refine lv_aload_n hx hb dSE_sumLeastMoves_41 rfl (lv_at hl 3 rfl) ?_
                refine va_get (D := (dC, dI)) (ci := 6) (v := .ref gS9) (C := RSE) (T := TSE) (N := 10) hx hb hts (fun w h => List.mem_cons_of_mem _ (inSE w h)) hown hK hP 0 rfl rfl 8 (by decide) (hts _ (List.mem_cons_of_mem _ kw_124)) (fun _ h9 => h9) rfl dSE_sumLeastMoves_42 ?_
                refine lv_iload_n hx hb dSE_sumLeastMoves_45 rfl (lv_at hl 2 rfl) ?_
                refine hr_aaldG hx hb hK hP 1 2 rfl rfl (i := i) (by omega) dSE_sumLeastMoves_46 ?_
                refine lv_iload_n hx hb dSE_sumLeastMoves_47 rfl (lv_at hl 0 rfl) ?_
                refine hr_iald hx hb hK hP (3 + i) 0 (rws_at (K := 3) rfl (by omega)) rfl (i := j) (by omega) (by omega) dSE_sumLeastMoves_48 ?_
                refine va_mmin (rest := []) hx hb (by rw [hml]; exact hl.1.symm) hown (hts (.methodLink RSE 32 Lib.Math.min.name) (by decide +kernel)) (hts (.static Lib.Math.min.name) (by decide +kernel)) (hts (.initialized "java/lang/Math") (by decide +kernel)) (hts (.code Lib.Math.min.name Lib.Math.min.code 2 (some .int)) (by decide +kernel)) (Nat.le_trans (Nat.le_of_ble_eq_true rfl) hRf) (Nat.le_trans (Nat.le_of_ble_eq_true rfl) hRl) (Nat.zero_le _) (Nat.zero_le _) dSE_sumLeastMoves_49 ?_
                refine hr_eqi (hr_min (by omega) (by omega)) ?_
                refine lv_istore_n (lv' := [(2, .int (nI (min le ((mx i) j)))), (3, .int (nI j)), (1, .int (nI i)), (0, .ref kS)]) hx hb dSE_sumLeastMoves_52 rfl hl (by decide) rfl (fun ls hl => ?_)
                refine lv_iinc (v := nI (j + 1)) (lv' := [(3, .int (nI (j + 1))), (2, .int (nI (min le ((mx i) j)))), (1, .int (nI i)), (0, .ref kS)]) hx hb dSE_sumLeastMoves_53 hl (k := 1) rfl (hr_inc _) (by decide) rfl (fun ls hl => ?_)
                refine lv_goto (tgt := 32) hx hb dSE_sumLeastMoves_56 (by decide) ?_
                exact ih_32 (j + 1) (min le ((mx i) j)) (⟨by omega, by omega⟩) (fun s hs => by
      rcases (show s = j ∨ s < j by omega) with z | z
      · rw [z]; omega
      · have := hle s z; omega) (by omega) (by omega) _ _ hP hD hS ls (lv_sub hl [0, 1, 2, 3] rfl)
          exact loop_32 ((K + 1) + 1) 1 ((mx i) 0) (⟨by omega, by omega⟩) (fun s hs => by rw [show s = 0 by omega]; exact Nat.le_refl _) (by have := hmx i (by omega) 0 (by omega); omega) (by omega) _ _ hP hD hS ls (lv_sub hl [0, 1, 2, 3] rfl)
    exact loop_17 (G + 1) G (va_up mf (G + 1) 0) (by omega) (by rw [va_up_self]) (fun g h1 h2 => absurd h2 (by omega)) (fun g h1 h2 => by rw [show g = G + 1 by omega, va_up_self]; omega) (by omega) _ _ hP hD hS ls (lv_sub hl [0, 1] rfl)
end
section
set_option maxHeartbeats 400000 in
set_option maxRecDepth 100000 in
/-- the least LENGTH -/
theorem c_SE_seekLength (l : Launch) (dC : Nat → ClassId) (dI : Nat → Nat → Nat) (cI cZ cG : ClassId) : ∀ (r : Nat) (kS : Nat) (aS : Nat) (bS : Nat) (dS : Nat) (eS : Nat) (gS9 : Nat) (fS : Nat) (K : Nat) (G : Nat) (ll : Nat) (lm : Nat) (tw : Nat → Nat) (sm : Nat → Nat) (g : Nat) (op : Nat) (len : Nat) (sz : Nat) (hK3 : K ≤ 3) (hG8 : G ≤ 8) (hg : g + r = G) (hop : op ≤ K + 1) (hz : ∀ q, op ≤ q → q ≤ K → sm q = 0) (ht : ∀ j, j < 8 → tw j ≤ 2400000) (hsm : ∀ q, q < 4 → sm q ≤ 2400000 * g) (hlen : len ≤ 2400000 * g) (hll : ll < 2 ^ 31), Met l ySE_seekLength wsSE_seekLength ({ frames := r + 1, cells := 0, slots := 0, locals := 32 * (r + 1) }) (va_Pc [.ref kS, .int (nI g), .int (nI op), .int (nI len)] (fun U => U.heap.size = sz ∧ va_P (dC, dI) vwCl [(kS, .inr (6, [.int (nI (K + 1)), .int (nI G), .int (nI ll), .int (nI lm), .ref aS, .ref bS, .ref dS, .ref eS, .ref gS9, .ref fS])), (aS, .inl (cI, 8, .inl (fun j9 => nI (tw j9)))), (bS, .inl (cI, 4, .inl (fun j9 => nI (sm j9))))] U.heap ∧ KX dC dI cI cZ cG U ∧ va_D (fun _ => True) [(kS, .inr (6, [.int (nI (K + 1)), .int (nI G), .int (nI ll), .int (nI lm), .ref aS, .ref bS, .ref dS, .ref eS, .ref gS9, .ref fS])), (aS, .inl (cI, 8, .inl (fun j9 => nI (tw j9)))), (bS, .inl (cI, 4, .inl (fun j9 => nI (sm j9))))])) (va_Qv (fun (u : Unit) => True) (fun u t => va_P (dC, dI) vwCl [(kS, .inr (6, [.int (nI (K + 1)), .int (nI G), .int (nI (min ll (lo tw K r g sm len))), .int (nI lm), .ref aS, .ref bS, .ref dS, .ref eS, .ref gS9, .ref fS])), (aS, .inl (cI, 8, .inl (fun j9 => nI (tw j9)))), (bS, .inl (cI, 4, .inl (fun j9 => nI (sm j9))))] t.heap ∧ va_D (va_A [(kS, .inr (6, [.int (nI (K + 1)), .int (nI G), .int (nI ll), .int (nI lm), .ref aS, .ref bS, .ref dS, .ref eS, .ref gS9, .ref fS])), (aS, .inl (cI, 8, .inl (fun j9 => nI (tw j9)))), (bS, .inl (cI, 4, .inl (fun j9 => nI (sm j9))))] sz) [(kS, .inr (6, [.int (nI (K + 1)), .int (nI G), .int (nI (min ll (lo tw K r g sm len))), .int (nI lm), .ref aS, .ref bS, .ref dS, .ref eS, .ref gS9, .ref fS])), (aS, .inl (cI, 8, .inl (fun j9 => nI (tw j9)))), (bS, .inl (cI, 4, .inl (fun j9 => nI (sm j9))))]) (va_A [(kS, .inr (6, [.int (nI (K + 1)), .int (nI G), .int (nI ll), .int (nI lm), .ref aS, .ref bS, .ref dS, .ref eS, .ref gS9, .ref fS])), (aS, .inl (cI, 8, .inl (fun j9 => nI (tw j9)))), (bS, .inl (cI, 4, .inl (fun j9 => nI (sm j9))))] sz)) 0 0 (va_A [(kS, .inr (6, [.int (nI (K + 1)), .int (nI G), .int (nI ll), .int (nI lm), .ref aS, .ref bS, .ref dS, .ref eS, .ref gS9, .ref fS])), (aS, .inl (cI, 8, .inl (fun j9 => nI (tw j9)))), (bS, .inl (cI, 4, .inl (fun j9 => nI (sm j9))))] sz) := by
  intro r
  induction r with
  | zero =>
    intro kS aS bS dS eS gS9 fS K G ll lm tw sm g op len sz hK3 hG8 hg hop hz ht hsm hlen hll
    refine Met.ofW (cc := cSE_seekLength) (maxL := 6) (ret := none) (by decide) rfl ?_
    intro p e s m args below meth c s₁ B hml hv
    obtain ⟨rfl, hsz, hP, hKX, hD0⟩ := hv
    have hK := hKX.1
    have hx := B.exec
    have hb := B.bytes
    have hr := B.returns
    have hts := atoms_spec (ws := wsSE_seekLength) B.pre
    have hown : s.vm.findClass RSE = some m.cls := findClass_of_methodNamed B.named
    have hlocks := B.notSynchronized
    subst hsz
    have hD := hD0.self (sz := s.heap.size)
    generalize hAe : va_A [(kS, .inr (6, [.int (nI (K + 1)), .int (nI G), .int (nI ll), .int (nI lm), .ref aS, .ref bS, .ref dS, .ref eS, .ref gS9, .ref fS])), (aS, .inl (cI, 8, .inl (fun j9 => nI (tw j9)))), (bS, .inl (cI, 4, .inl (fun j9 => nI (sm j9))))] s.heap.size = A at hD ⊢
    have hA : ∀ q : Nat, s.heap.size ≤ q → A q := fun q h => by rw [← hAe]; exact Or.inr h
    have hS : va_S A s.heap s.heap [] := va_S.rf
    have hl := lv_entry ([.ref kS, .int (nI g), .int (nI op), .int (nI len)]) (n := 6) (Nat.le_of_ble_eq_true rfl)
    rw [lg_entry_eq]
    generalize (lg_sl ([.ref kS, .int (nI g), .int (nI op), .int (nI len)]) ++ List.replicate (6 - (lg_sl ([.ref kS, .int (nI g), .int (nI op), .int (nI len)])).length) Slot.unset).toArray = ls at hl ⊢
    have hl : lv_has ls 6 [(0, .ref kS), (1, .int (nI g)), (2, .int (nI op)), (3, .int (nI len))] := hl
    generalize hRe : (headSpec wsSE_seekLength ({ frames := 0 + 1, cells := 0, slots := 0, locals := 32 * (0 + 1) })).room = R
    have hRf : 1 ≤ R.frames := by rw [← hRe]; show 1 ≤ 0 + 1; omega
    have hRl : 32 ≤ R.locals := by rw [← hRe]; show 32 ≤ 32 * (0 + 1); omega
    have hRc : 0 ≤ R.cells := by rw [← hRe]; exact Nat.le_refl _
    have hRs : 0 ≤ R.slots := by rw [← hRe]; exact Nat.le_refl _
    generalize hargs : (List.toArray [.ref kS, .int (nI g), .int (nI op), .int (nI len)] : Array Value) = args at hts ⊢
    generalize hQe : MQ below _ args s _ _ _ = Q
    have hge := lo_ge tw K 0 g sm len
    refine lv_iload_n hx hb dSE_seekLength_0 rfl (lv_at hl 3 rfl) ?_
    refine lv_aload_n hx hb dSE_seekLength_1 rfl (lv_at hl 0 rfl) ?_
    refine va_get (D := (dC, dI)) (ci := 6) (v := .int (nI ll)) (C := RSE) (T := TSE) (N := 10) hx hb hts (fun w h => List.mem_cons_of_mem _ (inSE w h)) hown hK hP 0 rfl rfl 2 (by decide) (hts _ (List.mem_cons_of_mem _ kw_118)) (fun _ h9 => h9) rfl dSE_seekLength_2 ?_
    refine hr_icmp_lt hx hb (x := len) (y := ll) (by omega) (by omega) (tgt := 9) dSE_seekLength_5 (by decide) (fun c_1 => ?_) (fun c_1 => ?_)
    · refine lv_iload_n hx hb dSE_seekLength_9 rfl (lv_at hl 1 rfl) ?_
      refine lv_aload_n hx hb dSE_seekLength_10 rfl (lv_at hl 0 rfl) ?_
      refine va_get (D := (dC, dI)) (ci := 6) (v := .int (nI G)) (C := RSE) (T := TSE) (N := 10) hx hb hts (fun w h => List.mem_cons_of_mem _ (inSE w h)) hown hK hP 0 rfl rfl 1 (by decide) (hts _ (List.mem_cons_of_mem _ kw_117)) (fun _ h9 => h9) rfl dSE_seekLength_11 ?_
      refine hr_icmp_lt hx hb (x := g) (y := G) (by omega) (by omega) (tgt := 23) dSE_seekLength_14 (by decide) (fun c_2 => ?_) (fun c_2 => ?_)
      · exact absurd c_2 (by omega)
      · refine lv_aload_n hx hb dSE_seekLength_17 rfl (lv_at hl 0 rfl) ?_
        refine lv_iload_n hx hb dSE_seekLength_18 rfl (lv_at hl 3 rfl) ?_
        refine va_put (D := (dC, dI)) (ci := 6) (v := .int (nI len)) (ty := .int) (C := RSE) (T := TSE) (N := 10) hx hb hts (fun w h => List.mem_cons_of_mem _ (inSE w h)) tySE tySE_ok nmSE hown hK hP hD hS 0 rfl rfl 2 (by decide) (hts _ (List.mem_cons_of_mem _ kw_118)) (fun _ h9 => h9) rfl (by decide +kernel) rfl rfl (Nat.le_of_ble_eq_true rfl) dSE_seekLength_19 (fun H locs hP hD hS => ?_)
        have hP : va_P (dC, dI) vwCl [(kS, .inr (6, [.int (nI (K + 1)), .int (nI G), .int (nI len), .int (nI lm), .ref aS, .ref bS, .ref dS, .ref eS, .ref gS9, .ref fS])), (aS, .inl (cI, 8, .inl (fun j9 => nI (tw j9)))), (bS, .inl (cI, 4, .inl (fun j9 => nI (sm j9))))] H := hP
        have hD : va_D A [(kS, .inr (6, [.int (nI (K + 1)), .int (nI G), .int (nI len), .int (nI lm), .ref aS, .ref bS, .ref dS, .ref eS, .ref gS9, .ref fS])), (aS, .inl (cI, 8, .inl (fun j9 => nI (tw j9)))), (bS, .inl (cI, 4, .inl (fun j9 => nI (sm j9))))] := hD
        have e9 : min ll (lo tw K 0 g sm len) = len := by show min ll len = len; omega
        rw [← hQe]
        exact W.vret hx hb hr (fun t ht hW => ⟨⟨(), rfl, trivial, by rw [ht, e9]; exact hP, by rw [e9]; exact hD⟩, hS.F ht⟩) hS.2.2 dSE_seekLength_22
    · have e9 : min ll (lo tw K 0 g sm len) = ll := by omega
      rw [← hQe]
      exact W.vret hx hb hr (fun t ht hW => ⟨⟨(), rfl, trivial, by rw [ht, e9]; exact hP, by rw [e9]; exact hD⟩, hS.F ht⟩) hS.2.2 dSE_seekLength_8
  | succ r ih =>
    intro kS aS bS dS eS gS9 fS K G ll lm tw sm g op len sz hK3 hG8 hg hop hz ht hsm hlen hll
    refine Met.ofW (cc := cSE_seekLength) (maxL := 6) (ret := none) (by decide) rfl ?_
    intro p e s m args below meth c s₁ B hml hv
    obtain ⟨rfl, hsz, hP, hKX, hD0⟩ := hv
    have hK := hKX.1
    have hx := B.exec
    have hb := B.bytes
    have hr := B.returns
    have hts := atoms_spec (ws := wsSE_seekLength) B.pre
    have hown : s.vm.findClass RSE = some m.cls := findClass_of_methodNamed B.named
    have hlocks := B.notSynchronized
    subst hsz
    have hD := hD0.self (sz := s.heap.size)
    generalize hAe : va_A [(kS, .inr (6, [.int (nI (K + 1)), .int (nI G), .int (nI ll), .int (nI lm), .ref aS, .ref bS, .ref dS, .ref eS, .ref gS9, .ref fS])), (aS, .inl (cI, 8, .inl (fun j9 => nI (tw j9)))), (bS, .inl (cI, 4, .inl (fun j9 => nI (sm j9))))] s.heap.size = A at hD ⊢
    have hA : ∀ q : Nat, s.heap.size ≤ q → A q := fun q h => by rw [← hAe]; exact Or.inr h
    have hS : va_S A s.heap s.heap [] := va_S.rf
    have hl := lv_entry ([.ref kS, .int (nI g), .int (nI op), .int (nI len)]) (n := 6) (Nat.le_of_ble_eq_true rfl)
    rw [lg_entry_eq]
    generalize (lg_sl ([.ref kS, .int (nI g), .int (nI op), .int (nI len)]) ++ List.replicate (6 - (lg_sl ([.ref kS, .int (nI g), .int (nI op), .int (nI len)])).length) Slot.unset).toArray = ls at hl ⊢
    have hl : lv_has ls 6 [(0, .ref kS), (1, .int (nI g)), (2, .int (nI op)), (3, .int (nI len))] := hl
    generalize hRe : (headSpec wsSE_seekLength ({ frames := (r + 1) + 1, cells := 0, slots := 0, locals := 32 * ((r + 1) + 1) })).room = R
    have hRf : 1 ≤ R.frames := by rw [← hRe]; show 1 ≤ (r + 1) + 1; omega
    have hRl : 32 ≤ R.locals := by rw [← hRe]; show 32 ≤ 32 * ((r + 1) + 1); omega
    have hRc : 0 ≤ R.cells := by rw [← hRe]; exact Nat.le_refl _
    have hRs : 0 ≤ R.slots := by rw [← hRe]; exact Nat.le_refl _
    generalize hargs : (List.toArray [.ref kS, .int (nI g), .int (nI op), .int (nI len)] : Array Value) = args at hts ⊢
    generalize hQe : MQ below _ args s _ _ _ = Q
    have hge := lo_ge tw K (r + 1) g sm len
    refine lv_iload_n hx hb dSE_seekLength_0 rfl (lv_at hl 3 rfl) ?_
    refine lv_aload_n hx hb dSE_seekLength_1 rfl (lv_at hl 0 rfl) ?_
    refine va_get (D := (dC, dI)) (ci := 6) (v := .int (nI ll)) (C := RSE) (T := TSE) (N := 10) hx hb hts (fun w h => List.mem_cons_of_mem _ (inSE w h)) hown hK hP 0 rfl rfl 2 (by decide) (hts _ (List.mem_cons_of_mem _ kw_118)) (fun _ h9 => h9) rfl dSE_seekLength_2 ?_
    refine hr_icmp_lt hx hb (x := len) (y := ll) (by omega) (by omega) (tgt := 9) dSE_seekLength_5 (by decide) (fun c_1 => ?_) (fun c_1 => ?_)
    · refine lv_iload_n hx hb dSE_seekLength_9 rfl (lv_at hl 1 rfl) ?_
      refine lv_aload_n hx hb dSE_seekLength_10 rfl (lv_at hl 0 rfl) ?_
      refine va_get (D := (dC, dI)) (ci := 6) (v := .int (nI G)) (C := RSE) (T := TSE) (N := 10) hx hb hts (fun w h => List.mem_cons_of_mem _ (inSE w h)) hown hK hP 0 rfl rfl 1 (by decide) (hts _ (List.mem_cons_of_mem _ kw_117)) (fun _ h9 => h9) rfl dSE_seekLength_11 ?_
      refine hr_icmp_lt hx hb (x := g) (y := G) (by omega) (by omega) (tgt := 23) dSE_seekLength_14 (by decide) (fun c_2 => ?_) (fun c_2 => ?_)
      · refine lv_iload_n hx hb dSE_seekLength_23 rfl (lv_at hl 2 rfl) ?_
        refine lv_iconst (v := nI 1) hx hb dSE_seekLength_24 (by decide +kernel) ?_
        refine lv_iadd hx hb dSE_seekLength_25 ?_
        refine hr_eqi (nI_add _ _) ?_
        refine lv_aload_n hx hb dSE_seekLength_26 rfl (lv_at hl 0 rfl) ?_
        refine va_get (D := (dC, dI)) (ci := 6) (v := .int (nI (K + 1))) (C := RSE) (T := TSE) (N := 10) hx hb hts (fun w h => List.mem_cons_of_mem _ (inSE w h)) hown hK hP 0 rfl rfl 0 (by decide) (hts _ (List.mem_cons_of_mem _ kw_116)) (fun _ h9 => h9) rfl dSE_seekLength_27 ?_
        refine va_mmin (rest := []) hx hb (by rw [hml]; exact hl.1.symm) hown (hts (.methodLink RSE 32 Lib.Math.min.name) (by decide +kernel)) (hts (.static Lib.Math.min.name) (by decide +kernel)) (hts (.initialized "java/lang/Math") (by decide +kernel)) (hts (.code Lib.Math.min.name Lib.Math.min.code 2 (some .int)) (by decide +kernel)) (Nat.le_trans (Nat.le_of_ble_eq_true rfl) hRf) (Nat.le_trans (Nat.le_of_ble_eq_true rfl) hRl) (Nat.zero_le _) (Nat.zero_le _) dSE_seekLength_30 ?_
        refine hr_eqi (hr_min (by omega) (by omega)) ?_
        refine lv_istore (lv' := [(4, .int (nI (min (op + 1) (K + 1)))), (0, .ref kS), (1, .int (nI g)), (2, .int (nI op)), (3, .int (nI len))]) hx hb dSE_seekLength_33 hl (by decide) rfl (fun ls hl => ?_)
        refine lv_iconst (v := nI 0) hx hb dSE_seekLength_35 (by decide +kernel) ?_
        refine lv_istore (lv' := [(5, .int (nI 0)), (4, .int (nI (min (op + 1) (K + 1)))), (0, .ref kS), (1, .int (nI g)), (2, .int (nI op)), (3, .int (nI len))]) hx hb dSE_seekLength_36 hl (by decide) rfl (fun ls hl => ?_)
        have loop_38 : ∀ (n9 : Nat) (q : Nat) (b : Nat), q ≤ (min (op + 1) (K + 1)) → b = mnp (fun q => lo tw K r (g + 1) (va_up sm q (sm q + tw g)) (max len (sm q + tw g))) ll q → (min (op + 1) (K + 1)) + 1 ≤ q + n9 → ∀ (H : Heap) (locs : List Loc), va_P (dC, dI) vwCl [(kS, .inr (6, [.int (nI (K + 1)), .int (nI G), .int (nI b), .int (nI lm), .ref aS, .ref bS, .ref dS, .ref eS, .ref gS9, .ref fS])), (aS, .inl (cI, 8, .inl (fun j9 => nI (tw j9)))), (bS, .inl (cI, 4, .inl (fun j9 => nI (sm j9))))] H → va_D A [(kS, .inr (6, [.int (nI (K + 1)), .int (nI G), .int (nI b), .int (nI lm), .ref aS, .ref bS, .ref dS, .ref eS, .ref gS9, .ref fS])), (aS, .inl (cI, 8, .inl (fun j9 => nI (tw j9)))), (bS, .inl (cI, 4, .inl (fun j9 => nI (sm j9))))] → va_S A s.heap H locs → ∀ (ls : Array Slot), lv_has ls 6 [(5, .int (nI q)), (4, .int (nI (min (op + 1) (K + 1)))), (0, .ref kS), (1, .int (nI g)), (2, .int (nI op)), (3, .int (nI len))] → W p l e R s m args below meth c H locs 0 0 Q (F0 m 38 ls []) := by
          intro n9
          induction n9 with
          | zero =>
            intro q b hq hbb hmeas
            exact absurd hmeas (by omega)
          | succ n9 ih_38 =>
            intro q b hq hbb hmeas H locs hP hD hS ls hl
            have hbl := mnp_b (fun q => lo tw K r (g + 1) (va_up sm q (sm q + tw g)) (max len (sm q + tw g))) ll q
            rw [← hbb] at hbl
            have htg := ht g (by omega)
            refine lv_iload hx hb dSE_seekLength_38 (lv_at hl 0 rfl) ?_
            refine lv_iload hx hb dSE_seekLength_40 (lv_at hl 1 rfl) ?_
            refine hr_icmp_ge hx hb (x := q) (y := (min (op + 1) (K + 1))) (by omega) (by omega) (tgt := 109) dSE_seekLength_42 (by decide) (fun c_3 => ?_) (fun c_3 => ?_)
            · have eq1 : q = (min (op + 1) (K + 1)) := by omega
              have e9 : min ll (lo tw K (r + 1) g sm len) = b := by rw [hbb, eq1]; exact (lo_step tw r g sm len ll hz).symm
              rw [← hQe]
              exact W.vret hx hb hr (fun t ht hW => ⟨⟨(), rfl, trivial, by rw [ht, e9]; exact hP, by rw [e9]; exact hD⟩, hS.F ht⟩) hS.2.2 dSE_seekLength_109
            · have hsq := hsm q (by omega)
              refine lv_aload_n hx hb dSE_seekLength_45 rfl (lv_at hl 2 rfl) ?_
              refine va_get (D := (dC, dI)) (ci := 6) (v := .ref bS) (C := RSE) (T := TSE) (N := 10) hx hb hts (fun w h => List.mem_cons_of_mem _ (inSE w h)) hown hK hP 0 rfl rfl 5 (by decide) (hts _ (List.mem_cons_of_mem _ kw_121)) (fun _ h9 => h9) rfl dSE_seekLength_46 ?_
              refine lv_iload hx hb dSE_seekLength_49 (lv_at hl 0 rfl) ?_
              refine lv_dup2_11 hx hb dSE_seekLength_51 rfl rfl ?_
              refine hr_iald hx hb hK hP 2 0 rfl rfl (i := q) (by omega) (by omega) dSE_seekLength_52 ?_
              refine lv_aload_n hx hb dSE_seekLength_53 rfl (lv_at hl 2 rfl) ?_
              refine va_get (D := (dC, dI)) (ci := 6) (v := .ref aS) (C := RSE) (T := TSE) (N := 10) hx hb hts (fun w h => List.mem_cons_of_mem _ (inSE w h)) hown hK hP 0 rfl rfl 4 (by decide) (hts _ (List.mem_cons_of_mem _ kw_120)) (fun _ h9 => h9) rfl dSE_seekLength_54 ?_
              refine lv_iload_n hx hb dSE_seekLength_57 rfl (lv_at hl 3 rfl) ?_
              refine hr_iald hx hb hK hP 1 0 rfl rfl (i := g) (by omega) (by omega) dSE_seekLength_58 ?_
              refine lv_iadd hx hb dSE_seekLength_59 ?_
              refine hr_eqi (nI_add _ _) ?_
              refine hr_iastN hx hb hK hP hD hS 2 0 rfl rfl (i := q) (by omega) (by omega) dSE_seekLength_60 (fun H locs hP hD hS => ?_)
              have hP : va_P (dC, dI) vwCl [(kS, .inr (6, [.int (nI (K + 1)), .int (nI G), .int (nI b), .int (nI lm), .ref aS, .ref bS, .ref dS, .ref eS, .ref gS9, .ref fS])), (aS, .inl (cI, 8, .inl (fun j9 => nI (tw j9)))), (bS, .inl (cI, 4, .inl (fun j9 => nI ((va_up sm q ((sm q) + (tw g))) j9))))] H := hP
              have hD : va_D A [(kS, .inr (6, [.int (nI (K + 1)), .int (nI G), .int (nI b), .int (nI lm), .ref aS, .ref bS, .ref dS, .ref eS, .ref gS9, .ref fS])), (aS, .inl (cI, 8, .inl (fun j9 => nI (tw j9)))), (bS, .inl (cI, 4, .inl (fun j9 => nI ((va_up sm q ((sm q) + (tw g))) j9))))] := hD
              refine lv_aload_n hx hb dSE_seekLength_61 rfl (lv_at hl 2 rfl) ?_
              refine lv_iload_n hx hb dSE_seekLength_62 rfl (lv_at hl 3 rfl) ?_
              refine lv_iconst (v := nI 1) hx hb dSE_seekLength_63 (by decide +kernel) ?_
              refine lv_iadd hx hb dSE_seekLength_64 ?_
              refine hr_eqi (nI_add _ _) ?_
              refine lv_iload_n hx hb dSE_seekLength_65 rfl (lv_at hl 4 rfl) ?_
              refine lv_iload hx hb dSE_seekLength_66 (lv_at hl 0 rfl) ?_
              refine lv_iconst (v := nI 1) hx hb dSE_seekLength_68 (by decide +kernel) ?_
              refine lv_iadd hx hb dSE_seekLength_69 ?_
              refine hr_eqi (nI_add _ _) ?_
              refine va_mmax (rest := [.int (nI (g + 1)), .ref kS]) hx hb (by rw [hml]; exact hl.1.symm) hown (hts (.methodLink RSE 108 Lib.Math.max.name) (by decide +kernel)) (hts (.static Lib.Math.max.name) (by decide +kernel)) (hts (.initialized "java/lang/Math") (by decide +kernel)) (hts (.code Lib.Math.max.name Lib.Math.max.code 2 (some .int)) (by decide +kernel)) (Nat.le_trans (Nat.le_of_ble_eq_true rfl) hRf) (Nat.le_trans (Nat.le_of_ble_eq_true rfl) hRl) (Nat.zero_le _) (Nat.zero_le _) dSE_seekLength_70 ?_
              refine hr_eqi (hr_max (by omega) (by omega)) ?_
              refine lv_iload_n hx hb dSE_seekLength_73 rfl (lv_at hl 5 rfl) ?_
              refine lv_aload_n hx hb dSE_seekLength_74 rfl (lv_at hl 2 rfl) ?_
              refine va_get (D := (dC, dI)) (ci := 6) (v := .ref bS) (C := RSE) (T := TSE) (N := 10) hx hb hts (fun w h => List.mem_cons_of_mem _ (inSE w h)) hown hK hP 0 rfl rfl 5 (by decide) (hts _ (List.mem_cons_of_mem _ kw_121)) (fun _ h9 => h9) rfl dSE_seekLength_75 ?_
              refine lv_iload hx hb dSE_seekLength_78 (lv_at hl 0 rfl) ?_
              refine hr_iald hx hb hK hP 2 0 rfl rfl (i := q) (by omega) (by omega) dSE_seekLength_80 ?_
              refine hr_eqi (show nI (va_up sm q (sm q + tw g) q) = nI (sm q + tw g) by rw [va_up_self]) ?_
              refine va_mmax (rest := [.int (nI (max op (q + 1))), .int (nI (g + 1)), .ref kS]) hx hb (by rw [hml]; exact hl.1.symm) hown (hts (.methodLink RSE 108 Lib.Math.max.name) (by decide +kernel)) (hts (.static Lib.Math.max.name) (by decide +kernel)) (hts (.initialized "java/lang/Math") (by decide +kernel)) (hts (.code Lib.Math.max.name Lib.Math.max.code 2 (some .int)) (by decide +kernel)) (Nat.le_trans (Nat.le_of_ble_eq_true rfl) hRf) (Nat.le_trans (Nat.le_of_ble_eq_true rfl) hRl) (Nat.zero_le _) (Nat.zero_le _) dSE_seekLength_81 ?_
              refine hr_eqi (hr_max (by omega) (by omega)) ?_
              refine hr_callv (wr := []) (va_runV (C := RSE) (As := [.int (nI (g + 1)), .int (nI (max op (q + 1))), .int (nI (max len (sm q + tw g)))]) (rest := []) ⟨hx, hb, hml, hown, hts⟩ (ih kS aS bS dS eS gS9 fS K G b lm tw (va_up sm q (sm q + tw g)) (g + 1) (max op (q + 1)) (max len (sm q + tw g)) H.size (hK3) (hG8) (by omega) (by omega) (fun q2 h1 h2 => by rw [va_up_ne _ _ (by omega)]; exact hz q2 (by omega) h2) (ht) (fun q2 h1 => by
        by_cases e : q2 = q
        · rw [e, va_up_self]; omega
        · rw [va_up_ne _ _ e]; have := hsm q2 h1; omega) (by omega) (by omega)) (hr_cwV 3 hts kw_350 kw_352 kw_4 kw_27 kw_353 (by decide +kernel) (by rw [← hRe]; exact ⟨by show r + 1 + 1 ≤ r + 1 + 1; omega, by show 8 + (6 + 11) + 32 * (r + 1) ≤ 32 * (r + 1 + 1); omega⟩)) (hr_preW hKX hP hD [0, 1, 2] (by decide) rfl (ci := 6) (q0 := 0) (q := (RSE, TSE, 10)) rfl rfl) rfl rfl hl.1 rfl (lv_room (Nat.le_of_ble_eq_true rfl)) dSE_seekLength_84 ⟨by omega, by omega⟩) hP hD hS hA [0, 1, 2] [] rfl rfl (by decide) (by decide) [0, 1, 2] (fun u => [(kS, .inr (6, [.int (nI (K + 1)), .int (nI G), .int (nI (min b (lo tw K r (g + 1) (va_up sm q (sm q + tw g)) (max len (sm q + tw g))))), .int (nI lm), .ref aS, .ref bS, .ref dS, .ref eS, .ref gS9, .ref fS])), (aS, .inl (cI, 8, .inl (fun j9 => nI (tw j9)))), (bS, .inl (cI, 4, .inl (fun j9 => nI ((va_up sm q (sm q + tw g)) j9))))]) (by decide) (fun u => rfl) (fun u H locs hrv hP hD hS => ?_)
              have hP : va_P (dC, dI) vwCl [(kS, .inr (6, [.int (nI (K + 1)), .int (nI G), .int (nI (min b (lo tw K r (g + 1) (va_up sm q (sm q + tw g)) (max len (sm q + tw g))))), .int (nI lm), .ref aS, .ref bS, .ref dS, .ref eS, .ref gS9, .ref fS])), (aS, .inl (cI, 8, .inl (fun j9 => nI (tw j9)))), (bS, .inl (cI, 4, .inl (fun j9 => nI ((va_up sm q (sm q + tw g)) j9))))] H := hP
              have hD : va_D A [(kS, .inr (6, [.int (nI (K + 1)), .int (nI G), .int (nI (min b (lo tw K r (g + 1) (va_up sm q (sm q + tw g)) (max len (sm q + tw g))))), .int (nI lm), .ref aS, .ref bS, .ref dS, .ref eS, .ref gS9, .ref fS])), (aS, .inl (cI, 8, .inl (fun j9 => nI (tw j9)))), (bS, .inl (cI, 4, .inl (fun j9 => nI ((va_up sm q (sm q + tw g)) j9))))] := hD
              refine lv_aload_n hx hb dSE_seekLength_87 rfl (lv_at hl 2 rfl) ?_
              refine va_get (D := (dC, dI)) (ci := 6) (v := .ref bS) (C := RSE) (T := TSE) (N := 10) hx hb hts (fun w h => List.mem_cons_of_mem _ (inSE w h)) hown hK hP 0 rfl rfl 5 (by decide) (hts _ (List.mem_cons_of_mem _ kw_121)) (fun _ h9 => h9) rfl dSE_seekLength_88 ?_
              refine lv_iload hx hb dSE_seekLength_91 (lv_at hl 0 rfl) ?_
              refine lv_dup2_11 hx hb dSE_seekLength_93 rfl rfl ?_
              refine hr_iald hx hb hK hP 2 0 rfl rfl (i := q) (by omega) (by omega) dSE_seekLength_94 ?_
              refine hr_eqi (show nI (va_up sm q (sm q + tw g) q) = nI (sm q + tw g) by rw [va_up_self]) ?_
              refine lv_aload_n hx hb dSE_seekLength_95 rfl (lv_at hl 2 rfl) ?_
              refine va_get (D := (dC, dI)) (ci := 6) (v := .ref aS) (C := RSE) (T := TSE) (N := 10) hx hb hts (fun w h => List.mem_cons_of_mem _ (inSE w h)) hown hK hP 0 rfl rfl 4 (by decide) (hts _ (List.mem_cons_of_mem _ kw_120)) (fun _ h9 => h9) rfl dSE_seekLength_96 ?_
              refine lv_iload_n hx hb dSE_seekLength_99 rfl (lv_at hl 3 rfl) ?_
              refine hr_iald hx hb hK hP 1 0 rfl rfl (i := g) (by omega) (by omega) dSE_seekLength_100 ?_
              refine lv_isub hx hb dSE_seekLength_101 ?_
              refine hr_eqi (pk_sub (by omega)) ?_
              refine hr_iastN hx hb hK hP hD hS 2 0 rfl rfl (i := q) (by omega) (by omega) dSE_seekLength_102 (fun H locs hP hD hS => ?_)
              have hP : va_P (dC, dI) vwCl [(kS, .inr (6, [.int (nI (K + 1)), .int (nI G), .int (nI (min b (lo tw K r (g + 1) (va_up sm q (sm q + tw g)) (max len (sm q + tw g))))), .int (nI lm), .ref aS, .ref bS, .ref dS, .ref eS, .ref gS9, .ref fS])), (aS, .inl (cI, 8, .inl (fun j9 => nI (tw j9)))), (bS, .inl (cI, 4, .inl (fun j9 => nI ((va_up (va_up sm q (sm q + tw g)) q ((sm q + tw g) - (tw g))) j9))))] H := hP
              have hD : va_D A [(kS, .inr (6, [.int (nI (K + 1)), .int (nI G), .int (nI (min b (lo tw K r (g + 1) (va_up sm q (sm q + tw g)) (max len (sm q + tw g))))), .int (nI lm), .ref aS, .ref bS, .ref dS, .ref eS, .ref gS9, .ref fS])), (aS, .inl (cI, 8, .inl (fun j9 => nI (tw j9)))), (bS, .inl (cI, 4, .inl (fun j9 => nI ((va_up (va_up sm q (sm q + tw g)) q ((sm q + tw g) - (tw g))) j9))))] := hD
              rw [up_back] at hP hD
              have hP : va_P (dC, dI) vwCl [(kS, .inr (6, [.int (nI (K + 1)), .int (nI G), .int (nI (min b (lo tw K r (g + 1) (va_up sm q (sm q + tw g)) (max len (sm q + tw g))))), .int (nI lm), .ref aS, .ref bS, .ref dS, .ref eS, .ref gS9, .ref fS])), (aS, .inl (cI, 8, .inl (fun j9 => nI (tw j9)))), (bS, .inl (cI, 4, .inl (fun j9 => nI (sm j9))))] H := hP
              have hD : va_D A [(kS, .inr (6, [.int (nI (K + 1)), .int (nI G), .int (nI (min b (lo tw K r (g + 1) (va_up sm q (sm q + tw g)) (max len (sm q + tw g))))), .int (nI lm), .ref aS, .ref bS, .ref dS, .ref eS, .ref gS9, .ref fS])), (aS, .inl (cI, 8, .inl (fun j9 => nI (tw j9)))), (bS, .inl (cI, 4, .inl (fun j9 => nI (sm j9))))] := hD
              refine lv_iinc (v := nI (q + 1)) (lv' := [(5, .int (nI (q + 1))), (4, .int (nI (min (op + 1) (K + 1)))), (0, .ref kS), (1, .int (nI g)), (2, .int (nI op)), (3, .int (nI len))]) hx hb dSE_seekLength_103 hl (k := 0) rfl (hr_inc _) (by decide) rfl (fun ls hl => ?_)
              refine lv_goto (tgt := 38) hx hb dSE_seekLength_106 (by decide) ?_
              exact ih_38 (q + 1) (min b (lo tw K r (g + 1) (va_up sm q (sm q + tw g)) (max len (sm q + tw g)))) (by omega) (by rw [hbb]; rfl) (by omega) _ _ hP hD hS ls (lv_sub hl [0, 1, 2, 3, 4, 5] rfl)
        exact loop_38 ((min (op + 1) (K + 1)) + 1) 0 ll (by omega) (rfl) (by omega) _ _ hP hD hS ls (lv_sub hl [0, 1, 2, 3, 4, 5] rfl)
      · exact absurd c_2 (by omega)
    · have e9 : min ll (lo tw K (r + 1) g sm len) = ll := by omega
      rw [← hQe]
      exact W.vret hx hb hr (fun t ht hW => ⟨⟨(), rfl, trivial, by rw [ht, e9]; exact hP, by rw [e9]; exact hD⟩, hS.F ht⟩) hS.2.2 dSE_seekLength_8

set_option maxHeartbeats 400000 in
set_option maxRecDepth 100000 in
/-- the SHARDS under the LENGTH -/
theorem c_SE_seekShards (l : Launch) (dC : Nat → ClassId) (dI : Nat → Nat → Nat) (cI cZ cG : ClassId) : ∀ (r : Nat) (kS : Nat) (aS : Nat) (bS : Nat) (dS : Nat) (eS : Nat) (gS9 : Nat) (fS : Nat) (K : Nat) (G : Nat) (ll : Nat) (lm : Nat) (ro : Nat → Nat) (mx : Nat → Nat → Nat) (tw : Nat → Nat) (sm : Nat → Nat) (tr : Nat → Nat) (be : Nat → Nat) (mf : Nat → Nat) (g : Nat) (md : Nat) (sz : Nat) (hK3 : K ≤ 3) (hG8 : G ≤ 8) (hg : g + r = G) (ht : ∀ j, j < 8 → tw j ≤ 2400000) (hsm : ∀ q, q < 4 → sm q ≤ 2400000 * g) (hll : ll < 2 ^ 31) (hlm : lm < 2 ^ 31) (hmd : md ≤ 24 * g) (hmx : ∀ g, g < G → ∀ s, s < K + 1 → mx g s ≤ 24) (hmf : ∀ g, g ≤ G → mf g ≤ 192) (hm0 : mf G = 0) (hLB : ∀ g, g < G → ∀ s, s < K + 1 → mf g ≤ mx g s + mf (g + 1)), Met l ySE_seekShards wsSE_seekShards ({ frames := r + 1, cells := 0, slots := 0, locals := 32 * (r + 1) }) (va_Pc [.ref kS, .int (nI g), .int (nI md)] (fun U => U.heap.size = sz ∧ va_P (dC, dI) vwCl ([(kS, .inr (6, [.int (nI (K + 1)), .int (nI G), .int (nI ll), .int (nI lm), .ref aS, .ref bS, .ref dS, .ref eS, .ref gS9, .ref fS])), (aS, .inl (cI, 8, .inl (fun j9 => nI (tw j9)))), (bS, .inl (cI, 4, .inl (fun j9 => nI (sm j9)))), (dS, .inl (cI, 8, .inl (fun j9 => nI (tr j9)))), (eS, .inl (cI, 8, .inl (fun j9 => nI (be j9)))), (gS9, .inl (cG, 8, .inr (.inr (.inr (.inr (grf ro)))))), (fS, .inl (cI, 9, .inl (fun j9 => nI (mf j9))))] ++ rws ro cI mx) U.heap ∧ KX dC dI cI cZ cG U ∧ va_D (fun _ => True) ([(kS, .inr (6, [.int (nI (K + 1)), .int (nI G), .int (nI ll), .int (nI lm), .ref aS, .ref bS, .ref dS, .ref eS, .ref gS9, .ref fS])), (aS, .inl (cI, 8, .inl (fun j9 => nI (tw j9)))), (bS, .inl (cI, 4, .inl (fun j9 => nI (sm j9)))), (dS, .inl (cI, 8, .inl (fun j9 => nI (tr j9)))), (eS, .inl (cI, 8, .inl (fun j9 => nI (be j9)))), (gS9, .inl (cG, 8, .inr (.inr (.inr (.inr (grf ro)))))), (fS, .inl (cI, 9, .inl (fun j9 => nI (mf j9))))] ++ rws ro cI mx))) (va_Qv (fun (u : (Nat → Nat)) => ∀ j, j < g → u j = tr j) (fun u t => va_P (dC, dI) vwCl ([(kS, .inr (6, [.int (nI (K + 1)), .int (nI G), .int (nI ll), .int (nI ((fs tw mx K ll G r g md sm tr (lm, be)).1)), .ref aS, .ref bS, .ref dS, .ref eS, .ref gS9, .ref fS])), (aS, .inl (cI, 8, .inl (fun j9 => nI (tw j9)))), (bS, .inl (cI, 4, .inl (fun j9 => nI (sm j9)))), (dS, .inl (cI, 8, .inl (fun j9 => nI (u j9)))), (eS, .inl (cI, 8, .inl (fun j9 => nI (((fs tw mx K ll G r g md sm tr (lm, be)).2) j9)))), (gS9, .inl (cG, 8, .inr (.inr (.inr (.inr (grf ro)))))), (fS, .inl (cI, 9, .inl (fun j9 => nI (mf j9))))] ++ rws ro cI mx) t.heap ∧ va_D (va_A ([(kS, .inr (6, [.int (nI (K + 1)), .int (nI G), .int (nI ll), .int (nI lm), .ref aS, .ref bS, .ref dS, .ref eS, .ref gS9, .ref fS])), (aS, .inl (cI, 8, .inl (fun j9 => nI (tw j9)))), (bS, .inl (cI, 4, .inl (fun j9 => nI (sm j9)))), (dS, .inl (cI, 8, .inl (fun j9 => nI (tr j9)))), (eS, .inl (cI, 8, .inl (fun j9 => nI (be j9)))), (gS9, .inl (cG, 8, .inr (.inr (.inr (.inr (grf ro)))))), (fS, .inl (cI, 9, .inl (fun j9 => nI (mf j9))))] ++ rws ro cI mx) sz) ([(kS, .inr (6, [.int (nI (K + 1)), .int (nI G), .int (nI ll), .int (nI ((fs tw mx K ll G r g md sm tr (lm, be)).1)), .ref aS, .ref bS, .ref dS, .ref eS, .ref gS9, .ref fS])), (aS, .inl (cI, 8, .inl (fun j9 => nI (tw j9)))), (bS, .inl (cI, 4, .inl (fun j9 => nI (sm j9)))), (dS, .inl (cI, 8, .inl (fun j9 => nI (u j9)))), (eS, .inl (cI, 8, .inl (fun j9 => nI (((fs tw mx K ll G r g md sm tr (lm, be)).2) j9)))), (gS9, .inl (cG, 8, .inr (.inr (.inr (.inr (grf ro)))))), (fS, .inl (cI, 9, .inl (fun j9 => nI (mf j9))))] ++ rws ro cI mx)) (va_A ([(kS, .inr (6, [.int (nI (K + 1)), .int (nI G), .int (nI ll), .int (nI lm), .ref aS, .ref bS, .ref dS, .ref eS, .ref gS9, .ref fS])), (aS, .inl (cI, 8, .inl (fun j9 => nI (tw j9)))), (bS, .inl (cI, 4, .inl (fun j9 => nI (sm j9)))), (dS, .inl (cI, 8, .inl (fun j9 => nI (tr j9)))), (eS, .inl (cI, 8, .inl (fun j9 => nI (be j9)))), (gS9, .inl (cG, 8, .inr (.inr (.inr (.inr (grf ro)))))), (fS, .inl (cI, 9, .inl (fun j9 => nI (mf j9))))] ++ rws ro cI mx) sz)) 0 0 (va_A ([(kS, .inr (6, [.int (nI (K + 1)), .int (nI G), .int (nI ll), .int (nI lm), .ref aS, .ref bS, .ref dS, .ref eS, .ref gS9, .ref fS])), (aS, .inl (cI, 8, .inl (fun j9 => nI (tw j9)))), (bS, .inl (cI, 4, .inl (fun j9 => nI (sm j9)))), (dS, .inl (cI, 8, .inl (fun j9 => nI (tr j9)))), (eS, .inl (cI, 8, .inl (fun j9 => nI (be j9)))), (gS9, .inl (cG, 8, .inr (.inr (.inr (.inr (grf ro)))))), (fS, .inl (cI, 9, .inl (fun j9 => nI (mf j9))))] ++ rws ro cI mx) sz) := by
  intro r
  induction r with
  | zero =>
    intro kS aS bS dS eS gS9 fS K G ll lm ro mx tw sm tr be mf g md sz hK3 hG8 hg ht hsm hll hlm hmd hmx hmf hm0 hLB
    refine Met.ofW (cc := cSE_seekShards) (maxL := 4) (ret := none) (by decide) rfl ?_
    intro p e s m args below meth c s₁ B hml hv
    obtain ⟨rfl, hsz, hP, hKX, hD0⟩ := hv
    have hK := hKX.1
    have hx := B.exec
    have hb := B.bytes
    have hr := B.returns
    have hts := atoms_spec (ws := wsSE_seekShards) B.pre
    have hown : s.vm.findClass RSE = some m.cls := findClass_of_methodNamed B.named
    have hlocks := B.notSynchronized
    subst hsz
    have hD := hD0.self (sz := s.heap.size)
    generalize hAe : va_A ([(kS, .inr (6, [.int (nI (K + 1)), .int (nI G), .int (nI ll), .int (nI lm), .ref aS, .ref bS, .ref dS, .ref eS, .ref gS9, .ref fS])), (aS, .inl (cI, 8, .inl (fun j9 => nI (tw j9)))), (bS, .inl (cI, 4, .inl (fun j9 => nI (sm j9)))), (dS, .inl (cI, 8, .inl (fun j9 => nI (tr j9)))), (eS, .inl (cI, 8, .inl (fun j9 => nI (be j9)))), (gS9, .inl (cG, 8, .inr (.inr (.inr (.inr (grf ro)))))), (fS, .inl (cI, 9, .inl (fun j9 => nI (mf j9))))] ++ rws ro cI mx) s.heap.size = A at hD ⊢
    have hA : ∀ q : Nat, s.heap.size ≤ q → A q := fun q h => by rw [← hAe]; exact Or.inr h
    have hS : va_S A s.heap s.heap [] := va_S.rf
    have hl := lv_entry ([.ref kS, .int (nI g), .int (nI md)]) (n := 4) (Nat.le_of_ble_eq_true rfl)
    rw [lg_entry_eq]
    generalize (lg_sl ([.ref kS, .int (nI g), .int (nI md)]) ++ List.replicate (4 - (lg_sl ([.ref kS, .int (nI g), .int (nI md)])).length) Slot.unset).toArray = ls at hl ⊢
    have hl : lv_has ls 4 [(0, .ref kS), (1, .int (nI g)), (2, .int (nI md))] := hl
    generalize hRe : (headSpec wsSE_seekShards ({ frames := 0 + 1, cells := 0, slots := 0, locals := 32 * (0 + 1) })).room = R
    have hRf : 1 ≤ R.frames := by rw [← hRe]; show 1 ≤ 0 + 1; omega
    have hRl : 32 ≤ R.locals := by rw [← hRe]; show 32 ≤ 32 * (0 + 1); omega
    have hRc : 0 ≤ R.cells := by rw [← hRe]; exact Nat.le_refl _
    have hRs : 0 ≤ R.slots := by rw [← hRe]; exact Nat.le_refl _
    generalize hargs : (List.toArray [.ref kS, .int (nI g), .int (nI md)] : Array Value) = args at hts ⊢
    generalize hQe : MQ below _ args s _ _ _ = Q
    have hmg := hmf g (by omega)
    refine lv_iload_n hx hb dSE_seekShards_0 rfl (lv_at hl 2 rfl) ?_
    refine lv_aload_n hx hb dSE_seekShards_1 rfl (lv_at hl 0 rfl) ?_
    refine va_get (D := (dC, dI)) (ci := 6) (v := .ref fS) (C := RSE) (T := TSE) (N := 10) hx hb hts (fun w h => List.mem_cons_of_mem _ (inSE w h)) hown hK hP 0 rfl rfl 9 (by decide) (hts _ (List.mem_cons_of_mem _ kw_125)) (fun _ h9 => h9) rfl dSE_seekShards_2 ?_
    refine lv_iload_n hx hb dSE_seekShards_5 rfl (lv_at hl 1 rfl) ?_
    refine hr_iald hx hb hK hP 6 0 rfl rfl (i := g) (by omega) (by omega) dSE_seekShards_6 ?_
    refine lv_iadd hx hb dSE_seekShards_7 ?_
    refine hr_eqi (nI_add _ _) ?_
    refine lv_aload_n hx hb dSE_seekShards_8 rfl (lv_at hl 0 rfl) ?_
    refine va_get (D := (dC, dI)) (ci := 6) (v := .int (nI lm)) (C := RSE) (T := TSE) (N := 10) hx hb hts (fun w h => List.mem_cons_of_mem _ (inSE w h)) hown hK hP 0 rfl rfl 3 (by decide) (hts _ (List.mem_cons_of_mem _ kw_119)) (fun _ h9 => h9) rfl dSE_seekShards_9 ?_
    refine hr_icmp_lt hx hb (x := (md + (mf g))) (y := lm) (by omega) (by omega) (tgt := 16) dSE_seekShards_12 (by decide) (fun c_1 => ?_) (fun c_1 => ?_)
    · refine lv_iload_n hx hb dSE_seekShards_16 rfl (lv_at hl 1 rfl) ?_
      refine lv_aload_n hx hb dSE_seekShards_17 rfl (lv_at hl 0 rfl) ?_
      refine va_get (D := (dC, dI)) (ci := 6) (v := .int (nI G)) (C := RSE) (T := TSE) (N := 10) hx hb hts (fun w h => List.mem_cons_of_mem _ (inSE w h)) hown hK hP 0 rfl rfl 1 (by decide) (hts _ (List.mem_cons_of_mem _ kw_117)) (fun _ h9 => h9) rfl dSE_seekShards_18 ?_
      refine hr_icmp_lt hx hb (x := g) (y := G) (by omega) (by omega) (tgt := 47) dSE_seekShards_21 (by decide) (fun c_2 => ?_) (fun c_2 => ?_)
      · exact absurd c_2 (by omega)
      · refine lv_aload_n hx hb dSE_seekShards_24 rfl (lv_at hl 0 rfl) ?_
        refine lv_iload_n hx hb dSE_seekShards_25 rfl (lv_at hl 2 rfl) ?_
        refine va_put (D := (dC, dI)) (ci := 6) (v := .int (nI md)) (ty := .int) (C := RSE) (T := TSE) (N := 10) hx hb hts (fun w h => List.mem_cons_of_mem _ (inSE w h)) tySE tySE_ok nmSE hown hK hP hD hS 0 rfl rfl 3 (by decide) (hts _ (List.mem_cons_of_mem _ kw_119)) (fun _ h9 => h9) rfl (by decide +kernel) rfl rfl (Nat.le_of_ble_eq_true rfl) dSE_seekShards_26 (fun H locs hP hD hS => ?_)
        have hP : va_P (dC, dI) vwCl ([(kS, .inr (6, [.int (nI (K + 1)), .int (nI G), .int (nI ll), .int (nI md), .ref aS, .ref bS, .ref dS, .ref eS, .ref gS9, .ref fS])), (aS, .inl (cI, 8, .inl (fun j9 => nI (tw j9)))), (bS, .inl (cI, 4, .inl (fun j9 => nI (sm j9)))), (dS, .inl (cI, 8, .inl (fun j9 => nI (tr j9)))), (eS, .inl (cI, 8, .inl (fun j9 => nI (be j9)))), (gS9, .inl (cG, 8, .inr (.inr (.inr (.inr (grf ro)))))), (fS, .inl (cI, 9, .inl (fun j9 => nI (mf j9))))] ++ rws ro cI mx) H := hP
        have hD : va_D A ([(kS, .inr (6, [.int (nI (K + 1)), .int (nI G), .int (nI ll), .int (nI md), .ref aS, .ref bS, .ref dS, .ref eS, .ref gS9, .ref fS])), (aS, .inl (cI, 8, .inl (fun j9 => nI (tw j9)))), (bS, .inl (cI, 4, .inl (fun j9 => nI (sm j9)))), (dS, .inl (cI, 8, .inl (fun j9 => nI (tr j9)))), (eS, .inl (cI, 8, .inl (fun j9 => nI (be j9)))), (gS9, .inl (cG, 8, .inr (.inr (.inr (.inr (grf ro)))))), (fS, .inl (cI, 9, .inl (fun j9 => nI (mf j9))))] ++ rws ro cI mx) := hD
        refine lv_aload_n hx hb dSE_seekShards_29 rfl (lv_at hl 0 rfl) ?_
        refine va_get (D := (dC, dI)) (ci := 6) (v := .ref dS) (C := RSE) (T := TSE) (N := 10) hx hb hts (fun w h => List.mem_cons_of_mem _ (inSE w h)) hown hK hP 0 rfl rfl 6 (by decide) (hts _ (List.mem_cons_of_mem _ kw_122)) (fun _ h9 => h9) rfl dSE_seekShards_30 ?_
        refine lv_iconst (v := nI 0) hx hb dSE_seekShards_33 (by decide +kernel) ?_
        refine lv_aload_n hx hb dSE_seekShards_34 rfl (lv_at hl 0 rfl) ?_
        refine va_get (D := (dC, dI)) (ci := 6) (v := .ref eS) (C := RSE) (T := TSE) (N := 10) hx hb hts (fun w h => List.mem_cons_of_mem _ (inSE w h)) hown hK hP 0 rfl rfl 7 (by decide) (hts _ (List.mem_cons_of_mem _ kw_123)) (fun _ h9 => h9) rfl dSE_seekShards_35 ?_
        refine lv_iconst (v := nI 0) hx hb dSE_seekShards_38 (by decide +kernel) ?_
        refine lv_aload_n hx hb dSE_seekShards_39 rfl (lv_at hl 0 rfl) ?_
        refine va_get (D := (dC, dI)) (ci := 6) (v := .int (nI G)) (C := RSE) (T := TSE) (N := 10) hx hb hts (fun w h => List.mem_cons_of_mem _ (inSE w h)) hown hK hP 0 rfl rfl 1 (by decide) (hts _ (List.mem_cons_of_mem _ kw_117)) (fun _ h9 => h9) rfl dSE_seekShards_40 ?_
        refine hr_copy (n := G) (rest := []) hx hb (by rw [hml]; exact hl.1.symm) hown (hts _ (List.mem_cons_of_mem _ kw_325)) (hts _ (List.mem_cons_of_mem _ kw_327)) (hts _ (List.mem_cons_of_mem _ kw_326)) (hts _ (List.mem_cons_of_mem _ kw_34)) hK hP hD hS 3 4 0 rfl rfl rfl (by omega) (by omega) (by omega) hRf (Nat.le_trans (by decide) hRl) dSE_seekShards_43 (fun H locs hP hD hS => ?_)
        rw [hr_cpyN] at hP hD
        have hP : va_P (dC, dI) vwCl ([(kS, .inr (6, [.int (nI (K + 1)), .int (nI G), .int (nI ll), .int (nI md), .ref aS, .ref bS, .ref dS, .ref eS, .ref gS9, .ref fS])), (aS, .inl (cI, 8, .inl (fun j9 => nI (tw j9)))), (bS, .inl (cI, 4, .inl (fun j9 => nI (sm j9)))), (dS, .inl (cI, 8, .inl (fun j9 => nI (tr j9)))), (eS, .inl (cI, 8, .inl (fun j9 => nI ((va_cpy tr be 0 0 G) j9)))), (gS9, .inl (cG, 8, .inr (.inr (.inr (.inr (grf ro)))))), (fS, .inl (cI, 9, .inl (fun j9 => nI (mf j9))))] ++ rws ro cI mx) H := hP
        have hD : va_D A ([(kS, .inr (6, [.int (nI (K + 1)), .int (nI G), .int (nI ll), .int (nI md), .ref aS, .ref bS, .ref dS, .ref eS, .ref gS9, .ref fS])), (aS, .inl (cI, 8, .inl (fun j9 => nI (tw j9)))), (bS, .inl (cI, 4, .inl (fun j9 => nI (sm j9)))), (dS, .inl (cI, 8, .inl (fun j9 => nI (tr j9)))), (eS, .inl (cI, 8, .inl (fun j9 => nI ((va_cpy tr be 0 0 G) j9)))), (gS9, .inl (cG, 8, .inr (.inr (.inr (.inr (grf ro)))))), (fS, .inl (cI, 9, .inl (fun j9 => nI (mf j9))))] ++ rws ro cI mx) := hD
        have e9 : (fs tw mx K ll G 0 g md sm tr (lm, be)) = (md, va_cpy tr be 0 0 G) := if_pos (by show md < lm; omega)
        rw [← hQe]
        exact W.vret hx hb hr (fun t ht hW => ⟨⟨tr, rfl, fun j hj => rfl, by rw [ht, e9]; exact hP, by rw [e9]; exact hD⟩, hS.F ht⟩) hS.2.2 dSE_seekShards_46
    · have e9 : (fs tw mx K ll G 0 g md sm tr (lm, be)) = (lm, be) := fs_prune hm0 hLB 0 g md sm tr (lm, be) hg c_1
      rw [← hQe]
      exact W.vret hx hb hr (fun t ht hW => ⟨⟨tr, rfl, fun j hj => rfl, by rw [ht, e9]; exact hP, by rw [e9]; exact hD⟩, hS.F ht⟩) hS.2.2 dSE_seekShards_15
  | succ r ih =>
    intro kS aS bS dS eS gS9 fS K G ll lm ro mx tw sm tr be mf g md sz hK3 hG8 hg ht hsm hll hlm hmd hmx hmf hm0 hLB
    refine Met.ofW (cc := cSE_seekShards) (maxL := 4) (ret := none) (by decide) rfl ?_
    intro p e s m args below meth c s₁ B hml hv
    obtain ⟨rfl, hsz, hP, hKX, hD0⟩ := hv
    have hK := hKX.1
    have hx := B.exec
    have hb := B.bytes
    have hr := B.returns
    have hts := atoms_spec (ws := wsSE_seekShards) B.pre
    have hown : s.vm.findClass RSE = some m.cls := findClass_of_methodNamed B.named
    have hlocks := B.notSynchronized
    subst hsz
    have hD := hD0.self (sz := s.heap.size)
    generalize hAe : va_A ([(kS, .inr (6, [.int (nI (K + 1)), .int (nI G), .int (nI ll), .int (nI lm), .ref aS, .ref bS, .ref dS, .ref eS, .ref gS9, .ref fS])), (aS, .inl (cI, 8, .inl (fun j9 => nI (tw j9)))), (bS, .inl (cI, 4, .inl (fun j9 => nI (sm j9)))), (dS, .inl (cI, 8, .inl (fun j9 => nI (tr j9)))), (eS, .inl (cI, 8, .inl (fun j9 => nI (be j9)))), (gS9, .inl (cG, 8, .inr (.inr (.inr (.inr (grf ro)))))), (fS, .inl (cI, 9, .inl (fun j9 => nI (mf j9))))] ++ rws ro cI mx) s.heap.size = A at hD ⊢
    have hA : ∀ q : Nat, s.heap.size ≤ q → A q := fun q h => by rw [← hAe]; exact Or.inr h
    have hS : va_S A s.heap s.heap [] := va_S.rf
    have hl := lv_entry ([.ref kS, .int (nI g), .int (nI md)]) (n := 4) (Nat.le_of_ble_eq_true rfl)
    rw [lg_entry_eq]
    generalize (lg_sl ([.ref kS, .int (nI g), .int (nI md)]) ++ List.replicate (4 - (lg_sl ([.ref kS, .int (nI g), .int (nI md)])).length) Slot.unset).toArray = ls at hl ⊢
    have hl : lv_has ls 4 [(0, .ref kS), (1, .int (nI g)), (2, .int (nI md))] := hl
    generalize hRe : (headSpec wsSE_seekShards ({ frames := (r + 1) + 1, cells := 0, slots := 0, locals := 32 * ((r + 1) + 1) })).room = R
    have hRf : 1 ≤ R.frames := by rw [← hRe]; show 1 ≤ (r + 1) + 1; omega
    have hRl : 32 ≤ R.locals := by rw [← hRe]; show 32 ≤ 32 * ((r + 1) + 1); omega
    have hRc : 0 ≤ R.cells := by rw [← hRe]; exact Nat.le_refl _
    have hRs : 0 ≤ R.slots := by rw [← hRe]; exact Nat.le_refl _
    generalize hargs : (List.toArray [.ref kS, .int (nI g), .int (nI md)] : Array Value) = args at hts ⊢
    generalize hQe : MQ below _ args s _ _ _ = Q
    have hmg := hmf g (by omega)
    refine lv_iload_n hx hb dSE_seekShards_0 rfl (lv_at hl 2 rfl) ?_
    refine lv_aload_n hx hb dSE_seekShards_1 rfl (lv_at hl 0 rfl) ?_
    refine va_get (D := (dC, dI)) (ci := 6) (v := .ref fS) (C := RSE) (T := TSE) (N := 10) hx hb hts (fun w h => List.mem_cons_of_mem _ (inSE w h)) hown hK hP 0 rfl rfl 9 (by decide) (hts _ (List.mem_cons_of_mem _ kw_125)) (fun _ h9 => h9) rfl dSE_seekShards_2 ?_
    refine lv_iload_n hx hb dSE_seekShards_5 rfl (lv_at hl 1 rfl) ?_
    refine hr_iald hx hb hK hP 6 0 rfl rfl (i := g) (by omega) (by omega) dSE_seekShards_6 ?_
    refine lv_iadd hx hb dSE_seekShards_7 ?_
    refine hr_eqi (nI_add _ _) ?_
    refine lv_aload_n hx hb dSE_seekShards_8 rfl (lv_at hl 0 rfl) ?_
    refine va_get (D := (dC, dI)) (ci := 6) (v := .int (nI lm)) (C := RSE) (T := TSE) (N := 10) hx hb hts (fun w h => List.mem_cons_of_mem _ (inSE w h)) hown hK hP 0 rfl rfl 3 (by decide) (hts _ (List.mem_cons_of_mem _ kw_119)) (fun _ h9 => h9) rfl dSE_seekShards_9 ?_
    refine hr_icmp_lt hx hb (x := (md + (mf g))) (y := lm) (by omega) (by omega) (tgt := 16) dSE_seekShards_12 (by decide) (fun c_1 => ?_) (fun c_1 => ?_)
    · refine lv_iload_n hx hb dSE_seekShards_16 rfl (lv_at hl 1 rfl) ?_
      refine lv_aload_n hx hb dSE_seekShards_17 rfl (lv_at hl 0 rfl) ?_
      refine va_get (D := (dC, dI)) (ci := 6) (v := .int (nI G)) (C := RSE) (T := TSE) (N := 10) hx hb hts (fun w h => List.mem_cons_of_mem _ (inSE w h)) hown hK hP 0 rfl rfl 1 (by decide) (hts _ (List.mem_cons_of_mem _ kw_117)) (fun _ h9 => h9) rfl dSE_seekShards_18 ?_
      refine hr_icmp_lt hx hb (x := g) (y := G) (by omega) (by omega) (tgt := 47) dSE_seekShards_21 (by decide) (fun c_2 => ?_) (fun c_2 => ?_)
      · refine lv_iconst (v := nI 0) hx hb dSE_seekShards_47 (by decide +kernel) ?_
        refine lv_istore_n (lv' := [(3, .int (nI 0)), (0, .ref kS), (1, .int (nI g)), (2, .int (nI md))]) hx hb dSE_seekShards_48 rfl hl (by decide) rfl (fun ls hl => ?_)
        have loop_49 : ∀ (n9 : Nat) (q : Nat) (b1 : Nat) (b2 : Nat → Nat) (tq : Nat → Nat), q ≤ K + 1 → (b1, b2) = fldB (fsF tw mx K ll G r g md sm tr) q (lm, be) → b1 < 2 ^ 31 → (∀ j, j < g → tq j = tr j) → (K + 1) + 1 ≤ q + n9 → ∀ (H : Heap) (locs : List Loc), va_P (dC, dI) vwCl ([(kS, .inr (6, [.int (nI (K + 1)), .int (nI G), .int (nI ll), .int (nI b1), .ref aS, .ref bS, .ref dS, .ref eS, .ref gS9, .ref fS])), (aS, .inl (cI, 8, .inl (fun j9 => nI (tw j9)))), (bS, .inl (cI, 4, .inl (fun j9 => nI (sm j9)))), (dS, .inl (cI, 8, .inl (fun j9 => nI (tq j9)))), (eS, .inl (cI, 8, .inl (fun j9 => nI (b2 j9)))), (gS9, .inl (cG, 8, .inr (.inr (.inr (.inr (grf ro)))))), (fS, .inl (cI, 9, .inl (fun j9 => nI (mf j9))))] ++ rws ro cI mx) H → va_D A ([(kS, .inr (6, [.int (nI (K + 1)), .int (nI G), .int (nI ll), .int (nI b1), .ref aS, .ref bS, .ref dS, .ref eS, .ref gS9, .ref fS])), (aS, .inl (cI, 8, .inl (fun j9 => nI (tw j9)))), (bS, .inl (cI, 4, .inl (fun j9 => nI (sm j9)))), (dS, .inl (cI, 8, .inl (fun j9 => nI (tq j9)))), (eS, .inl (cI, 8, .inl (fun j9 => nI (b2 j9)))), (gS9, .inl (cG, 8, .inr (.inr (.inr (.inr (grf ro)))))), (fS, .inl (cI, 9, .inl (fun j9 => nI (mf j9))))] ++ rws ro cI mx) → va_S A s.heap H locs → ∀ (ls : Array Slot), lv_has ls 4 [(3, .int (nI q)), (0, .ref kS), (1, .int (nI g)), (2, .int (nI md))] → W p l e R s m args below meth c H locs 0 0 Q (F0 m 49 ls []) := by
          intro n9
          induction n9 with
          | zero =>
            intro q b1 b2 tq hq hbb hb1 htq hmeas
            exact absurd hmeas (by omega)
          | succ n9 ih_49 =>
            intro q b1 b2 tq hq hbb hb1 htq hmeas H locs hP hD hS ls hl
            have htg := ht g (by omega)
            refine lv_iload_n hx hb dSE_seekShards_49 rfl (lv_at hl 0 rfl) ?_
            refine lv_aload_n hx hb dSE_seekShards_50 rfl (lv_at hl 1 rfl) ?_
            refine va_get (D := (dC, dI)) (ci := 6) (v := .int (nI (K + 1))) (C := RSE) (T := TSE) (N := 10) hx hb hts (fun w h => List.mem_cons_of_mem _ (inSE w h)) hown hK hP 0 rfl rfl 0 (by decide) (hts _ (List.mem_cons_of_mem _ kw_116)) (fun _ h9 => h9) rfl dSE_seekShards_51 ?_
            refine hr_icmp_ge hx hb (x := q) (y := (K + 1)) (by omega) (by omega) (tgt := 137) dSE_seekShards_54 (by decide) (fun c_3 => ?_) (fun c_3 => ?_)
            · have eq1 : q = K + 1 := by omega
              have e9 : (fs tw mx K ll G (r + 1) g md sm tr (lm, be)) = (b1, b2) := by rw [fs_succ, hbb, eq1]
              rw [← hQe]
              exact W.vret hx hb hr (fun t ht hW => ⟨⟨tq, rfl, htq, by rw [ht, e9]; exact hP, by rw [e9]; exact hD⟩, hS.F ht⟩) hS.2.2 dSE_seekShards_137
            · have hsq := hsm q (by omega)
              have hmq := hmx g (by omega) q (by omega)
              refine lv_aload_n hx hb dSE_seekShards_57 rfl (lv_at hl 1 rfl) ?_
              refine va_get (D := (dC, dI)) (ci := 6) (v := .ref bS) (C := RSE) (T := TSE) (N := 10) hx hb hts (fun w h => List.mem_cons_of_mem _ (inSE w h)) hown hK hP 0 rfl rfl 5 (by decide) (hts _ (List.mem_cons_of_mem _ kw_121)) (fun _ h9 => h9) rfl dSE_seekShards_58 ?_
              refine lv_iload_n hx hb dSE_seekShards_61 rfl (lv_at hl 0 rfl) ?_
              refine hr_iald hx hb hK hP 2 0 rfl rfl (i := q) (by omega) (by omega) dSE_seekShards_62 ?_
              refine lv_aload_n hx hb dSE_seekShards_63 rfl (lv_at hl 1 rfl) ?_
              refine va_get (D := (dC, dI)) (ci := 6) (v := .ref aS) (C := RSE) (T := TSE) (N := 10) hx hb hts (fun w h => List.mem_cons_of_mem _ (inSE w h)) hown hK hP 0 rfl rfl 4 (by decide) (hts _ (List.mem_cons_of_mem _ kw_120)) (fun _ h9 => h9) rfl dSE_seekShards_64 ?_
              refine lv_iload_n hx hb dSE_seekShards_67 rfl (lv_at hl 2 rfl) ?_
              refine hr_iald hx hb hK hP 1 0 rfl rfl (i := g) (by omega) (by omega) dSE_seekShards_68 ?_
              refine lv_iadd hx hb dSE_seekShards_69 ?_
              refine hr_eqi (nI_add _ _) ?_
              refine lv_aload_n hx hb dSE_seekShards_70 rfl (lv_at hl 1 rfl) ?_
              refine va_get (D := (dC, dI)) (ci := 6) (v := .int (nI ll)) (C := RSE) (T := TSE) (N := 10) hx hb hts (fun w h => List.mem_cons_of_mem _ (inSE w h)) hown hK hP 0 rfl rfl 2 (by decide) (hts _ (List.mem_cons_of_mem _ kw_118)) (fun _ h9 => h9) rfl dSE_seekShards_71 ?_
              refine hr_icmp_gt hx hb (x := ((sm q) + (tw g))) (y := ll) (by omega) (by omega) (tgt := 131) dSE_seekShards_74 (by decide) (fun c_4 => ?_) (fun c_4 => ?_)
              · refine lv_iinc (v := nI (q + 1)) (lv' := [(3, .int (nI (q + 1))), (0, .ref kS), (1, .int (nI g)), (2, .int (nI md))]) hx hb dSE_seekShards_131 hl (k := 0) rfl (hr_inc _) (by decide) rfl (fun ls hl => ?_)
                refine lv_goto (tgt := 49) hx hb dSE_seekShards_134 (by decide) ?_
                exact ih_49 (q + 1) b1 b2 tq (by omega) (fs_skip hbb c_4) (by omega) (htq) (by omega) _ _ hP hD hS ls (lv_sub hl [0, 1, 2, 3] rfl)
              · refine lv_aload_n hx hb dSE_seekShards_77 rfl (lv_at hl 1 rfl) ?_
                refine va_get (D := (dC, dI)) (ci := 6) (v := .ref bS) (C := RSE) (T := TSE) (N := 10) hx hb hts (fun w h => List.mem_cons_of_mem _ (inSE w h)) hown hK hP 0 rfl rfl 5 (by decide) (hts _ (List.mem_cons_of_mem _ kw_121)) (fun _ h9 => h9) rfl dSE_seekShards_78 ?_
                refine lv_iload_n hx hb dSE_seekShards_81 rfl (lv_at hl 0 rfl) ?_
                refine lv_dup2_11 hx hb dSE_seekShards_82 rfl rfl ?_
                refine hr_iald hx hb hK hP 2 0 rfl rfl (i := q) (by omega) (by omega) dSE_seekShards_83 ?_
                refine lv_aload_n hx hb dSE_seekShards_84 rfl (lv_at hl 1 rfl) ?_
                refine va_get (D := (dC, dI)) (ci := 6) (v := .ref aS) (C := RSE) (T := TSE) (N := 10) hx hb hts (fun w h => List.mem_cons_of_mem _ (inSE w h)) hown hK hP 0 rfl rfl 4 (by decide) (hts _ (List.mem_cons_of_mem _ kw_120)) (fun _ h9 => h9) rfl dSE_seekShards_85 ?_
                refine lv_iload_n hx hb dSE_seekShards_88 rfl (lv_at hl 2 rfl) ?_
                refine hr_iald hx hb hK hP 1 0 rfl rfl (i := g) (by omega) (by omega) dSE_seekShards_89 ?_
                refine lv_iadd hx hb dSE_seekShards_90 ?_
                refine hr_eqi (nI_add _ _) ?_
                refine hr_iastN hx hb hK hP hD hS 2 0 rfl rfl (i := q) (by omega) (by omega) dSE_seekShards_91 (fun H locs hP hD hS => ?_)
                have hP : va_P (dC, dI) vwCl ([(kS, .inr (6, [.int (nI (K + 1)), .int (nI G), .int (nI ll), .int (nI b1), .ref aS, .ref bS, .ref dS, .ref eS, .ref gS9, .ref fS])), (aS, .inl (cI, 8, .inl (fun j9 => nI (tw j9)))), (bS, .inl (cI, 4, .inl (fun j9 => nI ((va_up sm q ((sm q) + (tw g))) j9)))), (dS, .inl (cI, 8, .inl (fun j9 => nI (tq j9)))), (eS, .inl (cI, 8, .inl (fun j9 => nI (b2 j9)))), (gS9, .inl (cG, 8, .inr (.inr (.inr (.inr (grf ro)))))), (fS, .inl (cI, 9, .inl (fun j9 => nI (mf j9))))] ++ rws ro cI mx) H := hP
                have hD : va_D A ([(kS, .inr (6, [.int (nI (K + 1)), .int (nI G), .int (nI ll), .int (nI b1), .ref aS, .ref bS, .ref dS, .ref eS, .ref gS9, .ref fS])), (aS, .inl (cI, 8, .inl (fun j9 => nI (tw j9)))), (bS, .inl (cI, 4, .inl (fun j9 => nI ((va_up sm q ((sm q) + (tw g))) j9)))), (dS, .inl (cI, 8, .inl (fun j9 => nI (tq j9)))), (eS, .inl (cI, 8, .inl (fun j9 => nI (b2 j9)))), (gS9, .inl (cG, 8, .inr (.inr (.inr (.inr (grf ro)))))), (fS, .inl (cI, 9, .inl (fun j9 => nI (mf j9))))] ++ rws ro cI mx) := hD
                refine lv_aload_n hx hb dSE_seekShards_92 rfl (lv_at hl 1 rfl) ?_
                refine va_get (D := (dC, dI)) (ci := 6) (v := .ref dS) (C := RSE) (T := TSE) (N := 10) hx hb hts (fun w h => List.mem_cons_of_mem _ (inSE w h)) hown hK hP 0 rfl rfl 6 (by decide) (hts _ (List.mem_cons_of_mem _ kw_122)) (fun _ h9 => h9) rfl dSE_seekShards_93 ?_
                refine lv_iload_n hx hb dSE_seekShards_96 rfl (lv_at hl 2 rfl) ?_
                refine lv_iload_n hx hb dSE_seekShards_97 rfl (lv_at hl 0 rfl) ?_
                refine hr_iastN hx hb hK hP hD hS 3 0 rfl rfl (i := g) (by omega) (by omega) dSE_seekShards_98 (fun H locs hP hD hS => ?_)
                have hP : va_P (dC, dI) vwCl ([(kS, .inr (6, [.int (nI (K + 1)), .int (nI G), .int (nI ll), .int (nI b1), .ref aS, .ref bS, .ref dS, .ref eS, .ref gS9, .ref fS])), (aS, .inl (cI, 8, .inl (fun j9 => nI (tw j9)))), (bS, .inl (cI, 4, .inl (fun j9 => nI ((va_up sm q ((sm q) + (tw g))) j9)))), (dS, .inl (cI, 8, .inl (fun j9 => nI ((va_up tq g q) j9)))), (eS, .inl (cI, 8, .inl (fun j9 => nI (b2 j9)))), (gS9, .inl (cG, 8, .inr (.inr (.inr (.inr (grf ro)))))), (fS, .inl (cI, 9, .inl (fun j9 => nI (mf j9))))] ++ rws ro cI mx) H := hP
                have hD : va_D A ([(kS, .inr (6, [.int (nI (K + 1)), .int (nI G), .int (nI ll), .int (nI b1), .ref aS, .ref bS, .ref dS, .ref eS, .ref gS9, .ref fS])), (aS, .inl (cI, 8, .inl (fun j9 => nI (tw j9)))), (bS, .inl (cI, 4, .inl (fun j9 => nI ((va_up sm q ((sm q) + (tw g))) j9)))), (dS, .inl (cI, 8, .inl (fun j9 => nI ((va_up tq g q) j9)))), (eS, .inl (cI, 8, .inl (fun j9 => nI (b2 j9)))), (gS9, .inl (cG, 8, .inr (.inr (.inr (.inr (grf ro)))))), (fS, .inl (cI, 9, .inl (fun j9 => nI (mf j9))))] ++ rws ro cI mx) := hD
                refine lv_aload_n hx hb dSE_seekShards_99 rfl (lv_at hl 1 rfl) ?_
                refine lv_iload_n hx hb dSE_seekShards_100 rfl (lv_at hl 2 rfl) ?_
                refine lv_iconst (v := nI 1) hx hb dSE_seekShards_101 (by decide +kernel) ?_
                refine lv_iadd hx hb dSE_seekShards_102 ?_
                refine hr_eqi (nI_add _ _) ?_
                refine lv_iload_n hx hb dSE_seekShards_103 rfl (lv_at hl 3 rfl) ?_
                refine lv_aload_n hx hb dSE_seekShards_104 rfl (lv_at hl 1 rfl) ?_
                refine va_get (D := (dC, dI)) (ci := 6) (v := .ref gS9) (C := RSE) (T := TSE) (N := 10) hx hb hts (fun w h => List.mem_cons_of_mem _ (inSE w h)) hown hK hP 0 rfl rfl 8 (by decide) (hts _ (List.mem_cons_of_mem _ kw_124)) (fun _ h9 => h9) rfl dSE_seekShards_105 ?_
                refine lv_iload_n hx hb dSE_seekShards_108 rfl (lv_at hl 2 rfl) ?_
                refine hr_aaldG hx hb hK hP 5 2 rfl rfl (i := g) (by omega) dSE_seekShards_109 ?_
                refine lv_iload_n hx hb dSE_seekShards_110 rfl (lv_at hl 0 rfl) ?_
                refine hr_iald hx hb hK hP (7 + g) 0 (rws_at (K := 7) rfl (by omega)) rfl (i := q) (by omega) (by omega) dSE_seekShards_111 ?_
                refine lv_iadd hx hb dSE_seekShards_112 ?_
                refine hr_eqi (nI_add _ _) ?_
                refine hr_callv (wr := []) (va_runV (C := RSE) (As := [.int (nI (g + 1)), .int (nI (md + ((mx g) q)))]) (rest := []) ⟨hx, hb, hml, hown, hts⟩ (ih kS aS bS dS eS gS9 fS K G ll b1 ro mx tw (va_up sm q (sm q + tw g)) (va_up tq g q) b2 mf (g + 1) (md + mx g q) H.size (hK3) (hG8) (by omega) (ht) (fun q2 h1 => by
        by_cases e : q2 = q
        · rw [e, va_up_self]; omega
        · rw [va_up_ne _ _ e]; have := hsm q2 h1; omega) (hll) (hb1) (by omega) (hmx) (hmf) (hm0) (hLB)) (hr_cwV 2 hts kw_355 kw_357 kw_5 kw_27 kw_358 (by decide +kernel) (by rw [← hRe]; exact ⟨by show r + 1 + 1 ≤ r + 1 + 1; omega, by show 8 + (4 + 11) + 32 * (r + 1) ≤ 32 * (r + 1 + 1); omega⟩)) (hr_preW hKX hP hD [0, 1, 2, 3, 4, 5, 6, 7, 8, 9, 10, 11, 12, 13, 14] (by decide) rfl (ci := 6) (q0 := 0) (q := (RSE, TSE, 10)) rfl rfl) rfl rfl hl.1 rfl (lv_room (Nat.le_of_ble_eq_true rfl)) dSE_seekShards_113 ⟨by omega, by omega⟩) hP hD hS hA [0, 1, 2, 3, 4, 5, 6, 7, 8, 9, 10, 11, 12, 13, 14] [] rfl rfl (by decide) (by decide) [0, 1, 2, 3, 4, 5, 6, 7, 8, 9, 10, 11, 12, 13, 14] (fun u => [(kS, .inr (6, [.int (nI (K + 1)), .int (nI G), .int (nI ll), .int (nI ((fs tw mx K ll G r (g + 1) (md + mx g q) (va_up sm q (sm q + tw g)) (va_up tq g q) (b1, b2)).1)), .ref aS, .ref bS, .ref dS, .ref eS, .ref gS9, .ref fS])), (aS, .inl (cI, 8, .inl (fun j9 => nI (tw j9)))), (bS, .inl (cI, 4, .inl (fun j9 => nI ((va_up sm q (sm q + tw g)) j9)))), (dS, .inl (cI, 8, .inl (fun j9 => nI (u j9)))), (eS, .inl (cI, 8, .inl (fun j9 => nI (((fs tw mx K ll G r (g + 1) (md + mx g q) (va_up sm q (sm q + tw g)) (va_up tq g q) (b1, b2)).2) j9)))), (gS9, .inl (cG, 8, .inr (.inr (.inr (.inr (grf ro)))))), (fS, .inl (cI, 9, .inl (fun j9 => nI (mf j9))))] ++ rws ro cI mx) (by decide) (fun u => rfl) (fun u H locs hrv hP hD hS => ?_)
                obtain ⟨ts, rfl⟩ : ∃ z, z = u := ⟨_, rfl⟩
                have hP : va_P (dC, dI) vwCl ([(kS, .inr (6, [.int (nI (K + 1)), .int (nI G), .int (nI ll), .int (nI ((fs tw mx K ll G r (g + 1) (md + mx g q) (va_up sm q (sm q + tw g)) (va_up tq g q) (b1, b2)).1)), .ref aS, .ref bS, .ref dS, .ref eS, .ref gS9, .ref fS])), (aS, .inl (cI, 8, .inl (fun j9 => nI (tw j9)))), (bS, .inl (cI, 4, .inl (fun j9 => nI ((va_up sm q (sm q + tw g)) j9)))), (dS, .inl (cI, 8, .inl (fun j9 => nI (ts j9)))), (eS, .inl (cI, 8, .inl (fun j9 => nI (((fs tw mx K ll G r (g + 1) (md + mx g q) (va_up sm q (sm q + tw g)) (va_up tq g q) (b1, b2)).2) j9)))), (gS9, .inl (cG, 8, .inr (.inr (.inr (.inr (grf ro)))))), (fS, .inl (cI, 9, .inl (fun j9 => nI (mf j9))))] ++ rws ro cI mx) H := hP
                have hD : va_D A ([(kS, .inr (6, [.int (nI (K + 1)), .int (nI G), .int (nI ll), .int (nI ((fs tw mx K ll G r (g + 1) (md + mx g q) (va_up sm q (sm q + tw g)) (va_up tq g q) (b1, b2)).1)), .ref aS, .ref bS, .ref dS, .ref eS, .ref gS9, .ref fS])), (aS, .inl (cI, 8, .inl (fun j9 => nI (tw j9)))), (bS, .inl (cI, 4, .inl (fun j9 => nI ((va_up sm q (sm q + tw g)) j9)))), (dS, .inl (cI, 8, .inl (fun j9 => nI (ts j9)))), (eS, .inl (cI, 8, .inl (fun j9 => nI (((fs tw mx K ll G r (g + 1) (md + mx g q) (va_up sm q (sm q + tw g)) (va_up tq g q) (b1, b2)).2) j9)))), (gS9, .inl (cG, 8, .inr (.inr (.inr (.inr (grf ro)))))), (fS, .inl (cI, 9, .inl (fun j9 => nI (mf j9))))] ++ rws ro cI mx) := hD
                have hpt := hrv
                have hts2 := hpt
                refine lv_aload_n hx hb dSE_seekShards_116 rfl (lv_at hl 1 rfl) ?_
                refine va_get (D := (dC, dI)) (ci := 6) (v := .ref bS) (C := RSE) (T := TSE) (N := 10) hx hb hts (fun w h => List.mem_cons_of_mem _ (inSE w h)) hown hK hP 0 rfl rfl 5 (by decide) (hts _ (List.mem_cons_of_mem _ kw_121)) (fun _ h9 => h9) rfl dSE_seekShards_117 ?_
                refine lv_iload_n hx hb dSE_seekShards_120 rfl (lv_at hl 0 rfl) ?_
                refine lv_dup2_11 hx hb dSE_seekShards_121 rfl rfl ?_
                refine hr_iald hx hb hK hP 2 0 rfl rfl (i := q) (by omega) (by omega) dSE_seekShards_122 ?_
                refine hr_eqi (show nI (va_up sm q (sm q + tw g) q) = nI (sm q + tw g) by rw [va_up_self]) ?_
                refine lv_aload_n hx hb dSE_seekShards_123 rfl (lv_at hl 1 rfl) ?_
                refine va_get (D := (dC, dI)) (ci := 6) (v := .ref aS) (C := RSE) (T := TSE) (N := 10) hx hb hts (fun w h => List.mem_cons_of_mem _ (inSE w h)) hown hK hP 0 rfl rfl 4 (by decide) (hts _ (List.mem_cons_of_mem _ kw_120)) (fun _ h9 => h9) rfl dSE_seekShards_124 ?_
                refine lv_iload_n hx hb dSE_seekShards_127 rfl (lv_at hl 2 rfl) ?_
                refine hr_iald hx hb hK hP 1 0 rfl rfl (i := g) (by omega) (by omega) dSE_seekShards_128 ?_
                refine lv_isub hx hb dSE_seekShards_129 ?_
                refine hr_eqi (pk_sub (by omega)) ?_
                refine hr_iastN hx hb hK hP hD hS 2 0 rfl rfl (i := q) (by omega) (by omega) dSE_seekShards_130 (fun H locs hP hD hS => ?_)
                have hP : va_P (dC, dI) vwCl ([(kS, .inr (6, [.int (nI (K + 1)), .int (nI G), .int (nI ll), .int (nI ((fs tw mx K ll G r (g + 1) (md + mx g q) (va_up sm q (sm q + tw g)) (va_up tq g q) (b1, b2)).1)), .ref aS, .ref bS, .ref dS, .ref eS, .ref gS9, .ref fS])), (aS, .inl (cI, 8, .inl (fun j9 => nI (tw j9)))), (bS, .inl (cI, 4, .inl (fun j9 => nI ((va_up (va_up sm q (sm q + tw g)) q ((sm q + tw g) - (tw g))) j9)))), (dS, .inl (cI, 8, .inl (fun j9 => nI (ts j9)))), (eS, .inl (cI, 8, .inl (fun j9 => nI (((fs tw mx K ll G r (g + 1) (md + mx g q) (va_up sm q (sm q + tw g)) (va_up tq g q) (b1, b2)).2) j9)))), (gS9, .inl (cG, 8, .inr (.inr (.inr (.inr (grf ro)))))), (fS, .inl (cI, 9, .inl (fun j9 => nI (mf j9))))] ++ rws ro cI mx) H := hP
                have hD : va_D A ([(kS, .inr (6, [.int (nI (K + 1)), .int (nI G), .int (nI ll), .int (nI ((fs tw mx K ll G r (g + 1) (md + mx g q) (va_up sm q (sm q + tw g)) (va_up tq g q) (b1, b2)).1)), .ref aS, .ref bS, .ref dS, .ref eS, .ref gS9, .ref fS])), (aS, .inl (cI, 8, .inl (fun j9 => nI (tw j9)))), (bS, .inl (cI, 4, .inl (fun j9 => nI ((va_up (va_up sm q (sm q + tw g)) q ((sm q + tw g) - (tw g))) j9)))), (dS, .inl (cI, 8, .inl (fun j9 => nI (ts j9)))), (eS, .inl (cI, 8, .inl (fun j9 => nI (((fs tw mx K ll G r (g + 1) (md + mx g q) (va_up sm q (sm q + tw g)) (va_up tq g q) (b1, b2)).2) j9)))), (gS9, .inl (cG, 8, .inr (.inr (.inr (.inr (grf ro)))))), (fS, .inl (cI, 9, .inl (fun j9 => nI (mf j9))))] ++ rws ro cI mx) := hD
                rw [up_back] at hP hD
                have hP : va_P (dC, dI) vwCl ([(kS, .inr (6, [.int (nI (K + 1)), .int (nI G), .int (nI ll), .int (nI ((fs tw mx K ll G r (g + 1) (md + mx g q) (va_up sm q (sm q + tw g)) (va_up tq g q) (b1, b2)).1)), .ref aS, .ref bS, .ref dS, .ref eS, .ref gS9, .ref fS])), (aS, .inl (cI, 8, .inl (fun j9 => nI (tw j9)))), (bS, .inl (cI, 4, .inl (fun j9 => nI (sm j9)))), (dS, .inl (cI, 8, .inl (fun j9 => nI (ts j9)))), (eS, .inl (cI, 8, .inl (fun j9 => nI (((fs tw mx K ll G r (g + 1) (md + mx g q) (va_up sm q (sm q + tw g)) (va_up tq g q) (b1, b2)).2) j9)))), (gS9, .inl (cG, 8, .inr (.inr (.inr (.inr (grf ro)))))), (fS, .inl (cI, 9, .inl (fun j9 => nI (mf j9))))] ++ rws ro cI mx) H := hP
                have hD : va_D A ([(kS, .inr (6, [.int (nI (K + 1)), .int (nI G), .int (nI ll), .int (nI ((fs tw mx K ll G r (g + 1) (md + mx g q) (va_up sm q (sm q + tw g)) (va_up tq g q) (b1, b2)).1)), .ref aS, .ref bS, .ref dS, .ref eS, .ref gS9, .ref fS])), (aS, .inl (cI, 8, .inl (fun j9 => nI (tw j9)))), (bS, .inl (cI, 4, .inl (fun j9 => nI (sm j9)))), (dS, .inl (cI, 8, .inl (fun j9 => nI (ts j9)))), (eS, .inl (cI, 8, .inl (fun j9 => nI (((fs tw mx K ll G r (g + 1) (md + mx g q) (va_up sm q (sm q + tw g)) (va_up tq g q) (b1, b2)).2) j9)))), (gS9, .inl (cG, 8, .inr (.inr (.inr (.inr (grf ro)))))), (fS, .inl (cI, 9, .inl (fun j9 => nI (mf j9))))] ++ rws ro cI mx) := hD
                refine lv_iinc (v := nI (q + 1)) (lv' := [(3, .int (nI (q + 1))), (0, .ref kS), (1, .int (nI g)), (2, .int (nI md))]) hx hb dSE_seekShards_131 hl (k := 0) rfl (hr_inc _) (by decide) rfl (fun ls hl => ?_)
                refine lv_goto (tgt := 49) hx hb dSE_seekShards_134 (by decide) ?_
                exact ih_49 (q + 1) ((fs tw mx K ll G r (g + 1) (md + mx g q) (va_up sm q (sm q + tw g)) (va_up tq g q) (b1, b2)).1) ((fs tw mx K ll G r (g + 1) (md + mx g q) (va_up sm q (sm q + tw g)) (va_up tq g q) (b1, b2)).2) ts (by omega) (fs_step hbb c_4 hg htq) (Nat.lt_of_le_of_lt (fs_le _ _ _ _ _ _) hb1) (fun j hj => by rw [hts2 j (by omega), va_up_ne _ _ (by omega)]; exact htq j hj) (by omega) _ _ hP hD hS ls (lv_sub hl [0, 1, 2, 3] rfl)
        exact loop_49 ((K + 1) + 1) 0 lm be tr (by omega) (rfl) (by omega) (fun j hj => rfl) (by omega) _ _ hP hD hS ls (lv_sub hl [0, 1, 2, 3] rfl)
      · exact absurd c_2 (by omega)
    · have e9 : (fs tw mx K ll G (r + 1) g md sm tr (lm, be)) = (lm, be) := fs_prune hm0 hLB (r + 1) g md sm tr (lm, be) hg c_1
      rw [← hQe]
      exact W.vret hx hb hr (fun t ht hW => ⟨⟨tr, rfl, fun j hj => rfl, by rw [ht, e9]; exact hP, by rw [e9]; exact hD⟩, hS.F ht⟩) hS.2.2 dSE_seekShards_15
end
section
set_option maxHeartbeats 400000 in
set_option maxRecDepth 100000 in
/-- the best SPLIT of few GROUPS -/
theorem c_SE_place (l : Launch) (dC : Nat → ClassId) (dI : Nat → Nat → Nat) (cI cZ cG : ClassId) (kS : Nat) (aS : Nat) (bS : Nat) (dS : Nat) (eS : Nat) (gS9 : Nat) (fS : Nat) (k0 : Nat) (G0 : Nat) (l0 : Nat) (m0 : Nat) (ro : Nat → Nat) (t0 : Nat → Nat) (sm : Nat → Nat) (tr : Nat → Nat) (be : Nat → Nat) (mf : Nat → Nat) (mx : Nat → Nat → Nat) (hG : Nat) (aG : Nat) (bG : Nat) (dG : Nat) (gG : Nat) (gc : Nat) (gn : Nat) (gF : Nat → Nat) (gT : Nat → Nat) (gS : Nat → Option Nat) (gO : Nat → Nat) (h : Nat) (a : Nat) (b : Nat) (d : Nat) (sc : Nat) (mv : Nat) (s5 : Nat → Nat) (zs : Nat → Nat) (sf : Nat → Option Nat) (K : Nat) (sz : Nat) (hK3 : K ≤ 3) (hG8 : gc ≤ 8) (hgn : gn ≤ 24) (ht0 : ∀ j, j < 8 → t0 j ≤ 2400000) (hgT : ∀ g, g < gc → gT g ≤ 2400000) (hgF : ∀ g, g < gc → gF g ≤ gn ∧ ∀ j, j < gF g → ¬ gO j = g) (hgO : ∀ j, j < gn → gO j < 24) (hsf : ∀ j, j < 24 → ∀ q, sf j = some q → q < 4) : Met l ySE_place wsSE_place ({ frames := 12, cells := 0, slots := 0, locals := 400 }) (va_Pc [.ref kS, .ref hG, .ref h, .int (nI (K + 1))] (fun U => U.heap.size = sz ∧ va_P (dC, dI) vwCl ([(kS, .inr (6, [.int (nI k0), .int (nI G0), .int (nI l0), .int (nI m0), .ref aS, .ref bS, .ref dS, .ref eS, .ref gS9, .ref fS])), (aS, .inl (cI, 8, .inl (fun j9 => nI (t0 j9)))), (bS, .inl (cI, 4, .inl (fun j9 => nI (sm j9)))), (dS, .inl (cI, 8, .inl (fun j9 => nI (tr j9)))), (eS, .inl (cI, 8, .inl (fun j9 => nI (be j9)))), (gS9, .inl (cG, 8, .inr (.inr (.inr (.inr (grf ro)))))), (fS, .inl (cI, 9, .inl (fun j9 => nI (mf j9)))), (hG, .inr (1, [.int (nI gc), .int (nI gn), .ref aG, .ref bG, .ref dG, .ref gG])), (aG, .inl (cI, 24, .inl (fun j9 => nI (gF j9)))), (bG, .inl (cI, 24, .inl (fun j9 => nI (gT j9)))), (dG, .inl (cI, 24, .inl (fun j9 => oI (gS j9)))), (gG, .inl (cI, 24, .inl (fun j9 => nI (gO j9)))), (h, .inr (5, [.int (nI sc), .int (nI mv), .ref a, .ref b, .ref d])), (a, .inl (cI, 4, .inl (fun j9 => nI (s5 j9)))), (b, .inl (cI, 4, .inl (fun j9 => nI (zs j9)))), (d, .inl (cI, 24, .inl (fun j9 => oI (sf j9))))] ++ rws ro cI mx) U.heap ∧ KX dC dI cI cZ cG U ∧ va_D (fun _ => True) ([(kS, .inr (6, [.int (nI k0), .int (nI G0), .int (nI l0), .int (nI m0), .ref aS, .ref bS, .ref dS, .ref eS, .ref gS9, .ref fS])), (aS, .inl (cI, 8, .inl (fun j9 => nI (t0 j9)))), (bS, .inl (cI, 4, .inl (fun j9 => nI (sm j9)))), (dS, .inl (cI, 8, .inl (fun j9 => nI (tr j9)))), (eS, .inl (cI, 8, .inl (fun j9 => nI (be j9)))), (gS9, .inl (cG, 8, .inr (.inr (.inr (.inr (grf ro)))))), (fS, .inl (cI, 9, .inl (fun j9 => nI (mf j9)))), (hG, .inr (1, [.int (nI gc), .int (nI gn), .ref aG, .ref bG, .ref dG, .ref gG])), (aG, .inl (cI, 24, .inl (fun j9 => nI (gF j9)))), (bG, .inl (cI, 24, .inl (fun j9 => nI (gT j9)))), (dG, .inl (cI, 24, .inl (fun j9 => oI (gS j9)))), (gG, .inl (cI, 24, .inl (fun j9 => nI (gO j9)))), (h, .inr (5, [.int (nI sc), .int (nI mv), .ref a, .ref b, .ref d])), (a, .inl (cI, 4, .inl (fun j9 => nI (s5 j9)))), (b, .inl (cI, 4, .inl (fun j9 => nI (zs j9)))), (d, .inl (cI, 24, .inl (fun j9 => oI (sf j9))))] ++ rws ro cI mx))) (va_Qv (fun (u : Nat × Nat × (Nat → Nat) × (Nat → Nat) × (Nat → Nat) × (Nat → Nat) × (Nat → Nat) × (Nat → Nat → Nat) × (Nat → Option Nat)) => plOK gT sf gO gn K gc u.2.2.2.2.2.2.2.2 ∧ ∀ j, j < 8 → u.2.2.1 j ≤ 2400000 ∧ u.1 < 2 ^ 31) (fun u t => va_P (dC, dI) vwCl ([(kS, .inr (6, [.int (nI (K + 1)), .int (nI gc), .int (nI u.1), .int (nI u.2.1), .ref aS, .ref bS, .ref dS, .ref eS, .ref gS9, .ref fS])), (aS, .inl (cI, 8, .inl (fun j9 => nI (u.2.2.1 j9)))), (bS, .inl (cI, 4, .inl (fun j9 => nI (u.2.2.2.1 j9)))), (dS, .inl (cI, 8, .inl (fun j9 => nI (u.2.2.2.2.1 j9)))), (eS, .inl (cI, 8, .inl (fun j9 => nI (u.2.2.2.2.2.1 j9)))), (gS9, .inl (cG, 8, .inr (.inr (.inr (.inr (grf ro)))))), (fS, .inl (cI, 9, .inl (fun j9 => nI (u.2.2.2.2.2.2.1 j9)))), (hG, .inr (1, [.int (nI gc), .int (nI gn), .ref aG, .ref bG, .ref dG, .ref gG])), (aG, .inl (cI, 24, .inl (fun j9 => nI (gF j9)))), (bG, .inl (cI, 24, .inl (fun j9 => nI (gT j9)))), (dG, .inl (cI, 24, .inl (fun j9 => oI (u.2.2.2.2.2.2.2.2 j9)))), (gG, .inl (cI, 24, .inl (fun j9 => nI (gO j9)))), (h, .inr (5, [.int (nI sc), .int (nI mv), .ref a, .ref b, .ref d])), (a, .inl (cI, 4, .inl (fun j9 => nI (s5 j9)))), (b, .inl (cI, 4, .inl (fun j9 => nI (zs j9)))), (d, .inl (cI, 24, .inl (fun j9 => oI (sf j9))))] ++ rws ro cI u.2.2.2.2.2.2.2.1) t.heap ∧ va_D (va_A ([(kS, .inr (6, [.int (nI k0), .int (nI G0), .int (nI l0), .int (nI m0), .ref aS, .ref bS, .ref dS, .ref eS, .ref gS9, .ref fS])), (aS, .inl (cI, 8, .inl (fun j9 => nI (t0 j9)))), (bS, .inl (cI, 4, .inl (fun j9 => nI (sm j9)))), (dS, .inl (cI, 8, .inl (fun j9 => nI (tr j9)))), (eS, .inl (cI, 8, .inl (fun j9 => nI (be j9)))), (gS9, .inl (cG, 8, .inr (.inr (.inr (.inr (grf ro)))))), (fS, .inl (cI, 9, .inl (fun j9 => nI (mf j9)))), (hG, .inr (1, [.int (nI gc), .int (nI gn), .ref aG, .ref bG, .ref dG, .ref gG])), (aG, .inl (cI, 24, .inl (fun j9 => nI (gF j9)))), (bG, .inl (cI, 24, .inl (fun j9 => nI (gT j9)))), (dG, .inl (cI, 24, .inl (fun j9 => oI (gS j9)))), (gG, .inl (cI, 24, .inl (fun j9 => nI (gO j9)))), (h, .inr (5, [.int (nI sc), .int (nI mv), .ref a, .ref b, .ref d])), (a, .inl (cI, 4, .inl (fun j9 => nI (s5 j9)))), (b, .inl (cI, 4, .inl (fun j9 => nI (zs j9)))), (d, .inl (cI, 24, .inl (fun j9 => oI (sf j9))))] ++ rws ro cI mx) sz) ([(kS, .inr (6, [.int (nI (K + 1)), .int (nI gc), .int (nI u.1), .int (nI u.2.1), .ref aS, .ref bS, .ref dS, .ref eS, .ref gS9, .ref fS])), (aS, .inl (cI, 8, .inl (fun j9 => nI (u.2.2.1 j9)))), (bS, .inl (cI, 4, .inl (fun j9 => nI (u.2.2.2.1 j9)))), (dS, .inl (cI, 8, .inl (fun j9 => nI (u.2.2.2.2.1 j9)))), (eS, .inl (cI, 8, .inl (fun j9 => nI (u.2.2.2.2.2.1 j9)))), (gS9, .inl (cG, 8, .inr (.inr (.inr (.inr (grf ro)))))), (fS, .inl (cI, 9, .inl (fun j9 => nI (u.2.2.2.2.2.2.1 j9)))), (hG, .inr (1, [.int (nI gc), .int (nI gn), .ref aG, .ref bG, .ref dG, .ref gG])), (aG, .inl (cI, 24, .inl (fun j9 => nI (gF j9)))), (bG, .inl (cI, 24, .inl (fun j9 => nI (gT j9)))), (dG, .inl (cI, 24, .inl (fun j9 => oI (u.2.2.2.2.2.2.2.2 j9)))), (gG, .inl (cI, 24, .inl (fun j9 => nI (gO j9)))), (h, .inr (5, [.int (nI sc), .int (nI mv), .ref a, .ref b, .ref d])), (a, .inl (cI, 4, .inl (fun j9 => nI (s5 j9)))), (b, .inl (cI, 4, .inl (fun j9 => nI (zs j9)))), (d, .inl (cI, 24, .inl (fun j9 => oI (sf j9))))] ++ rws ro cI u.2.2.2.2.2.2.2.1)) (va_A ([(kS, .inr (6, [.int (nI k0), .int (nI G0), .int (nI l0), .int (nI m0), .ref aS, .ref bS, .ref dS, .ref eS, .ref gS9, .ref fS])), (aS, .inl (cI, 8, .inl (fun j9 => nI (t0 j9)))), (bS, .inl (cI, 4, .inl (fun j9 => nI (sm j9)))), (dS, .inl (cI, 8, .inl (fun j9 => nI (tr j9)))), (eS, .inl (cI, 8, .inl (fun j9 => nI (be j9)))), (gS9, .inl (cG, 8, .inr (.inr (.inr (.inr (grf ro)))))), (fS, .inl (cI, 9, .inl (fun j9 => nI (mf j9)))), (hG, .inr (1, [.int (nI gc), .int (nI gn), .ref aG, .ref bG, .ref dG, .ref gG])), (aG, .inl (cI, 24, .inl (fun j9 => nI (gF j9)))), (bG, .inl (cI, 24, .inl (fun j9 => nI (gT j9)))), (dG, .inl (cI, 24, .inl (fun j9 => oI (gS j9)))), (gG, .inl (cI, 24, .inl (fun j9 => nI (gO j9)))), (h, .inr (5, [.int (nI sc), .int (nI mv), .ref a, .ref b, .ref d])), (a, .inl (cI, 4, .inl (fun j9 => nI (s5 j9)))), (b, .inl (cI, 4, .inl (fun j9 => nI (zs j9)))), (d, .inl (cI, 24, .inl (fun j9 => oI (sf j9))))] ++ rws ro cI mx) sz)) 0 0 (va_A ([(kS, .inr (6, [.int (nI k0), .int (nI G0), .int (nI l0), .int (nI m0), .ref aS, .ref bS, .ref dS, .ref eS, .ref gS9, .ref fS])), (aS, .inl (cI, 8, .inl (fun j9 => nI (t0 j9)))), (bS, .inl (cI, 4, .inl (fun j9 => nI (sm j9)))), (dS, .inl (cI, 8, .inl (fun j9 => nI (tr j9)))), (eS, .inl (cI, 8, .inl (fun j9 => nI (be j9)))), (gS9, .inl (cG, 8, .inr (.inr (.inr (.inr (grf ro)))))), (fS, .inl (cI, 9, .inl (fun j9 => nI (mf j9)))), (hG, .inr (1, [.int (nI gc), .int (nI gn), .ref aG, .ref bG, .ref dG, .ref gG])), (aG, .inl (cI, 24, .inl (fun j9 => nI (gF j9)))), (bG, .inl (cI, 24, .inl (fun j9 => nI (gT j9)))), (dG, .inl (cI, 24, .inl (fun j9 => oI (gS j9)))), (gG, .inl (cI, 24, .inl (fun j9 => nI (gO j9)))), (h, .inr (5, [.int (nI sc), .int (nI mv), .ref a, .ref b, .ref d])), (a, .inl (cI, 4, .inl (fun j9 => nI (s5 j9)))), (b, .inl (cI, 4, .inl (fun j9 => nI (zs j9)))), (d, .inl (cI, 24, .inl (fun j9 => oI (sf j9))))] ++ rws ro cI mx) sz) := by
  refine Met.ofW (cc := cSE_place) (maxL := 4) (ret := none) (by decide) rfl ?_
  intro p e s m args below meth c s₁ B hml hv
  obtain ⟨rfl, hsz, hP, hKX, hD0⟩ := hv
  have hK := hKX.1
  have hx := B.exec
  have hb := B.bytes
  have hr := B.returns
  have hts := atoms_spec (ws := wsSE_place) B.pre
  have hown : s.vm.findClass RSE = some m.cls := findClass_of_methodNamed B.named
  have hlocks := B.notSynchronized
  subst hsz
  have hD := hD0.self (sz := s.heap.size)
  generalize hAe : va_A ([(kS, .inr (6, [.int (nI k0), .int (nI G0), .int (nI l0), .int (nI m0), .ref aS, .ref bS, .ref dS, .ref eS, .ref gS9, .ref fS])), (aS, .inl (cI, 8, .inl (fun j9 => nI (t0 j9)))), (bS, .inl (cI, 4, .inl (fun j9 => nI (sm j9)))), (dS, .inl (cI, 8, .inl (fun j9 => nI (tr j9)))), (eS, .inl (cI, 8, .inl (fun j9 => nI (be j9)))), (gS9, .inl (cG, 8, .inr (.inr (.inr (.inr (grf ro)))))), (fS, .inl (cI, 9, .inl (fun j9 => nI (mf j9)))), (hG, .inr (1, [.int (nI gc), .int (nI gn), .ref aG, .ref bG, .ref dG, .ref gG])), (aG, .inl (cI, 24, .inl (fun j9 => nI (gF j9)))), (bG, .inl (cI, 24, .inl (fun j9 => nI (gT j9)))), (dG, .inl (cI, 24, .inl (fun j9 => oI (gS j9)))), (gG, .inl (cI, 24, .inl (fun j9 => nI (gO j9)))), (h, .inr (5, [.int (nI sc), .int (nI mv), .ref a, .ref b, .ref d])), (a, .inl (cI, 4, .inl (fun j9 => nI (s5 j9)))), (b, .inl (cI, 4, .inl (fun j9 => nI (zs j9)))), (d, .inl (cI, 24, .inl (fun j9 => oI (sf j9))))] ++ rws ro cI mx) s.heap.size = A at hD ⊢
  have hA : ∀ q : Nat, s.heap.size ≤ q → A q := fun q h => by rw [← hAe]; exact Or.inr h
  have hS : va_S A s.heap s.heap [] := va_S.rf
  have hl := lv_entry ([.ref kS, .ref hG, .ref h, .int (nI (K + 1))]) (n := 4) (Nat.le_of_ble_eq_true rfl)
  rw [lg_entry_eq]
  generalize (lg_sl ([.ref kS, .ref hG, .ref h, .int (nI (K + 1))]) ++ List.replicate (4 - (lg_sl ([.ref kS, .ref hG, .ref h, .int (nI (K + 1))])).length) Slot.unset).toArray = ls at hl ⊢
  have hl : lv_has ls 4 [(0, .ref kS), (1, .ref hG), (2, .ref h), (3, .int (nI (K + 1)))] := hl
  generalize hRe : (headSpec wsSE_place ({ frames := 12, cells := 0, slots := 0, locals := 400 })).room = R
  have hRf : 12 ≤ R.frames := by rw [← hRe]; exact Nat.le_refl _
  have hRl : 400 ≤ R.locals := by rw [← hRe]; exact Nat.le_refl _
  have hRc : 0 ≤ R.cells := by rw [← hRe]; exact Nat.le_refl _
  have hRs : 0 ≤ R.slots := by rw [← hRe]; exact Nat.le_refl _
  generalize hargs : (List.toArray [.ref kS, .ref hG, .ref h, .int (nI (K + 1))] : Array Value) = args at hts ⊢
  generalize hQe : MQ below _ args s _ _ _ = Q
  refine lv_aload_n hx hb dSE_place_0 rfl (lv_at hl 0 rfl) ?_
  refine lv_iload_n hx hb dSE_place_1 rfl (lv_at hl 3 rfl) ?_
  refine lv_iconst (v := nI 4) hx hb dSE_place_2 (by decide +kernel) ?_
  refine va_mmin (rest := [.ref kS]) hx hb (by rw [hml]; exact hl.1.symm) hown (hts (.methodLink RSE 32 Lib.Math.min.name) (by decide +kernel)) (hts (.static Lib.Math.min.name) (by decide +kernel)) (hts (.initialized "java/lang/Math") (by decide +kernel)) (hts (.code Lib.Math.min.name Lib.Math.min.code 2 (some .int)) (by decide +kernel)) (Nat.le_trans (Nat.le_of_ble_eq_true rfl) hRf) (Nat.le_trans (Nat.le_of_ble_eq_true rfl) hRl) (Nat.zero_le _) (Nat.zero_le _) dSE_place_3 ?_
  refine hr_eqi (hr_min (by omega) (by omega)) ?_
  rw [show min (K + 1) 4 = K + 1 by omega]
  refine va_put (D := (dC, dI)) (ci := 6) (v := .int (nI (K + 1))) (ty := .int) (C := RSE) (T := TSE) (N := 10) hx hb hts (fun w h => List.mem_cons_of_mem _ (inSE w h)) tySE tySE_ok nmSE hown hK hP hD hS 0 rfl rfl 0 (by decide) (hts _ (List.mem_cons_of_mem _ kw_116)) (fun _ h9 => h9) rfl (by decide +kernel) rfl rfl (Nat.le_of_ble_eq_true rfl) dSE_place_6 (fun H locs hP hD hS => ?_)
  have hP : va_P (dC, dI) vwCl ([(kS, .inr (6, [.int (nI (K + 1)), .int (nI G0), .int (nI l0), .int (nI m0), .ref aS, .ref bS, .ref dS, .ref eS, .ref gS9, .ref fS])), (aS, .inl (cI, 8, .inl (fun j9 => nI (t0 j9)))), (bS, .inl (cI, 4, .inl (fun j9 => nI (sm j9)))), (dS, .inl (cI, 8, .inl (fun j9 => nI (tr j9)))), (eS, .inl (cI, 8, .inl (fun j9 => nI (be j9)))), (gS9, .inl (cG, 8, .inr (.inr (.inr (.inr (grf ro)))))), (fS, .inl (cI, 9, .inl (fun j9 => nI (mf j9)))), (hG, .inr (1, [.int (nI gc), .int (nI gn), .ref aG, .ref bG, .ref dG, .ref gG])), (aG, .inl (cI, 24, .inl (fun j9 => nI (gF j9)))), (bG, .inl (cI, 24, .inl (fun j9 => nI (gT j9)))), (dG, .inl (cI, 24, .inl (fun j9 => oI (gS j9)))), (gG, .inl (cI, 24, .inl (fun j9 => nI (gO j9)))), (h, .inr (5, [.int (nI sc), .int (nI mv), .ref a, .ref b, .ref d])), (a, .inl (cI, 4, .inl (fun j9 => nI (s5 j9)))), (b, .inl (cI, 4, .inl (fun j9 => nI (zs j9)))), (d, .inl (cI, 24, .inl (fun j9 => oI (sf j9))))] ++ rws ro cI mx) H := hP
  have hD : va_D A ([(kS, .inr (6, [.int (nI (K + 1)), .int (nI G0), .int (nI l0), .int (nI m0), .ref aS, .ref bS, .ref dS, .ref eS, .ref gS9, .ref fS])), (aS, .inl (cI, 8, .inl (fun j9 => nI (t0 j9)))), (bS, .inl (cI, 4, .inl (fun j9 => nI (sm j9)))), (dS, .inl (cI, 8, .inl (fun j9 => nI (tr j9)))), (eS, .inl (cI, 8, .inl (fun j9 => nI (be j9)))), (gS9, .inl (cG, 8, .inr (.inr (.inr (.inr (grf ro)))))), (fS, .inl (cI, 9, .inl (fun j9 => nI (mf j9)))), (hG, .inr (1, [.int (nI gc), .int (nI gn), .ref aG, .ref bG, .ref dG, .ref gG])), (aG, .inl (cI, 24, .inl (fun j9 => nI (gF j9)))), (bG, .inl (cI, 24, .inl (fun j9 => nI (gT j9)))), (dG, .inl (cI, 24, .inl (fun j9 => oI (gS j9)))), (gG, .inl (cI, 24, .inl (fun j9 => nI (gO j9)))), (h, .inr (5, [.int (nI sc), .int (nI mv), .ref a, .ref b, .ref d])), (a, .inl (cI, 4, .inl (fun j9 => nI (s5 j9)))), (b, .inl (cI, 4, .inl (fun j9 => nI (zs j9)))), (d, .inl (cI, 24, .inl (fun j9 => oI (sf j9))))] ++ rws ro cI mx) := hD
  refine lv_aload_n hx hb dSE_place_9 rfl (lv_at hl 0 rfl) ?_
  refine lv_aload_n hx hb dSE_place_10 rfl (lv_at hl 1 rfl) ?_
  refine va_get (D := (dC, dI)) (ci := 1) (v := .int (nI gc)) (C := RGR) (T := TGR) (N := 6) hx hb hts (fun w h => List.mem_cons_of_mem _ (inGR w h)) hown hK hP 7 rfl rfl 0 (by decide) (hts _ (List.mem_cons_of_mem _ kw_76)) (fun _ h9 => h9) rfl dSE_place_11 ?_
  refine lv_bipush (v := nI 8) hx hb dSE_place_14 (by decide +kernel) ?_
  refine va_mmin (rest := [.ref kS]) hx hb (by rw [hml]; exact hl.1.symm) hown (hts (.methodLink RSE 32 Lib.Math.min.name) (by decide +kernel)) (hts (.static Lib.Math.min.name) (by decide +kernel)) (hts (.initialized "java/lang/Math") (by decide +kernel)) (hts (.code Lib.Math.min.name Lib.Math.min.code 2 (some .int)) (by decide +kernel)) (Nat.le_trans (Nat.le_of_ble_eq_true rfl) hRf) (Nat.le_trans (Nat.le_of_ble_eq_true rfl) hRl) (Nat.zero_le _) (Nat.zero_le _) dSE_place_16 ?_
  refine hr_eqi (hr_min (by omega) (by omega)) ?_
  rw [show min gc 8 = gc by omega]
  refine va_put (D := (dC, dI)) (ci := 6) (v := .int (nI gc)) (ty := .int) (C := RSE) (T := TSE) (N := 10) hx hb hts (fun w h => List.mem_cons_of_mem _ (inSE w h)) tySE tySE_ok nmSE hown hK hP hD hS 0 rfl rfl 1 (by decide) (hts _ (List.mem_cons_of_mem _ kw_117)) (fun _ h9 => h9) rfl (by decide +kernel) rfl rfl (Nat.le_of_ble_eq_true rfl) dSE_place_19 (fun H locs hP hD hS => ?_)
  have hP : va_P (dC, dI) vwCl ([(kS, .inr (6, [.int (nI (K + 1)), .int (nI gc), .int (nI l0), .int (nI m0), .ref aS, .ref bS, .ref dS, .ref eS, .ref gS9, .ref fS])), (aS, .inl (cI, 8, .inl (fun j9 => nI (t0 j9)))), (bS, .inl (cI, 4, .inl (fun j9 => nI (sm j9)))), (dS, .inl (cI, 8, .inl (fun j9 => nI (tr j9)))), (eS, .inl (cI, 8, .inl (fun j9 => nI (be j9)))), (gS9, .inl (cG, 8, .inr (.inr (.inr (.inr (grf ro)))))), (fS, .inl (cI, 9, .inl (fun j9 => nI (mf j9)))), (hG, .inr (1, [.int (nI gc), .int (nI gn), .ref aG, .ref bG, .ref dG, .ref gG])), (aG, .inl (cI, 24, .inl (fun j9 => nI (gF j9)))), (bG, .inl (cI, 24, .inl (fun j9 => nI (gT j9)))), (dG, .inl (cI, 24, .inl (fun j9 => oI (gS j9)))), (gG, .inl (cI, 24, .inl (fun j9 => nI (gO j9)))), (h, .inr (5, [.int (nI sc), .int (nI mv), .ref a, .ref b, .ref d])), (a, .inl (cI, 4, .inl (fun j9 => nI (s5 j9)))), (b, .inl (cI, 4, .inl (fun j9 => nI (zs j9)))), (d, .inl (cI, 24, .inl (fun j9 => oI (sf j9))))] ++ rws ro cI mx) H := hP
  have hD : va_D A ([(kS, .inr (6, [.int (nI (K + 1)), .int (nI gc), .int (nI l0), .int (nI m0), .ref aS, .ref bS, .ref dS, .ref eS, .ref gS9, .ref fS])), (aS, .inl (cI, 8, .inl (fun j9 => nI (t0 j9)))), (bS, .inl (cI, 4, .inl (fun j9 => nI (sm j9)))), (dS, .inl (cI, 8, .inl (fun j9 => nI (tr j9)))), (eS, .inl (cI, 8, .inl (fun j9 => nI (be j9)))), (gS9, .inl (cG, 8, .inr (.inr (.inr (.inr (grf ro)))))), (fS, .inl (cI, 9, .inl (fun j9 => nI (mf j9)))), (hG, .inr (1, [.int (nI gc), .int (nI gn), .ref aG, .ref bG, .ref dG, .ref gG])), (aG, .inl (cI, 24, .inl (fun j9 => nI (gF j9)))), (bG, .inl (cI, 24, .inl (fun j9 => nI (gT j9)))), (dG, .inl (cI, 24, .inl (fun j9 => oI (gS j9)))), (gG, .inl (cI, 24, .inl (fun j9 => nI (gO j9)))), (h, .inr (5, [.int (nI sc), .int (nI mv), .ref a, .ref b, .ref d])), (a, .inl (cI, 4, .inl (fun j9 => nI (s5 j9)))), (b, .inl (cI, 4, .inl (fun j9 => nI (zs j9)))), (d, .inl (cI, 24, .inl (fun j9 => oI (sf j9))))] ++ rws ro cI mx) := hD
  refine lv_aload_n hx hb dSE_place_22 rfl (lv_at hl 1 rfl) ?_
  refine va_get (D := (dC, dI)) (ci := 1) (v := .ref bG) (C := RGR) (T := TGR) (N := 6) hx hb hts (fun w h => List.mem_cons_of_mem _ (inGR w h)) hown hK hP 7 rfl rfl 3 (by decide) (hts _ (List.mem_cons_of_mem _ kw_87)) (fun _ h9 => h9) rfl dSE_place_23 ?_
  refine lv_iconst (v := nI 0) hx hb dSE_place_26 (by decide +kernel) ?_
  refine lv_aload_n hx hb dSE_place_27 rfl (lv_at hl 0 rfl) ?_
  refine va_get (D := (dC, dI)) (ci := 6) (v := .ref aS) (C := RSE) (T := TSE) (N := 10) hx hb hts (fun w h => List.mem_cons_of_mem _ (inSE w h)) hown hK hP 0 rfl rfl 4 (by decide) (hts _ (List.mem_cons_of_mem _ kw_120)) (fun _ h9 => h9) rfl dSE_place_28 ?_
  refine lv_iconst (v := nI 0) hx hb dSE_place_31 (by decide +kernel) ?_
  refine lv_aload_n hx hb dSE_place_32 rfl (lv_at hl 0 rfl) ?_
  refine va_get (D := (dC, dI)) (ci := 6) (v := .int (nI gc)) (C := RSE) (T := TSE) (N := 10) hx hb hts (fun w h => List.mem_cons_of_mem _ (inSE w h)) hown hK hP 0 rfl rfl 1 (by decide) (hts _ (List.mem_cons_of_mem _ kw_117)) (fun _ h9 => h9) rfl dSE_place_33 ?_
  refine hr_copy (n := gc) (rest := []) hx hb (by rw [hml]; exact hl.1.symm) hown (hts _ (List.mem_cons_of_mem _ kw_325)) (hts _ (List.mem_cons_of_mem _ kw_327)) (hts _ (List.mem_cons_of_mem _ kw_326)) (hts _ (List.mem_cons_of_mem _ kw_34)) hK hP hD hS 9 1 0 rfl rfl rfl (by omega) (by omega) (by omega) (Nat.le_trans (by decide) hRf) (Nat.le_trans (by decide) hRl) dSE_place_36 (fun H locs hP hD hS => ?_)
  rw [hr_cpyN] at hP hD
  have hP : va_P (dC, dI) vwCl ([(kS, .inr (6, [.int (nI (K + 1)), .int (nI gc), .int (nI l0), .int (nI m0), .ref aS, .ref bS, .ref dS, .ref eS, .ref gS9, .ref fS])), (aS, .inl (cI, 8, .inl (fun j9 => nI ((va_cpy gT t0 0 0 gc) j9)))), (bS, .inl (cI, 4, .inl (fun j9 => nI (sm j9)))), (dS, .inl (cI, 8, .inl (fun j9 => nI (tr j9)))), (eS, .inl (cI, 8, .inl (fun j9 => nI (be j9)))), (gS9, .inl (cG, 8, .inr (.inr (.inr (.inr (grf ro)))))), (fS, .inl (cI, 9, .inl (fun j9 => nI (mf j9)))), (hG, .inr (1, [.int (nI gc), .int (nI gn), .ref aG, .ref bG, .ref dG, .ref gG])), (aG, .inl (cI, 24, .inl (fun j9 => nI (gF j9)))), (bG, .inl (cI, 24, .inl (fun j9 => nI (gT j9)))), (dG, .inl (cI, 24, .inl (fun j9 => oI (gS j9)))), (gG, .inl (cI, 24, .inl (fun j9 => nI (gO j9)))), (h, .inr (5, [.int (nI sc), .int (nI mv), .ref a, .ref b, .ref d])), (a, .inl (cI, 4, .inl (fun j9 => nI (s5 j9)))), (b, .inl (cI, 4, .inl (fun j9 => nI (zs j9)))), (d, .inl (cI, 24, .inl (fun j9 => oI (sf j9))))] ++ rws ro cI mx) H := hP
  have hD : va_D A ([(kS, .inr (6, [.int (nI (K + 1)), .int (nI gc), .int (nI l0), .int (nI m0), .ref aS, .ref bS, .ref dS, .ref eS, .ref gS9, .ref fS])), (aS, .inl (cI, 8, .inl (fun j9 => nI ((va_cpy gT t0 0 0 gc) j9)))), (bS, .inl (cI, 4, .inl (fun j9 => nI (sm j9)))), (dS, .inl (cI, 8, .inl (fun j9 => nI (tr j9)))), (eS, .inl (cI, 8, .inl (fun j9 => nI (be j9)))), (gS9, .inl (cG, 8, .inr (.inr (.inr (.inr (grf ro)))))), (fS, .inl (cI, 9, .inl (fun j9 => nI (mf j9)))), (hG, .inr (1, [.int (nI gc), .int (nI gn), .ref aG, .ref bG, .ref dG, .ref gG])), (aG, .inl (cI, 24, .inl (fun j9 => nI (gF j9)))), (bG, .inl (cI, 24, .inl (fun j9 => nI (gT j9)))), (dG, .inl (cI, 24, .inl (fun j9 => oI (gS j9)))), (gG, .inl (cI, 24, .inl (fun j9 => nI (gO j9)))), (h, .inr (5, [.int (nI sc), .int (nI mv), .ref a, .ref b, .ref d])), (a, .inl (cI, 4, .inl (fun j9 => nI (s5 j9)))), (b, .inl (cI, 4, .inl (fun j9 => nI (zs j9)))), (d, .inl (cI, 24, .inl (fun j9 => oI (sf j9))))] ++ rws ro cI mx) := hD
  refine lv_aload_n hx hb dSE_place_39 rfl (lv_at hl 0 rfl) ?_
  refine lv_aload_n hx hb dSE_place_40 rfl (lv_at hl 1 rfl) ?_
  refine lv_aload_n hx hb dSE_place_41 rfl (lv_at hl 2 rfl) ?_
  refine hr_callv (wr := [(aS, .inl (cI, 8, .inl (fun j9 => nI ((va_cpy gT t0 0 0 gc) j9)))), (bS, .inl (cI, 4, .inl (fun j9 => nI (sm j9)))), (dS, .inl (cI, 8, .inl (fun j9 => nI (tr j9)))), (eS, .inl (cI, 8, .inl (fun j9 => nI (be j9)))), (fS, .inl (cI, 9, .inl (fun j9 => nI (mf j9))))]) (va_runV (C := RSE) (As := [.ref hG, .ref h]) (rest := []) ⟨hx, hb, hml, hown, hts⟩ (c_SE_countMoves l dC dI cI cZ cG kS aS bS dS eS gS9 fS K gc l0 m0 ro mx hG aG bG dG gG gc gn gF gT gS gO h a b d sc mv s5 zs sf H.size (hK3) (hG8) (hgn) (hgF) (hgO) (hsf)) (hr_cwV 2 hts kw_328 kw_330 kw_1 kw_27 kw_331 (by decide +kernel) (by rw [← hRe]; exact ⟨Nat.le_of_ble_eq_true rfl, Nat.le_of_ble_eq_true rfl⟩)) (hr_preW hKX hP hD [0, 5, 7, 8, 9, 10, 11, 12, 13, 14, 15, 16, 17, 18, 19, 20, 21, 22, 23] (by decide) rfl (ci := 6) (q0 := 0) (q := (RSE, TSE, 10)) rfl rfl) rfl rfl hl.1 rfl (lv_room (Nat.le_of_ble_eq_true rfl)) dSE_place_42 ⟨by omega, by omega⟩) hP hD hS hA [0, 5, 7, 8, 9, 10, 11, 12, 13, 14, 15, 16, 17, 18, 19, 20, 21, 22, 23] [1, 2, 3, 4, 6] rfl rfl (by decide) (by decide) [5, 0, 1, 2, 3, 6, 4, 7, 8, 9, 10, 11, 12, 13, 14, 15, 16, 17, 18, 19, 20, 21, 22, 23] (fun u => [(kS, .inr (6, [.int (nI (K + 1)), .int (nI gc), .int (nI l0), .int (nI m0), .ref aS, .ref bS, .ref dS, .ref eS, .ref gS9, .ref fS])), (aS, .inl (cI, 8, .inl (fun j9 => nI ((va_cpy gT t0 0 0 gc) j9)))), (bS, .inl (cI, 4, .inl (fun j9 => nI (sm j9)))), (dS, .inl (cI, 8, .inl (fun j9 => nI (tr j9)))), (eS, .inl (cI, 8, .inl (fun j9 => nI (be j9)))), (gS9, .inl (cG, 8, .inr (.inr (.inr (.inr (grf ro)))))), (fS, .inl (cI, 9, .inl (fun j9 => nI (mf j9)))), (hG, .inr (1, [.int (nI gc), .int (nI gn), .ref aG, .ref bG, .ref dG, .ref gG])), (aG, .inl (cI, 24, .inl (fun j9 => nI (gF j9)))), (bG, .inl (cI, 24, .inl (fun j9 => nI (gT j9)))), (dG, .inl (cI, 24, .inl (fun j9 => oI (gS j9)))), (gG, .inl (cI, 24, .inl (fun j9 => nI (gO j9)))), (h, .inr (5, [.int (nI sc), .int (nI mv), .ref a, .ref b, .ref d])), (a, .inl (cI, 4, .inl (fun j9 => nI (s5 j9)))), (b, .inl (cI, 4, .inl (fun j9 => nI (zs j9)))), (d, .inl (cI, 24, .inl (fun j9 => oI (sf j9))))] ++ rws ro cI u) (by decide) (fun u => rfl) (fun u H locs hrv hP hD hS => ?_)
  obtain ⟨mo, rfl⟩ : ∃ z, z = u := ⟨_, rfl⟩
  have hP : va_P (dC, dI) vwCl ([(kS, .inr (6, [.int (nI (K + 1)), .int (nI gc), .int (nI l0), .int (nI m0), .ref aS, .ref bS, .ref dS, .ref eS, .ref gS9, .ref fS])), (aS, .inl (cI, 8, .inl (fun j9 => nI ((va_cpy gT t0 0 0 gc) j9)))), (bS, .inl (cI, 4, .inl (fun j9 => nI (sm j9)))), (dS, .inl (cI, 8, .inl (fun j9 => nI (tr j9)))), (eS, .inl (cI, 8, .inl (fun j9 => nI (be j9)))), (gS9, .inl (cG, 8, .inr (.inr (.inr (.inr (grf ro)))))), (fS, .inl (cI, 9, .inl (fun j9 => nI (mf j9)))), (hG, .inr (1, [.int (nI gc), .int (nI gn), .ref aG, .ref bG, .ref dG, .ref gG])), (aG, .inl (cI, 24, .inl (fun j9 => nI (gF j9)))), (bG, .inl (cI, 24, .inl (fun j9 => nI (gT j9)))), (dG, .inl (cI, 24, .inl (fun j9 => oI (gS j9)))), (gG, .inl (cI, 24, .inl (fun j9 => nI (gO j9)))), (h, .inr (5, [.int (nI sc), .int (nI mv), .ref a, .ref b, .ref d])), (a, .inl (cI, 4, .inl (fun j9 => nI (s5 j9)))), (b, .inl (cI, 4, .inl (fun j9 => nI (zs j9)))), (d, .inl (cI, 24, .inl (fun j9 => oI (sf j9))))] ++ rws ro cI mo) H := hP
  have hD : va_D A ([(kS, .inr (6, [.int (nI (K + 1)), .int (nI gc), .int (nI l0), .int (nI m0), .ref aS, .ref bS, .ref dS, .ref eS, .ref gS9, .ref fS])), (aS, .inl (cI, 8, .inl (fun j9 => nI ((va_cpy gT t0 0 0 gc) j9)))), (bS, .inl (cI, 4, .inl (fun j9 => nI (sm j9)))), (dS, .inl (cI, 8, .inl (fun j9 => nI (tr j9)))), (eS, .inl (cI, 8, .inl (fun j9 => nI (be j9)))), (gS9, .inl (cG, 8, .inr (.inr (.inr (.inr (grf ro)))))), (fS, .inl (cI, 9, .inl (fun j9 => nI (mf j9)))), (hG, .inr (1, [.int (nI gc), .int (nI gn), .ref aG, .ref bG, .ref dG, .ref gG])), (aG, .inl (cI, 24, .inl (fun j9 => nI (gF j9)))), (bG, .inl (cI, 24, .inl (fun j9 => nI (gT j9)))), (dG, .inl (cI, 24, .inl (fun j9 => oI (gS j9)))), (gG, .inl (cI, 24, .inl (fun j9 => nI (gO j9)))), (h, .inr (5, [.int (nI sc), .int (nI mv), .ref a, .ref b, .ref d])), (a, .inl (cI, 4, .inl (fun j9 => nI (s5 j9)))), (b, .inl (cI, 4, .inl (fun j9 => nI (zs j9)))), (d, .inl (cI, 24, .inl (fun j9 => oI (sf j9))))] ++ rws ro cI mo) := hD
  have hmo := hrv
  refine lv_aload_n hx hb dSE_place_45 rfl (lv_at hl 0 rfl) ?_
  refine hr_callv (wr := [(aS, .inl (cI, 8, .inl (fun j9 => nI ((va_cpy gT t0 0 0 gc) j9)))), (bS, .inl (cI, 4, .inl (fun j9 => nI (sm j9)))), (dS, .inl (cI, 8, .inl (fun j9 => nI (tr j9)))), (eS, .inl (cI, 8, .inl (fun j9 => nI (be j9)))), (hG, .inr (1, [.int (nI gc), .int (nI gn), .ref aG, .ref bG, .ref dG, .ref gG])), (aG, .inl (cI, 24, .inl (fun j9 => nI (gF j9)))), (bG, .inl (cI, 24, .inl (fun j9 => nI (gT j9)))), (dG, .inl (cI, 24, .inl (fun j9 => oI (gS j9)))), (gG, .inl (cI, 24, .inl (fun j9 => nI (gO j9)))), (h, .inr (5, [.int (nI sc), .int (nI mv), .ref a, .ref b, .ref d])), (a, .inl (cI, 4, .inl (fun j9 => nI (s5 j9)))), (b, .inl (cI, 4, .inl (fun j9 => nI (zs j9)))), (d, .inl (cI, 24, .inl (fun j9 => oI (sf j9))))]) (va_runV (C := RSE) (As := []) (rest := []) ⟨hx, hb, hml, hown, hts⟩ (c_SE_sumLeast l dC dI cI cZ cG kS aS bS dS eS gS9 fS K gc l0 m0 ro mo mf H.size (hK3) (hG8) (fun g hg q hq => by rw [hmo g hg q hq]; have := mvI_le (sf := sf) (gO := gO) (g := g) (s := q) gn; omega)) (hr_cwV 0 hts kw_345 kw_347 kw_3 kw_27 kw_348 (by decide +kernel) (by rw [← hRe]; exact ⟨Nat.le_of_ble_eq_true rfl, Nat.le_of_ble_eq_true rfl⟩)) (hr_preW hKX hP hD [0, 5, 6, 16, 17, 18, 19, 20, 21, 22, 23] (by decide) rfl (ci := 6) (q0 := 0) (q := (RSE, TSE, 10)) rfl rfl) rfl rfl hl.1 rfl (lv_room (Nat.le_of_ble_eq_true rfl)) dSE_place_46 ⟨by omega, by omega⟩) hP hD hS hA [0, 5, 6, 16, 17, 18, 19, 20, 21, 22, 23] [1, 2, 3, 4, 7, 8, 9, 10, 11, 12, 13, 14, 15] rfl rfl (by decide) (by decide) [13, 0, 1, 2, 3, 14, 15, 4, 5, 6, 7, 8, 9, 10, 11, 12, 16, 17, 18, 19, 20, 21, 22, 23] (fun u => [(kS, .inr (6, [.int (nI (K + 1)), .int (nI gc), .int (nI l0), .int (nI m0), .ref aS, .ref bS, .ref dS, .ref eS, .ref gS9, .ref fS])), (aS, .inl (cI, 8, .inl (fun j9 => nI ((va_cpy gT t0 0 0 gc) j9)))), (bS, .inl (cI, 4, .inl (fun j9 => nI (sm j9)))), (dS, .inl (cI, 8, .inl (fun j9 => nI (tr j9)))), (eS, .inl (cI, 8, .inl (fun j9 => nI (be j9)))), (gS9, .inl (cG, 8, .inr (.inr (.inr (.inr (grf ro)))))), (fS, .inl (cI, 9, .inl (fun j9 => nI (u j9)))), (hG, .inr (1, [.int (nI gc), .int (nI gn), .ref aG, .ref bG, .ref dG, .ref gG])), (aG, .inl (cI, 24, .inl (fun j9 => nI (gF j9)))), (bG, .inl (cI, 24, .inl (fun j9 => nI (gT j9)))), (dG, .inl (cI, 24, .inl (fun j9 => oI (gS j9)))), (gG, .inl (cI, 24, .inl (fun j9 => nI (gO j9)))), (h, .inr (5, [.int (nI sc), .int (nI mv), .ref a, .ref b, .ref d])), (a, .inl (cI, 4, .inl (fun j9 => nI (s5 j9)))), (b, .inl (cI, 4, .inl (fun j9 => nI (zs j9)))), (d, .inl (cI, 24, .inl (fun j9 => oI (sf j9))))] ++ rws ro cI mo) (by decide) (fun u => rfl) (fun u H locs hrv hP hD hS => ?_)
  obtain ⟨mg, rfl⟩ : ∃ z, z = u := ⟨_, rfl⟩
  have hP : va_P (dC, dI) vwCl ([(kS, .inr (6, [.int (nI (K + 1)), .int (nI gc), .int (nI l0), .int (nI m0), .ref aS, .ref bS, .ref dS, .ref eS, .ref gS9, .ref fS])), (aS, .inl (cI, 8, .inl (fun j9 => nI ((va_cpy gT t0 0 0 gc) j9)))), (bS, .inl (cI, 4, .inl (fun j9 => nI (sm j9)))), (dS, .inl (cI, 8, .inl (fun j9 => nI (tr j9)))), (eS, .inl (cI, 8, .inl (fun j9 => nI (be j9)))), (gS9, .inl (cG, 8, .inr (.inr (.inr (.inr (grf ro)))))), (fS, .inl (cI, 9, .inl (fun j9 => nI (mg j9)))), (hG, .inr (1, [.int (nI gc), .int (nI gn), .ref aG, .ref bG, .ref dG, .ref gG])), (aG, .inl (cI, 24, .inl (fun j9 => nI (gF j9)))), (bG, .inl (cI, 24, .inl (fun j9 => nI (gT j9)))), (dG, .inl (cI, 24, .inl (fun j9 => oI (gS j9)))), (gG, .inl (cI, 24, .inl (fun j9 => nI (gO j9)))), (h, .inr (5, [.int (nI sc), .int (nI mv), .ref a, .ref b, .ref d])), (a, .inl (cI, 4, .inl (fun j9 => nI (s5 j9)))), (b, .inl (cI, 4, .inl (fun j9 => nI (zs j9)))), (d, .inl (cI, 24, .inl (fun j9 => oI (sf j9))))] ++ rws ro cI mo) H := hP
  have hD : va_D A ([(kS, .inr (6, [.int (nI (K + 1)), .int (nI gc), .int (nI l0), .int (nI m0), .ref aS, .ref bS, .ref dS, .ref eS, .ref gS9, .ref fS])), (aS, .inl (cI, 8, .inl (fun j9 => nI ((va_cpy gT t0 0 0 gc) j9)))), (bS, .inl (cI, 4, .inl (fun j9 => nI (sm j9)))), (dS, .inl (cI, 8, .inl (fun j9 => nI (tr j9)))), (eS, .inl (cI, 8, .inl (fun j9 => nI (be j9)))), (gS9, .inl (cG, 8, .inr (.inr (.inr (.inr (grf ro)))))), (fS, .inl (cI, 9, .inl (fun j9 => nI (mg j9)))), (hG, .inr (1, [.int (nI gc), .int (nI gn), .ref aG, .ref bG, .ref dG, .ref gG])), (aG, .inl (cI, 24, .inl (fun j9 => nI (gF j9)))), (bG, .inl (cI, 24, .inl (fun j9 => nI (gT j9)))), (dG, .inl (cI, 24, .inl (fun j9 => oI (gS j9)))), (gG, .inl (cI, 24, .inl (fun j9 => nI (gO j9)))), (h, .inr (5, [.int (nI sc), .int (nI mv), .ref a, .ref b, .ref d])), (a, .inl (cI, 4, .inl (fun j9 => nI (s5 j9)))), (b, .inl (cI, 4, .inl (fun j9 => nI (zs j9)))), (d, .inl (cI, 24, .inl (fun j9 => oI (sf j9))))] ++ rws ro cI mo) := hD
  have hmg := hrv
  refine lv_aload_n hx hb dSE_place_49 rfl (lv_at hl 0 rfl) ?_
  refine va_get (D := (dC, dI)) (ci := 6) (v := .ref bS) (C := RSE) (T := TSE) (N := 10) hx hb hts (fun w h => List.mem_cons_of_mem _ (inSE w h)) hown hK hP 0 rfl rfl 5 (by decide) (hts _ (List.mem_cons_of_mem _ kw_121)) (fun _ h9 => h9) rfl dSE_place_50 ?_
  refine lv_iconst (v := nI 0) hx hb dSE_place_53 (by decide +kernel) ?_
  refine hr_callv (wr := ([(kS, .inr (6, [.int (nI (K + 1)), .int (nI gc), .int (nI l0), .int (nI m0), .ref aS, .ref bS, .ref dS, .ref eS, .ref gS9, .ref fS])), (aS, .inl (cI, 8, .inl (fun j9 => nI ((va_cpy gT t0 0 0 gc) j9)))), (dS, .inl (cI, 8, .inl (fun j9 => nI (tr j9)))), (eS, .inl (cI, 8, .inl (fun j9 => nI (be j9)))), (gS9, .inl (cG, 8, .inr (.inr (.inr (.inr (grf ro)))))), (fS, .inl (cI, 9, .inl (fun j9 => nI (mg j9)))), (hG, .inr (1, [.int (nI gc), .int (nI gn), .ref aG, .ref bG, .ref dG, .ref gG])), (aG, .inl (cI, 24, .inl (fun j9 => nI (gF j9)))), (bG, .inl (cI, 24, .inl (fun j9 => nI (gT j9)))), (dG, .inl (cI, 24, .inl (fun j9 => oI (gS j9)))), (gG, .inl (cI, 24, .inl (fun j9 => nI (gO j9)))), (h, .inr (5, [.int (nI sc), .int (nI mv), .ref a, .ref b, .ref d])), (a, .inl (cI, 4, .inl (fun j9 => nI (s5 j9)))), (b, .inl (cI, 4, .inl (fun j9 => nI (zs j9)))), (d, .inl (cI, 24, .inl (fun j9 => oI (sf j9))))] ++ rws ro cI mo)) (va_runS (As := [.ref bS, .int (nI 0)]) (rest := []) ⟨hx, hb, hml, hown, hts⟩ (c_AR_fill l dC dI cI cZ cG bS 4 (fun j9 => nI (sm j9)) (nI 0) H.size (by decide)) (hr_cwS 2 hts kw_332 kw_167 kw_30 kw_168 (by decide +kernel) (by rw [← hRe]; exact ⟨Nat.le_of_ble_eq_true rfl, Nat.le_of_ble_eq_true rfl⟩)) (hr_preWS hKX hP hD [2] (by decide) rfl) rfl rfl hl.1 rfl (lv_room (Nat.le_of_ble_eq_true rfl)) dSE_place_54 ⟨by omega, by omega⟩) hP hD hS hA [2] [0, 1, 3, 4, 5, 6, 7, 8, 9, 10, 11, 12, 13, 14, 15, 16, 17, 18, 19, 20, 21, 22, 23] rfl rfl (by decide) (by decide) [0, 1, 23, 2, 3, 4, 5, 6, 7, 8, 9, 10, 11, 12, 13, 14, 15, 16, 17, 18, 19, 20, 21, 22] (fun u => [(kS, .inr (6, [.int (nI (K + 1)), .int (nI gc), .int (nI l0), .int (nI m0), .ref aS, .ref bS, .ref dS, .ref eS, .ref gS9, .ref fS])), (aS, .inl (cI, 8, .inl (fun j9 => nI ((va_cpy gT t0 0 0 gc) j9)))), (bS, .inl (cI, 4, .inl (fun j9 => nI ((fun _ => 0) j9)))), (dS, .inl (cI, 8, .inl (fun j9 => nI (tr j9)))), (eS, .inl (cI, 8, .inl (fun j9 => nI (be j9)))), (gS9, .inl (cG, 8, .inr (.inr (.inr (.inr (grf ro)))))), (fS, .inl (cI, 9, .inl (fun j9 => nI (mg j9)))), (hG, .inr (1, [.int (nI gc), .int (nI gn), .ref aG, .ref bG, .ref dG, .ref gG])), (aG, .inl (cI, 24, .inl (fun j9 => nI (gF j9)))), (bG, .inl (cI, 24, .inl (fun j9 => nI (gT j9)))), (dG, .inl (cI, 24, .inl (fun j9 => oI (gS j9)))), (gG, .inl (cI, 24, .inl (fun j9 => nI (gO j9)))), (h, .inr (5, [.int (nI sc), .int (nI mv), .ref a, .ref b, .ref d])), (a, .inl (cI, 4, .inl (fun j9 => nI (s5 j9)))), (b, .inl (cI, 4, .inl (fun j9 => nI (zs j9)))), (d, .inl (cI, 24, .inl (fun j9 => oI (sf j9))))] ++ rws ro cI mo) (by decide) (fun u => rfl) (fun u H locs hrv hP hD hS => ?_)
  have hP : va_P (dC, dI) vwCl ([(kS, .inr (6, [.int (nI (K + 1)), .int (nI gc), .int (nI l0), .int (nI m0), .ref aS, .ref bS, .ref dS, .ref eS, .ref gS9, .ref fS])), (aS, .inl (cI, 8, .inl (fun j9 => nI ((va_cpy gT t0 0 0 gc) j9)))), (bS, .inl (cI, 4, .inl (fun j9 => nI ((fun _ => 0) j9)))), (dS, .inl (cI, 8, .inl (fun j9 => nI (tr j9)))), (eS, .inl (cI, 8, .inl (fun j9 => nI (be j9)))), (gS9, .inl (cG, 8, .inr (.inr (.inr (.inr (grf ro)))))), (fS, .inl (cI, 9, .inl (fun j9 => nI (mg j9)))), (hG, .inr (1, [.int (nI gc), .int (nI gn), .ref aG, .ref bG, .ref dG, .ref gG])), (aG, .inl (cI, 24, .inl (fun j9 => nI (gF j9)))), (bG, .inl (cI, 24, .inl (fun j9 => nI (gT j9)))), (dG, .inl (cI, 24, .inl (fun j9 => oI (gS j9)))), (gG, .inl (cI, 24, .inl (fun j9 => nI (gO j9)))), (h, .inr (5, [.int (nI sc), .int (nI mv), .ref a, .ref b, .ref d])), (a, .inl (cI, 4, .inl (fun j9 => nI (s5 j9)))), (b, .inl (cI, 4, .inl (fun j9 => nI (zs j9)))), (d, .inl (cI, 24, .inl (fun j9 => oI (sf j9))))] ++ rws ro cI mo) H := hP
  have hD : va_D A ([(kS, .inr (6, [.int (nI (K + 1)), .int (nI gc), .int (nI l0), .int (nI m0), .ref aS, .ref bS, .ref dS, .ref eS, .ref gS9, .ref fS])), (aS, .inl (cI, 8, .inl (fun j9 => nI ((va_cpy gT t0 0 0 gc) j9)))), (bS, .inl (cI, 4, .inl (fun j9 => nI ((fun _ => 0) j9)))), (dS, .inl (cI, 8, .inl (fun j9 => nI (tr j9)))), (eS, .inl (cI, 8, .inl (fun j9 => nI (be j9)))), (gS9, .inl (cG, 8, .inr (.inr (.inr (.inr (grf ro)))))), (fS, .inl (cI, 9, .inl (fun j9 => nI (mg j9)))), (hG, .inr (1, [.int (nI gc), .int (nI gn), .ref aG, .ref bG, .ref dG, .ref gG])), (aG, .inl (cI, 24, .inl (fun j9 => nI (gF j9)))), (bG, .inl (cI, 24, .inl (fun j9 => nI (gT j9)))), (dG, .inl (cI, 24, .inl (fun j9 => oI (gS j9)))), (gG, .inl (cI, 24, .inl (fun j9 => nI (gO j9)))), (h, .inr (5, [.int (nI sc), .int (nI mv), .ref a, .ref b, .ref d])), (a, .inl (cI, 4, .inl (fun j9 => nI (s5 j9)))), (b, .inl (cI, 4, .inl (fun j9 => nI (zs j9)))), (d, .inl (cI, 24, .inl (fun j9 => oI (sf j9))))] ++ rws ro cI mo) := hD
  refine lv_aload_n hx hb dSE_place_57 rfl (lv_at hl 0 rfl) ?_
  refine lv_ldc (v := 2147483647) hx hb hown (hts (.constant RSE 72 2147483647) (by decide +kernel)) dSE_place_58 ?_
  refine hr_eqi (show (2147483647 : Int32) = nI 2147483647 by decide +kernel) ?_
  refine va_put (D := (dC, dI)) (ci := 6) (v := .int (nI 2147483647)) (ty := .int) (C := RSE) (T := TSE) (N := 10) hx hb hts (fun w h => List.mem_cons_of_mem _ (inSE w h)) tySE tySE_ok nmSE hown hK hP hD hS 0 rfl rfl 2 (by decide) (hts _ (List.mem_cons_of_mem _ kw_118)) (fun _ h9 => h9) rfl (by decide +kernel) rfl rfl (Nat.le_of_ble_eq_true rfl) dSE_place_60 (fun H locs hP hD hS => ?_)
  have hP : va_P (dC, dI) vwCl ([(kS, .inr (6, [.int (nI (K + 1)), .int (nI gc), .int (nI 2147483647), .int (nI m0), .ref aS, .ref bS, .ref dS, .ref eS, .ref gS9, .ref fS])), (aS, .inl (cI, 8, .inl (fun j9 => nI ((va_cpy gT t0 0 0 gc) j9)))), (bS, .inl (cI, 4, .inl (fun j9 => nI ((fun _ => 0) j9)))), (dS, .inl (cI, 8, .inl (fun j9 => nI (tr j9)))), (eS, .inl (cI, 8, .inl (fun j9 => nI (be j9)))), (gS9, .inl (cG, 8, .inr (.inr (.inr (.inr (grf ro)))))), (fS, .inl (cI, 9, .inl (fun j9 => nI (mg j9)))), (hG, .inr (1, [.int (nI gc), .int (nI gn), .ref aG, .ref bG, .ref dG, .ref gG])), (aG, .inl (cI, 24, .inl (fun j9 => nI (gF j9)))), (bG, .inl (cI, 24, .inl (fun j9 => nI (gT j9)))), (dG, .inl (cI, 24, .inl (fun j9 => oI (gS j9)))), (gG, .inl (cI, 24, .inl (fun j9 => nI (gO j9)))), (h, .inr (5, [.int (nI sc), .int (nI mv), .ref a, .ref b, .ref d])), (a, .inl (cI, 4, .inl (fun j9 => nI (s5 j9)))), (b, .inl (cI, 4, .inl (fun j9 => nI (zs j9)))), (d, .inl (cI, 24, .inl (fun j9 => oI (sf j9))))] ++ rws ro cI mo) H := hP
  have hD : va_D A ([(kS, .inr (6, [.int (nI (K + 1)), .int (nI gc), .int (nI 2147483647), .int (nI m0), .ref aS, .ref bS, .ref dS, .ref eS, .ref gS9, .ref fS])), (aS, .inl (cI, 8, .inl (fun j9 => nI ((va_cpy gT t0 0 0 gc) j9)))), (bS, .inl (cI, 4, .inl (fun j9 => nI ((fun _ => 0) j9)))), (dS, .inl (cI, 8, .inl (fun j9 => nI (tr j9)))), (eS, .inl (cI, 8, .inl (fun j9 => nI (be j9)))), (gS9, .inl (cG, 8, .inr (.inr (.inr (.inr (grf ro)))))), (fS, .inl (cI, 9, .inl (fun j9 => nI (mg j9)))), (hG, .inr (1, [.int (nI gc), .int (nI gn), .ref aG, .ref bG, .ref dG, .ref gG])), (aG, .inl (cI, 24, .inl (fun j9 => nI (gF j9)))), (bG, .inl (cI, 24, .inl (fun j9 => nI (gT j9)))), (dG, .inl (cI, 24, .inl (fun j9 => oI (gS j9)))), (gG, .inl (cI, 24, .inl (fun j9 => nI (gO j9)))), (h, .inr (5, [.int (nI sc), .int (nI mv), .ref a, .ref b, .ref d])), (a, .inl (cI, 4, .inl (fun j9 => nI (s5 j9)))), (b, .inl (cI, 4, .inl (fun j9 => nI (zs j9)))), (d, .inl (cI, 24, .inl (fun j9 => oI (sf j9))))] ++ rws ro cI mo) := hD
  refine lv_aload_n hx hb dSE_place_63 rfl (lv_at hl 0 rfl) ?_
  refine lv_iconst (v := nI 0) hx hb dSE_place_64 (by decide +kernel) ?_
  refine lv_iconst (v := nI 0) hx hb dSE_place_65 (by decide +kernel) ?_
  refine lv_iconst (v := nI 0) hx hb dSE_place_66 (by decide +kernel) ?_
  have htw : ∀ j, j < 8 → (va_cpy gT t0 0 0 gc) j ≤ 2400000 := fun j hj => by
      by_cases h : j < gc
      · rw [pk_cpy_in (by omega) (by omega)]; have := hgT (0 + (j - 0)) (by omega); omega
      · rw [pk_cpy_out (by omega)]; exact ht0 j hj
  refine hr_callv (wr := ([(dS, .inl (cI, 8, .inl (fun j9 => nI (tr j9)))), (eS, .inl (cI, 8, .inl (fun j9 => nI (be j9)))), (gS9, .inl (cG, 8, .inr (.inr (.inr (.inr (grf ro)))))), (fS, .inl (cI, 9, .inl (fun j9 => nI (mg j9)))), (hG, .inr (1, [.int (nI gc), .int (nI gn), .ref aG, .ref bG, .ref dG, .ref gG])), (aG, .inl (cI, 24, .inl (fun j9 => nI (gF j9)))), (bG, .inl (cI, 24, .inl (fun j9 => nI (gT j9)))), (dG, .inl (cI, 24, .inl (fun j9 => oI (gS j9)))), (gG, .inl (cI, 24, .inl (fun j9 => nI (gO j9)))), (h, .inr (5, [.int (nI sc), .int (nI mv), .ref a, .ref b, .ref d])), (a, .inl (cI, 4, .inl (fun j9 => nI (s5 j9)))), (b, .inl (cI, 4, .inl (fun j9 => nI (zs j9)))), (d, .inl (cI, 24, .inl (fun j9 => oI (sf j9))))] ++ rws ro cI mo)) (va_runV (C := RSE) (As := [.int (nI 0), .int (nI 0), .int (nI 0)]) (rest := []) ⟨hx, hb, hml, hown, hts⟩ (c_SE_seekLength l dC dI cI cZ cG gc kS aS bS dS eS gS9 fS K gc 2147483647 m0 (va_cpy gT t0 0 0 gc) (fun _ => 0) 0 0 0 H.size (hK3) (hG8) (by omega) (by omega) (fun q h1 h2 => rfl) (htw) (fun q hq => by omega) (by omega) (by decide)) (hr_cwV 3 hts kw_350 kw_352 kw_4 kw_27 kw_353 (by decide +kernel) (by rw [← hRe]; exact ⟨by show gc + 1 + 1 ≤ 12; omega, by show 8 + (6 + 11) + 32 * (gc + 1) ≤ 400; omega⟩)) (hr_preW hKX hP hD [0, 1, 2] (by decide) rfl (ci := 6) (q0 := 0) (q := (RSE, TSE, 10)) rfl rfl) rfl rfl hl.1 rfl (lv_room (Nat.le_of_ble_eq_true rfl)) dSE_place_67 ⟨by omega, by omega⟩) hP hD hS hA [0, 1, 2] [3, 4, 5, 6, 7, 8, 9, 10, 11, 12, 13, 14, 15, 16, 17, 18, 19, 20, 21, 22, 23] rfl rfl (by decide) (by decide) [21, 22, 23, 0, 1, 2, 3, 4, 5, 6, 7, 8, 9, 10, 11, 12, 13, 14, 15, 16, 17, 18, 19, 20] (fun u => [(kS, .inr (6, [.int (nI (K + 1)), .int (nI gc), .int (nI (min 2147483647 (lo (va_cpy gT t0 0 0 gc) K gc 0 (fun _ => 0) 0))), .int (nI m0), .ref aS, .ref bS, .ref dS, .ref eS, .ref gS9, .ref fS])), (aS, .inl (cI, 8, .inl (fun j9 => nI ((va_cpy gT t0 0 0 gc) j9)))), (bS, .inl (cI, 4, .inl (fun j9 => nI ((fun _ => 0) j9)))), (dS, .inl (cI, 8, .inl (fun j9 => nI (tr j9)))), (eS, .inl (cI, 8, .inl (fun j9 => nI (be j9)))), (gS9, .inl (cG, 8, .inr (.inr (.inr (.inr (grf ro)))))), (fS, .inl (cI, 9, .inl (fun j9 => nI (mg j9)))), (hG, .inr (1, [.int (nI gc), .int (nI gn), .ref aG, .ref bG, .ref dG, .ref gG])), (aG, .inl (cI, 24, .inl (fun j9 => nI (gF j9)))), (bG, .inl (cI, 24, .inl (fun j9 => nI (gT j9)))), (dG, .inl (cI, 24, .inl (fun j9 => oI (gS j9)))), (gG, .inl (cI, 24, .inl (fun j9 => nI (gO j9)))), (h, .inr (5, [.int (nI sc), .int (nI mv), .ref a, .ref b, .ref d])), (a, .inl (cI, 4, .inl (fun j9 => nI (s5 j9)))), (b, .inl (cI, 4, .inl (fun j9 => nI (zs j9)))), (d, .inl (cI, 24, .inl (fun j9 => oI (sf j9))))] ++ rws ro cI mo) (by decide) (fun u => rfl) (fun u H locs hrv hP hD hS => ?_)
  have hP : va_P (dC, dI) vwCl ([(kS, .inr (6, [.int (nI (K + 1)), .int (nI gc), .int (nI (min 2147483647 (lo (va_cpy gT t0 0 0 gc) K gc 0 (fun _ => 0) 0))), .int (nI m0), .ref aS, .ref bS, .ref dS, .ref eS, .ref gS9, .ref fS])), (aS, .inl (cI, 8, .inl (fun j9 => nI ((va_cpy gT t0 0 0 gc) j9)))), (bS, .inl (cI, 4, .inl (fun j9 => nI ((fun _ => 0) j9)))), (dS, .inl (cI, 8, .inl (fun j9 => nI (tr j9)))), (eS, .inl (cI, 8, .inl (fun j9 => nI (be j9)))), (gS9, .inl (cG, 8, .inr (.inr (.inr (.inr (grf ro)))))), (fS, .inl (cI, 9, .inl (fun j9 => nI (mg j9)))), (hG, .inr (1, [.int (nI gc), .int (nI gn), .ref aG, .ref bG, .ref dG, .ref gG])), (aG, .inl (cI, 24, .inl (fun j9 => nI (gF j9)))), (bG, .inl (cI, 24, .inl (fun j9 => nI (gT j9)))), (dG, .inl (cI, 24, .inl (fun j9 => oI (gS j9)))), (gG, .inl (cI, 24, .inl (fun j9 => nI (gO j9)))), (h, .inr (5, [.int (nI sc), .int (nI mv), .ref a, .ref b, .ref d])), (a, .inl (cI, 4, .inl (fun j9 => nI (s5 j9)))), (b, .inl (cI, 4, .inl (fun j9 => nI (zs j9)))), (d, .inl (cI, 24, .inl (fun j9 => oI (sf j9))))] ++ rws ro cI mo) H := hP
  have hD : va_D A ([(kS, .inr (6, [.int (nI (K + 1)), .int (nI gc), .int (nI (min 2147483647 (lo (va_cpy gT t0 0 0 gc) K gc 0 (fun _ => 0) 0))), .int (nI m0), .ref aS, .ref bS, .ref dS, .ref eS, .ref gS9, .ref fS])), (aS, .inl (cI, 8, .inl (fun j9 => nI ((va_cpy gT t0 0 0 gc) j9)))), (bS, .inl (cI, 4, .inl (fun j9 => nI ((fun _ => 0) j9)))), (dS, .inl (cI, 8, .inl (fun j9 => nI (tr j9)))), (eS, .inl (cI, 8, .inl (fun j9 => nI (be j9)))), (gS9, .inl (cG, 8, .inr (.inr (.inr (.inr (grf ro)))))), (fS, .inl (cI, 9, .inl (fun j9 => nI (mg j9)))), (hG, .inr (1, [.int (nI gc), .int (nI gn), .ref aG, .ref bG, .ref dG, .ref gG])), (aG, .inl (cI, 24, .inl (fun j9 => nI (gF j9)))), (bG, .inl (cI, 24, .inl (fun j9 => nI (gT j9)))), (dG, .inl (cI, 24, .inl (fun j9 => oI (gS j9)))), (gG, .inl (cI, 24, .inl (fun j9 => nI (gO j9)))), (h, .inr (5, [.int (nI sc), .int (nI mv), .ref a, .ref b, .ref d])), (a, .inl (cI, 4, .inl (fun j9 => nI (s5 j9)))), (b, .inl (cI, 4, .inl (fun j9 => nI (zs j9)))), (d, .inl (cI, 24, .inl (fun j9 => oI (sf j9))))] ++ rws ro cI mo) := hD
  refine lv_aload_n hx hb dSE_place_70 rfl (lv_at hl 0 rfl) ?_
  refine lv_ldc (v := 2147483647) hx hb hown (hts (.constant RSE 72 2147483647) (by decide +kernel)) dSE_place_71 ?_
  refine hr_eqi (show (2147483647 : Int32) = nI 2147483647 by decide +kernel) ?_
  refine va_put (D := (dC, dI)) (ci := 6) (v := .int (nI 2147483647)) (ty := .int) (C := RSE) (T := TSE) (N := 10) hx hb hts (fun w h => List.mem_cons_of_mem _ (inSE w h)) tySE tySE_ok nmSE hown hK hP hD hS 0 rfl rfl 3 (by decide) (hts _ (List.mem_cons_of_mem _ kw_119)) (fun _ h9 => h9) rfl (by decide +kernel) rfl rfl (Nat.le_of_ble_eq_true rfl) dSE_place_73 (fun H locs hP hD hS => ?_)
  have hP : va_P (dC, dI) vwCl ([(kS, .inr (6, [.int (nI (K + 1)), .int (nI gc), .int (nI (min 2147483647 (lo (va_cpy gT t0 0 0 gc) K gc 0 (fun _ => 0) 0))), .int (nI 2147483647), .ref aS, .ref bS, .ref dS, .ref eS, .ref gS9, .ref fS])), (aS, .inl (cI, 8, .inl (fun j9 => nI ((va_cpy gT t0 0 0 gc) j9)))), (bS, .inl (cI, 4, .inl (fun j9 => nI ((fun _ => 0) j9)))), (dS, .inl (cI, 8, .inl (fun j9 => nI (tr j9)))), (eS, .inl (cI, 8, .inl (fun j9 => nI (be j9)))), (gS9, .inl (cG, 8, .inr (.inr (.inr (.inr (grf ro)))))), (fS, .inl (cI, 9, .inl (fun j9 => nI (mg j9)))), (hG, .inr (1, [.int (nI gc), .int (nI gn), .ref aG, .ref bG, .ref dG, .ref gG])), (aG, .inl (cI, 24, .inl (fun j9 => nI (gF j9)))), (bG, .inl (cI, 24, .inl (fun j9 => nI (gT j9)))), (dG, .inl (cI, 24, .inl (fun j9 => oI (gS j9)))), (gG, .inl (cI, 24, .inl (fun j9 => nI (gO j9)))), (h, .inr (5, [.int (nI sc), .int (nI mv), .ref a, .ref b, .ref d])), (a, .inl (cI, 4, .inl (fun j9 => nI (s5 j9)))), (b, .inl (cI, 4, .inl (fun j9 => nI (zs j9)))), (d, .inl (cI, 24, .inl (fun j9 => oI (sf j9))))] ++ rws ro cI mo) H := hP
  have hD : va_D A ([(kS, .inr (6, [.int (nI (K + 1)), .int (nI gc), .int (nI (min 2147483647 (lo (va_cpy gT t0 0 0 gc) K gc 0 (fun _ => 0) 0))), .int (nI 2147483647), .ref aS, .ref bS, .ref dS, .ref eS, .ref gS9, .ref fS])), (aS, .inl (cI, 8, .inl (fun j9 => nI ((va_cpy gT t0 0 0 gc) j9)))), (bS, .inl (cI, 4, .inl (fun j9 => nI ((fun _ => 0) j9)))), (dS, .inl (cI, 8, .inl (fun j9 => nI (tr j9)))), (eS, .inl (cI, 8, .inl (fun j9 => nI (be j9)))), (gS9, .inl (cG, 8, .inr (.inr (.inr (.inr (grf ro)))))), (fS, .inl (cI, 9, .inl (fun j9 => nI (mg j9)))), (hG, .inr (1, [.int (nI gc), .int (nI gn), .ref aG, .ref bG, .ref dG, .ref gG])), (aG, .inl (cI, 24, .inl (fun j9 => nI (gF j9)))), (bG, .inl (cI, 24, .inl (fun j9 => nI (gT j9)))), (dG, .inl (cI, 24, .inl (fun j9 => oI (gS j9)))), (gG, .inl (cI, 24, .inl (fun j9 => nI (gO j9)))), (h, .inr (5, [.int (nI sc), .int (nI mv), .ref a, .ref b, .ref d])), (a, .inl (cI, 4, .inl (fun j9 => nI (s5 j9)))), (b, .inl (cI, 4, .inl (fun j9 => nI (zs j9)))), (d, .inl (cI, 24, .inl (fun j9 => oI (sf j9))))] ++ rws ro cI mo) := hD
  refine lv_aload_n hx hb dSE_place_76 rfl (lv_at hl 0 rfl) ?_
  refine lv_iconst (v := nI 0) hx hb dSE_place_77 (by decide +kernel) ?_
  refine lv_iconst (v := nI 0) hx hb dSE_place_78 (by decide +kernel) ?_
  refine hr_callv (wr := [(hG, .inr (1, [.int (nI gc), .int (nI gn), .ref aG, .ref bG, .ref dG, .ref gG])), (aG, .inl (cI, 24, .inl (fun j9 => nI (gF j9)))), (bG, .inl (cI, 24, .inl (fun j9 => nI (gT j9)))), (dG, .inl (cI, 24, .inl (fun j9 => oI (gS j9)))), (gG, .inl (cI, 24, .inl (fun j9 => nI (gO j9)))), (h, .inr (5, [.int (nI sc), .int (nI mv), .ref a, .ref b, .ref d])), (a, .inl (cI, 4, .inl (fun j9 => nI (s5 j9)))), (b, .inl (cI, 4, .inl (fun j9 => nI (zs j9)))), (d, .inl (cI, 24, .inl (fun j9 => oI (sf j9))))]) (va_runV (C := RSE) (As := [.int (nI 0), .int (nI 0)]) (rest := []) ⟨hx, hb, hml, hown, hts⟩ (c_SE_seekShards l dC dI cI cZ cG gc kS aS bS dS eS gS9 fS K gc (min 2147483647 (lo (va_cpy gT t0 0 0 gc) K gc 0 (fun _ => 0) 0)) 2147483647 ro mo (va_cpy gT t0 0 0 gc) (fun _ => 0) tr be mg 0 0 H.size (hK3) (hG8) (by omega) (htw) (fun q hq => by omega) (by omega) (by decide) (by omega) (fun g hg q hq => by rw [hmo g hg q hq]; have := mvI_le (sf := sf) (gO := gO) (g := g) (s := q) gn; omega) (hmg.2.2) (hmg.1) (hmg.2.1)) (hr_cwV 2 hts kw_355 kw_357 kw_5 kw_27 kw_358 (by decide +kernel) (by rw [← hRe]; exact ⟨by show gc + 1 + 1 ≤ 12; omega, by show 8 + (4 + 11) + 32 * (gc + 1) ≤ 400; omega⟩)) (hr_preW hKX hP hD [0, 1, 2, 3, 4, 5, 6, 16, 17, 18, 19, 20, 21, 22, 23] (by decide) rfl (ci := 6) (q0 := 0) (q := (RSE, TSE, 10)) rfl rfl) rfl rfl hl.1 rfl (lv_room (Nat.le_of_ble_eq_true rfl)) dSE_place_79 ⟨by omega, by omega⟩) hP hD hS hA [0, 1, 2, 3, 4, 5, 6, 16, 17, 18, 19, 20, 21, 22, 23] [7, 8, 9, 10, 11, 12, 13, 14, 15] rfl rfl (by decide) (by decide) [9, 10, 11, 12, 13, 14, 15, 0, 1, 2, 3, 4, 5, 6, 7, 8, 16, 17, 18, 19, 20, 21, 22, 23] (fun u => [(kS, .inr (6, [.int (nI (K + 1)), .int (nI gc), .int (nI (min 2147483647 (lo (va_cpy gT t0 0 0 gc) K gc 0 (fun _ => 0) 0))), .int (nI ((fs (va_cpy gT t0 0 0 gc) mo K (min 2147483647 (lo (va_cpy gT t0 0 0 gc) K gc 0 (fun _ => 0) 0)) gc gc 0 0 (fun _ => 0) tr (2147483647, be)).1)), .ref aS, .ref bS, .ref dS, .ref eS, .ref gS9, .ref fS])), (aS, .inl (cI, 8, .inl (fun j9 => nI ((va_cpy gT t0 0 0 gc) j9)))), (bS, .inl (cI, 4, .inl (fun j9 => nI ((fun _ => 0) j9)))), (dS, .inl (cI, 8, .inl (fun j9 => nI (u j9)))), (eS, .inl (cI, 8, .inl (fun j9 => nI (((fs (va_cpy gT t0 0 0 gc) mo K (min 2147483647 (lo (va_cpy gT t0 0 0 gc) K gc 0 (fun _ => 0) 0)) gc gc 0 0 (fun _ => 0) tr (2147483647, be)).2) j9)))), (gS9, .inl (cG, 8, .inr (.inr (.inr (.inr (grf ro)))))), (fS, .inl (cI, 9, .inl (fun j9 => nI (mg j9)))), (hG, .inr (1, [.int (nI gc), .int (nI gn), .ref aG, .ref bG, .ref dG, .ref gG])), (aG, .inl (cI, 24, .inl (fun j9 => nI (gF j9)))), (bG, .inl (cI, 24, .inl (fun j9 => nI (gT j9)))), (dG, .inl (cI, 24, .inl (fun j9 => oI (gS j9)))), (gG, .inl (cI, 24, .inl (fun j9 => nI (gO j9)))), (h, .inr (5, [.int (nI sc), .int (nI mv), .ref a, .ref b, .ref d])), (a, .inl (cI, 4, .inl (fun j9 => nI (s5 j9)))), (b, .inl (cI, 4, .inl (fun j9 => nI (zs j9)))), (d, .inl (cI, 24, .inl (fun j9 => oI (sf j9))))] ++ rws ro cI mo) (by decide) (fun u => rfl) (fun u H locs hrv hP hD hS => ?_)
  obtain ⟨ts, rfl⟩ : ∃ z, z = u := ⟨_, rfl⟩
  have hP : va_P (dC, dI) vwCl ([(kS, .inr (6, [.int (nI (K + 1)), .int (nI gc), .int (nI (min 2147483647 (lo (va_cpy gT t0 0 0 gc) K gc 0 (fun _ => 0) 0))), .int (nI ((fs (va_cpy gT t0 0 0 gc) mo K (min 2147483647 (lo (va_cpy gT t0 0 0 gc) K gc 0 (fun _ => 0) 0)) gc gc 0 0 (fun _ => 0) tr (2147483647, be)).1)), .ref aS, .ref bS, .ref dS, .ref eS, .ref gS9, .ref fS])), (aS, .inl (cI, 8, .inl (fun j9 => nI ((va_cpy gT t0 0 0 gc) j9)))), (bS, .inl (cI, 4, .inl (fun j9 => nI ((fun _ => 0) j9)))), (dS, .inl (cI, 8, .inl (fun j9 => nI (ts j9)))), (eS, .inl (cI, 8, .inl (fun j9 => nI (((fs (va_cpy gT t0 0 0 gc) mo K (min 2147483647 (lo (va_cpy gT t0 0 0 gc) K gc 0 (fun _ => 0) 0)) gc gc 0 0 (fun _ => 0) tr (2147483647, be)).2) j9)))), (gS9, .inl (cG, 8, .inr (.inr (.inr (.inr (grf ro)))))), (fS, .inl (cI, 9, .inl (fun j9 => nI (mg j9)))), (hG, .inr (1, [.int (nI gc), .int (nI gn), .ref aG, .ref bG, .ref dG, .ref gG])), (aG, .inl (cI, 24, .inl (fun j9 => nI (gF j9)))), (bG, .inl (cI, 24, .inl (fun j9 => nI (gT j9)))), (dG, .inl (cI, 24, .inl (fun j9 => oI (gS j9)))), (gG, .inl (cI, 24, .inl (fun j9 => nI (gO j9)))), (h, .inr (5, [.int (nI sc), .int (nI mv), .ref a, .ref b, .ref d])), (a, .inl (cI, 4, .inl (fun j9 => nI (s5 j9)))), (b, .inl (cI, 4, .inl (fun j9 => nI (zs j9)))), (d, .inl (cI, 24, .inl (fun j9 => oI (sf j9))))] ++ rws ro cI mo) H := hP
  have hD : va_D A ([(kS, .inr (6, [.int (nI (K + 1)), .int (nI gc), .int (nI (min 2147483647 (lo (va_cpy gT t0 0 0 gc) K gc 0 (fun _ => 0) 0))), .int (nI ((fs (va_cpy gT t0 0 0 gc) mo K (min 2147483647 (lo (va_cpy gT t0 0 0 gc) K gc 0 (fun _ => 0) 0)) gc gc 0 0 (fun _ => 0) tr (2147483647, be)).1)), .ref aS, .ref bS, .ref dS, .ref eS, .ref gS9, .ref fS])), (aS, .inl (cI, 8, .inl (fun j9 => nI ((va_cpy gT t0 0 0 gc) j9)))), (bS, .inl (cI, 4, .inl (fun j9 => nI ((fun _ => 0) j9)))), (dS, .inl (cI, 8, .inl (fun j9 => nI (ts j9)))), (eS, .inl (cI, 8, .inl (fun j9 => nI (((fs (va_cpy gT t0 0 0 gc) mo K (min 2147483647 (lo (va_cpy gT t0 0 0 gc) K gc 0 (fun _ => 0) 0)) gc gc 0 0 (fun _ => 0) tr (2147483647, be)).2) j9)))), (gS9, .inl (cG, 8, .inr (.inr (.inr (.inr (grf ro)))))), (fS, .inl (cI, 9, .inl (fun j9 => nI (mg j9)))), (hG, .inr (1, [.int (nI gc), .int (nI gn), .ref aG, .ref bG, .ref dG, .ref gG])), (aG, .inl (cI, 24, .inl (fun j9 => nI (gF j9)))), (bG, .inl (cI, 24, .inl (fun j9 => nI (gT j9)))), (dG, .inl (cI, 24, .inl (fun j9 => oI (gS j9)))), (gG, .inl (cI, 24, .inl (fun j9 => nI (gO j9)))), (h, .inr (5, [.int (nI sc), .int (nI mv), .ref a, .ref b, .ref d])), (a, .inl (cI, 4, .inl (fun j9 => nI (s5 j9)))), (b, .inl (cI, 4, .inl (fun j9 => nI (zs j9)))), (d, .inl (cI, 24, .inl (fun j9 => oI (sf j9))))] ++ rws ro cI mo) := hD
  have hpt := hrv
  refine lv_aload_n hx hb dSE_place_82 rfl (lv_at hl 0 rfl) ?_
  refine va_get (D := (dC, dI)) (ci := 6) (v := .ref eS) (C := RSE) (T := TSE) (N := 10) hx hb hts (fun w h => List.mem_cons_of_mem _ (inSE w h)) hown hK hP 0 rfl rfl 7 (by decide) (hts _ (List.mem_cons_of_mem _ kw_123)) (fun _ h9 => h9) rfl dSE_place_83 ?_
  refine lv_iconst (v := nI 0) hx hb dSE_place_86 (by decide +kernel) ?_
  refine lv_aload_n hx hb dSE_place_87 rfl (lv_at hl 1 rfl) ?_
  refine va_get (D := (dC, dI)) (ci := 1) (v := .ref dG) (C := RGR) (T := TGR) (N := 6) hx hb hts (fun w h => List.mem_cons_of_mem _ (inGR w h)) hown hK hP 7 rfl rfl 4 (by decide) (hts _ (List.mem_cons_of_mem _ kw_92)) (fun _ h9 => h9) rfl dSE_place_88 ?_
  refine lv_iconst (v := nI 0) hx hb dSE_place_91 (by decide +kernel) ?_
  refine lv_aload_n hx hb dSE_place_92 rfl (lv_at hl 0 rfl) ?_
  refine va_get (D := (dC, dI)) (ci := 6) (v := .int (nI gc)) (C := RSE) (T := TSE) (N := 10) hx hb hts (fun w h => List.mem_cons_of_mem _ (inSE w h)) hown hK hP 0 rfl rfl 1 (by decide) (hts _ (List.mem_cons_of_mem _ kw_117)) (fun _ h9 => h9) rfl dSE_place_93 ?_
  refine hr_copy (n := gc) (rest := []) hx hb (by rw [hml]; exact hl.1.symm) hown (hts _ (List.mem_cons_of_mem _ kw_325)) (hts _ (List.mem_cons_of_mem _ kw_327)) (hts _ (List.mem_cons_of_mem _ kw_326)) (hts _ (List.mem_cons_of_mem _ kw_34)) hK hP hD hS 4 10 0 rfl rfl rfl (by omega) (by omega) (by omega) (Nat.le_trans (by decide) hRf) (Nat.le_trans (by decide) hRl) dSE_place_96 (fun H locs hP hD hS => ?_)
  rw [cpO_eq] at hP hD
  have hP : va_P (dC, dI) vwCl ([(kS, .inr (6, [.int (nI (K + 1)), .int (nI gc), .int (nI (min 2147483647 (lo (va_cpy gT t0 0 0 gc) K gc 0 (fun _ => 0) 0))), .int (nI ((fs (va_cpy gT t0 0 0 gc) mo K (min 2147483647 (lo (va_cpy gT t0 0 0 gc) K gc 0 (fun _ => 0) 0)) gc gc 0 0 (fun _ => 0) tr (2147483647, be)).1)), .ref aS, .ref bS, .ref dS, .ref eS, .ref gS9, .ref fS])), (aS, .inl (cI, 8, .inl (fun j9 => nI ((va_cpy gT t0 0 0 gc) j9)))), (bS, .inl (cI, 4, .inl (fun j9 => nI ((fun _ => 0) j9)))), (dS, .inl (cI, 8, .inl (fun j9 => nI (ts j9)))), (eS, .inl (cI, 8, .inl (fun j9 => nI (((fs (va_cpy gT t0 0 0 gc) mo K (min 2147483647 (lo (va_cpy gT t0 0 0 gc) K gc 0 (fun _ => 0) 0)) gc gc 0 0 (fun _ => 0) tr (2147483647, be)).2) j9)))), (gS9, .inl (cG, 8, .inr (.inr (.inr (.inr (grf ro)))))), (fS, .inl (cI, 9, .inl (fun j9 => nI (mg j9)))), (hG, .inr (1, [.int (nI gc), .int (nI gn), .ref aG, .ref bG, .ref dG, .ref gG])), (aG, .inl (cI, 24, .inl (fun j9 => nI (gF j9)))), (bG, .inl (cI, 24, .inl (fun j9 => nI (gT j9)))), (dG, .inl (cI, 24, .inl (fun j9 => oI ((cpO (fs (va_cpy gT t0 0 0 gc) mo K (min 2147483647 (lo (va_cpy gT t0 0 0 gc) K gc 0 (fun _ => 0) 0)) gc gc 0 0 (fun _ => 0) tr (2147483647, be)).2 gS gc) j9)))), (gG, .inl (cI, 24, .inl (fun j9 => nI (gO j9)))), (h, .inr (5, [.int (nI sc), .int (nI mv), .ref a, .ref b, .ref d])), (a, .inl (cI, 4, .inl (fun j9 => nI (s5 j9)))), (b, .inl (cI, 4, .inl (fun j9 => nI (zs j9)))), (d, .inl (cI, 24, .inl (fun j9 => oI (sf j9))))] ++ rws ro cI mo) H := hP
  have hD : va_D A ([(kS, .inr (6, [.int (nI (K + 1)), .int (nI gc), .int (nI (min 2147483647 (lo (va_cpy gT t0 0 0 gc) K gc 0 (fun _ => 0) 0))), .int (nI ((fs (va_cpy gT t0 0 0 gc) mo K (min 2147483647 (lo (va_cpy gT t0 0 0 gc) K gc 0 (fun _ => 0) 0)) gc gc 0 0 (fun _ => 0) tr (2147483647, be)).1)), .ref aS, .ref bS, .ref dS, .ref eS, .ref gS9, .ref fS])), (aS, .inl (cI, 8, .inl (fun j9 => nI ((va_cpy gT t0 0 0 gc) j9)))), (bS, .inl (cI, 4, .inl (fun j9 => nI ((fun _ => 0) j9)))), (dS, .inl (cI, 8, .inl (fun j9 => nI (ts j9)))), (eS, .inl (cI, 8, .inl (fun j9 => nI (((fs (va_cpy gT t0 0 0 gc) mo K (min 2147483647 (lo (va_cpy gT t0 0 0 gc) K gc 0 (fun _ => 0) 0)) gc gc 0 0 (fun _ => 0) tr (2147483647, be)).2) j9)))), (gS9, .inl (cG, 8, .inr (.inr (.inr (.inr (grf ro)))))), (fS, .inl (cI, 9, .inl (fun j9 => nI (mg j9)))), (hG, .inr (1, [.int (nI gc), .int (nI gn), .ref aG, .ref bG, .ref dG, .ref gG])), (aG, .inl (cI, 24, .inl (fun j9 => nI (gF j9)))), (bG, .inl (cI, 24, .inl (fun j9 => nI (gT j9)))), (dG, .inl (cI, 24, .inl (fun j9 => oI ((cpO (fs (va_cpy gT t0 0 0 gc) mo K (min 2147483647 (lo (va_cpy gT t0 0 0 gc) K gc 0 (fun _ => 0) 0)) gc gc 0 0 (fun _ => 0) tr (2147483647, be)).2 gS gc) j9)))), (gG, .inl (cI, 24, .inl (fun j9 => nI (gO j9)))), (h, .inr (5, [.int (nI sc), .int (nI mv), .ref a, .ref b, .ref d])), (a, .inl (cI, 4, .inl (fun j9 => nI (s5 j9)))), (b, .inl (cI, 4, .inl (fun j9 => nI (zs j9)))), (d, .inl (cI, 24, .inl (fun j9 => oI (sf j9))))] ++ rws ro cI mo) := hD
  rw [← hQe]
  exact W.vret hx hb hr (fun t ht hW => ⟨⟨(((min 2147483647 (lo (va_cpy gT t0 0 0 gc) K gc 0 (fun _ => 0) 0))), ((fs (va_cpy gT t0 0 0 gc) mo K (min 2147483647 (lo (va_cpy gT t0 0 0 gc) K gc 0 (fun _ => 0) 0)) gc gc 0 0 (fun _ => 0) tr (2147483647, be)).1), ((va_cpy gT t0 0 0 gc)), ((fun _ => 0)), (ts), ((fs (va_cpy gT t0 0 0 gc) mo K (min 2147483647 (lo (va_cpy gT t0 0 0 gc) K gc 0 (fun _ => 0) 0)) gc gc 0 0 (fun _ => 0) tr (2147483647, be)).2), (mg), (mo), ((cpO (fs (va_cpy gT t0 0 0 gc) mo K (min 2147483647 (lo (va_cpy gT t0 0 0 gc) K gc 0 (fun _ => 0) 0)) gc gc 0 0 (fun _ => 0) tr (2147483647, be)).2 gS gc))), rfl, ⟨⟨(va_cpy gT t0 0 0 gc), mo, tr, be, fun g hg => by rw [pk_cpy_in (by omega) (by omega), show 0 + (g - 0) = g by omega], hmo, fun g hg => if_pos hg⟩, htw, by omega⟩, by rw [ht]; exact hP, hD⟩, hS.F ht⟩) hS.2.2 dSE_place_99
end
