-- ===== PART A: goes FIRST, ahead of the names: the tables' words, and 'selects' of the private methods out of them =====
/-- a private method of a class that the tables say can be made, by its rows of tables_1 -/
def lw_okq (q : MethodName × Nat) : Prop := (q.1.cls ≠ "java/lang/invoke/MethodHandle" ∧ q.1.cls ≠ "java/lang/invoke/VarHandle") ∧ Cond.instantiable q.1.cls q.2 ∈ tables_1 ∧ Cond.privateMethod q.1 ∈ tables_1 ∧ Cond.instanceMethod q.1 ∈ tables_1
theorem lw_p0 : lw_okq (⟨"ShardRows$GroupRows", "open", "(I)I"⟩, 6) := ⟨⟨by decide +kernel, by decide +kernel⟩, List.mem_of_getElem? (i := 48) (by decide +kernel), List.mem_of_getElem? (i := 291) (by decide +kernel), List.mem_of_getElem? (i := 292) (by decide +kernel)⟩
theorem lw_p1 : lw_okq (⟨"ShardRows$Search", "countMoves", "(LShardRows$GroupRows;LShardRows$SplitRows;)V"⟩, 10) := ⟨⟨by decide +kernel, by decide +kernel⟩, List.mem_of_getElem? (i := 87) (by decide +kernel), List.mem_of_getElem? (i := 307) (by decide +kernel), List.mem_of_getElem? (i := 308) (by decide +kernel)⟩
theorem lw_p2 : lw_okq (⟨"ShardRows$Search", "addMove", "(II)V"⟩, 10) := ⟨⟨by decide +kernel, by decide +kernel⟩, List.mem_of_getElem? (i := 87) (by decide +kernel), List.mem_of_getElem? (i := 320) (by decide +kernel), List.mem_of_getElem? (i := 321) (by decide +kernel)⟩
theorem lw_p3 : lw_okq (⟨"ShardRows$Search", "sumLeastMoves", "()V"⟩, 10) := ⟨⟨by decide +kernel, by decide +kernel⟩, List.mem_of_getElem? (i := 87) (by decide +kernel), List.mem_of_getElem? (i := 324) (by decide +kernel), List.mem_of_getElem? (i := 325) (by decide +kernel)⟩
theorem lw_p4 : lw_okq (⟨"ShardRows$Search", "seekLength", "(III)V"⟩, 10) := ⟨⟨by decide +kernel, by decide +kernel⟩, List.mem_of_getElem? (i := 87) (by decide +kernel), List.mem_of_getElem? (i := 329) (by decide +kernel), List.mem_of_getElem? (i := 330) (by decide +kernel)⟩
theorem lw_p5 : lw_okq (⟨"ShardRows$Search", "seekShards", "(II)V"⟩, 10) := ⟨⟨by decide +kernel, by decide +kernel⟩, List.mem_of_getElem? (i := 87) (by decide +kernel), List.mem_of_getElem? (i := 334) (by decide +kernel), List.mem_of_getElem? (i := 335) (by decide +kernel)⟩
theorem lw_p6 : lw_okq (⟨"ShardRows$Greedy", "leastShard", "(I)I"⟩, 2) := ⟨⟨by decide +kernel, by decide +kernel⟩, List.mem_of_getElem? (i := 126) (by decide +kernel), List.mem_of_getElem? (i := 348) (by decide +kernel), List.mem_of_getElem? (i := 349) (by decide +kernel)⟩
theorem lw_p7 : lw_okq (⟨"ShardRows$SplitRows", "addTime", "(II)V"⟩, 5) := ⟨⟨by decide +kernel, by decide +kernel⟩, List.mem_of_getElem? (i := 139) (by decide +kernel), List.mem_of_getElem? (i := 357) (by decide +kernel), List.mem_of_getElem? (i := 358) (by decide +kernel)⟩
theorem lw_p8 : lw_okq (⟨"ShardRows$SplitRows", "give", "(II)V"⟩, 5) := ⟨⟨by decide +kernel, by decide +kernel⟩, List.mem_of_getElem? (i := 139) (by decide +kernel), List.mem_of_getElem? (i := 369) (by decide +kernel), List.mem_of_getElem? (i := 370) (by decide +kernel)⟩
theorem lw_p9 : lw_okq (⟨"ShardRows$ResultRows", "isBad", "(I)Z"⟩, 4) := ⟨⟨by decide +kernel, by decide +kernel⟩, List.mem_of_getElem? (i := 168) (by decide +kernel), List.mem_of_getElem? (i := 441) (by decide +kernel), List.mem_of_getElem? (i := 442) (by decide +kernel)⟩
theorem lw_p10 : lw_okq (⟨"ShardRows", "isMissing", "(I)Z"⟩, 8) := ⟨⟨by decide +kernel, by decide +kernel⟩, List.mem_of_getElem? (i := 14) (by decide +kernel), List.mem_of_getElem? (i := 457) (by decide +kernel), List.mem_of_getElem? (i := 458) (by decide +kernel)⟩
theorem lw_p11 : lw_okq (⟨"ShardRowsModel", "isTest", "(I)Z"⟩, 24) := ⟨⟨by decide +kernel, by decide +kernel⟩, List.mem_of_getElem? (i := 482) (by decide +kernel), List.mem_of_getElem? (i := 573) (by decide +kernel), List.mem_of_getElem? (i := 574) (by decide +kernel)⟩
theorem lw_p12 : lw_okq (⟨"ShardRowsModel", "gathers", "()V"⟩, 24) := ⟨⟨by decide +kernel, by decide +kernel⟩, List.mem_of_getElem? (i := 482) (by decide +kernel), List.mem_of_getElem? (i := 597) (by decide +kernel), List.mem_of_getElem? (i := 598) (by decide +kernel)⟩
theorem lw_p13 : lw_okq (⟨"ShardRowsModel", "exact", "()V"⟩, 24) := ⟨⟨by decide +kernel, by decide +kernel⟩, List.mem_of_getElem? (i := 482) (by decide +kernel), List.mem_of_getElem? (i := 602) (by decide +kernel), List.mem_of_getElem? (i := 603) (by decide +kernel)⟩
theorem lw_p14 : lw_okq (⟨"ShardRowsModel", "length", "()I"⟩, 24) := ⟨⟨by decide +kernel, by decide +kernel⟩, List.mem_of_getElem? (i := 482) (by decide +kernel), List.mem_of_getElem? (i := 606) (by decide +kernel), List.mem_of_getElem? (i := 607) (by decide +kernel)⟩
theorem lw_p15 : lw_okq (⟨"ShardRowsModel", "moves", "()I"⟩, 24) := ⟨⟨by decide +kernel, by decide +kernel⟩, List.mem_of_getElem? (i := 482) (by decide +kernel), List.mem_of_getElem? (i := 610) (by decide +kernel), List.mem_of_getElem? (i := 611) (by decide +kernel)⟩
def lw_privs_1 : List (MethodName × Nat) := [(⟨"ShardRows$GroupRows", "open", "(I)I"⟩, 6), (⟨"ShardRows$Search", "countMoves", "(LShardRows$GroupRows;LShardRows$SplitRows;)V"⟩, 10), (⟨"ShardRows$Search", "addMove", "(II)V"⟩, 10), (⟨"ShardRows$Search", "sumLeastMoves", "()V"⟩, 10), (⟨"ShardRows$Search", "seekLength", "(III)V"⟩, 10), (⟨"ShardRows$Search", "seekShards", "(II)V"⟩, 10), (⟨"ShardRows$Greedy", "leastShard", "(I)I"⟩, 2), (⟨"ShardRows$SplitRows", "addTime", "(II)V"⟩, 5), (⟨"ShardRows$SplitRows", "give", "(II)V"⟩, 5), (⟨"ShardRows$ResultRows", "isBad", "(I)Z"⟩, 4), (⟨"ShardRows", "isMissing", "(I)Z"⟩, 8), (⟨"ShardRowsModel", "isTest", "(I)Z"⟩, 24), (⟨"ShardRowsModel", "gathers", "()V"⟩, 24), (⟨"ShardRowsModel", "exact", "()V"⟩, 24), (⟨"ShardRowsModel", "length", "()I"⟩, 24), (⟨"ShardRowsModel", "moves", "()I"⟩, 24)]
theorem lw_r1 : ∀ q ∈ lw_privs_1, lw_okq q := List.forall_mem_cons.mpr ⟨lw_p0, List.forall_mem_cons.mpr ⟨lw_p1, List.forall_mem_cons.mpr ⟨lw_p2, List.forall_mem_cons.mpr ⟨lw_p3, List.forall_mem_cons.mpr ⟨lw_p4, List.forall_mem_cons.mpr ⟨lw_p5, List.forall_mem_cons.mpr ⟨lw_p6, List.forall_mem_cons.mpr ⟨lw_p7, List.forall_mem_cons.mpr ⟨lw_p8, List.forall_mem_cons.mpr ⟨lw_p9, List.forall_mem_cons.mpr ⟨lw_p10, List.forall_mem_cons.mpr ⟨lw_p11, List.forall_mem_cons.mpr ⟨lw_p12, List.forall_mem_cons.mpr ⟨lw_p13, List.forall_mem_cons.mpr ⟨lw_p14, List.forall_mem_cons.mpr ⟨lw_p15, fun _ h => absurd h List.not_mem_nil⟩⟩⟩⟩⟩⟩⟩⟩⟩⟩⟩⟩⟩⟩⟩⟩
theorem lw_p16 : lw_okq (⟨"ShardRowsModel", "movesOf", "(II)I"⟩, 24) := ⟨⟨by decide +kernel, by decide +kernel⟩, List.mem_of_getElem? (i := 482) (by decide +kernel), List.mem_of_getElem? (i := 614) (by decide +kernel), List.mem_of_getElem? (i := 615) (by decide +kernel)⟩
theorem lw_p17 : lw_okq (⟨"ShardRowsModel", "next", "()Z"⟩, 24) := ⟨⟨by decide +kernel, by decide +kernel⟩, List.mem_of_getElem? (i := 482) (by decide +kernel), List.mem_of_getElem? (i := 618) (by decide +kernel), List.mem_of_getElem? (i := 619) (by decide +kernel)⟩
theorem lw_p18 : lw_okq (⟨"ShardRowsModel", "byTimes", "()V"⟩, 24) := ⟨⟨by decide +kernel, by decide +kernel⟩, List.mem_of_getElem? (i := 482) (by decide +kernel), List.mem_of_getElem? (i := 622) (by decide +kernel), List.mem_of_getElem? (i := 623) (by decide +kernel)⟩
theorem lw_p19 : lw_okq (⟨"ShardRowsModel", "isIn", "(I)Z"⟩, 24) := ⟨⟨by decide +kernel, by decide +kernel⟩, List.mem_of_getElem? (i := 482) (by decide +kernel), List.mem_of_getElem? (i := 630) (by decide +kernel), List.mem_of_getElem? (i := 631) (by decide +kernel)⟩
theorem lw_p20 : lw_okq (⟨"ShardRowsModel", "isShard", "(I)Z"⟩, 24) := ⟨⟨by decide +kernel, by decide +kernel⟩, List.mem_of_getElem? (i := 482) (by decide +kernel), List.mem_of_getElem? (i := 638) (by decide +kernel), List.mem_of_getElem? (i := 639) (by decide +kernel)⟩
theorem lw_p21 : lw_okq (⟨"ShardRowsModel", "testsOf", "(I)I"⟩, 24) := ⟨⟨by decide +kernel, by decide +kernel⟩, List.mem_of_getElem? (i := 482) (by decide +kernel), List.mem_of_getElem? (i := 650) (by decide +kernel), List.mem_of_getElem? (i := 651) (by decide +kernel)⟩
def lw_privs_2 : List (MethodName × Nat) := [(⟨"ShardRowsModel", "movesOf", "(II)I"⟩, 24), (⟨"ShardRowsModel", "next", "()Z"⟩, 24), (⟨"ShardRowsModel", "byTimes", "()V"⟩, 24), (⟨"ShardRowsModel", "isIn", "(I)Z"⟩, 24), (⟨"ShardRowsModel", "isShard", "(I)Z"⟩, 24), (⟨"ShardRowsModel", "testsOf", "(I)I"⟩, 24)]
theorem lw_r2 : ∀ q ∈ lw_privs_2, lw_okq q := List.forall_mem_cons.mpr ⟨lw_p16, List.forall_mem_cons.mpr ⟨lw_p17, List.forall_mem_cons.mpr ⟨lw_p18, List.forall_mem_cons.mpr ⟨lw_p19, List.forall_mem_cons.mpr ⟨lw_p20, List.forall_mem_cons.mpr ⟨lw_p21, fun _ h => absurd h List.not_mem_nil⟩⟩⟩⟩⟩⟩
def lw_privs : List (MethodName × Nat) := lw_privs_1 ++ (lw_privs_2)
def lw_tbl : List Cond := k2_sels lw_privs ++ tables_1
theorem lw_privs_ok : ∀ q ∈ lw_privs, lw_okq q := by
  show ∀ q ∈ lw_privs_1 ++ (lw_privs_2), lw_okq q
  exact List.forall_mem_append.mpr ⟨lw_r1, lw_r2⟩
/-! names, by program (wip/gen/names.py) -/
def RTR : String := "ShardRows$TestRows"
def TTR : u_T := fun k => match k with
  | 0 => ("ShardRows$TestRows", "count", "I", false)
  | 1 => ("ShardRows$TestRows", "times", "[I", true)
  | _ => ("ShardRows$TestRows", "firsts", "[I", true)
def tyTR : Nat → FieldType := fun k => match k with
  | 0 => .int
  | 1 => .array .int
  | _ => .array .int
theorem nmTR : ∀ a, a < 3 → ∀ b, b < 3 → a ≠ b → (TTR a).2.1 ≠ (TTR b).2.1 := by decide +kernel
theorem tyTR_ok : ∀ k, k < 3 → parseFieldDescriptor (TTR k).2.2.1 = some (tyTR k) := by decide +kernel
def RGR : String := "ShardRows$GroupRows"
def TGR : u_T := fun k => match k with
  | 0 => ("ShardRows$GroupRows", "count", "I", false)
  | 1 => ("ShardRows$GroupRows", "testCount", "I", false)
  | 2 => ("ShardRows$GroupRows", "firsts", "[I", true)
  | 3 => ("ShardRows$GroupRows", "times", "[I", true)
  | 4 => ("ShardRows$GroupRows", "shards", "[I", true)
  | _ => ("ShardRows$GroupRows", "groupOf", "[I", true)
def tyGR : Nat → FieldType := fun k => match k with
  | 0 => .int
  | 1 => .int
  | 2 => .array .int
  | 3 => .array .int
  | 4 => .array .int
  | _ => .array .int
theorem nmGR : ∀ a, a < 6 → ∀ b, b < 6 → a ≠ b → (TGR a).2.1 ≠ (TGR b).2.1 := by decide +kernel
theorem tyGR_ok : ∀ k, k < 6 → parseFieldDescriptor (TGR k).2.2.1 = some (tyGR k) := by decide +kernel
def RDR : String := "ShardRows$DrawRow"
def TDR : u_T := fun k => match k with
  | 0 => ("ShardRows$DrawRow", "count", "I", false)
  | _ => ("ShardRows$DrawRow", "row", "[I", true)
def tyDR : Nat → FieldType := fun k => match k with
  | 0 => .int
  | _ => .array .int
theorem nmDR : ∀ a, a < 2 → ∀ b, b < 2 → a ≠ b → (TDR a).2.1 ≠ (TDR b).2.1 := by decide +kernel
theorem tyDR_ok : ∀ k, k < 2 → parseFieldDescriptor (TDR k).2.2.1 = some (tyDR k) := by decide +kernel
def RRR : String := "ShardRows$ResultRows"
def TRR : u_T := fun k => match k with
  | 0 => ("ShardRows$ResultRows", "strangers", "I", false)
  | 1 => ("ShardRows$ResultRows", "present", "[Z", true)
  | 2 => ("ShardRows$ResultRows", "values", "[I", true)
  | _ => ("ShardRows$ResultRows", "tryCounts", "[I", true)
def tyRR : Nat → FieldType := fun k => match k with
  | 0 => .int
  | 1 => .array .boolean
  | 2 => .array .int
  | _ => .array .int
theorem nmRR : ∀ a, a < 4 → ∀ b, b < 4 → a ≠ b → (TRR a).2.1 ≠ (TRR b).2.1 := by decide +kernel
theorem tyRR_ok : ∀ k, k < 4 → parseFieldDescriptor (TRR k).2.2.1 = some (tyRR k) := by decide +kernel
def RGY : String := "ShardRows$Greedy"
def TGY : u_T := fun k => match k with
  | 0 => ("ShardRows$Greedy", "shardCount", "I", false)
  | _ => ("ShardRows$Greedy", "sums", "[I", true)
def tyGY : Nat → FieldType := fun k => match k with
  | 0 => .int
  | _ => .array .int
theorem nmGY : ∀ a, a < 2 → ∀ b, b < 2 → a ≠ b → (TGY a).2.1 ≠ (TGY b).2.1 := by decide +kernel
theorem tyGY_ok : ∀ k, k < 2 → parseFieldDescriptor (TGY k).2.2.1 = some (tyGY k) := by decide +kernel
def RSP : String := "ShardRows$SplitRows"
def TSP : u_T := fun k => match k with
  | 0 => ("ShardRows$SplitRows", "shardCount", "I", false)
  | 1 => ("ShardRows$SplitRows", "movedCount", "I", false)
  | 2 => ("ShardRows$SplitRows", "sums", "[I", true)
  | 3 => ("ShardRows$SplitRows", "sizes", "[I", true)
  | _ => ("ShardRows$SplitRows", "shardOf", "[I", true)
def tySP : Nat → FieldType := fun k => match k with
  | 0 => .int
  | 1 => .int
  | 2 => .array .int
  | 3 => .array .int
  | _ => .array .int
theorem nmSP : ∀ a, a < 5 → ∀ b, b < 5 → a ≠ b → (TSP a).2.1 ≠ (TSP b).2.1 := by decide +kernel
theorem tySP_ok : ∀ k, k < 5 → parseFieldDescriptor (TSP k).2.2.1 = some (tySP k) := by decide +kernel
def RSE : String := "ShardRows$Search"
def TSE : u_T := fun k => match k with
  | 0 => ("ShardRows$Search", "shardCount", "I", false)
  | 1 => ("ShardRows$Search", "groupCount", "I", false)
  | 2 => ("ShardRows$Search", "leastLength", "I", false)
  | 3 => ("ShardRows$Search", "leastMoves", "I", false)
  | 4 => ("ShardRows$Search", "times", "[I", true)
  | 5 => ("ShardRows$Search", "sums", "[I", true)
  | 6 => ("ShardRows$Search", "trial", "[I", true)
  | 7 => ("ShardRows$Search", "best", "[I", true)
  | 8 => ("ShardRows$Search", "moves", "[[I", true)
  | _ => ("ShardRows$Search", "movesFrom", "[I", true)
def tySE : Nat → FieldType := fun k => match k with
  | 0 => .int
  | 1 => .int
  | 2 => .int
  | 3 => .int
  | 4 => .array .int
  | 5 => .array .int
  | 6 => .array .int
  | 7 => .array .int
  | 8 => .array (.array .int)
  | _ => .array .int
theorem nmSE : ∀ a, a < 10 → ∀ b, b < 10 → a ≠ b → (TSE a).2.1 ≠ (TSE b).2.1 := by decide +kernel
theorem tySE_ok : ∀ k, k < 10 → parseFieldDescriptor (TSE k).2.2.1 = some (tySE k) := by decide +kernel
def RSR : String := "ShardRows"
def TSR : u_T := fun k => match k with
  | 0 => ("ShardRows", "testRows", "LShardRows$TestRows;", true)
  | 1 => ("ShardRows", "groupRows", "LShardRows$GroupRows;", true)
  | 2 => ("ShardRows", "search", "LShardRows$Search;", true)
  | 3 => ("ShardRows", "greedy", "LShardRows$Greedy;", true)
  | 4 => ("ShardRows", "latest", "LShardRows$SplitRows;", true)
  | 5 => ("ShardRows", "results", "LShardRows$ResultRows;", true)
  | 6 => ("ShardRows", "order", "LShardRows$DrawRow;", true)
  | _ => ("ShardRows", "nextShards", "I", false)
def tySR : Nat → FieldType := fun k => match k with
  | 0 => .object "ShardRows$TestRows"
  | 1 => .object "ShardRows$GroupRows"
  | 2 => .object "ShardRows$Search"
  | 3 => .object "ShardRows$Greedy"
  | 4 => .object "ShardRows$SplitRows"
  | 5 => .object "ShardRows$ResultRows"
  | 6 => .object "ShardRows$DrawRow"
  | _ => .int
theorem nmSR : ∀ a, a < 8 → ∀ b, b < 8 → a ≠ b → (TSR a).2.1 ≠ (TSR b).2.1 := by decide +kernel
theorem tySR_ok : ∀ k, k < 8 → parseFieldDescriptor (TSR k).2.2.1 = some (tySR k) := by decide +kernel
def RMO : String := "ShardRowsModel"
def TMO : u_T := fun k => match k with
  | 0 => ("ShardRowsModel", "thrown", "I", false)
  | 1 => ("ShardRowsModel", "k", "I", false)
  | 2 => ("ShardRowsModel", "tests", "I", false)
  | 3 => ("ShardRowsModel", "times", "[I", true)
  | 4 => ("ShardRowsModel", "group", "[I", true)
  | 5 => ("ShardRowsModel", "isSplit", "Z", false)
  | 6 => ("ShardRowsModel", "many", "I", false)
  | 7 => ("ShardRowsModel", "splitTests", "I", false)
  | 8 => ("ShardRowsModel", "moved", "I", false)
  | 9 => ("ShardRowsModel", "strange", "I", false)
  | 10 => ("ShardRowsModel", "shard", "[I", true)
  | 11 => ("ShardRowsModel", "sums", "[I", true)
  | 12 => ("ShardRowsModel", "before", "[I", true)
  | 13 => ("ShardRowsModel", "has", "[Z", true)
  | 14 => ("ShardRowsModel", "good", "[Z", true)
  | 15 => ("ShardRowsModel", "tries", "[I", true)
  | 16 => ("ShardRowsModel", "drawn", "[I", true)
  | 17 => ("ShardRowsModel", "drawnMany", "I", false)
  | 18 => ("ShardRowsModel", "firsts", "[I", true)
  | 19 => ("ShardRowsModel", "weights", "[I", true)
  | 20 => ("ShardRowsModel", "way", "[I", true)
  | 21 => ("ShardRowsModel", "best", "[I", true)
  | 22 => ("ShardRowsModel", "taken", "[Z", true)
  | _ => ("ShardRowsModel", "groups", "I", false)
def tyMO : Nat → FieldType := fun k => match k with
  | 0 => .int
  | 1 => .int
  | 2 => .int
  | 3 => .array .int
  | 4 => .array .int
  | 5 => .boolean
  | 6 => .int
  | 7 => .int
  | 8 => .int
  | 9 => .int
  | 10 => .array .int
  | 11 => .array .int
  | 12 => .array .int
  | 13 => .array .boolean
  | 14 => .array .boolean
  | 15 => .array .int
  | 16 => .array .int
  | 17 => .int
  | 18 => .array .int
  | 19 => .array .int
  | 20 => .array .int
  | 21 => .array .int
  | 22 => .array .boolean
  | _ => .int
theorem nmMO : ∀ a, a < 24 → ∀ b, b < 24 → a ≠ b → (TMO a).2.1 ≠ (TMO b).2.1 := by decide +kernel
theorem tyMO_ok : ∀ k, k < 24 → parseFieldDescriptor (TMO k).2.2.1 = some (tyMO k) := by decide +kernel
def RLW : String := "ShardRowsLaw"
def RAR : String := "java/util/Arrays"
abbrev vwCl : List vw_C := [(RTR, TTR, 3), (RGR, TGR, 6), (RDR, TDR, 2), (RRR, TRR, 4), (RGY, TGY, 2), (RSP, TSP, 5), (RSE, TSE, 10), (RSR, TSR, 8), (RMO, TMO, 24)]
/-- the words that stay true while a run goes on -/
def TB : List Cond := lw_tbl.filter goodWord
theorem TB_good : ∀ w ∈ TB, (w.onTables && w.keeps) = true ∨ ∃ ty, w = .arrayClass ty := fun w h => good_of_word (List.mem_filter.mp h).2
theorem inTR : ∀ w ∈ u_ws RTR TTR 3, w ∈ TB := by decide +kernel
theorem inGR : ∀ w ∈ u_ws RGR TGR 6, w ∈ TB := by decide +kernel
theorem inDR : ∀ w ∈ u_ws RDR TDR 2, w ∈ TB := by decide +kernel
theorem inRR : ∀ w ∈ u_ws RRR TRR 4, w ∈ TB := by decide +kernel
theorem inGY : ∀ w ∈ u_ws RGY TGY 2, w ∈ TB := by decide +kernel
theorem inSP : ∀ w ∈ u_ws RSP TSP 5, w ∈ TB := by decide +kernel
theorem inSE : ∀ w ∈ u_ws RSE TSE 10, w ∈ TB := by decide +kernel
theorem inSR : ∀ w ∈ u_ws RSR TSR 8, w ∈ TB := by decide +kernel
theorem inMO : ∀ w ∈ u_ws RMO TMO 24, w ∈ TB := by decide +kernel
theorem kw_22 : (Jvm.Cond.initialized "ShardRowsLaw") ∈ TB := List.mem_filter.mpr ⟨List.mem_of_getElem? (i := 22) (by decide +kernel), by decide +kernel⟩
theorem kw_23 : (Jvm.Cond.initialized "ShardRows") ∈ TB := List.mem_filter.mpr ⟨List.mem_of_getElem? (i := 23) (by decide +kernel), by decide +kernel⟩
theorem kw_24 : (Jvm.Cond.initialized "java/lang/Math") ∈ TB := List.mem_filter.mpr ⟨List.mem_of_getElem? (i := 24) (by decide +kernel), by decide +kernel⟩
theorem kw_25 : (Jvm.Cond.initialized "ShardRows$TestRows") ∈ TB := List.mem_filter.mpr ⟨List.mem_of_getElem? (i := 25) (by decide +kernel), by decide +kernel⟩
theorem kw_26 : (Jvm.Cond.initialized "ShardRows$GroupRows") ∈ TB := List.mem_filter.mpr ⟨List.mem_of_getElem? (i := 26) (by decide +kernel), by decide +kernel⟩
theorem kw_27 : (Jvm.Cond.initialized "ShardRows$Search") ∈ TB := List.mem_filter.mpr ⟨List.mem_of_getElem? (i := 27) (by decide +kernel), by decide +kernel⟩
theorem kw_28 : (Jvm.Cond.initialized "ShardRows$Greedy") ∈ TB := List.mem_filter.mpr ⟨List.mem_of_getElem? (i := 28) (by decide +kernel), by decide +kernel⟩
theorem kw_29 : (Jvm.Cond.initialized "ShardRows$SplitRows") ∈ TB := List.mem_filter.mpr ⟨List.mem_of_getElem? (i := 29) (by decide +kernel), by decide +kernel⟩
theorem kw_30 : (Jvm.Cond.initialized "java/util/Arrays") ∈ TB := List.mem_filter.mpr ⟨List.mem_of_getElem? (i := 30) (by decide +kernel), by decide +kernel⟩
theorem kw_31 : (Jvm.Cond.initialized "ShardRows$ResultRows") ∈ TB := List.mem_filter.mpr ⟨List.mem_of_getElem? (i := 31) (by decide +kernel), by decide +kernel⟩
theorem kw_32 : (Jvm.Cond.initialized "ShardRows$DrawRow") ∈ TB := List.mem_filter.mpr ⟨List.mem_of_getElem? (i := 32) (by decide +kernel), by decide +kernel⟩
theorem kw_33 : (Jvm.Cond.initialized "ShardRowsModel") ∈ TB := List.mem_filter.mpr ⟨List.mem_of_getElem? (i := 33) (by decide +kernel), by decide +kernel⟩
theorem kw_34 : (Jvm.Cond.initialized "java/lang/System") ∈ TB := List.mem_filter.mpr ⟨List.mem_of_getElem? (i := 34) (by decide +kernel), by decide +kernel⟩
theorem kw_35 : (Jvm.Cond.classLink "ShardRowsLaw" (7 : Nat) "ShardRows") ∈ TB := List.mem_filter.mpr ⟨List.mem_of_getElem? (i := 35) (by decide +kernel), by decide +kernel⟩
theorem kw_36 : (Jvm.Cond.instantiable "ShardRows" (8 : Nat)) ∈ TB := List.mem_filter.mpr ⟨List.mem_of_getElem? (i := 36) (by decide +kernel), by decide +kernel⟩
theorem kw_37 : (Jvm.Cond.methodLink "ShardRowsLaw" (15 : Nat) ({ cls := "ShardRows", name := "<init>", desc := "(I)V" } : Jvm.MethodName)) ∈ TB := List.mem_filter.mpr ⟨List.mem_of_getElem? (i := 37) (by decide +kernel), by decide +kernel⟩
theorem kw_38 : (Jvm.Cond.instanceMethod ({ cls := "ShardRows", name := "<init>", desc := "(I)V" } : Jvm.MethodName)) ∈ TB := List.mem_filter.mpr ⟨List.mem_of_getElem? (i := 38) (by decide +kernel), by decide +kernel⟩
theorem kw_39 : (Jvm.Cond.code ({ cls := "ShardRows", name := "<init>", desc := "(I)V" } : Jvm.MethodName) prog_1_method_1_code (2 : Nat) (Option.none : Option Jvm.ClassFile.FieldType)) ∈ TB := List.mem_filter.mpr ⟨List.mem_of_getElem? (i := 39) (by decide +kernel), by decide +kernel⟩
theorem kw_40 : (Jvm.Cond.methodLink "ShardRows" (1 : Nat) ({ cls := "java/lang/Object", name := "<init>", desc := "()V" } : Jvm.MethodName)) ∈ TB := List.mem_filter.mpr ⟨List.mem_of_getElem? (i := 40) (by decide +kernel), by decide +kernel⟩
theorem kw_41 : (Jvm.Cond.instanceMethod ({ cls := "java/lang/Object", name := "<init>", desc := "()V" } : Jvm.MethodName)) ∈ TB := List.mem_filter.mpr ⟨List.mem_of_getElem? (i := 41) (by decide +kernel), by decide +kernel⟩
theorem kw_42 : (Jvm.Cond.code ({ cls := "java/lang/Object", name := "<init>", desc := "()V" } : Jvm.MethodName) object_method_1_code (1 : Nat) (Option.none : Option Jvm.ClassFile.FieldType)) ∈ TB := List.mem_filter.mpr ⟨List.mem_of_getElem? (i := 42) (by decide +kernel), by decide +kernel⟩
theorem kw_43 : (Jvm.Cond.methodLink "ShardRows" (9 : Nat) ({ cls := "java/lang/Math", name := "min", desc := "(II)I" } : Jvm.MethodName)) ∈ TB := List.mem_filter.mpr ⟨List.mem_of_getElem? (i := 43) (by decide +kernel), by decide +kernel⟩
theorem kw_44 : (Jvm.Cond.static ({ cls := "java/lang/Math", name := "min", desc := "(II)I" } : Jvm.MethodName)) ∈ TB := List.mem_filter.mpr ⟨List.mem_of_getElem? (i := 44) (by decide +kernel), by decide +kernel⟩
theorem kw_45 : (Jvm.Cond.code ({ cls := "java/lang/Math", name := "min", desc := "(II)I" } : Jvm.MethodName) prog_11_method_69_code (2 : Nat) (Option.some Jvm.ClassFile.FieldType.int)) ∈ TB := List.mem_filter.mpr ⟨List.mem_of_getElem? (i := 45) (by decide +kernel), by decide +kernel⟩
theorem kw_46 : (Jvm.Cond.methodLink "ShardRows" (15 : Nat) ({ cls := "java/lang/Math", name := "max", desc := "(II)I" } : Jvm.MethodName)) ∈ TB := List.mem_filter.mpr ⟨List.mem_of_getElem? (i := 46) (by decide +kernel), by decide +kernel⟩
theorem kw_47 : (Jvm.Cond.static ({ cls := "java/lang/Math", name := "max", desc := "(II)I" } : Jvm.MethodName)) ∈ TB := List.mem_filter.mpr ⟨List.mem_of_getElem? (i := 47) (by decide +kernel), by decide +kernel⟩
theorem kw_48 : (Jvm.Cond.code ({ cls := "java/lang/Math", name := "max", desc := "(II)I" } : Jvm.MethodName) prog_11_method_65_code (2 : Nat) (Option.some Jvm.ClassFile.FieldType.int)) ∈ TB := List.mem_filter.mpr ⟨List.mem_of_getElem? (i := 48) (by decide +kernel), by decide +kernel⟩
theorem kw_49 : (Jvm.Cond.classLink "ShardRows" (22 : Nat) "ShardRows$TestRows") ∈ TB := List.mem_filter.mpr ⟨List.mem_of_getElem? (i := 49) (by decide +kernel), by decide +kernel⟩
theorem kw_50 : (Jvm.Cond.instantiable "ShardRows$TestRows" (3 : Nat)) ∈ TB := List.mem_filter.mpr ⟨List.mem_of_getElem? (i := 50) (by decide +kernel), by decide +kernel⟩
theorem kw_52 : (Jvm.Cond.instanceMethod ({ cls := "ShardRows$TestRows", name := "<init>", desc := "()V" } : Jvm.MethodName)) ∈ TB := List.mem_filter.mpr ⟨List.mem_of_getElem? (i := 52) (by decide +kernel), by decide +kernel⟩
theorem kw_53 : (Jvm.Cond.code ({ cls := "ShardRows$TestRows", name := "<init>", desc := "()V" } : Jvm.MethodName) prog_8_method_1_code (1 : Nat) (Option.none : Option Jvm.ClassFile.FieldType)) ∈ TB := List.mem_filter.mpr ⟨List.mem_of_getElem? (i := 53) (by decide +kernel), by decide +kernel⟩
theorem kw_54 : (Jvm.Cond.methodLink "ShardRows$TestRows" (3 : Nat) ({ cls := "java/lang/Object", name := "<init>", desc := "()V" } : Jvm.MethodName)) ∈ TB := List.mem_filter.mpr ⟨List.mem_of_getElem? (i := 54) (by decide +kernel), by decide +kernel⟩
theorem kw_55 : (Jvm.Cond.fieldLink "ShardRows$TestRows" (18 : Nat) "ShardRows$TestRows" "count" "I") ∈ TB := List.mem_filter.mpr ⟨List.mem_of_getElem? (i := 55) (by decide +kernel), by decide +kernel⟩
theorem kw_56 : (Jvm.Cond.fieldLink "ShardRows$GroupRows" (34 : Nat) "ShardRows$TestRows" "count" "I") ∈ TB := List.mem_filter.mpr ⟨List.mem_of_getElem? (i := 56) (by decide +kernel), by decide +kernel⟩
theorem kw_57 : (Jvm.Cond.fieldLink "ShardRows$TestRows" (9 : Nat) "ShardRows$TestRows" "times" "[I") ∈ TB := List.mem_filter.mpr ⟨List.mem_of_getElem? (i := 57) (by decide +kernel), by decide +kernel⟩
theorem kw_58 : (Jvm.Cond.fieldLink "ShardRows$GroupRows" (46 : Nat) "ShardRows$TestRows" "times" "[I") ∈ TB := List.mem_filter.mpr ⟨List.mem_of_getElem? (i := 58) (by decide +kernel), by decide +kernel⟩
theorem kw_59 : (Jvm.Cond.fieldLink "ShardRows$TestRows" (15 : Nat) "ShardRows$TestRows" "firsts" "[I") ∈ TB := List.mem_filter.mpr ⟨List.mem_of_getElem? (i := 59) (by decide +kernel), by decide +kernel⟩
theorem kw_60 : (Jvm.Cond.fieldLink "ShardRows$GroupRows" (38 : Nat) "ShardRows$TestRows" "firsts" "[I") ∈ TB := List.mem_filter.mpr ⟨List.mem_of_getElem? (i := 60) (by decide +kernel), by decide +kernel⟩
theorem kw_68 : (Jvm.Cond.arrayClass Jvm.ClassFile.FieldType.int) ∈ TB := List.mem_filter.mpr ⟨List.mem_of_getElem? (i := 68) (by decide +kernel), by decide +kernel⟩
theorem kw_69 : (Jvm.Cond.classLink "ShardRows" (29 : Nat) "ShardRows$GroupRows") ∈ TB := List.mem_filter.mpr ⟨List.mem_of_getElem? (i := 69) (by decide +kernel), by decide +kernel⟩
theorem kw_70 : (Jvm.Cond.instantiable "ShardRows$GroupRows" (6 : Nat)) ∈ TB := List.mem_filter.mpr ⟨List.mem_of_getElem? (i := 70) (by decide +kernel), by decide +kernel⟩
theorem kw_72 : (Jvm.Cond.instanceMethod ({ cls := "ShardRows$GroupRows", name := "<init>", desc := "()V" } : Jvm.MethodName)) ∈ TB := List.mem_filter.mpr ⟨List.mem_of_getElem? (i := 72) (by decide +kernel), by decide +kernel⟩
theorem kw_73 : (Jvm.Cond.code ({ cls := "ShardRows$GroupRows", name := "<init>", desc := "()V" } : Jvm.MethodName) prog_4_method_1_code (1 : Nat) (Option.none : Option Jvm.ClassFile.FieldType)) ∈ TB := List.mem_filter.mpr ⟨List.mem_of_getElem? (i := 73) (by decide +kernel), by decide +kernel⟩
theorem kw_74 : (Jvm.Cond.methodLink "ShardRows$GroupRows" (3 : Nat) ({ cls := "java/lang/Object", name := "<init>", desc := "()V" } : Jvm.MethodName)) ∈ TB := List.mem_filter.mpr ⟨List.mem_of_getElem? (i := 74) (by decide +kernel), by decide +kernel⟩
theorem kw_75 : (Jvm.Cond.fieldLink "ShardRows$GroupRows" (30 : Nat) "ShardRows$GroupRows" "count" "I") ∈ TB := List.mem_filter.mpr ⟨List.mem_of_getElem? (i := 75) (by decide +kernel), by decide +kernel⟩
theorem kw_76 : (Jvm.Cond.fieldLink "ShardRows$Search" (42 : Nat) "ShardRows$GroupRows" "count" "I") ∈ TB := List.mem_filter.mpr ⟨List.mem_of_getElem? (i := 76) (by decide +kernel), by decide +kernel⟩
theorem kw_77 : (Jvm.Cond.fieldLink "ShardRows$Greedy" (31 : Nat) "ShardRows$GroupRows" "count" "I") ∈ TB := List.mem_filter.mpr ⟨List.mem_of_getElem? (i := 77) (by decide +kernel), by decide +kernel⟩
theorem kw_78 : (Jvm.Cond.fieldLink "ShardRows$SplitRows" (47 : Nat) "ShardRows$GroupRows" "count" "I") ∈ TB := List.mem_filter.mpr ⟨List.mem_of_getElem? (i := 78) (by decide +kernel), by decide +kernel⟩
theorem kw_79 : (Jvm.Cond.fieldLink "ShardRows" (93 : Nat) "ShardRows$GroupRows" "count" "I") ∈ TB := List.mem_filter.mpr ⟨List.mem_of_getElem? (i := 79) (by decide +kernel), by decide +kernel⟩
theorem kw_80 : (Jvm.Cond.fieldLink "ShardRows$GroupRows" (35 : Nat) "ShardRows$GroupRows" "testCount" "I") ∈ TB := List.mem_filter.mpr ⟨List.mem_of_getElem? (i := 80) (by decide +kernel), by decide +kernel⟩
theorem kw_81 : (Jvm.Cond.fieldLink "ShardRows$Search" (93 : Nat) "ShardRows$GroupRows" "testCount" "I") ∈ TB := List.mem_filter.mpr ⟨List.mem_of_getElem? (i := 81) (by decide +kernel), by decide +kernel⟩
theorem kw_82 : (Jvm.Cond.fieldLink "ShardRows$SplitRows" (62 : Nat) "ShardRows$GroupRows" "testCount" "I") ∈ TB := List.mem_filter.mpr ⟨List.mem_of_getElem? (i := 82) (by decide +kernel), by decide +kernel⟩
theorem kw_83 : (Jvm.Cond.fieldLink "ShardRows$GroupRows" (9 : Nat) "ShardRows$GroupRows" "firsts" "[I") ∈ TB := List.mem_filter.mpr ⟨List.mem_of_getElem? (i := 83) (by decide +kernel), by decide +kernel⟩
theorem kw_84 : (Jvm.Cond.fieldLink "ShardRows$Greedy" (40 : Nat) "ShardRows$GroupRows" "firsts" "[I") ∈ TB := List.mem_filter.mpr ⟨List.mem_of_getElem? (i := 84) (by decide +kernel), by decide +kernel⟩
theorem kw_85 : (Jvm.Cond.fieldLink "ShardRows$Search" (90 : Nat) "ShardRows$GroupRows" "firsts" "[I") ∈ TB := List.mem_filter.mpr ⟨List.mem_of_getElem? (i := 85) (by decide +kernel), by decide +kernel⟩
theorem kw_86 : (Jvm.Cond.fieldLink "ShardRows$GroupRows" (15 : Nat) "ShardRows$GroupRows" "times" "[I") ∈ TB := List.mem_filter.mpr ⟨List.mem_of_getElem? (i := 86) (by decide +kernel), by decide +kernel⟩
theorem kw_87 : (Jvm.Cond.fieldLink "ShardRows$Search" (50 : Nat) "ShardRows$GroupRows" "times" "[I") ∈ TB := List.mem_filter.mpr ⟨List.mem_of_getElem? (i := 87) (by decide +kernel), by decide +kernel⟩
theorem kw_88 : (Jvm.Cond.fieldLink "ShardRows$Greedy" (55 : Nat) "ShardRows$GroupRows" "times" "[I") ∈ TB := List.mem_filter.mpr ⟨List.mem_of_getElem? (i := 88) (by decide +kernel), by decide +kernel⟩
theorem kw_89 : (Jvm.Cond.fieldLink "ShardRows$SplitRows" (55 : Nat) "ShardRows$GroupRows" "times" "[I") ∈ TB := List.mem_filter.mpr ⟨List.mem_of_getElem? (i := 89) (by decide +kernel), by decide +kernel⟩
theorem kw_90 : (Jvm.Cond.fieldLink "ShardRows$GroupRows" (18 : Nat) "ShardRows$GroupRows" "shards" "[I") ∈ TB := List.mem_filter.mpr ⟨List.mem_of_getElem? (i := 90) (by decide +kernel), by decide +kernel⟩
theorem kw_91 : (Jvm.Cond.fieldLink "ShardRows$Greedy" (52 : Nat) "ShardRows$GroupRows" "shards" "[I") ∈ TB := List.mem_filter.mpr ⟨List.mem_of_getElem? (i := 91) (by decide +kernel), by decide +kernel⟩
theorem kw_92 : (Jvm.Cond.fieldLink "ShardRows$Search" (87 : Nat) "ShardRows$GroupRows" "shards" "[I") ∈ TB := List.mem_filter.mpr ⟨List.mem_of_getElem? (i := 92) (by decide +kernel), by decide +kernel⟩
theorem kw_93 : (Jvm.Cond.fieldLink "ShardRows$SplitRows" (52 : Nat) "ShardRows$GroupRows" "shards" "[I") ∈ TB := List.mem_filter.mpr ⟨List.mem_of_getElem? (i := 93) (by decide +kernel), by decide +kernel⟩
theorem kw_94 : (Jvm.Cond.fieldLink "ShardRows$GroupRows" (21 : Nat) "ShardRows$GroupRows" "groupOf" "[I") ∈ TB := List.mem_filter.mpr ⟨List.mem_of_getElem? (i := 94) (by decide +kernel), by decide +kernel⟩
theorem kw_108 : (Jvm.Cond.classLink "ShardRows" (36 : Nat) "ShardRows$Search") ∈ TB := List.mem_filter.mpr ⟨List.mem_of_getElem? (i := 108) (by decide +kernel), by decide +kernel⟩
theorem kw_109 : (Jvm.Cond.instantiable "ShardRows$Search" (10 : Nat)) ∈ TB := List.mem_filter.mpr ⟨List.mem_of_getElem? (i := 109) (by decide +kernel), by decide +kernel⟩
theorem kw_111 : (Jvm.Cond.instanceMethod ({ cls := "ShardRows$Search", name := "<init>", desc := "()V" } : Jvm.MethodName)) ∈ TB := List.mem_filter.mpr ⟨List.mem_of_getElem? (i := 111) (by decide +kernel), by decide +kernel⟩
theorem kw_112 : (Jvm.Cond.code ({ cls := "ShardRows$Search", name := "<init>", desc := "()V" } : Jvm.MethodName) prog_6_method_1_code (1 : Nat) (Option.none : Option Jvm.ClassFile.FieldType)) ∈ TB := List.mem_filter.mpr ⟨List.mem_of_getElem? (i := 112) (by decide +kernel), by decide +kernel⟩
theorem kw_113 : (Jvm.Cond.methodLink "ShardRows$Search" (3 : Nat) ({ cls := "java/lang/Object", name := "<init>", desc := "()V" } : Jvm.MethodName)) ∈ TB := List.mem_filter.mpr ⟨List.mem_of_getElem? (i := 113) (by decide +kernel), by decide +kernel⟩
theorem kw_114 : (Jvm.Cond.classLink "ShardRows$Search" (24 : Nat) "[[I") ∈ TB := List.mem_filter.mpr ⟨List.mem_of_getElem? (i := 114) (by decide +kernel), by decide +kernel⟩
theorem kw_116 : (Jvm.Cond.fieldLink "ShardRows$Search" (38 : Nat) "ShardRows$Search" "shardCount" "I") ∈ TB := List.mem_filter.mpr ⟨List.mem_of_getElem? (i := 116) (by decide +kernel), by decide +kernel⟩
theorem kw_117 : (Jvm.Cond.fieldLink "ShardRows$Search" (47 : Nat) "ShardRows$Search" "groupCount" "I") ∈ TB := List.mem_filter.mpr ⟨List.mem_of_getElem? (i := 117) (by decide +kernel), by decide +kernel⟩
theorem kw_118 : (Jvm.Cond.fieldLink "ShardRows$Search" (73 : Nat) "ShardRows$Search" "leastLength" "I") ∈ TB := List.mem_filter.mpr ⟨List.mem_of_getElem? (i := 118) (by decide +kernel), by decide +kernel⟩
theorem kw_119 : (Jvm.Cond.fieldLink "ShardRows$Search" (80 : Nat) "ShardRows$Search" "leastMoves" "I") ∈ TB := List.mem_filter.mpr ⟨List.mem_of_getElem? (i := 119) (by decide +kernel), by decide +kernel⟩
theorem kw_120 : (Jvm.Cond.fieldLink "ShardRows$Search" (9 : Nat) "ShardRows$Search" "times" "[I") ∈ TB := List.mem_filter.mpr ⟨List.mem_of_getElem? (i := 120) (by decide +kernel), by decide +kernel⟩
theorem kw_121 : (Jvm.Cond.fieldLink "ShardRows$Search" (15 : Nat) "ShardRows$Search" "sums" "[I") ∈ TB := List.mem_filter.mpr ⟨List.mem_of_getElem? (i := 121) (by decide +kernel), by decide +kernel⟩
theorem kw_122 : (Jvm.Cond.fieldLink "ShardRows$Search" (18 : Nat) "ShardRows$Search" "trial" "[I") ∈ TB := List.mem_filter.mpr ⟨List.mem_of_getElem? (i := 122) (by decide +kernel), by decide +kernel⟩
theorem kw_123 : (Jvm.Cond.fieldLink "ShardRows$Search" (21 : Nat) "ShardRows$Search" "best" "[I") ∈ TB := List.mem_filter.mpr ⟨List.mem_of_getElem? (i := 123) (by decide +kernel), by decide +kernel⟩
theorem kw_124 : (Jvm.Cond.fieldLink "ShardRows$Search" (26 : Nat) "ShardRows$Search" "moves" "[[I") ∈ TB := List.mem_filter.mpr ⟨List.mem_of_getElem? (i := 124) (by decide +kernel), by decide +kernel⟩
theorem kw_125 : (Jvm.Cond.fieldLink "ShardRows$Search" (29 : Nat) "ShardRows$Search" "movesFrom" "[I") ∈ TB := List.mem_filter.mpr ⟨List.mem_of_getElem? (i := 125) (by decide +kernel), by decide +kernel⟩
theorem kw_147 : (Jvm.Cond.classLink "ShardRows" (43 : Nat) "ShardRows$Greedy") ∈ TB := List.mem_filter.mpr ⟨List.mem_of_getElem? (i := 147) (by decide +kernel), by decide +kernel⟩
theorem kw_148 : (Jvm.Cond.instantiable "ShardRows$Greedy" (2 : Nat)) ∈ TB := List.mem_filter.mpr ⟨List.mem_of_getElem? (i := 148) (by decide +kernel), by decide +kernel⟩
theorem kw_150 : (Jvm.Cond.instanceMethod ({ cls := "ShardRows$Greedy", name := "<init>", desc := "()V" } : Jvm.MethodName)) ∈ TB := List.mem_filter.mpr ⟨List.mem_of_getElem? (i := 150) (by decide +kernel), by decide +kernel⟩
theorem kw_151 : (Jvm.Cond.code ({ cls := "ShardRows$Greedy", name := "<init>", desc := "()V" } : Jvm.MethodName) prog_3_method_1_code (1 : Nat) (Option.none : Option Jvm.ClassFile.FieldType)) ∈ TB := List.mem_filter.mpr ⟨List.mem_of_getElem? (i := 151) (by decide +kernel), by decide +kernel⟩
theorem kw_152 : (Jvm.Cond.methodLink "ShardRows$Greedy" (3 : Nat) ({ cls := "java/lang/Object", name := "<init>", desc := "()V" } : Jvm.MethodName)) ∈ TB := List.mem_filter.mpr ⟨List.mem_of_getElem? (i := 152) (by decide +kernel), by decide +kernel⟩
theorem kw_153 : (Jvm.Cond.fieldLink "ShardRows$Greedy" (21 : Nat) "ShardRows$Greedy" "shardCount" "I") ∈ TB := List.mem_filter.mpr ⟨List.mem_of_getElem? (i := 153) (by decide +kernel), by decide +kernel⟩
theorem kw_154 : (Jvm.Cond.fieldLink "ShardRows$Greedy" (9 : Nat) "ShardRows$Greedy" "sums" "[I") ∈ TB := List.mem_filter.mpr ⟨List.mem_of_getElem? (i := 154) (by decide +kernel), by decide +kernel⟩
theorem kw_160 : (Jvm.Cond.classLink "ShardRows" (50 : Nat) "ShardRows$SplitRows") ∈ TB := List.mem_filter.mpr ⟨List.mem_of_getElem? (i := 160) (by decide +kernel), by decide +kernel⟩
theorem kw_161 : (Jvm.Cond.instantiable "ShardRows$SplitRows" (5 : Nat)) ∈ TB := List.mem_filter.mpr ⟨List.mem_of_getElem? (i := 161) (by decide +kernel), by decide +kernel⟩
theorem kw_162 : (Jvm.Cond.methodLink "ShardRows" (52 : Nat) ({ cls := "ShardRows$SplitRows", name := "<init>", desc := "()V" } : Jvm.MethodName)) ∈ TB := List.mem_filter.mpr ⟨List.mem_of_getElem? (i := 162) (by decide +kernel), by decide +kernel⟩
theorem kw_163 : (Jvm.Cond.instanceMethod ({ cls := "ShardRows$SplitRows", name := "<init>", desc := "()V" } : Jvm.MethodName)) ∈ TB := List.mem_filter.mpr ⟨List.mem_of_getElem? (i := 163) (by decide +kernel), by decide +kernel⟩
theorem kw_164 : (Jvm.Cond.code ({ cls := "ShardRows$SplitRows", name := "<init>", desc := "()V" } : Jvm.MethodName) prog_7_method_1_code (1 : Nat) (Option.none : Option Jvm.ClassFile.FieldType)) ∈ TB := List.mem_filter.mpr ⟨List.mem_of_getElem? (i := 164) (by decide +kernel), by decide +kernel⟩
theorem kw_165 : (Jvm.Cond.methodLink "ShardRows$SplitRows" (3 : Nat) ({ cls := "java/lang/Object", name := "<init>", desc := "()V" } : Jvm.MethodName)) ∈ TB := List.mem_filter.mpr ⟨List.mem_of_getElem? (i := 165) (by decide +kernel), by decide +kernel⟩
theorem kw_166 : (Jvm.Cond.methodLink "ShardRows$SplitRows" (21 : Nat) ({ cls := "java/util/Arrays", name := "fill", desc := "([II)V" } : Jvm.MethodName)) ∈ TB := List.mem_filter.mpr ⟨List.mem_of_getElem? (i := 166) (by decide +kernel), by decide +kernel⟩
theorem kw_167 : (Jvm.Cond.static ({ cls := "java/util/Arrays", name := "fill", desc := "([II)V" } : Jvm.MethodName)) ∈ TB := List.mem_filter.mpr ⟨List.mem_of_getElem? (i := 167) (by decide +kernel), by decide +kernel⟩
theorem kw_168 : (Jvm.Cond.code ({ cls := "java/util/Arrays", name := "fill", desc := "([II)V" } : Jvm.MethodName) prog_13_method_103_code (4 : Nat) (Option.none : Option Jvm.ClassFile.FieldType)) ∈ TB := List.mem_filter.mpr ⟨List.mem_of_getElem? (i := 168) (by decide +kernel), by decide +kernel⟩
theorem kw_169 : (Jvm.Cond.fieldLink "ShardRows$SplitRows" (27 : Nat) "ShardRows$SplitRows" "shardCount" "I") ∈ TB := List.mem_filter.mpr ⟨List.mem_of_getElem? (i := 169) (by decide +kernel), by decide +kernel⟩
theorem kw_170 : (Jvm.Cond.fieldLink "ShardRows" (125 : Nat) "ShardRows$SplitRows" "shardCount" "I") ∈ TB := List.mem_filter.mpr ⟨List.mem_of_getElem? (i := 170) (by decide +kernel), by decide +kernel⟩
theorem kw_171 : (Jvm.Cond.fieldLink "ShardRows$SplitRows" (44 : Nat) "ShardRows$SplitRows" "movedCount" "I") ∈ TB := List.mem_filter.mpr ⟨List.mem_of_getElem? (i := 171) (by decide +kernel), by decide +kernel⟩
theorem kw_172 : (Jvm.Cond.fieldLink "ShardRows" (122 : Nat) "ShardRows$SplitRows" "movedCount" "I") ∈ TB := List.mem_filter.mpr ⟨List.mem_of_getElem? (i := 172) (by decide +kernel), by decide +kernel⟩
theorem kw_173 : (Jvm.Cond.fieldLink "ShardRows$SplitRows" (9 : Nat) "ShardRows$SplitRows" "sums" "[I") ∈ TB := List.mem_filter.mpr ⟨List.mem_of_getElem? (i := 173) (by decide +kernel), by decide +kernel⟩
theorem kw_174 : (Jvm.Cond.fieldLink "ShardRows" (118 : Nat) "ShardRows$SplitRows" "sums" "[I") ∈ TB := List.mem_filter.mpr ⟨List.mem_of_getElem? (i := 174) (by decide +kernel), by decide +kernel⟩
theorem kw_175 : (Jvm.Cond.fieldLink "ShardRows$SplitRows" (15 : Nat) "ShardRows$SplitRows" "sizes" "[I") ∈ TB := List.mem_filter.mpr ⟨List.mem_of_getElem? (i := 175) (by decide +kernel), by decide +kernel⟩
theorem kw_176 : (Jvm.Cond.fieldLink "ShardRows" (128 : Nat) "ShardRows$SplitRows" "sizes" "[I") ∈ TB := List.mem_filter.mpr ⟨List.mem_of_getElem? (i := 176) (by decide +kernel), by decide +kernel⟩
theorem kw_177 : (Jvm.Cond.fieldLink "ShardRows$SplitRows" (18 : Nat) "ShardRows$SplitRows" "shardOf" "[I") ∈ TB := List.mem_filter.mpr ⟨List.mem_of_getElem? (i := 177) (by decide +kernel), by decide +kernel⟩
theorem kw_189 : (Jvm.Cond.classLink "ShardRows" (57 : Nat) "ShardRows$ResultRows") ∈ TB := List.mem_filter.mpr ⟨List.mem_of_getElem? (i := 189) (by decide +kernel), by decide +kernel⟩
theorem kw_190 : (Jvm.Cond.instantiable "ShardRows$ResultRows" (4 : Nat)) ∈ TB := List.mem_filter.mpr ⟨List.mem_of_getElem? (i := 190) (by decide +kernel), by decide +kernel⟩
theorem kw_192 : (Jvm.Cond.instanceMethod ({ cls := "ShardRows$ResultRows", name := "<init>", desc := "()V" } : Jvm.MethodName)) ∈ TB := List.mem_filter.mpr ⟨List.mem_of_getElem? (i := 192) (by decide +kernel), by decide +kernel⟩
theorem kw_193 : (Jvm.Cond.code ({ cls := "ShardRows$ResultRows", name := "<init>", desc := "()V" } : Jvm.MethodName) prog_5_method_1_code (1 : Nat) (Option.none : Option Jvm.ClassFile.FieldType)) ∈ TB := List.mem_filter.mpr ⟨List.mem_of_getElem? (i := 193) (by decide +kernel), by decide +kernel⟩
theorem kw_194 : (Jvm.Cond.methodLink "ShardRows$ResultRows" (3 : Nat) ({ cls := "java/lang/Object", name := "<init>", desc := "()V" } : Jvm.MethodName)) ∈ TB := List.mem_filter.mpr ⟨List.mem_of_getElem? (i := 194) (by decide +kernel), by decide +kernel⟩
theorem kw_195 : (Jvm.Cond.fieldLink "ShardRows$ResultRows" (22 : Nat) "ShardRows$ResultRows" "strangers" "I") ∈ TB := List.mem_filter.mpr ⟨List.mem_of_getElem? (i := 195) (by decide +kernel), by decide +kernel⟩
theorem kw_196 : (Jvm.Cond.fieldLink "ShardRows" (142 : Nat) "ShardRows$ResultRows" "strangers" "I") ∈ TB := List.mem_filter.mpr ⟨List.mem_of_getElem? (i := 196) (by decide +kernel), by decide +kernel⟩
theorem kw_197 : (Jvm.Cond.fieldLink "ShardRows$ResultRows" (9 : Nat) "ShardRows$ResultRows" "present" "[Z") ∈ TB := List.mem_filter.mpr ⟨List.mem_of_getElem? (i := 197) (by decide +kernel), by decide +kernel⟩
theorem kw_198 : (Jvm.Cond.fieldLink "ShardRows$ResultRows" (15 : Nat) "ShardRows$ResultRows" "values" "[I") ∈ TB := List.mem_filter.mpr ⟨List.mem_of_getElem? (i := 198) (by decide +kernel), by decide +kernel⟩
theorem kw_199 : (Jvm.Cond.fieldLink "ShardRows$ResultRows" (19 : Nat) "ShardRows$ResultRows" "tryCounts" "[I") ∈ TB := List.mem_filter.mpr ⟨List.mem_of_getElem? (i := 199) (by decide +kernel), by decide +kernel⟩
theorem kw_209 : (Jvm.Cond.arrayClass Jvm.ClassFile.FieldType.boolean) ∈ TB := List.mem_filter.mpr ⟨List.mem_of_getElem? (i := 209) (by decide +kernel), by decide +kernel⟩
theorem kw_210 : (Jvm.Cond.classLink "ShardRows" (64 : Nat) "ShardRows$DrawRow") ∈ TB := List.mem_filter.mpr ⟨List.mem_of_getElem? (i := 210) (by decide +kernel), by decide +kernel⟩
theorem kw_211 : (Jvm.Cond.instantiable "ShardRows$DrawRow" (2 : Nat)) ∈ TB := List.mem_filter.mpr ⟨List.mem_of_getElem? (i := 211) (by decide +kernel), by decide +kernel⟩
theorem kw_213 : (Jvm.Cond.instanceMethod ({ cls := "ShardRows$DrawRow", name := "<init>", desc := "()V" } : Jvm.MethodName)) ∈ TB := List.mem_filter.mpr ⟨List.mem_of_getElem? (i := 213) (by decide +kernel), by decide +kernel⟩
theorem kw_214 : (Jvm.Cond.code ({ cls := "ShardRows$DrawRow", name := "<init>", desc := "()V" } : Jvm.MethodName) prog_2_method_1_code (1 : Nat) (Option.none : Option Jvm.ClassFile.FieldType)) ∈ TB := List.mem_filter.mpr ⟨List.mem_of_getElem? (i := 214) (by decide +kernel), by decide +kernel⟩
theorem kw_215 : (Jvm.Cond.methodLink "ShardRows$DrawRow" (3 : Nat) ({ cls := "java/lang/Object", name := "<init>", desc := "()V" } : Jvm.MethodName)) ∈ TB := List.mem_filter.mpr ⟨List.mem_of_getElem? (i := 215) (by decide +kernel), by decide +kernel⟩
theorem kw_216 : (Jvm.Cond.fieldLink "ShardRows$DrawRow" (15 : Nat) "ShardRows$DrawRow" "count" "I") ∈ TB := List.mem_filter.mpr ⟨List.mem_of_getElem? (i := 216) (by decide +kernel), by decide +kernel⟩
theorem kw_217 : (Jvm.Cond.fieldLink "ShardRows" (138 : Nat) "ShardRows$DrawRow" "count" "I") ∈ TB := List.mem_filter.mpr ⟨List.mem_of_getElem? (i := 217) (by decide +kernel), by decide +kernel⟩
theorem kw_218 : (Jvm.Cond.fieldLink "ShardRows$DrawRow" (9 : Nat) "ShardRows$DrawRow" "row" "[I") ∈ TB := List.mem_filter.mpr ⟨List.mem_of_getElem? (i := 218) (by decide +kernel), by decide +kernel⟩
theorem kw_224 : (Jvm.Cond.fieldLink "ShardRows" (25 : Nat) "ShardRows" "testRows" "LShardRows$TestRows;") ∈ TB := List.mem_filter.mpr ⟨List.mem_of_getElem? (i := 224) (by decide +kernel), by decide +kernel⟩
theorem kw_225 : (Jvm.Cond.fieldLink "ShardRows" (32 : Nat) "ShardRows" "groupRows" "LShardRows$GroupRows;") ∈ TB := List.mem_filter.mpr ⟨List.mem_of_getElem? (i := 225) (by decide +kernel), by decide +kernel⟩
theorem kw_226 : (Jvm.Cond.fieldLink "ShardRows" (39 : Nat) "ShardRows" "search" "LShardRows$Search;") ∈ TB := List.mem_filter.mpr ⟨List.mem_of_getElem? (i := 226) (by decide +kernel), by decide +kernel⟩
theorem kw_227 : (Jvm.Cond.fieldLink "ShardRows" (46 : Nat) "ShardRows" "greedy" "LShardRows$Greedy;") ∈ TB := List.mem_filter.mpr ⟨List.mem_of_getElem? (i := 227) (by decide +kernel), by decide +kernel⟩
theorem kw_228 : (Jvm.Cond.fieldLink "ShardRows" (53 : Nat) "ShardRows" "latest" "LShardRows$SplitRows;") ∈ TB := List.mem_filter.mpr ⟨List.mem_of_getElem? (i := 228) (by decide +kernel), by decide +kernel⟩
theorem kw_229 : (Jvm.Cond.fieldLink "ShardRows" (60 : Nat) "ShardRows" "results" "LShardRows$ResultRows;") ∈ TB := List.mem_filter.mpr ⟨List.mem_of_getElem? (i := 229) (by decide +kernel), by decide +kernel⟩
theorem kw_230 : (Jvm.Cond.fieldLink "ShardRows" (67 : Nat) "ShardRows" "order" "LShardRows$DrawRow;") ∈ TB := List.mem_filter.mpr ⟨List.mem_of_getElem? (i := 230) (by decide +kernel), by decide +kernel⟩
theorem kw_231 : (Jvm.Cond.fieldLink "ShardRows" (18 : Nat) "ShardRows" "nextShards" "I") ∈ TB := List.mem_filter.mpr ⟨List.mem_of_getElem? (i := 231) (by decide +kernel), by decide +kernel⟩
theorem kw_249 : (Jvm.Cond.methodLink "ShardRowsLaw" (21 : Nat) ({ cls := "ShardRows", name := "test", desc := "(I)I" } : Jvm.MethodName)) ∈ TB := List.mem_filter.mpr ⟨List.mem_of_getElem? (i := 249) (by decide +kernel), by decide +kernel⟩
theorem kw_250 : (Jvm.Cond.instanceMethod ({ cls := "ShardRows", name := "test", desc := "(I)I" } : Jvm.MethodName)) ∈ TB := List.mem_filter.mpr ⟨List.mem_of_getElem? (i := 250) (by decide +kernel), by decide +kernel⟩
theorem kw_251 : (Jvm.Cond.selects "ShardRows" ({ cls := "ShardRows", name := "test", desc := "(I)I" } : Jvm.MethodName) ({ cls := "ShardRows", name := "test", desc := "(I)I" } : Jvm.MethodName)) ∈ TB := List.mem_filter.mpr ⟨List.mem_of_getElem? (i := 251) (by decide +kernel), by decide +kernel⟩
theorem kw_252 : (Jvm.Cond.code ({ cls := "ShardRows", name := "test", desc := "(I)I" } : Jvm.MethodName) prog_1_method_2_code (2 : Nat) (Option.some Jvm.ClassFile.FieldType.int)) ∈ TB := List.mem_filter.mpr ⟨List.mem_of_getElem? (i := 252) (by decide +kernel), by decide +kernel⟩
theorem kw_253 : (Jvm.Cond.methodLink "ShardRows" (71 : Nat) ({ cls := "ShardRows$TestRows", name := "add", desc := "(I)I" } : Jvm.MethodName)) ∈ TB := List.mem_filter.mpr ⟨List.mem_of_getElem? (i := 253) (by decide +kernel), by decide +kernel⟩
theorem kw_254 : (Jvm.Cond.instanceMethod ({ cls := "ShardRows$TestRows", name := "add", desc := "(I)I" } : Jvm.MethodName)) ∈ TB := List.mem_filter.mpr ⟨List.mem_of_getElem? (i := 254) (by decide +kernel), by decide +kernel⟩
theorem kw_255 : (Jvm.Cond.selects "ShardRows$TestRows" ({ cls := "ShardRows$TestRows", name := "add", desc := "(I)I" } : Jvm.MethodName) ({ cls := "ShardRows$TestRows", name := "add", desc := "(I)I" } : Jvm.MethodName)) ∈ TB := List.mem_filter.mpr ⟨List.mem_of_getElem? (i := 255) (by decide +kernel), by decide +kernel⟩
theorem kw_256 : (Jvm.Cond.code ({ cls := "ShardRows$TestRows", name := "add", desc := "(I)I" } : Jvm.MethodName) prog_8_method_3_code (3 : Nat) (Option.some Jvm.ClassFile.FieldType.int)) ∈ TB := List.mem_filter.mpr ⟨List.mem_of_getElem? (i := 256) (by decide +kernel), by decide +kernel⟩
theorem kw_257 : (Jvm.Cond.methodLink "ShardRows$TestRows" (22 : Nat) ({ cls := "ShardRows$TestRows", name := "isTime", desc := "(I)Z" } : Jvm.MethodName)) ∈ TB := List.mem_filter.mpr ⟨List.mem_of_getElem? (i := 257) (by decide +kernel), by decide +kernel⟩
theorem kw_258 : (Jvm.Cond.static ({ cls := "ShardRows$TestRows", name := "isTime", desc := "(I)Z" } : Jvm.MethodName)) ∈ TB := List.mem_filter.mpr ⟨List.mem_of_getElem? (i := 258) (by decide +kernel), by decide +kernel⟩
theorem kw_259 : (Jvm.Cond.code ({ cls := "ShardRows$TestRows", name := "isTime", desc := "(I)Z" } : Jvm.MethodName) prog_8_method_8_code (1 : Nat) (Option.some Jvm.ClassFile.FieldType.boolean)) ∈ TB := List.mem_filter.mpr ⟨List.mem_of_getElem? (i := 259) (by decide +kernel), by decide +kernel⟩
theorem kw_260 : (Jvm.Cond.constant "ShardRows$TestRows" (38 : Nat) (100000 : Int32)) ∈ TB := List.mem_filter.mpr ⟨List.mem_of_getElem? (i := 260) (by decide +kernel), by decide +kernel⟩
theorem kw_261 : (Jvm.Cond.methodLink "ShardRowsLaw" (26 : Nat) ({ cls := "ShardRows", name := "time", desc := "(II)Z" } : Jvm.MethodName)) ∈ TB := List.mem_filter.mpr ⟨List.mem_of_getElem? (i := 261) (by decide +kernel), by decide +kernel⟩
theorem kw_262 : (Jvm.Cond.instanceMethod ({ cls := "ShardRows", name := "time", desc := "(II)Z" } : Jvm.MethodName)) ∈ TB := List.mem_filter.mpr ⟨List.mem_of_getElem? (i := 262) (by decide +kernel), by decide +kernel⟩
theorem kw_263 : (Jvm.Cond.selects "ShardRows" ({ cls := "ShardRows", name := "time", desc := "(II)Z" } : Jvm.MethodName) ({ cls := "ShardRows", name := "time", desc := "(II)Z" } : Jvm.MethodName)) ∈ TB := List.mem_filter.mpr ⟨List.mem_of_getElem? (i := 263) (by decide +kernel), by decide +kernel⟩
theorem kw_264 : (Jvm.Cond.code ({ cls := "ShardRows", name := "time", desc := "(II)Z" } : Jvm.MethodName) prog_1_method_3_code (3 : Nat) (Option.some Jvm.ClassFile.FieldType.boolean)) ∈ TB := List.mem_filter.mpr ⟨List.mem_of_getElem? (i := 264) (by decide +kernel), by decide +kernel⟩
theorem kw_265 : (Jvm.Cond.methodLink "ShardRows" (75 : Nat) ({ cls := "ShardRows$TestRows", name := "retime", desc := "(II)Z" } : Jvm.MethodName)) ∈ TB := List.mem_filter.mpr ⟨List.mem_of_getElem? (i := 265) (by decide +kernel), by decide +kernel⟩
theorem kw_266 : (Jvm.Cond.instanceMethod ({ cls := "ShardRows$TestRows", name := "retime", desc := "(II)Z" } : Jvm.MethodName)) ∈ TB := List.mem_filter.mpr ⟨List.mem_of_getElem? (i := 266) (by decide +kernel), by decide +kernel⟩
theorem kw_267 : (Jvm.Cond.selects "ShardRows$TestRows" ({ cls := "ShardRows$TestRows", name := "retime", desc := "(II)Z" } : Jvm.MethodName) ({ cls := "ShardRows$TestRows", name := "retime", desc := "(II)Z" } : Jvm.MethodName)) ∈ TB := List.mem_filter.mpr ⟨List.mem_of_getElem? (i := 267) (by decide +kernel), by decide +kernel⟩
theorem kw_268 : (Jvm.Cond.code ({ cls := "ShardRows$TestRows", name := "retime", desc := "(II)Z" } : Jvm.MethodName) prog_8_method_4_code (3 : Nat) (Option.some Jvm.ClassFile.FieldType.boolean)) ∈ TB := List.mem_filter.mpr ⟨List.mem_of_getElem? (i := 268) (by decide +kernel), by decide +kernel⟩
theorem kw_269 : (Jvm.Cond.methodLink "ShardRows$TestRows" (26 : Nat) ({ cls := "ShardRows$TestRows", name := "has", desc := "(I)Z" } : Jvm.MethodName)) ∈ TB := List.mem_filter.mpr ⟨List.mem_of_getElem? (i := 269) (by decide +kernel), by decide +kernel⟩
theorem kw_270 : (Jvm.Cond.instanceMethod ({ cls := "ShardRows$TestRows", name := "has", desc := "(I)Z" } : Jvm.MethodName)) ∈ TB := List.mem_filter.mpr ⟨List.mem_of_getElem? (i := 270) (by decide +kernel), by decide +kernel⟩
theorem kw_271 : (Jvm.Cond.selects "ShardRows$TestRows" ({ cls := "ShardRows$TestRows", name := "has", desc := "(I)Z" } : Jvm.MethodName) ({ cls := "ShardRows$TestRows", name := "has", desc := "(I)Z" } : Jvm.MethodName)) ∈ TB := List.mem_filter.mpr ⟨List.mem_of_getElem? (i := 271) (by decide +kernel), by decide +kernel⟩
theorem kw_272 : (Jvm.Cond.code ({ cls := "ShardRows$TestRows", name := "has", desc := "(I)Z" } : Jvm.MethodName) prog_8_method_2_code (2 : Nat) (Option.some Jvm.ClassFile.FieldType.boolean)) ∈ TB := List.mem_filter.mpr ⟨List.mem_of_getElem? (i := 272) (by decide +kernel), by decide +kernel⟩
theorem kw_273 : (Jvm.Cond.methodLink "ShardRowsLaw" (31 : Nat) ({ cls := "ShardRows", name := "join", desc := "(II)Z" } : Jvm.MethodName)) ∈ TB := List.mem_filter.mpr ⟨List.mem_of_getElem? (i := 273) (by decide +kernel), by decide +kernel⟩
theorem kw_274 : (Jvm.Cond.instanceMethod ({ cls := "ShardRows", name := "join", desc := "(II)Z" } : Jvm.MethodName)) ∈ TB := List.mem_filter.mpr ⟨List.mem_of_getElem? (i := 274) (by decide +kernel), by decide +kernel⟩
theorem kw_275 : (Jvm.Cond.selects "ShardRows" ({ cls := "ShardRows", name := "join", desc := "(II)Z" } : Jvm.MethodName) ({ cls := "ShardRows", name := "join", desc := "(II)Z" } : Jvm.MethodName)) ∈ TB := List.mem_filter.mpr ⟨List.mem_of_getElem? (i := 275) (by decide +kernel), by decide +kernel⟩
theorem kw_276 : (Jvm.Cond.code ({ cls := "ShardRows", name := "join", desc := "(II)Z" } : Jvm.MethodName) prog_1_method_4_code (3 : Nat) (Option.some Jvm.ClassFile.FieldType.boolean)) ∈ TB := List.mem_filter.mpr ⟨List.mem_of_getElem? (i := 276) (by decide +kernel), by decide +kernel⟩
theorem kw_277 : (Jvm.Cond.methodLink "ShardRows" (79 : Nat) ({ cls := "ShardRows$TestRows", name := "unite", desc := "(II)Z" } : Jvm.MethodName)) ∈ TB := List.mem_filter.mpr ⟨List.mem_of_getElem? (i := 277) (by decide +kernel), by decide +kernel⟩
theorem kw_278 : (Jvm.Cond.instanceMethod ({ cls := "ShardRows$TestRows", name := "unite", desc := "(II)Z" } : Jvm.MethodName)) ∈ TB := List.mem_filter.mpr ⟨List.mem_of_getElem? (i := 278) (by decide +kernel), by decide +kernel⟩
theorem kw_279 : (Jvm.Cond.selects "ShardRows$TestRows" ({ cls := "ShardRows$TestRows", name := "unite", desc := "(II)Z" } : Jvm.MethodName) ({ cls := "ShardRows$TestRows", name := "unite", desc := "(II)Z" } : Jvm.MethodName)) ∈ TB := List.mem_filter.mpr ⟨List.mem_of_getElem? (i := 279) (by decide +kernel), by decide +kernel⟩
theorem kw_280 : (Jvm.Cond.code ({ cls := "ShardRows$TestRows", name := "unite", desc := "(II)Z" } : Jvm.MethodName) prog_8_method_5_code (6 : Nat) (Option.some Jvm.ClassFile.FieldType.boolean)) ∈ TB := List.mem_filter.mpr ⟨List.mem_of_getElem? (i := 280) (by decide +kernel), by decide +kernel⟩
theorem kw_281 : (Jvm.Cond.methodLink "ShardRows$TestRows" (29 : Nat) ({ cls := "java/lang/Math", name := "min", desc := "(II)I" } : Jvm.MethodName)) ∈ TB := List.mem_filter.mpr ⟨List.mem_of_getElem? (i := 281) (by decide +kernel), by decide +kernel⟩
theorem kw_282 : (Jvm.Cond.methodLink "ShardRows$TestRows" (35 : Nat) ({ cls := "java/lang/Math", name := "max", desc := "(II)I" } : Jvm.MethodName)) ∈ TB := List.mem_filter.mpr ⟨List.mem_of_getElem? (i := 282) (by decide +kernel), by decide +kernel⟩
theorem kw_283 : (Jvm.Cond.methodLink "ShardRowsLaw" (35 : Nat) ({ cls := "ShardRows", name := "shards", desc := "(I)Z" } : Jvm.MethodName)) ∈ TB := List.mem_filter.mpr ⟨List.mem_of_getElem? (i := 283) (by decide +kernel), by decide +kernel⟩
theorem kw_284 : (Jvm.Cond.instanceMethod ({ cls := "ShardRows", name := "shards", desc := "(I)Z" } : Jvm.MethodName)) ∈ TB := List.mem_filter.mpr ⟨List.mem_of_getElem? (i := 284) (by decide +kernel), by decide +kernel⟩
theorem kw_285 : (Jvm.Cond.selects "ShardRows" ({ cls := "ShardRows", name := "shards", desc := "(I)Z" } : Jvm.MethodName) ({ cls := "ShardRows", name := "shards", desc := "(I)Z" } : Jvm.MethodName)) ∈ TB := List.mem_filter.mpr ⟨List.mem_of_getElem? (i := 285) (by decide +kernel), by decide +kernel⟩
theorem kw_286 : (Jvm.Cond.code ({ cls := "ShardRows", name := "shards", desc := "(I)Z" } : Jvm.MethodName) prog_1_method_5_code (2 : Nat) (Option.some Jvm.ClassFile.FieldType.boolean)) ∈ TB := List.mem_filter.mpr ⟨List.mem_of_getElem? (i := 286) (by decide +kernel), by decide +kernel⟩
theorem kw_287 : (Jvm.Cond.methodLink "ShardRowsLaw" (40 : Nat) ({ cls := "ShardRows", name := "mean", desc := "()I" } : Jvm.MethodName)) ∈ TB := List.mem_filter.mpr ⟨List.mem_of_getElem? (i := 287) (by decide +kernel), by decide +kernel⟩
theorem kw_288 : (Jvm.Cond.instanceMethod ({ cls := "ShardRows", name := "mean", desc := "()I" } : Jvm.MethodName)) ∈ TB := List.mem_filter.mpr ⟨List.mem_of_getElem? (i := 288) (by decide +kernel), by decide +kernel⟩
theorem kw_289 : (Jvm.Cond.selects "ShardRows" ({ cls := "ShardRows", name := "mean", desc := "()I" } : Jvm.MethodName) ({ cls := "ShardRows", name := "mean", desc := "()I" } : Jvm.MethodName)) ∈ TB := List.mem_filter.mpr ⟨List.mem_of_getElem? (i := 289) (by decide +kernel), by decide +kernel⟩
theorem kw_290 : (Jvm.Cond.code ({ cls := "ShardRows", name := "mean", desc := "()I" } : Jvm.MethodName) prog_1_method_6_code (1 : Nat) (Option.some Jvm.ClassFile.FieldType.int)) ∈ TB := List.mem_filter.mpr ⟨List.mem_of_getElem? (i := 290) (by decide +kernel), by decide +kernel⟩
theorem kw_291 : (Jvm.Cond.methodLink "ShardRows" (82 : Nat) ({ cls := "ShardRows$TestRows", name := "meanTime", desc := "()I" } : Jvm.MethodName)) ∈ TB := List.mem_filter.mpr ⟨List.mem_of_getElem? (i := 291) (by decide +kernel), by decide +kernel⟩
theorem kw_292 : (Jvm.Cond.instanceMethod ({ cls := "ShardRows$TestRows", name := "meanTime", desc := "()I" } : Jvm.MethodName)) ∈ TB := List.mem_filter.mpr ⟨List.mem_of_getElem? (i := 292) (by decide +kernel), by decide +kernel⟩
theorem kw_293 : (Jvm.Cond.selects "ShardRows$TestRows" ({ cls := "ShardRows$TestRows", name := "meanTime", desc := "()I" } : Jvm.MethodName) ({ cls := "ShardRows$TestRows", name := "meanTime", desc := "()I" } : Jvm.MethodName)) ∈ TB := List.mem_filter.mpr ⟨List.mem_of_getElem? (i := 293) (by decide +kernel), by decide +kernel⟩
theorem kw_294 : (Jvm.Cond.code ({ cls := "ShardRows$TestRows", name := "meanTime", desc := "()I" } : Jvm.MethodName) prog_8_method_6_code (4 : Nat) (Option.some Jvm.ClassFile.FieldType.int)) ∈ TB := List.mem_filter.mpr ⟨List.mem_of_getElem? (i := 294) (by decide +kernel), by decide +kernel⟩
theorem kw_295 : (Jvm.Cond.methodLink "ShardRowsLaw" (45 : Nat) ({ cls := "ShardRows", name := "groups", desc := "()I" } : Jvm.MethodName)) ∈ TB := List.mem_filter.mpr ⟨List.mem_of_getElem? (i := 295) (by decide +kernel), by decide +kernel⟩
theorem kw_296 : (Jvm.Cond.instanceMethod ({ cls := "ShardRows", name := "groups", desc := "()I" } : Jvm.MethodName)) ∈ TB := List.mem_filter.mpr ⟨List.mem_of_getElem? (i := 296) (by decide +kernel), by decide +kernel⟩
theorem kw_297 : (Jvm.Cond.selects "ShardRows" ({ cls := "ShardRows", name := "groups", desc := "()I" } : Jvm.MethodName) ({ cls := "ShardRows", name := "groups", desc := "()I" } : Jvm.MethodName)) ∈ TB := List.mem_filter.mpr ⟨List.mem_of_getElem? (i := 297) (by decide +kernel), by decide +kernel⟩
theorem kw_298 : (Jvm.Cond.code ({ cls := "ShardRows", name := "groups", desc := "()I" } : Jvm.MethodName) prog_1_method_7_code (1 : Nat) (Option.some Jvm.ClassFile.FieldType.int)) ∈ TB := List.mem_filter.mpr ⟨List.mem_of_getElem? (i := 298) (by decide +kernel), by decide +kernel⟩
theorem kw_299 : (Jvm.Cond.methodLink "ShardRows" (86 : Nat) ({ cls := "ShardRows$TestRows", name := "countGroups", desc := "()I" } : Jvm.MethodName)) ∈ TB := List.mem_filter.mpr ⟨List.mem_of_getElem? (i := 299) (by decide +kernel), by decide +kernel⟩
theorem kw_300 : (Jvm.Cond.instanceMethod ({ cls := "ShardRows$TestRows", name := "countGroups", desc := "()I" } : Jvm.MethodName)) ∈ TB := List.mem_filter.mpr ⟨List.mem_of_getElem? (i := 300) (by decide +kernel), by decide +kernel⟩
theorem kw_301 : (Jvm.Cond.selects "ShardRows$TestRows" ({ cls := "ShardRows$TestRows", name := "countGroups", desc := "()I" } : Jvm.MethodName) ({ cls := "ShardRows$TestRows", name := "countGroups", desc := "()I" } : Jvm.MethodName)) ∈ TB := List.mem_filter.mpr ⟨List.mem_of_getElem? (i := 301) (by decide +kernel), by decide +kernel⟩
theorem kw_302 : (Jvm.Cond.code ({ cls := "ShardRows$TestRows", name := "countGroups", desc := "()I" } : Jvm.MethodName) prog_8_method_7_code (3 : Nat) (Option.some Jvm.ClassFile.FieldType.int)) ∈ TB := List.mem_filter.mpr ⟨List.mem_of_getElem? (i := 302) (by decide +kernel), by decide +kernel⟩
theorem kw_303 : (Jvm.Cond.methodLink "ShardRowsLaw" (49 : Nat) ({ cls := "ShardRows", name := "split", desc := "()I" } : Jvm.MethodName)) ∈ TB := List.mem_filter.mpr ⟨List.mem_of_getElem? (i := 303) (by decide +kernel), by decide +kernel⟩
theorem kw_304 : (Jvm.Cond.instanceMethod ({ cls := "ShardRows", name := "split", desc := "()I" } : Jvm.MethodName)) ∈ TB := List.mem_filter.mpr ⟨List.mem_of_getElem? (i := 304) (by decide +kernel), by decide +kernel⟩
theorem kw_305 : (Jvm.Cond.selects "ShardRows" ({ cls := "ShardRows", name := "split", desc := "()I" } : Jvm.MethodName) ({ cls := "ShardRows", name := "split", desc := "()I" } : Jvm.MethodName)) ∈ TB := List.mem_filter.mpr ⟨List.mem_of_getElem? (i := 305) (by decide +kernel), by decide +kernel⟩
theorem kw_306 : (Jvm.Cond.code ({ cls := "ShardRows", name := "split", desc := "()I" } : Jvm.MethodName) prog_1_method_8_code (1 : Nat) (Option.some Jvm.ClassFile.FieldType.int)) ∈ TB := List.mem_filter.mpr ⟨List.mem_of_getElem? (i := 306) (by decide +kernel), by decide +kernel⟩
theorem kw_307 : (Jvm.Cond.methodLink "ShardRows" (89 : Nat) ({ cls := "ShardRows$GroupRows", name := "gather", desc := "(LShardRows$TestRows;)V" } : Jvm.MethodName)) ∈ TB := List.mem_filter.mpr ⟨List.mem_of_getElem? (i := 307) (by decide +kernel), by decide +kernel⟩
theorem kw_308 : (Jvm.Cond.instanceMethod ({ cls := "ShardRows$GroupRows", name := "gather", desc := "(LShardRows$TestRows;)V" } : Jvm.MethodName)) ∈ TB := List.mem_filter.mpr ⟨List.mem_of_getElem? (i := 308) (by decide +kernel), by decide +kernel⟩
theorem kw_309 : (Jvm.Cond.selects "ShardRows$GroupRows" ({ cls := "ShardRows$GroupRows", name := "gather", desc := "(LShardRows$TestRows;)V" } : Jvm.MethodName) ({ cls := "ShardRows$GroupRows", name := "gather", desc := "(LShardRows$TestRows;)V" } : Jvm.MethodName)) ∈ TB := List.mem_filter.mpr ⟨List.mem_of_getElem? (i := 309) (by decide +kernel), by decide +kernel⟩
theorem kw_310 : (Jvm.Cond.code ({ cls := "ShardRows$GroupRows", name := "gather", desc := "(LShardRows$TestRows;)V" } : Jvm.MethodName) prog_4_method_2_code (6 : Nat) (Option.none : Option Jvm.ClassFile.FieldType)) ∈ TB := List.mem_filter.mpr ⟨List.mem_of_getElem? (i := 310) (by decide +kernel), by decide +kernel⟩
theorem kw_311 : (Jvm.Cond.methodLink "ShardRows$GroupRows" (24 : Nat) ({ cls := "ShardRows$TestRows", name := "meanTime", desc := "()I" } : Jvm.MethodName)) ∈ TB := List.mem_filter.mpr ⟨List.mem_of_getElem? (i := 311) (by decide +kernel), by decide +kernel⟩
theorem kw_312 : (Jvm.Cond.methodLink "ShardRows$GroupRows" (39 : Nat) ({ cls := "ShardRows$GroupRows", name := "open", desc := "(I)I" } : Jvm.MethodName)) ∈ TB := List.mem_filter.mpr ⟨List.mem_of_getElem? (i := 312) (by decide +kernel), by decide +kernel⟩
theorem kw_314 : (Jvm.Cond.instanceMethod ({ cls := "ShardRows$GroupRows", name := "open", desc := "(I)I" } : Jvm.MethodName)) ∈ TB := List.mem_filter.mpr ⟨List.mem_of_getElem? (i := 314) (by decide +kernel), by decide +kernel⟩
theorem kw_315 : (Jvm.Cond.code ({ cls := "ShardRows$GroupRows", name := "open", desc := "(I)I" } : Jvm.MethodName) prog_4_method_5_code (3 : Nat) (Option.some Jvm.ClassFile.FieldType.int)) ∈ TB := List.mem_filter.mpr ⟨List.mem_of_getElem? (i := 315) (by decide +kernel), by decide +kernel⟩
theorem kw_316 : (Jvm.Cond.methodLink "ShardRows$GroupRows" (43 : Nat) ({ cls := "ShardRows$GroupRows", name := "groupAt", desc := "(I)I" } : Jvm.MethodName)) ∈ TB := List.mem_filter.mpr ⟨List.mem_of_getElem? (i := 316) (by decide +kernel), by decide +kernel⟩
theorem kw_317 : (Jvm.Cond.instanceMethod ({ cls := "ShardRows$GroupRows", name := "groupAt", desc := "(I)I" } : Jvm.MethodName)) ∈ TB := List.mem_filter.mpr ⟨List.mem_of_getElem? (i := 317) (by decide +kernel), by decide +kernel⟩
theorem kw_318 : (Jvm.Cond.selects "ShardRows$GroupRows" ({ cls := "ShardRows$GroupRows", name := "groupAt", desc := "(I)I" } : Jvm.MethodName) ({ cls := "ShardRows$GroupRows", name := "groupAt", desc := "(I)I" } : Jvm.MethodName)) ∈ TB := List.mem_filter.mpr ⟨List.mem_of_getElem? (i := 318) (by decide +kernel), by decide +kernel⟩
theorem kw_319 : (Jvm.Cond.code ({ cls := "ShardRows$GroupRows", name := "groupAt", desc := "(I)I" } : Jvm.MethodName) prog_4_method_3_code (2 : Nat) (Option.some Jvm.ClassFile.FieldType.int)) ∈ TB := List.mem_filter.mpr ⟨List.mem_of_getElem? (i := 319) (by decide +kernel), by decide +kernel⟩
theorem kw_320 : (Jvm.Cond.methodLink "ShardRows" (96 : Nat) ({ cls := "ShardRows$Search", name := "place", desc := "(LShardRows$GroupRows;LShardRows$SplitRows;I)V" } : Jvm.MethodName)) ∈ TB := List.mem_filter.mpr ⟨List.mem_of_getElem? (i := 320) (by decide +kernel), by decide +kernel⟩
theorem kw_321 : (Jvm.Cond.instanceMethod ({ cls := "ShardRows$Search", name := "place", desc := "(LShardRows$GroupRows;LShardRows$SplitRows;I)V" } : Jvm.MethodName)) ∈ TB := List.mem_filter.mpr ⟨List.mem_of_getElem? (i := 321) (by decide +kernel), by decide +kernel⟩
theorem kw_322 : (Jvm.Cond.selects "ShardRows$Search" ({ cls := "ShardRows$Search", name := "place", desc := "(LShardRows$GroupRows;LShardRows$SplitRows;I)V" } : Jvm.MethodName) ({ cls := "ShardRows$Search", name := "place", desc := "(LShardRows$GroupRows;LShardRows$SplitRows;I)V" } : Jvm.MethodName)) ∈ TB := List.mem_filter.mpr ⟨List.mem_of_getElem? (i := 322) (by decide +kernel), by decide +kernel⟩
theorem kw_323 : (Jvm.Cond.code ({ cls := "ShardRows$Search", name := "place", desc := "(LShardRows$GroupRows;LShardRows$SplitRows;I)V" } : Jvm.MethodName) prog_6_method_2_code (4 : Nat) (Option.none : Option Jvm.ClassFile.FieldType)) ∈ TB := List.mem_filter.mpr ⟨List.mem_of_getElem? (i := 323) (by decide +kernel), by decide +kernel⟩
theorem kw_324 : (Jvm.Cond.methodLink "ShardRows$Search" (32 : Nat) ({ cls := "java/lang/Math", name := "min", desc := "(II)I" } : Jvm.MethodName)) ∈ TB := List.mem_filter.mpr ⟨List.mem_of_getElem? (i := 324) (by decide +kernel), by decide +kernel⟩
theorem kw_325 : (Jvm.Cond.methodLink "ShardRows$Search" (51 : Nat) ({ cls := "java/lang/System", name := "arraycopy", desc := "(Ljava/lang/Object;ILjava/lang/Object;II)V" } : Jvm.MethodName)) ∈ TB := List.mem_filter.mpr ⟨List.mem_of_getElem? (i := 325) (by decide +kernel), by decide +kernel⟩
theorem kw_326 : (Jvm.Cond.static ({ cls := "java/lang/System", name := "arraycopy", desc := "(Ljava/lang/Object;ILjava/lang/Object;II)V" } : Jvm.MethodName)) ∈ TB := List.mem_filter.mpr ⟨List.mem_of_getElem? (i := 326) (by decide +kernel), by decide +kernel⟩
theorem kw_327 : (Jvm.Cond.native ({ cls := "java/lang/System", name := "arraycopy", desc := "(Ljava/lang/Object;ILjava/lang/Object;II)V" } : Jvm.MethodName)) ∈ TB := List.mem_filter.mpr ⟨List.mem_of_getElem? (i := 327) (by decide +kernel), by decide +kernel⟩
theorem kw_328 : (Jvm.Cond.methodLink "ShardRows$Search" (57 : Nat) ({ cls := "ShardRows$Search", name := "countMoves", desc := "(LShardRows$GroupRows;LShardRows$SplitRows;)V" } : Jvm.MethodName)) ∈ TB := List.mem_filter.mpr ⟨List.mem_of_getElem? (i := 328) (by decide +kernel), by decide +kernel⟩
theorem kw_330 : (Jvm.Cond.instanceMethod ({ cls := "ShardRows$Search", name := "countMoves", desc := "(LShardRows$GroupRows;LShardRows$SplitRows;)V" } : Jvm.MethodName)) ∈ TB := List.mem_filter.mpr ⟨List.mem_of_getElem? (i := 330) (by decide +kernel), by decide +kernel⟩
theorem kw_331 : (Jvm.Cond.code ({ cls := "ShardRows$Search", name := "countMoves", desc := "(LShardRows$GroupRows;LShardRows$SplitRows;)V" } : Jvm.MethodName) prog_6_method_3_code (6 : Nat) (Option.none : Option Jvm.ClassFile.FieldType)) ∈ TB := List.mem_filter.mpr ⟨List.mem_of_getElem? (i := 331) (by decide +kernel), by decide +kernel⟩
theorem kw_332 : (Jvm.Cond.methodLink "ShardRows$Search" (64 : Nat) ({ cls := "java/util/Arrays", name := "fill", desc := "([II)V" } : Jvm.MethodName)) ∈ TB := List.mem_filter.mpr ⟨List.mem_of_getElem? (i := 332) (by decide +kernel), by decide +kernel⟩
theorem kw_333 : (Jvm.Cond.methodLink "ShardRows$Search" (96 : Nat) ({ cls := "ShardRows$SplitRows", name := "shardAt", desc := "(I)I" } : Jvm.MethodName)) ∈ TB := List.mem_filter.mpr ⟨List.mem_of_getElem? (i := 333) (by decide +kernel), by decide +kernel⟩
theorem kw_334 : (Jvm.Cond.instanceMethod ({ cls := "ShardRows$SplitRows", name := "shardAt", desc := "(I)I" } : Jvm.MethodName)) ∈ TB := List.mem_filter.mpr ⟨List.mem_of_getElem? (i := 334) (by decide +kernel), by decide +kernel⟩
theorem kw_335 : (Jvm.Cond.selects "ShardRows$SplitRows" ({ cls := "ShardRows$SplitRows", name := "shardAt", desc := "(I)I" } : Jvm.MethodName) ({ cls := "ShardRows$SplitRows", name := "shardAt", desc := "(I)I" } : Jvm.MethodName)) ∈ TB := List.mem_filter.mpr ⟨List.mem_of_getElem? (i := 335) (by decide +kernel), by decide +kernel⟩
theorem kw_336 : (Jvm.Cond.code ({ cls := "ShardRows$SplitRows", name := "shardAt", desc := "(I)I" } : Jvm.MethodName) prog_7_method_3_code (2 : Nat) (Option.some Jvm.ClassFile.FieldType.int)) ∈ TB := List.mem_filter.mpr ⟨List.mem_of_getElem? (i := 336) (by decide +kernel), by decide +kernel⟩
theorem kw_338 : (Jvm.Cond.static ({ cls := "ShardRows", name := "isTestNumber", desc := "(I)Z" } : Jvm.MethodName)) ∈ TB := List.mem_filter.mpr ⟨List.mem_of_getElem? (i := 338) (by decide +kernel), by decide +kernel⟩
theorem kw_339 : (Jvm.Cond.code ({ cls := "ShardRows", name := "isTestNumber", desc := "(I)Z" } : Jvm.MethodName) prog_1_method_22_code (1 : Nat) (Option.some Jvm.ClassFile.FieldType.boolean)) ∈ TB := List.mem_filter.mpr ⟨List.mem_of_getElem? (i := 339) (by decide +kernel), by decide +kernel⟩
theorem kw_340 : (Jvm.Cond.methodLink "ShardRows$Search" (102 : Nat) ({ cls := "ShardRows$GroupRows", name := "groupAt", desc := "(I)I" } : Jvm.MethodName)) ∈ TB := List.mem_filter.mpr ⟨List.mem_of_getElem? (i := 340) (by decide +kernel), by decide +kernel⟩
theorem kw_341 : (Jvm.Cond.methodLink "ShardRows$Search" (105 : Nat) ({ cls := "ShardRows$Search", name := "addMove", desc := "(II)V" } : Jvm.MethodName)) ∈ TB := List.mem_filter.mpr ⟨List.mem_of_getElem? (i := 341) (by decide +kernel), by decide +kernel⟩
theorem kw_343 : (Jvm.Cond.instanceMethod ({ cls := "ShardRows$Search", name := "addMove", desc := "(II)V" } : Jvm.MethodName)) ∈ TB := List.mem_filter.mpr ⟨List.mem_of_getElem? (i := 343) (by decide +kernel), by decide +kernel⟩
theorem kw_344 : (Jvm.Cond.code ({ cls := "ShardRows$Search", name := "addMove", desc := "(II)V" } : Jvm.MethodName) prog_6_method_4_code (4 : Nat) (Option.none : Option Jvm.ClassFile.FieldType)) ∈ TB := List.mem_filter.mpr ⟨List.mem_of_getElem? (i := 344) (by decide +kernel), by decide +kernel⟩
theorem kw_345 : (Jvm.Cond.methodLink "ShardRows$Search" (61 : Nat) ({ cls := "ShardRows$Search", name := "sumLeastMoves", desc := "()V" } : Jvm.MethodName)) ∈ TB := List.mem_filter.mpr ⟨List.mem_of_getElem? (i := 345) (by decide +kernel), by decide +kernel⟩
theorem kw_347 : (Jvm.Cond.instanceMethod ({ cls := "ShardRows$Search", name := "sumLeastMoves", desc := "()V" } : Jvm.MethodName)) ∈ TB := List.mem_filter.mpr ⟨List.mem_of_getElem? (i := 347) (by decide +kernel), by decide +kernel⟩
theorem kw_348 : (Jvm.Cond.code ({ cls := "ShardRows$Search", name := "sumLeastMoves", desc := "()V" } : Jvm.MethodName) prog_6_method_5_code (4 : Nat) (Option.none : Option Jvm.ClassFile.FieldType)) ∈ TB := List.mem_filter.mpr ⟨List.mem_of_getElem? (i := 348) (by decide +kernel), by decide +kernel⟩
theorem kw_349 : (Jvm.Cond.constant "ShardRows$Search" (72 : Nat) (2147483647 : Int32)) ∈ TB := List.mem_filter.mpr ⟨List.mem_of_getElem? (i := 349) (by decide +kernel), by decide +kernel⟩
theorem kw_350 : (Jvm.Cond.methodLink "ShardRows$Search" (76 : Nat) ({ cls := "ShardRows$Search", name := "seekLength", desc := "(III)V" } : Jvm.MethodName)) ∈ TB := List.mem_filter.mpr ⟨List.mem_of_getElem? (i := 350) (by decide +kernel), by decide +kernel⟩
theorem kw_352 : (Jvm.Cond.instanceMethod ({ cls := "ShardRows$Search", name := "seekLength", desc := "(III)V" } : Jvm.MethodName)) ∈ TB := List.mem_filter.mpr ⟨List.mem_of_getElem? (i := 352) (by decide +kernel), by decide +kernel⟩
theorem kw_353 : (Jvm.Cond.code ({ cls := "ShardRows$Search", name := "seekLength", desc := "(III)V" } : Jvm.MethodName) prog_6_method_6_code (6 : Nat) (Option.none : Option Jvm.ClassFile.FieldType)) ∈ TB := List.mem_filter.mpr ⟨List.mem_of_getElem? (i := 353) (by decide +kernel), by decide +kernel⟩
theorem kw_354 : (Jvm.Cond.methodLink "ShardRows$Search" (108 : Nat) ({ cls := "java/lang/Math", name := "max", desc := "(II)I" } : Jvm.MethodName)) ∈ TB := List.mem_filter.mpr ⟨List.mem_of_getElem? (i := 354) (by decide +kernel), by decide +kernel⟩
theorem kw_355 : (Jvm.Cond.methodLink "ShardRows$Search" (83 : Nat) ({ cls := "ShardRows$Search", name := "seekShards", desc := "(II)V" } : Jvm.MethodName)) ∈ TB := List.mem_filter.mpr ⟨List.mem_of_getElem? (i := 355) (by decide +kernel), by decide +kernel⟩
theorem kw_357 : (Jvm.Cond.instanceMethod ({ cls := "ShardRows$Search", name := "seekShards", desc := "(II)V" } : Jvm.MethodName)) ∈ TB := List.mem_filter.mpr ⟨List.mem_of_getElem? (i := 357) (by decide +kernel), by decide +kernel⟩
theorem kw_358 : (Jvm.Cond.code ({ cls := "ShardRows$Search", name := "seekShards", desc := "(II)V" } : Jvm.MethodName) prog_6_method_7_code (4 : Nat) (Option.none : Option Jvm.ClassFile.FieldType)) ∈ TB := List.mem_filter.mpr ⟨List.mem_of_getElem? (i := 358) (by decide +kernel), by decide +kernel⟩
theorem kw_359 : (Jvm.Cond.methodLink "ShardRows" (100 : Nat) ({ cls := "ShardRows$Greedy", name := "place", desc := "(LShardRows$GroupRows;LShardRows$SplitRows;I)V" } : Jvm.MethodName)) ∈ TB := List.mem_filter.mpr ⟨List.mem_of_getElem? (i := 359) (by decide +kernel), by decide +kernel⟩
theorem kw_360 : (Jvm.Cond.instanceMethod ({ cls := "ShardRows$Greedy", name := "place", desc := "(LShardRows$GroupRows;LShardRows$SplitRows;I)V" } : Jvm.MethodName)) ∈ TB := List.mem_filter.mpr ⟨List.mem_of_getElem? (i := 360) (by decide +kernel), by decide +kernel⟩
theorem kw_361 : (Jvm.Cond.selects "ShardRows$Greedy" ({ cls := "ShardRows$Greedy", name := "place", desc := "(LShardRows$GroupRows;LShardRows$SplitRows;I)V" } : Jvm.MethodName) ({ cls := "ShardRows$Greedy", name := "place", desc := "(LShardRows$GroupRows;LShardRows$SplitRows;I)V" } : Jvm.MethodName)) ∈ TB := List.mem_filter.mpr ⟨List.mem_of_getElem? (i := 361) (by decide +kernel), by decide +kernel⟩
theorem kw_362 : (Jvm.Cond.code ({ cls := "ShardRows$Greedy", name := "place", desc := "(LShardRows$GroupRows;LShardRows$SplitRows;I)V" } : Jvm.MethodName) prog_3_method_2_code (7 : Nat) (Option.none : Option Jvm.ClassFile.FieldType)) ∈ TB := List.mem_filter.mpr ⟨List.mem_of_getElem? (i := 362) (by decide +kernel), by decide +kernel⟩
theorem kw_363 : (Jvm.Cond.methodLink "ShardRows$Greedy" (15 : Nat) ({ cls := "java/lang/Math", name := "min", desc := "(II)I" } : Jvm.MethodName)) ∈ TB := List.mem_filter.mpr ⟨List.mem_of_getElem? (i := 363) (by decide +kernel), by decide +kernel⟩
theorem kw_364 : (Jvm.Cond.methodLink "ShardRows$Greedy" (25 : Nat) ({ cls := "java/util/Arrays", name := "fill", desc := "([II)V" } : Jvm.MethodName)) ∈ TB := List.mem_filter.mpr ⟨List.mem_of_getElem? (i := 364) (by decide +kernel), by decide +kernel⟩
theorem kw_365 : (Jvm.Cond.methodLink "ShardRows$Greedy" (36 : Nat) ({ cls := "ShardRows$Greedy", name := "longestUnplaced", desc := "(LShardRows$GroupRows;)I" } : Jvm.MethodName)) ∈ TB := List.mem_filter.mpr ⟨List.mem_of_getElem? (i := 365) (by decide +kernel), by decide +kernel⟩
theorem kw_366 : (Jvm.Cond.static ({ cls := "ShardRows$Greedy", name := "longestUnplaced", desc := "(LShardRows$GroupRows;)I" } : Jvm.MethodName)) ∈ TB := List.mem_filter.mpr ⟨List.mem_of_getElem? (i := 366) (by decide +kernel), by decide +kernel⟩
theorem kw_367 : (Jvm.Cond.code ({ cls := "ShardRows$Greedy", name := "longestUnplaced", desc := "(LShardRows$GroupRows;)I" } : Jvm.MethodName) prog_3_method_3_code (4 : Nat) (Option.some Jvm.ClassFile.FieldType.int)) ∈ TB := List.mem_filter.mpr ⟨List.mem_of_getElem? (i := 367) (by decide +kernel), by decide +kernel⟩
theorem kw_368 : (Jvm.Cond.methodLink "ShardRows$Greedy" (43 : Nat) ({ cls := "ShardRows$SplitRows", name := "shardAt", desc := "(I)I" } : Jvm.MethodName)) ∈ TB := List.mem_filter.mpr ⟨List.mem_of_getElem? (i := 368) (by decide +kernel), by decide +kernel⟩
theorem kw_369 : (Jvm.Cond.methodLink "ShardRows$Greedy" (49 : Nat) ({ cls := "ShardRows$Greedy", name := "leastShard", desc := "(I)I" } : Jvm.MethodName)) ∈ TB := List.mem_filter.mpr ⟨List.mem_of_getElem? (i := 369) (by decide +kernel), by decide +kernel⟩
theorem kw_371 : (Jvm.Cond.instanceMethod ({ cls := "ShardRows$Greedy", name := "leastShard", desc := "(I)I" } : Jvm.MethodName)) ∈ TB := List.mem_filter.mpr ⟨List.mem_of_getElem? (i := 371) (by decide +kernel), by decide +kernel⟩
theorem kw_372 : (Jvm.Cond.code ({ cls := "ShardRows$Greedy", name := "leastShard", desc := "(I)I" } : Jvm.MethodName) prog_3_method_4_code (4 : Nat) (Option.some Jvm.ClassFile.FieldType.int)) ∈ TB := List.mem_filter.mpr ⟨List.mem_of_getElem? (i := 372) (by decide +kernel), by decide +kernel⟩
theorem kw_373 : (Jvm.Cond.methodLink "ShardRows" (101 : Nat) ({ cls := "ShardRows$SplitRows", name := "take", desc := "(LShardRows$GroupRows;I)V" } : Jvm.MethodName)) ∈ TB := List.mem_filter.mpr ⟨List.mem_of_getElem? (i := 373) (by decide +kernel), by decide +kernel⟩
theorem kw_374 : (Jvm.Cond.instanceMethod ({ cls := "ShardRows$SplitRows", name := "take", desc := "(LShardRows$GroupRows;I)V" } : Jvm.MethodName)) ∈ TB := List.mem_filter.mpr ⟨List.mem_of_getElem? (i := 374) (by decide +kernel), by decide +kernel⟩
theorem kw_375 : (Jvm.Cond.selects "ShardRows$SplitRows" ({ cls := "ShardRows$SplitRows", name := "take", desc := "(LShardRows$GroupRows;I)V" } : Jvm.MethodName) ({ cls := "ShardRows$SplitRows", name := "take", desc := "(LShardRows$GroupRows;I)V" } : Jvm.MethodName)) ∈ TB := List.mem_filter.mpr ⟨List.mem_of_getElem? (i := 375) (by decide +kernel), by decide +kernel⟩
theorem kw_376 : (Jvm.Cond.code ({ cls := "ShardRows$SplitRows", name := "take", desc := "(LShardRows$GroupRows;I)V" } : Jvm.MethodName) prog_7_method_5_code (4 : Nat) (Option.none : Option Jvm.ClassFile.FieldType)) ∈ TB := List.mem_filter.mpr ⟨List.mem_of_getElem? (i := 376) (by decide +kernel), by decide +kernel⟩
theorem kw_377 : (Jvm.Cond.methodLink "ShardRows$SplitRows" (41 : Nat) ({ cls := "java/lang/Math", name := "min", desc := "(II)I" } : Jvm.MethodName)) ∈ TB := List.mem_filter.mpr ⟨List.mem_of_getElem? (i := 377) (by decide +kernel), by decide +kernel⟩
theorem kw_378 : (Jvm.Cond.methodLink "ShardRows$SplitRows" (58 : Nat) ({ cls := "ShardRows$SplitRows", name := "addTime", desc := "(II)V" } : Jvm.MethodName)) ∈ TB := List.mem_filter.mpr ⟨List.mem_of_getElem? (i := 378) (by decide +kernel), by decide +kernel⟩
theorem kw_380 : (Jvm.Cond.instanceMethod ({ cls := "ShardRows$SplitRows", name := "addTime", desc := "(II)V" } : Jvm.MethodName)) ∈ TB := List.mem_filter.mpr ⟨List.mem_of_getElem? (i := 380) (by decide +kernel), by decide +kernel⟩
theorem kw_381 : (Jvm.Cond.code ({ cls := "ShardRows$SplitRows", name := "addTime", desc := "(II)V" } : Jvm.MethodName) prog_7_method_6_code (3 : Nat) (Option.none : Option Jvm.ClassFile.FieldType)) ∈ TB := List.mem_filter.mpr ⟨List.mem_of_getElem? (i := 381) (by decide +kernel), by decide +kernel⟩
theorem kw_382 : (Jvm.Cond.methodLink "ShardRows$SplitRows" (72 : Nat) ({ cls := "ShardRows$SplitRows", name := "hasShard", desc := "(I)Z" } : Jvm.MethodName)) ∈ TB := List.mem_filter.mpr ⟨List.mem_of_getElem? (i := 382) (by decide +kernel), by decide +kernel⟩
theorem kw_383 : (Jvm.Cond.instanceMethod ({ cls := "ShardRows$SplitRows", name := "hasShard", desc := "(I)Z" } : Jvm.MethodName)) ∈ TB := List.mem_filter.mpr ⟨List.mem_of_getElem? (i := 383) (by decide +kernel), by decide +kernel⟩
theorem kw_384 : (Jvm.Cond.selects "ShardRows$SplitRows" ({ cls := "ShardRows$SplitRows", name := "hasShard", desc := "(I)Z" } : Jvm.MethodName) ({ cls := "ShardRows$SplitRows", name := "hasShard", desc := "(I)Z" } : Jvm.MethodName)) ∈ TB := List.mem_filter.mpr ⟨List.mem_of_getElem? (i := 384) (by decide +kernel), by decide +kernel⟩
theorem kw_385 : (Jvm.Cond.code ({ cls := "ShardRows$SplitRows", name := "hasShard", desc := "(I)Z" } : Jvm.MethodName) prog_7_method_2_code (2 : Nat) (Option.some Jvm.ClassFile.FieldType.boolean)) ∈ TB := List.mem_filter.mpr ⟨List.mem_of_getElem? (i := 385) (by decide +kernel), by decide +kernel⟩
theorem kw_386 : (Jvm.Cond.methodLink "ShardRows$SplitRows" (65 : Nat) ({ cls := "ShardRows$GroupRows", name := "shardFor", desc := "(I)I" } : Jvm.MethodName)) ∈ TB := List.mem_filter.mpr ⟨List.mem_of_getElem? (i := 386) (by decide +kernel), by decide +kernel⟩
theorem kw_387 : (Jvm.Cond.instanceMethod ({ cls := "ShardRows$GroupRows", name := "shardFor", desc := "(I)I" } : Jvm.MethodName)) ∈ TB := List.mem_filter.mpr ⟨List.mem_of_getElem? (i := 387) (by decide +kernel), by decide +kernel⟩
theorem kw_388 : (Jvm.Cond.selects "ShardRows$GroupRows" ({ cls := "ShardRows$GroupRows", name := "shardFor", desc := "(I)I" } : Jvm.MethodName) ({ cls := "ShardRows$GroupRows", name := "shardFor", desc := "(I)I" } : Jvm.MethodName)) ∈ TB := List.mem_filter.mpr ⟨List.mem_of_getElem? (i := 388) (by decide +kernel), by decide +kernel⟩
theorem kw_389 : (Jvm.Cond.code ({ cls := "ShardRows$GroupRows", name := "shardFor", desc := "(I)I" } : Jvm.MethodName) prog_4_method_4_code (3 : Nat) (Option.some Jvm.ClassFile.FieldType.int)) ∈ TB := List.mem_filter.mpr ⟨List.mem_of_getElem? (i := 389) (by decide +kernel), by decide +kernel⟩
theorem kw_390 : (Jvm.Cond.methodLink "ShardRows$SplitRows" (69 : Nat) ({ cls := "ShardRows$SplitRows", name := "give", desc := "(II)V" } : Jvm.MethodName)) ∈ TB := List.mem_filter.mpr ⟨List.mem_of_getElem? (i := 390) (by decide +kernel), by decide +kernel⟩
theorem kw_392 : (Jvm.Cond.instanceMethod ({ cls := "ShardRows$SplitRows", name := "give", desc := "(II)V" } : Jvm.MethodName)) ∈ TB := List.mem_filter.mpr ⟨List.mem_of_getElem? (i := 392) (by decide +kernel), by decide +kernel⟩
theorem kw_393 : (Jvm.Cond.code ({ cls := "ShardRows$SplitRows", name := "give", desc := "(II)V" } : Jvm.MethodName) prog_7_method_7_code (3 : Nat) (Option.none : Option Jvm.ClassFile.FieldType)) ∈ TB := List.mem_filter.mpr ⟨List.mem_of_getElem? (i := 393) (by decide +kernel), by decide +kernel⟩
theorem kw_394 : (Jvm.Cond.methodLink "ShardRows" (105 : Nat) ({ cls := "ShardRows$ResultRows", name := "forget", desc := "()V" } : Jvm.MethodName)) ∈ TB := List.mem_filter.mpr ⟨List.mem_of_getElem? (i := 394) (by decide +kernel), by decide +kernel⟩
theorem kw_395 : (Jvm.Cond.instanceMethod ({ cls := "ShardRows$ResultRows", name := "forget", desc := "()V" } : Jvm.MethodName)) ∈ TB := List.mem_filter.mpr ⟨List.mem_of_getElem? (i := 395) (by decide +kernel), by decide +kernel⟩
theorem kw_396 : (Jvm.Cond.selects "ShardRows$ResultRows" ({ cls := "ShardRows$ResultRows", name := "forget", desc := "()V" } : Jvm.MethodName) ({ cls := "ShardRows$ResultRows", name := "forget", desc := "()V" } : Jvm.MethodName)) ∈ TB := List.mem_filter.mpr ⟨List.mem_of_getElem? (i := 396) (by decide +kernel), by decide +kernel⟩
theorem kw_397 : (Jvm.Cond.code ({ cls := "ShardRows$ResultRows", name := "forget", desc := "()V" } : Jvm.MethodName) prog_5_method_2_code (2 : Nat) (Option.none : Option Jvm.ClassFile.FieldType)) ∈ TB := List.mem_filter.mpr ⟨List.mem_of_getElem? (i := 397) (by decide +kernel), by decide +kernel⟩
theorem kw_398 : (Jvm.Cond.methodLink "ShardRows$ResultRows" (26 : Nat) ({ cls := "java/util/Arrays", name := "fill", desc := "([II)V" } : Jvm.MethodName)) ∈ TB := List.mem_filter.mpr ⟨List.mem_of_getElem? (i := 398) (by decide +kernel), by decide +kernel⟩
theorem kw_399 : (Jvm.Cond.methodLink "ShardRows" (108 : Nat) ({ cls := "ShardRows$SplitRows", name := "longest", desc := "()I" } : Jvm.MethodName)) ∈ TB := List.mem_filter.mpr ⟨List.mem_of_getElem? (i := 399) (by decide +kernel), by decide +kernel⟩
theorem kw_400 : (Jvm.Cond.instanceMethod ({ cls := "ShardRows$SplitRows", name := "longest", desc := "()I" } : Jvm.MethodName)) ∈ TB := List.mem_filter.mpr ⟨List.mem_of_getElem? (i := 400) (by decide +kernel), by decide +kernel⟩
theorem kw_401 : (Jvm.Cond.selects "ShardRows$SplitRows" ({ cls := "ShardRows$SplitRows", name := "longest", desc := "()I" } : Jvm.MethodName) ({ cls := "ShardRows$SplitRows", name := "longest", desc := "()I" } : Jvm.MethodName)) ∈ TB := List.mem_filter.mpr ⟨List.mem_of_getElem? (i := 401) (by decide +kernel), by decide +kernel⟩
theorem kw_402 : (Jvm.Cond.code ({ cls := "ShardRows$SplitRows", name := "longest", desc := "()I" } : Jvm.MethodName) prog_7_method_4_code (3 : Nat) (Option.some Jvm.ClassFile.FieldType.int)) ∈ TB := List.mem_filter.mpr ⟨List.mem_of_getElem? (i := 402) (by decide +kernel), by decide +kernel⟩
theorem kw_403 : (Jvm.Cond.methodLink "ShardRows$SplitRows" (35 : Nat) ({ cls := "java/lang/Math", name := "max", desc := "(II)I" } : Jvm.MethodName)) ∈ TB := List.mem_filter.mpr ⟨List.mem_of_getElem? (i := 403) (by decide +kernel), by decide +kernel⟩
theorem kw_404 : (Jvm.Cond.methodLink "ShardRowsLaw" (53 : Nat) ({ cls := "ShardRows", name := "shard", desc := "(I)I" } : Jvm.MethodName)) ∈ TB := List.mem_filter.mpr ⟨List.mem_of_getElem? (i := 404) (by decide +kernel), by decide +kernel⟩
theorem kw_405 : (Jvm.Cond.instanceMethod ({ cls := "ShardRows", name := "shard", desc := "(I)I" } : Jvm.MethodName)) ∈ TB := List.mem_filter.mpr ⟨List.mem_of_getElem? (i := 405) (by decide +kernel), by decide +kernel⟩
theorem kw_406 : (Jvm.Cond.selects "ShardRows" ({ cls := "ShardRows", name := "shard", desc := "(I)I" } : Jvm.MethodName) ({ cls := "ShardRows", name := "shard", desc := "(I)I" } : Jvm.MethodName)) ∈ TB := List.mem_filter.mpr ⟨List.mem_of_getElem? (i := 406) (by decide +kernel), by decide +kernel⟩
theorem kw_407 : (Jvm.Cond.code ({ cls := "ShardRows", name := "shard", desc := "(I)I" } : Jvm.MethodName) prog_1_method_9_code (2 : Nat) (Option.some Jvm.ClassFile.FieldType.int)) ∈ TB := List.mem_filter.mpr ⟨List.mem_of_getElem? (i := 407) (by decide +kernel), by decide +kernel⟩
theorem kw_408 : (Jvm.Cond.methodLink "ShardRows" (111 : Nat) ({ cls := "ShardRows$SplitRows", name := "shardAt", desc := "(I)I" } : Jvm.MethodName)) ∈ TB := List.mem_filter.mpr ⟨List.mem_of_getElem? (i := 408) (by decide +kernel), by decide +kernel⟩
theorem kw_409 : (Jvm.Cond.methodLink "ShardRowsLaw" (57 : Nat) ({ cls := "ShardRows", name := "sum", desc := "(I)I" } : Jvm.MethodName)) ∈ TB := List.mem_filter.mpr ⟨List.mem_of_getElem? (i := 409) (by decide +kernel), by decide +kernel⟩
theorem kw_410 : (Jvm.Cond.instanceMethod ({ cls := "ShardRows", name := "sum", desc := "(I)I" } : Jvm.MethodName)) ∈ TB := List.mem_filter.mpr ⟨List.mem_of_getElem? (i := 410) (by decide +kernel), by decide +kernel⟩
theorem kw_411 : (Jvm.Cond.selects "ShardRows" ({ cls := "ShardRows", name := "sum", desc := "(I)I" } : Jvm.MethodName) ({ cls := "ShardRows", name := "sum", desc := "(I)I" } : Jvm.MethodName)) ∈ TB := List.mem_filter.mpr ⟨List.mem_of_getElem? (i := 411) (by decide +kernel), by decide +kernel⟩
theorem kw_412 : (Jvm.Cond.code ({ cls := "ShardRows", name := "sum", desc := "(I)I" } : Jvm.MethodName) prog_1_method_10_code (2 : Nat) (Option.some Jvm.ClassFile.FieldType.int)) ∈ TB := List.mem_filter.mpr ⟨List.mem_of_getElem? (i := 412) (by decide +kernel), by decide +kernel⟩
theorem kw_413 : (Jvm.Cond.methodLink "ShardRows" (114 : Nat) ({ cls := "ShardRows$SplitRows", name := "hasShard", desc := "(I)Z" } : Jvm.MethodName)) ∈ TB := List.mem_filter.mpr ⟨List.mem_of_getElem? (i := 413) (by decide +kernel), by decide +kernel⟩
theorem kw_414 : (Jvm.Cond.methodLink "ShardRowsLaw" (61 : Nat) ({ cls := "ShardRows", name := "moved", desc := "()I" } : Jvm.MethodName)) ∈ TB := List.mem_filter.mpr ⟨List.mem_of_getElem? (i := 414) (by decide +kernel), by decide +kernel⟩
theorem kw_415 : (Jvm.Cond.instanceMethod ({ cls := "ShardRows", name := "moved", desc := "()I" } : Jvm.MethodName)) ∈ TB := List.mem_filter.mpr ⟨List.mem_of_getElem? (i := 415) (by decide +kernel), by decide +kernel⟩
theorem kw_416 : (Jvm.Cond.selects "ShardRows" ({ cls := "ShardRows", name := "moved", desc := "()I" } : Jvm.MethodName) ({ cls := "ShardRows", name := "moved", desc := "()I" } : Jvm.MethodName)) ∈ TB := List.mem_filter.mpr ⟨List.mem_of_getElem? (i := 416) (by decide +kernel), by decide +kernel⟩
theorem kw_417 : (Jvm.Cond.code ({ cls := "ShardRows", name := "moved", desc := "()I" } : Jvm.MethodName) prog_1_method_11_code (1 : Nat) (Option.some Jvm.ClassFile.FieldType.int)) ∈ TB := List.mem_filter.mpr ⟨List.mem_of_getElem? (i := 417) (by decide +kernel), by decide +kernel⟩
theorem kw_418 : (Jvm.Cond.methodLink "ShardRowsLaw" (65 : Nat) ({ cls := "ShardRows", name := "empty", desc := "(I)I" } : Jvm.MethodName)) ∈ TB := List.mem_filter.mpr ⟨List.mem_of_getElem? (i := 418) (by decide +kernel), by decide +kernel⟩
theorem kw_419 : (Jvm.Cond.instanceMethod ({ cls := "ShardRows", name := "empty", desc := "(I)I" } : Jvm.MethodName)) ∈ TB := List.mem_filter.mpr ⟨List.mem_of_getElem? (i := 419) (by decide +kernel), by decide +kernel⟩
theorem kw_420 : (Jvm.Cond.selects "ShardRows" ({ cls := "ShardRows", name := "empty", desc := "(I)I" } : Jvm.MethodName) ({ cls := "ShardRows", name := "empty", desc := "(I)I" } : Jvm.MethodName)) ∈ TB := List.mem_filter.mpr ⟨List.mem_of_getElem? (i := 420) (by decide +kernel), by decide +kernel⟩
theorem kw_421 : (Jvm.Cond.code ({ cls := "ShardRows", name := "empty", desc := "(I)I" } : Jvm.MethodName) prog_1_method_12_code (4 : Nat) (Option.some Jvm.ClassFile.FieldType.int)) ∈ TB := List.mem_filter.mpr ⟨List.mem_of_getElem? (i := 421) (by decide +kernel), by decide +kernel⟩
theorem kw_422 : (Jvm.Cond.methodLink "ShardRowsLaw" (71 : Nat) ({ cls := "ShardRows", name := "draw", desc := "(IJ)I" } : Jvm.MethodName)) ∈ TB := List.mem_filter.mpr ⟨List.mem_of_getElem? (i := 422) (by decide +kernel), by decide +kernel⟩
theorem kw_423 : (Jvm.Cond.instanceMethod ({ cls := "ShardRows", name := "draw", desc := "(IJ)I" } : Jvm.MethodName)) ∈ TB := List.mem_filter.mpr ⟨List.mem_of_getElem? (i := 423) (by decide +kernel), by decide +kernel⟩
theorem kw_424 : (Jvm.Cond.selects "ShardRows" ({ cls := "ShardRows", name := "draw", desc := "(IJ)I" } : Jvm.MethodName) ({ cls := "ShardRows", name := "draw", desc := "(IJ)I" } : Jvm.MethodName)) ∈ TB := List.mem_filter.mpr ⟨List.mem_of_getElem? (i := 424) (by decide +kernel), by decide +kernel⟩
theorem kw_425 : (Jvm.Cond.code ({ cls := "ShardRows", name := "draw", desc := "(IJ)I" } : Jvm.MethodName) prog_1_method_13_code (4 : Nat) (Option.some Jvm.ClassFile.FieldType.int)) ∈ TB := List.mem_filter.mpr ⟨List.mem_of_getElem? (i := 425) (by decide +kernel), by decide +kernel⟩
theorem kw_426 : (Jvm.Cond.methodLink "ShardRows" (131 : Nat) ({ cls := "ShardRows$DrawRow", name := "gather", desc := "(LShardRows$SplitRows;I)V" } : Jvm.MethodName)) ∈ TB := List.mem_filter.mpr ⟨List.mem_of_getElem? (i := 426) (by decide +kernel), by decide +kernel⟩
theorem kw_427 : (Jvm.Cond.instanceMethod ({ cls := "ShardRows$DrawRow", name := "gather", desc := "(LShardRows$SplitRows;I)V" } : Jvm.MethodName)) ∈ TB := List.mem_filter.mpr ⟨List.mem_of_getElem? (i := 427) (by decide +kernel), by decide +kernel⟩
theorem kw_428 : (Jvm.Cond.selects "ShardRows$DrawRow" ({ cls := "ShardRows$DrawRow", name := "gather", desc := "(LShardRows$SplitRows;I)V" } : Jvm.MethodName) ({ cls := "ShardRows$DrawRow", name := "gather", desc := "(LShardRows$SplitRows;I)V" } : Jvm.MethodName)) ∈ TB := List.mem_filter.mpr ⟨List.mem_of_getElem? (i := 428) (by decide +kernel), by decide +kernel⟩
theorem kw_429 : (Jvm.Cond.code ({ cls := "ShardRows$DrawRow", name := "gather", desc := "(LShardRows$SplitRows;I)V" } : Jvm.MethodName) prog_2_method_3_code (4 : Nat) (Option.none : Option Jvm.ClassFile.FieldType)) ∈ TB := List.mem_filter.mpr ⟨List.mem_of_getElem? (i := 429) (by decide +kernel), by decide +kernel⟩
theorem kw_430 : (Jvm.Cond.methodLink "ShardRows$DrawRow" (19 : Nat) ({ cls := "ShardRows$SplitRows", name := "shardAt", desc := "(I)I" } : Jvm.MethodName)) ∈ TB := List.mem_filter.mpr ⟨List.mem_of_getElem? (i := 430) (by decide +kernel), by decide +kernel⟩
theorem kw_431 : (Jvm.Cond.methodLink "ShardRows" (134 : Nat) ({ cls := "ShardRows$DrawRow", name := "shuffle", desc := "(J)V" } : Jvm.MethodName)) ∈ TB := List.mem_filter.mpr ⟨List.mem_of_getElem? (i := 431) (by decide +kernel), by decide +kernel⟩
theorem kw_432 : (Jvm.Cond.instanceMethod ({ cls := "ShardRows$DrawRow", name := "shuffle", desc := "(J)V" } : Jvm.MethodName)) ∈ TB := List.mem_filter.mpr ⟨List.mem_of_getElem? (i := 432) (by decide +kernel), by decide +kernel⟩
theorem kw_433 : (Jvm.Cond.selects "ShardRows$DrawRow" ({ cls := "ShardRows$DrawRow", name := "shuffle", desc := "(J)V" } : Jvm.MethodName) ({ cls := "ShardRows$DrawRow", name := "shuffle", desc := "(J)V" } : Jvm.MethodName)) ∈ TB := List.mem_filter.mpr ⟨List.mem_of_getElem? (i := 433) (by decide +kernel), by decide +kernel⟩
theorem kw_434 : (Jvm.Cond.code ({ cls := "ShardRows$DrawRow", name := "shuffle", desc := "(J)V" } : Jvm.MethodName) prog_2_method_4_code (8 : Nat) (Option.none : Option Jvm.ClassFile.FieldType)) ∈ TB := List.mem_filter.mpr ⟨List.mem_of_getElem? (i := 434) (by decide +kernel), by decide +kernel⟩
theorem kw_435 : (Jvm.Cond.constantLong "ShardRows$DrawRow" (25 : Nat) (6364136223846793005 : Int64)) ∈ TB := List.mem_filter.mpr ⟨List.mem_of_getElem? (i := 435) (by decide +kernel), by decide +kernel⟩
theorem kw_436 : (Jvm.Cond.constantLong "ShardRows$DrawRow" (27 : Nat) (1442695040888963407 : Int64)) ∈ TB := List.mem_filter.mpr ⟨List.mem_of_getElem? (i := 436) (by decide +kernel), by decide +kernel⟩
theorem kw_437 : (Jvm.Cond.methodLink "ShardRowsLaw" (76 : Nat) ({ cls := "ShardRows", name := "drawn", desc := "(I)I" } : Jvm.MethodName)) ∈ TB := List.mem_filter.mpr ⟨List.mem_of_getElem? (i := 437) (by decide +kernel), by decide +kernel⟩
theorem kw_438 : (Jvm.Cond.instanceMethod ({ cls := "ShardRows", name := "drawn", desc := "(I)I" } : Jvm.MethodName)) ∈ TB := List.mem_filter.mpr ⟨List.mem_of_getElem? (i := 438) (by decide +kernel), by decide +kernel⟩
theorem kw_439 : (Jvm.Cond.selects "ShardRows" ({ cls := "ShardRows", name := "drawn", desc := "(I)I" } : Jvm.MethodName) ({ cls := "ShardRows", name := "drawn", desc := "(I)I" } : Jvm.MethodName)) ∈ TB := List.mem_filter.mpr ⟨List.mem_of_getElem? (i := 439) (by decide +kernel), by decide +kernel⟩
theorem kw_440 : (Jvm.Cond.code ({ cls := "ShardRows", name := "drawn", desc := "(I)I" } : Jvm.MethodName) prog_1_method_14_code (2 : Nat) (Option.some Jvm.ClassFile.FieldType.int)) ∈ TB := List.mem_filter.mpr ⟨List.mem_of_getElem? (i := 440) (by decide +kernel), by decide +kernel⟩
theorem kw_441 : (Jvm.Cond.methodLink "ShardRows" (139 : Nat) ({ cls := "ShardRows$DrawRow", name := "at", desc := "(I)I" } : Jvm.MethodName)) ∈ TB := List.mem_filter.mpr ⟨List.mem_of_getElem? (i := 441) (by decide +kernel), by decide +kernel⟩
theorem kw_442 : (Jvm.Cond.instanceMethod ({ cls := "ShardRows$DrawRow", name := "at", desc := "(I)I" } : Jvm.MethodName)) ∈ TB := List.mem_filter.mpr ⟨List.mem_of_getElem? (i := 442) (by decide +kernel), by decide +kernel⟩
theorem kw_443 : (Jvm.Cond.selects "ShardRows$DrawRow" ({ cls := "ShardRows$DrawRow", name := "at", desc := "(I)I" } : Jvm.MethodName) ({ cls := "ShardRows$DrawRow", name := "at", desc := "(I)I" } : Jvm.MethodName)) ∈ TB := List.mem_filter.mpr ⟨List.mem_of_getElem? (i := 443) (by decide +kernel), by decide +kernel⟩
theorem kw_444 : (Jvm.Cond.code ({ cls := "ShardRows$DrawRow", name := "at", desc := "(I)I" } : Jvm.MethodName) prog_2_method_2_code (2 : Nat) (Option.some Jvm.ClassFile.FieldType.int)) ∈ TB := List.mem_filter.mpr ⟨List.mem_of_getElem? (i := 444) (by decide +kernel), by decide +kernel⟩
theorem kw_445 : (Jvm.Cond.methodLink "ShardRowsLaw" (80 : Nat) ({ cls := "ShardRows", name := "result", desc := "(III)I" } : Jvm.MethodName)) ∈ TB := List.mem_filter.mpr ⟨List.mem_of_getElem? (i := 445) (by decide +kernel), by decide +kernel⟩
theorem kw_446 : (Jvm.Cond.instanceMethod ({ cls := "ShardRows", name := "result", desc := "(III)I" } : Jvm.MethodName)) ∈ TB := List.mem_filter.mpr ⟨List.mem_of_getElem? (i := 446) (by decide +kernel), by decide +kernel⟩
theorem kw_447 : (Jvm.Cond.selects "ShardRows" ({ cls := "ShardRows", name := "result", desc := "(III)I" } : Jvm.MethodName) ({ cls := "ShardRows", name := "result", desc := "(III)I" } : Jvm.MethodName)) ∈ TB := List.mem_filter.mpr ⟨List.mem_of_getElem? (i := 447) (by decide +kernel), by decide +kernel⟩
theorem kw_448 : (Jvm.Cond.code ({ cls := "ShardRows", name := "result", desc := "(III)I" } : Jvm.MethodName) prog_1_method_15_code (5 : Nat) (Option.some Jvm.ClassFile.FieldType.int)) ∈ TB := List.mem_filter.mpr ⟨List.mem_of_getElem? (i := 448) (by decide +kernel), by decide +kernel⟩
theorem kw_449 : (Jvm.Cond.methodLink "ShardRows" (145 : Nat) ({ cls := "ShardRows$ResultRows", name := "put", desc := "(II)Z" } : Jvm.MethodName)) ∈ TB := List.mem_filter.mpr ⟨List.mem_of_getElem? (i := 449) (by decide +kernel), by decide +kernel⟩
theorem kw_450 : (Jvm.Cond.instanceMethod ({ cls := "ShardRows$ResultRows", name := "put", desc := "(II)Z" } : Jvm.MethodName)) ∈ TB := List.mem_filter.mpr ⟨List.mem_of_getElem? (i := 450) (by decide +kernel), by decide +kernel⟩
theorem kw_451 : (Jvm.Cond.selects "ShardRows$ResultRows" ({ cls := "ShardRows$ResultRows", name := "put", desc := "(II)Z" } : Jvm.MethodName) ({ cls := "ShardRows$ResultRows", name := "put", desc := "(II)Z" } : Jvm.MethodName)) ∈ TB := List.mem_filter.mpr ⟨List.mem_of_getElem? (i := 451) (by decide +kernel), by decide +kernel⟩
theorem kw_452 : (Jvm.Cond.code ({ cls := "ShardRows$ResultRows", name := "put", desc := "(II)Z" } : Jvm.MethodName) prog_5_method_4_code (3 : Nat) (Option.some Jvm.ClassFile.FieldType.boolean)) ∈ TB := List.mem_filter.mpr ⟨List.mem_of_getElem? (i := 452) (by decide +kernel), by decide +kernel⟩
theorem kw_454 : (Jvm.Cond.methodLink "ShardRowsLaw" (85 : Nat) ({ cls := "ShardRows", name := "again", desc := "(I)Z" } : Jvm.MethodName)) ∈ TB := List.mem_filter.mpr ⟨List.mem_of_getElem? (i := 454) (by decide +kernel), by decide +kernel⟩
theorem kw_455 : (Jvm.Cond.instanceMethod ({ cls := "ShardRows", name := "again", desc := "(I)Z" } : Jvm.MethodName)) ∈ TB := List.mem_filter.mpr ⟨List.mem_of_getElem? (i := 455) (by decide +kernel), by decide +kernel⟩
theorem kw_456 : (Jvm.Cond.selects "ShardRows" ({ cls := "ShardRows", name := "again", desc := "(I)Z" } : Jvm.MethodName) ({ cls := "ShardRows", name := "again", desc := "(I)Z" } : Jvm.MethodName)) ∈ TB := List.mem_filter.mpr ⟨List.mem_of_getElem? (i := 456) (by decide +kernel), by decide +kernel⟩
theorem kw_457 : (Jvm.Cond.code ({ cls := "ShardRows", name := "again", desc := "(I)Z" } : Jvm.MethodName) prog_1_method_16_code (2 : Nat) (Option.some Jvm.ClassFile.FieldType.boolean)) ∈ TB := List.mem_filter.mpr ⟨List.mem_of_getElem? (i := 457) (by decide +kernel), by decide +kernel⟩
theorem kw_458 : (Jvm.Cond.methodLink "ShardRows" (148 : Nat) ({ cls := "ShardRows$ResultRows", name := "dropBad", desc := "(I)Z" } : Jvm.MethodName)) ∈ TB := List.mem_filter.mpr ⟨List.mem_of_getElem? (i := 458) (by decide +kernel), by decide +kernel⟩
theorem kw_459 : (Jvm.Cond.instanceMethod ({ cls := "ShardRows$ResultRows", name := "dropBad", desc := "(I)Z" } : Jvm.MethodName)) ∈ TB := List.mem_filter.mpr ⟨List.mem_of_getElem? (i := 459) (by decide +kernel), by decide +kernel⟩
theorem kw_460 : (Jvm.Cond.selects "ShardRows$ResultRows" ({ cls := "ShardRows$ResultRows", name := "dropBad", desc := "(I)Z" } : Jvm.MethodName) ({ cls := "ShardRows$ResultRows", name := "dropBad", desc := "(I)Z" } : Jvm.MethodName)) ∈ TB := List.mem_filter.mpr ⟨List.mem_of_getElem? (i := 460) (by decide +kernel), by decide +kernel⟩
theorem kw_461 : (Jvm.Cond.code ({ cls := "ShardRows$ResultRows", name := "dropBad", desc := "(I)Z" } : Jvm.MethodName) prog_5_method_5_code (2 : Nat) (Option.some Jvm.ClassFile.FieldType.boolean)) ∈ TB := List.mem_filter.mpr ⟨List.mem_of_getElem? (i := 461) (by decide +kernel), by decide +kernel⟩
theorem kw_462 : (Jvm.Cond.methodLink "ShardRows$ResultRows" (36 : Nat) ({ cls := "ShardRows$ResultRows", name := "isBad", desc := "(I)Z" } : Jvm.MethodName)) ∈ TB := List.mem_filter.mpr ⟨List.mem_of_getElem? (i := 462) (by decide +kernel), by decide +kernel⟩
theorem kw_464 : (Jvm.Cond.instanceMethod ({ cls := "ShardRows$ResultRows", name := "isBad", desc := "(I)Z" } : Jvm.MethodName)) ∈ TB := List.mem_filter.mpr ⟨List.mem_of_getElem? (i := 464) (by decide +kernel), by decide +kernel⟩
theorem kw_465 : (Jvm.Cond.code ({ cls := "ShardRows$ResultRows", name := "isBad", desc := "(I)Z" } : Jvm.MethodName) prog_5_method_8_code (2 : Nat) (Option.some Jvm.ClassFile.FieldType.boolean)) ∈ TB := List.mem_filter.mpr ⟨List.mem_of_getElem? (i := 465) (by decide +kernel), by decide +kernel⟩
theorem kw_466 : (Jvm.Cond.methodLink "ShardRows$ResultRows" (39 : Nat) ({ cls := "ShardRows$ResultRows", name := "has", desc := "(I)Z" } : Jvm.MethodName)) ∈ TB := List.mem_filter.mpr ⟨List.mem_of_getElem? (i := 466) (by decide +kernel), by decide +kernel⟩
theorem kw_467 : (Jvm.Cond.instanceMethod ({ cls := "ShardRows$ResultRows", name := "has", desc := "(I)Z" } : Jvm.MethodName)) ∈ TB := List.mem_filter.mpr ⟨List.mem_of_getElem? (i := 467) (by decide +kernel), by decide +kernel⟩
theorem kw_468 : (Jvm.Cond.selects "ShardRows$ResultRows" ({ cls := "ShardRows$ResultRows", name := "has", desc := "(I)Z" } : Jvm.MethodName) ({ cls := "ShardRows$ResultRows", name := "has", desc := "(I)Z" } : Jvm.MethodName)) ∈ TB := List.mem_filter.mpr ⟨List.mem_of_getElem? (i := 468) (by decide +kernel), by decide +kernel⟩
theorem kw_469 : (Jvm.Cond.code ({ cls := "ShardRows$ResultRows", name := "has", desc := "(I)Z" } : Jvm.MethodName) prog_5_method_3_code (2 : Nat) (Option.some Jvm.ClassFile.FieldType.boolean)) ∈ TB := List.mem_filter.mpr ⟨List.mem_of_getElem? (i := 469) (by decide +kernel), by decide +kernel⟩
theorem kw_470 : (Jvm.Cond.methodLink "ShardRowsLaw" (89 : Nat) ({ cls := "ShardRows", name := "strange", desc := "()I" } : Jvm.MethodName)) ∈ TB := List.mem_filter.mpr ⟨List.mem_of_getElem? (i := 470) (by decide +kernel), by decide +kernel⟩
theorem kw_471 : (Jvm.Cond.instanceMethod ({ cls := "ShardRows", name := "strange", desc := "()I" } : Jvm.MethodName)) ∈ TB := List.mem_filter.mpr ⟨List.mem_of_getElem? (i := 471) (by decide +kernel), by decide +kernel⟩
theorem kw_472 : (Jvm.Cond.selects "ShardRows" ({ cls := "ShardRows", name := "strange", desc := "()I" } : Jvm.MethodName) ({ cls := "ShardRows", name := "strange", desc := "()I" } : Jvm.MethodName)) ∈ TB := List.mem_filter.mpr ⟨List.mem_of_getElem? (i := 472) (by decide +kernel), by decide +kernel⟩
theorem kw_473 : (Jvm.Cond.code ({ cls := "ShardRows", name := "strange", desc := "()I" } : Jvm.MethodName) prog_1_method_17_code (1 : Nat) (Option.some Jvm.ClassFile.FieldType.int)) ∈ TB := List.mem_filter.mpr ⟨List.mem_of_getElem? (i := 473) (by decide +kernel), by decide +kernel⟩
theorem kw_474 : (Jvm.Cond.methodLink "ShardRowsLaw" (93 : Nat) ({ cls := "ShardRows", name := "missing", desc := "(I)I" } : Jvm.MethodName)) ∈ TB := List.mem_filter.mpr ⟨List.mem_of_getElem? (i := 474) (by decide +kernel), by decide +kernel⟩
theorem kw_475 : (Jvm.Cond.instanceMethod ({ cls := "ShardRows", name := "missing", desc := "(I)I" } : Jvm.MethodName)) ∈ TB := List.mem_filter.mpr ⟨List.mem_of_getElem? (i := 475) (by decide +kernel), by decide +kernel⟩
theorem kw_476 : (Jvm.Cond.selects "ShardRows" ({ cls := "ShardRows", name := "missing", desc := "(I)I" } : Jvm.MethodName) ({ cls := "ShardRows", name := "missing", desc := "(I)I" } : Jvm.MethodName)) ∈ TB := List.mem_filter.mpr ⟨List.mem_of_getElem? (i := 476) (by decide +kernel), by decide +kernel⟩
theorem kw_477 : (Jvm.Cond.code ({ cls := "ShardRows", name := "missing", desc := "(I)I" } : Jvm.MethodName) prog_1_method_18_code (4 : Nat) (Option.some Jvm.ClassFile.FieldType.int)) ∈ TB := List.mem_filter.mpr ⟨List.mem_of_getElem? (i := 477) (by decide +kernel), by decide +kernel⟩
theorem kw_478 : (Jvm.Cond.methodLink "ShardRows" (151 : Nat) ({ cls := "ShardRows", name := "isMissing", desc := "(I)Z" } : Jvm.MethodName)) ∈ TB := List.mem_filter.mpr ⟨List.mem_of_getElem? (i := 478) (by decide +kernel), by decide +kernel⟩
theorem kw_480 : (Jvm.Cond.instanceMethod ({ cls := "ShardRows", name := "isMissing", desc := "(I)Z" } : Jvm.MethodName)) ∈ TB := List.mem_filter.mpr ⟨List.mem_of_getElem? (i := 480) (by decide +kernel), by decide +kernel⟩
theorem kw_481 : (Jvm.Cond.code ({ cls := "ShardRows", name := "isMissing", desc := "(I)Z" } : Jvm.MethodName) prog_1_method_21_code (2 : Nat) (Option.some Jvm.ClassFile.FieldType.boolean)) ∈ TB := List.mem_filter.mpr ⟨List.mem_of_getElem? (i := 481) (by decide +kernel), by decide +kernel⟩
theorem kw_482 : (Jvm.Cond.methodLink "ShardRows" (164 : Nat) ({ cls := "ShardRows$ResultRows", name := "has", desc := "(I)Z" } : Jvm.MethodName)) ∈ TB := List.mem_filter.mpr ⟨List.mem_of_getElem? (i := 482) (by decide +kernel), by decide +kernel⟩
theorem kw_483 : (Jvm.Cond.methodLink "ShardRowsLaw" (97 : Nat) ({ cls := "ShardRows", name := "verdict", desc := "()I" } : Jvm.MethodName)) ∈ TB := List.mem_filter.mpr ⟨List.mem_of_getElem? (i := 483) (by decide +kernel), by decide +kernel⟩
theorem kw_484 : (Jvm.Cond.instanceMethod ({ cls := "ShardRows", name := "verdict", desc := "()I" } : Jvm.MethodName)) ∈ TB := List.mem_filter.mpr ⟨List.mem_of_getElem? (i := 484) (by decide +kernel), by decide +kernel⟩
theorem kw_485 : (Jvm.Cond.selects "ShardRows" ({ cls := "ShardRows", name := "verdict", desc := "()I" } : Jvm.MethodName) ({ cls := "ShardRows", name := "verdict", desc := "()I" } : Jvm.MethodName)) ∈ TB := List.mem_filter.mpr ⟨List.mem_of_getElem? (i := 485) (by decide +kernel), by decide +kernel⟩
theorem kw_486 : (Jvm.Cond.code ({ cls := "ShardRows", name := "verdict", desc := "()I" } : Jvm.MethodName) prog_1_method_19_code (1 : Nat) (Option.some Jvm.ClassFile.FieldType.int)) ∈ TB := List.mem_filter.mpr ⟨List.mem_of_getElem? (i := 486) (by decide +kernel), by decide +kernel⟩
theorem kw_487 : (Jvm.Cond.methodLink "ShardRows" (154 : Nat) ({ cls := "ShardRows", name := "missing", desc := "(I)I" } : Jvm.MethodName)) ∈ TB := List.mem_filter.mpr ⟨List.mem_of_getElem? (i := 487) (by decide +kernel), by decide +kernel⟩
theorem kw_488 : (Jvm.Cond.methodLink "ShardRows" (157 : Nat) ({ cls := "ShardRows$ResultRows", name := "anyBad", desc := "()Z" } : Jvm.MethodName)) ∈ TB := List.mem_filter.mpr ⟨List.mem_of_getElem? (i := 488) (by decide +kernel), by decide +kernel⟩
theorem kw_489 : (Jvm.Cond.instanceMethod ({ cls := "ShardRows$ResultRows", name := "anyBad", desc := "()Z" } : Jvm.MethodName)) ∈ TB := List.mem_filter.mpr ⟨List.mem_of_getElem? (i := 489) (by decide +kernel), by decide +kernel⟩
theorem kw_490 : (Jvm.Cond.selects "ShardRows$ResultRows" ({ cls := "ShardRows$ResultRows", name := "anyBad", desc := "()Z" } : Jvm.MethodName) ({ cls := "ShardRows$ResultRows", name := "anyBad", desc := "()Z" } : Jvm.MethodName)) ∈ TB := List.mem_filter.mpr ⟨List.mem_of_getElem? (i := 490) (by decide +kernel), by decide +kernel⟩
theorem kw_491 : (Jvm.Cond.code ({ cls := "ShardRows$ResultRows", name := "anyBad", desc := "()Z" } : Jvm.MethodName) prog_5_method_6_code (2 : Nat) (Option.some Jvm.ClassFile.FieldType.boolean)) ∈ TB := List.mem_filter.mpr ⟨List.mem_of_getElem? (i := 491) (by decide +kernel), by decide +kernel⟩
theorem kw_492 : (Jvm.Cond.methodLink "ShardRowsLaw" (101 : Nat) ({ cls := "ShardRows", name := "tries", desc := "(I)I" } : Jvm.MethodName)) ∈ TB := List.mem_filter.mpr ⟨List.mem_of_getElem? (i := 492) (by decide +kernel), by decide +kernel⟩
theorem kw_493 : (Jvm.Cond.instanceMethod ({ cls := "ShardRows", name := "tries", desc := "(I)I" } : Jvm.MethodName)) ∈ TB := List.mem_filter.mpr ⟨List.mem_of_getElem? (i := 493) (by decide +kernel), by decide +kernel⟩
theorem kw_494 : (Jvm.Cond.selects "ShardRows" ({ cls := "ShardRows", name := "tries", desc := "(I)I" } : Jvm.MethodName) ({ cls := "ShardRows", name := "tries", desc := "(I)I" } : Jvm.MethodName)) ∈ TB := List.mem_filter.mpr ⟨List.mem_of_getElem? (i := 494) (by decide +kernel), by decide +kernel⟩
theorem kw_495 : (Jvm.Cond.code ({ cls := "ShardRows", name := "tries", desc := "(I)I" } : Jvm.MethodName) prog_1_method_20_code (2 : Nat) (Option.some Jvm.ClassFile.FieldType.int)) ∈ TB := List.mem_filter.mpr ⟨List.mem_of_getElem? (i := 495) (by decide +kernel), by decide +kernel⟩
theorem kw_496 : (Jvm.Cond.methodLink "ShardRows" (161 : Nat) ({ cls := "ShardRows$ResultRows", name := "triesOf", desc := "(I)I" } : Jvm.MethodName)) ∈ TB := List.mem_filter.mpr ⟨List.mem_of_getElem? (i := 496) (by decide +kernel), by decide +kernel⟩
theorem kw_497 : (Jvm.Cond.instanceMethod ({ cls := "ShardRows$ResultRows", name := "triesOf", desc := "(I)I" } : Jvm.MethodName)) ∈ TB := List.mem_filter.mpr ⟨List.mem_of_getElem? (i := 497) (by decide +kernel), by decide +kernel⟩
theorem kw_498 : (Jvm.Cond.selects "ShardRows$ResultRows" ({ cls := "ShardRows$ResultRows", name := "triesOf", desc := "(I)I" } : Jvm.MethodName) ({ cls := "ShardRows$ResultRows", name := "triesOf", desc := "(I)I" } : Jvm.MethodName)) ∈ TB := List.mem_filter.mpr ⟨List.mem_of_getElem? (i := 498) (by decide +kernel), by decide +kernel⟩
theorem kw_499 : (Jvm.Cond.code ({ cls := "ShardRows$ResultRows", name := "triesOf", desc := "(I)I" } : Jvm.MethodName) prog_5_method_7_code (2 : Nat) (Option.some Jvm.ClassFile.FieldType.int)) ∈ TB := List.mem_filter.mpr ⟨List.mem_of_getElem? (i := 499) (by decide +kernel), by decide +kernel⟩
theorem kw_500 : (Jvm.Cond.methodLink "ShardRowsLaw" (9 : Nat) ({ cls := "ShardRowsLaw", name := "cell", desc := "([II)I" } : Jvm.MethodName)) ∈ TB := List.mem_filter.mpr ⟨List.mem_of_getElem? (i := 500) (by decide +kernel), by decide +kernel⟩
theorem kw_501 : (Jvm.Cond.static ({ cls := "ShardRowsLaw", name := "cell", desc := "([II)I" } : Jvm.MethodName)) ∈ TB := List.mem_filter.mpr ⟨List.mem_of_getElem? (i := 501) (by decide +kernel), by decide +kernel⟩
theorem kw_502 : (Jvm.Cond.code ({ cls := "ShardRowsLaw", name := "cell", desc := "([II)I" } : Jvm.MethodName) method_2_code (2 : Nat) (Option.some Jvm.ClassFile.FieldType.int)) ∈ TB := List.mem_filter.mpr ⟨List.mem_of_getElem? (i := 502) (by decide +kernel), by decide +kernel⟩
theorem kw_503 : (Jvm.Cond.classLink "ShardRowsLaw" (18 : Nat) "ShardRowsModel") ∈ TB := List.mem_filter.mpr ⟨List.mem_of_getElem? (i := 503) (by decide +kernel), by decide +kernel⟩
theorem kw_504 : (Jvm.Cond.instantiable "ShardRowsModel" (24 : Nat)) ∈ TB := List.mem_filter.mpr ⟨List.mem_of_getElem? (i := 504) (by decide +kernel), by decide +kernel⟩
theorem kw_505 : (Jvm.Cond.methodLink "ShardRowsLaw" (20 : Nat) ({ cls := "ShardRowsModel", name := "<init>", desc := "(I)V" } : Jvm.MethodName)) ∈ TB := List.mem_filter.mpr ⟨List.mem_of_getElem? (i := 505) (by decide +kernel), by decide +kernel⟩
theorem kw_506 : (Jvm.Cond.instanceMethod ({ cls := "ShardRowsModel", name := "<init>", desc := "(I)V" } : Jvm.MethodName)) ∈ TB := List.mem_filter.mpr ⟨List.mem_of_getElem? (i := 506) (by decide +kernel), by decide +kernel⟩
theorem kw_507 : (Jvm.Cond.code ({ cls := "ShardRowsModel", name := "<init>", desc := "(I)V" } : Jvm.MethodName) prog_10_method_1_code (3 : Nat) (Option.none : Option Jvm.ClassFile.FieldType)) ∈ TB := List.mem_filter.mpr ⟨List.mem_of_getElem? (i := 507) (by decide +kernel), by decide +kernel⟩
theorem kw_508 : (Jvm.Cond.methodLink "ShardRowsModel" (1 : Nat) ({ cls := "java/lang/Object", name := "<init>", desc := "()V" } : Jvm.MethodName)) ∈ TB := List.mem_filter.mpr ⟨List.mem_of_getElem? (i := 508) (by decide +kernel), by decide +kernel⟩
theorem kw_509 : (Jvm.Cond.fieldLink "ShardRowsModel" (57 : Nat) "ShardRowsModel" "thrown" "I") ∈ TB := List.mem_filter.mpr ⟨List.mem_of_getElem? (i := 509) (by decide +kernel), by decide +kernel⟩
theorem kw_510 : (Jvm.Cond.fieldLink "ShardRowsModel" (53 : Nat) "ShardRowsModel" "k" "I") ∈ TB := List.mem_filter.mpr ⟨List.mem_of_getElem? (i := 510) (by decide +kernel), by decide +kernel⟩
theorem kw_511 : (Jvm.Cond.fieldLink "ShardRowsModel" (60 : Nat) "ShardRowsModel" "tests" "I") ∈ TB := List.mem_filter.mpr ⟨List.mem_of_getElem? (i := 511) (by decide +kernel), by decide +kernel⟩
theorem kw_512 : (Jvm.Cond.fieldLink "ShardRowsModel" (7 : Nat) "ShardRowsModel" "times" "[I") ∈ TB := List.mem_filter.mpr ⟨List.mem_of_getElem? (i := 512) (by decide +kernel), by decide +kernel⟩
theorem kw_513 : (Jvm.Cond.fieldLink "ShardRowsModel" (13 : Nat) "ShardRowsModel" "group" "[I") ∈ TB := List.mem_filter.mpr ⟨List.mem_of_getElem? (i := 513) (by decide +kernel), by decide +kernel⟩
theorem kw_514 : (Jvm.Cond.fieldLink "ShardRowsModel" (104 : Nat) "ShardRowsModel" "isSplit" "Z") ∈ TB := List.mem_filter.mpr ⟨List.mem_of_getElem? (i := 514) (by decide +kernel), by decide +kernel⟩
theorem kw_515 : (Jvm.Cond.fieldLink "ShardRowsModel" (108 : Nat) "ShardRowsModel" "many" "I") ∈ TB := List.mem_filter.mpr ⟨List.mem_of_getElem? (i := 515) (by decide +kernel), by decide +kernel⟩
theorem kw_516 : (Jvm.Cond.fieldLink "ShardRowsModel" (111 : Nat) "ShardRowsModel" "splitTests" "I") ∈ TB := List.mem_filter.mpr ⟨List.mem_of_getElem? (i := 516) (by decide +kernel), by decide +kernel⟩
theorem kw_517 : (Jvm.Cond.fieldLink "ShardRowsModel" (101 : Nat) "ShardRowsModel" "moved" "I") ∈ TB := List.mem_filter.mpr ⟨List.mem_of_getElem? (i := 517) (by decide +kernel), by decide +kernel⟩
theorem kw_518 : (Jvm.Cond.fieldLink "ShardRowsModel" (114 : Nat) "ShardRowsModel" "strange" "I") ∈ TB := List.mem_filter.mpr ⟨List.mem_of_getElem? (i := 518) (by decide +kernel), by decide +kernel⟩
theorem kw_519 : (Jvm.Cond.fieldLink "ShardRowsModel" (16 : Nat) "ShardRowsModel" "shard" "[I") ∈ TB := List.mem_filter.mpr ⟨List.mem_of_getElem? (i := 519) (by decide +kernel), by decide +kernel⟩
theorem kw_520 : (Jvm.Cond.fieldLink "ShardRowsModel" (19 : Nat) "ShardRowsModel" "sums" "[I") ∈ TB := List.mem_filter.mpr ⟨List.mem_of_getElem? (i := 520) (by decide +kernel), by decide +kernel⟩
theorem kw_521 : (Jvm.Cond.fieldLink "ShardRowsModel" (22 : Nat) "ShardRowsModel" "before" "[I") ∈ TB := List.mem_filter.mpr ⟨List.mem_of_getElem? (i := 521) (by decide +kernel), by decide +kernel⟩
theorem kw_522 : (Jvm.Cond.fieldLink "ShardRowsModel" (25 : Nat) "ShardRowsModel" "has" "[Z") ∈ TB := List.mem_filter.mpr ⟨List.mem_of_getElem? (i := 522) (by decide +kernel), by decide +kernel⟩
theorem kw_523 : (Jvm.Cond.fieldLink "ShardRowsModel" (29 : Nat) "ShardRowsModel" "good" "[Z") ∈ TB := List.mem_filter.mpr ⟨List.mem_of_getElem? (i := 523) (by decide +kernel), by decide +kernel⟩
theorem kw_524 : (Jvm.Cond.fieldLink "ShardRowsModel" (32 : Nat) "ShardRowsModel" "tries" "[I") ∈ TB := List.mem_filter.mpr ⟨List.mem_of_getElem? (i := 524) (by decide +kernel), by decide +kernel⟩
theorem kw_525 : (Jvm.Cond.fieldLink "ShardRowsModel" (35 : Nat) "ShardRowsModel" "drawn" "[I") ∈ TB := List.mem_filter.mpr ⟨List.mem_of_getElem? (i := 525) (by decide +kernel), by decide +kernel⟩
theorem kw_526 : (Jvm.Cond.fieldLink "ShardRowsModel" (127 : Nat) "ShardRowsModel" "drawnMany" "I") ∈ TB := List.mem_filter.mpr ⟨List.mem_of_getElem? (i := 526) (by decide +kernel), by decide +kernel⟩
theorem kw_527 : (Jvm.Cond.fieldLink "ShardRowsModel" (38 : Nat) "ShardRowsModel" "firsts" "[I") ∈ TB := List.mem_filter.mpr ⟨List.mem_of_getElem? (i := 527) (by decide +kernel), by decide +kernel⟩
theorem kw_528 : (Jvm.Cond.fieldLink "ShardRowsModel" (41 : Nat) "ShardRowsModel" "weights" "[I") ∈ TB := List.mem_filter.mpr ⟨List.mem_of_getElem? (i := 528) (by decide +kernel), by decide +kernel⟩
theorem kw_529 : (Jvm.Cond.fieldLink "ShardRowsModel" (44 : Nat) "ShardRowsModel" "way" "[I") ∈ TB := List.mem_filter.mpr ⟨List.mem_of_getElem? (i := 529) (by decide +kernel), by decide +kernel⟩
theorem kw_530 : (Jvm.Cond.fieldLink "ShardRowsModel" (47 : Nat) "ShardRowsModel" "best" "[I") ∈ TB := List.mem_filter.mpr ⟨List.mem_of_getElem? (i := 530) (by decide +kernel), by decide +kernel⟩
theorem kw_531 : (Jvm.Cond.fieldLink "ShardRowsModel" (50 : Nat) "ShardRowsModel" "taken" "[Z") ∈ TB := List.mem_filter.mpr ⟨List.mem_of_getElem? (i := 531) (by decide +kernel), by decide +kernel⟩
theorem kw_532 : (Jvm.Cond.fieldLink "ShardRowsModel" (75 : Nat) "ShardRowsModel" "groups" "I") ∈ TB := List.mem_filter.mpr ⟨List.mem_of_getElem? (i := 532) (by decide +kernel), by decide +kernel⟩
theorem kw_582 : (Jvm.Cond.methodLink "ShardRowsLaw" (25 : Nat) ({ cls := "ShardRowsModel", name := "test", desc := "(I)I" } : Jvm.MethodName)) ∈ TB := List.mem_filter.mpr ⟨List.mem_of_getElem? (i := 582) (by decide +kernel), by decide +kernel⟩
theorem kw_583 : (Jvm.Cond.instanceMethod ({ cls := "ShardRowsModel", name := "test", desc := "(I)I" } : Jvm.MethodName)) ∈ TB := List.mem_filter.mpr ⟨List.mem_of_getElem? (i := 583) (by decide +kernel), by decide +kernel⟩
theorem kw_584 : (Jvm.Cond.selects "ShardRowsModel" ({ cls := "ShardRowsModel", name := "test", desc := "(I)I" } : Jvm.MethodName) ({ cls := "ShardRowsModel", name := "test", desc := "(I)I" } : Jvm.MethodName)) ∈ TB := List.mem_filter.mpr ⟨List.mem_of_getElem? (i := 584) (by decide +kernel), by decide +kernel⟩
theorem kw_585 : (Jvm.Cond.code ({ cls := "ShardRowsModel", name := "test", desc := "(I)I" } : Jvm.MethodName) prog_10_method_5_code (2 : Nat) (Option.some Jvm.ClassFile.FieldType.int)) ∈ TB := List.mem_filter.mpr ⟨List.mem_of_getElem? (i := 585) (by decide +kernel), by decide +kernel⟩
theorem kw_586 : (Jvm.Cond.methodLink "ShardRowsModel" (64 : Nat) ({ cls := "ShardRowsModel", name := "isTime", desc := "(I)Z" } : Jvm.MethodName)) ∈ TB := List.mem_filter.mpr ⟨List.mem_of_getElem? (i := 586) (by decide +kernel), by decide +kernel⟩
theorem kw_587 : (Jvm.Cond.static ({ cls := "ShardRowsModel", name := "isTime", desc := "(I)Z" } : Jvm.MethodName)) ∈ TB := List.mem_filter.mpr ⟨List.mem_of_getElem? (i := 587) (by decide +kernel), by decide +kernel⟩
theorem kw_588 : (Jvm.Cond.code ({ cls := "ShardRowsModel", name := "isTime", desc := "(I)Z" } : Jvm.MethodName) prog_10_method_4_code (1 : Nat) (Option.some Jvm.ClassFile.FieldType.boolean)) ∈ TB := List.mem_filter.mpr ⟨List.mem_of_getElem? (i := 588) (by decide +kernel), by decide +kernel⟩
theorem kw_589 : (Jvm.Cond.constant "ShardRowsModel" (63 : Nat) (100000 : Int32)) ∈ TB := List.mem_filter.mpr ⟨List.mem_of_getElem? (i := 589) (by decide +kernel), by decide +kernel⟩
theorem kw_590 : (Jvm.Cond.methodLink "ShardRowsLaw" (30 : Nat) ({ cls := "ShardRowsModel", name := "time", desc := "(II)Z" } : Jvm.MethodName)) ∈ TB := List.mem_filter.mpr ⟨List.mem_of_getElem? (i := 590) (by decide +kernel), by decide +kernel⟩
theorem kw_591 : (Jvm.Cond.instanceMethod ({ cls := "ShardRowsModel", name := "time", desc := "(II)Z" } : Jvm.MethodName)) ∈ TB := List.mem_filter.mpr ⟨List.mem_of_getElem? (i := 591) (by decide +kernel), by decide +kernel⟩
theorem kw_592 : (Jvm.Cond.selects "ShardRowsModel" ({ cls := "ShardRowsModel", name := "time", desc := "(II)Z" } : Jvm.MethodName) ({ cls := "ShardRowsModel", name := "time", desc := "(II)Z" } : Jvm.MethodName)) ∈ TB := List.mem_filter.mpr ⟨List.mem_of_getElem? (i := 592) (by decide +kernel), by decide +kernel⟩
theorem kw_593 : (Jvm.Cond.code ({ cls := "ShardRowsModel", name := "time", desc := "(II)Z" } : Jvm.MethodName) prog_10_method_6_code (3 : Nat) (Option.some Jvm.ClassFile.FieldType.boolean)) ∈ TB := List.mem_filter.mpr ⟨List.mem_of_getElem? (i := 593) (by decide +kernel), by decide +kernel⟩
theorem kw_594 : (Jvm.Cond.methodLink "ShardRowsModel" (68 : Nat) ({ cls := "ShardRowsModel", name := "isTest", desc := "(I)Z" } : Jvm.MethodName)) ∈ TB := List.mem_filter.mpr ⟨List.mem_of_getElem? (i := 594) (by decide +kernel), by decide +kernel⟩
theorem kw_596 : (Jvm.Cond.instanceMethod ({ cls := "ShardRowsModel", name := "isTest", desc := "(I)Z" } : Jvm.MethodName)) ∈ TB := List.mem_filter.mpr ⟨List.mem_of_getElem? (i := 596) (by decide +kernel), by decide +kernel⟩
theorem kw_597 : (Jvm.Cond.code ({ cls := "ShardRowsModel", name := "isTest", desc := "(I)Z" } : Jvm.MethodName) prog_10_method_3_code (2 : Nat) (Option.some Jvm.ClassFile.FieldType.boolean)) ∈ TB := List.mem_filter.mpr ⟨List.mem_of_getElem? (i := 597) (by decide +kernel), by decide +kernel⟩
theorem kw_598 : (Jvm.Cond.methodLink "ShardRowsLaw" (34 : Nat) ({ cls := "ShardRowsModel", name := "join", desc := "(II)Z" } : Jvm.MethodName)) ∈ TB := List.mem_filter.mpr ⟨List.mem_of_getElem? (i := 598) (by decide +kernel), by decide +kernel⟩
theorem kw_599 : (Jvm.Cond.instanceMethod ({ cls := "ShardRowsModel", name := "join", desc := "(II)Z" } : Jvm.MethodName)) ∈ TB := List.mem_filter.mpr ⟨List.mem_of_getElem? (i := 599) (by decide +kernel), by decide +kernel⟩
theorem kw_600 : (Jvm.Cond.selects "ShardRowsModel" ({ cls := "ShardRowsModel", name := "join", desc := "(II)Z" } : Jvm.MethodName) ({ cls := "ShardRowsModel", name := "join", desc := "(II)Z" } : Jvm.MethodName)) ∈ TB := List.mem_filter.mpr ⟨List.mem_of_getElem? (i := 600) (by decide +kernel), by decide +kernel⟩
theorem kw_601 : (Jvm.Cond.code ({ cls := "ShardRowsModel", name := "join", desc := "(II)Z" } : Jvm.MethodName) prog_10_method_7_code (6 : Nat) (Option.some Jvm.ClassFile.FieldType.boolean)) ∈ TB := List.mem_filter.mpr ⟨List.mem_of_getElem? (i := 601) (by decide +kernel), by decide +kernel⟩
theorem kw_602 : (Jvm.Cond.methodLink "ShardRowsLaw" (39 : Nat) ({ cls := "ShardRowsModel", name := "shards", desc := "(I)Z" } : Jvm.MethodName)) ∈ TB := List.mem_filter.mpr ⟨List.mem_of_getElem? (i := 602) (by decide +kernel), by decide +kernel⟩
theorem kw_603 : (Jvm.Cond.instanceMethod ({ cls := "ShardRowsModel", name := "shards", desc := "(I)Z" } : Jvm.MethodName)) ∈ TB := List.mem_filter.mpr ⟨List.mem_of_getElem? (i := 603) (by decide +kernel), by decide +kernel⟩
theorem kw_604 : (Jvm.Cond.selects "ShardRowsModel" ({ cls := "ShardRowsModel", name := "shards", desc := "(I)Z" } : Jvm.MethodName) ({ cls := "ShardRowsModel", name := "shards", desc := "(I)Z" } : Jvm.MethodName)) ∈ TB := List.mem_filter.mpr ⟨List.mem_of_getElem? (i := 604) (by decide +kernel), by decide +kernel⟩
theorem kw_605 : (Jvm.Cond.code ({ cls := "ShardRowsModel", name := "shards", desc := "(I)Z" } : Jvm.MethodName) prog_10_method_8_code (2 : Nat) (Option.some Jvm.ClassFile.FieldType.boolean)) ∈ TB := List.mem_filter.mpr ⟨List.mem_of_getElem? (i := 605) (by decide +kernel), by decide +kernel⟩
theorem kw_606 : (Jvm.Cond.methodLink "ShardRowsLaw" (44 : Nat) ({ cls := "ShardRowsModel", name := "mean", desc := "()I" } : Jvm.MethodName)) ∈ TB := List.mem_filter.mpr ⟨List.mem_of_getElem? (i := 606) (by decide +kernel), by decide +kernel⟩
theorem kw_607 : (Jvm.Cond.instanceMethod ({ cls := "ShardRowsModel", name := "mean", desc := "()I" } : Jvm.MethodName)) ∈ TB := List.mem_filter.mpr ⟨List.mem_of_getElem? (i := 607) (by decide +kernel), by decide +kernel⟩
theorem kw_608 : (Jvm.Cond.selects "ShardRowsModel" ({ cls := "ShardRowsModel", name := "mean", desc := "()I" } : Jvm.MethodName) ({ cls := "ShardRowsModel", name := "mean", desc := "()I" } : Jvm.MethodName)) ∈ TB := List.mem_filter.mpr ⟨List.mem_of_getElem? (i := 608) (by decide +kernel), by decide +kernel⟩
theorem kw_609 : (Jvm.Cond.code ({ cls := "ShardRowsModel", name := "mean", desc := "()I" } : Jvm.MethodName) prog_10_method_9_code (4 : Nat) (Option.some Jvm.ClassFile.FieldType.int)) ∈ TB := List.mem_filter.mpr ⟨List.mem_of_getElem? (i := 609) (by decide +kernel), by decide +kernel⟩
theorem kw_610 : (Jvm.Cond.methodLink "ShardRowsLaw" (48 : Nat) ({ cls := "ShardRowsModel", name := "groups", desc := "()I" } : Jvm.MethodName)) ∈ TB := List.mem_filter.mpr ⟨List.mem_of_getElem? (i := 610) (by decide +kernel), by decide +kernel⟩
theorem kw_611 : (Jvm.Cond.instanceMethod ({ cls := "ShardRowsModel", name := "groups", desc := "()I" } : Jvm.MethodName)) ∈ TB := List.mem_filter.mpr ⟨List.mem_of_getElem? (i := 611) (by decide +kernel), by decide +kernel⟩
theorem kw_612 : (Jvm.Cond.selects "ShardRowsModel" ({ cls := "ShardRowsModel", name := "groups", desc := "()I" } : Jvm.MethodName) ({ cls := "ShardRowsModel", name := "groups", desc := "()I" } : Jvm.MethodName)) ∈ TB := List.mem_filter.mpr ⟨List.mem_of_getElem? (i := 612) (by decide +kernel), by decide +kernel⟩
theorem kw_613 : (Jvm.Cond.code ({ cls := "ShardRowsModel", name := "groups", desc := "()I" } : Jvm.MethodName) prog_10_method_10_code (3 : Nat) (Option.some Jvm.ClassFile.FieldType.int)) ∈ TB := List.mem_filter.mpr ⟨List.mem_of_getElem? (i := 613) (by decide +kernel), by decide +kernel⟩
theorem kw_614 : (Jvm.Cond.methodLink "ShardRowsLaw" (52 : Nat) ({ cls := "ShardRowsModel", name := "split", desc := "()I" } : Jvm.MethodName)) ∈ TB := List.mem_filter.mpr ⟨List.mem_of_getElem? (i := 614) (by decide +kernel), by decide +kernel⟩
theorem kw_615 : (Jvm.Cond.instanceMethod ({ cls := "ShardRowsModel", name := "split", desc := "()I" } : Jvm.MethodName)) ∈ TB := List.mem_filter.mpr ⟨List.mem_of_getElem? (i := 615) (by decide +kernel), by decide +kernel⟩
theorem kw_616 : (Jvm.Cond.selects "ShardRowsModel" ({ cls := "ShardRowsModel", name := "split", desc := "()I" } : Jvm.MethodName) ({ cls := "ShardRowsModel", name := "split", desc := "()I" } : Jvm.MethodName)) ∈ TB := List.mem_filter.mpr ⟨List.mem_of_getElem? (i := 616) (by decide +kernel), by decide +kernel⟩
theorem kw_617 : (Jvm.Cond.code ({ cls := "ShardRowsModel", name := "split", desc := "()I" } : Jvm.MethodName) prog_10_method_18_code (4 : Nat) (Option.some Jvm.ClassFile.FieldType.int)) ∈ TB := List.mem_filter.mpr ⟨List.mem_of_getElem? (i := 617) (by decide +kernel), by decide +kernel⟩
theorem kw_618 : (Jvm.Cond.methodLink "ShardRowsModel" (92 : Nat) ({ cls := "ShardRowsModel", name := "gathers", desc := "()V" } : Jvm.MethodName)) ∈ TB := List.mem_filter.mpr ⟨List.mem_of_getElem? (i := 618) (by decide +kernel), by decide +kernel⟩
theorem kw_620 : (Jvm.Cond.instanceMethod ({ cls := "ShardRowsModel", name := "gathers", desc := "()V" } : Jvm.MethodName)) ∈ TB := List.mem_filter.mpr ⟨List.mem_of_getElem? (i := 620) (by decide +kernel), by decide +kernel⟩
theorem kw_621 : (Jvm.Cond.code ({ cls := "ShardRowsModel", name := "gathers", desc := "()V" } : Jvm.MethodName) prog_10_method_11_code (4 : Nat) (Option.none : Option Jvm.ClassFile.FieldType)) ∈ TB := List.mem_filter.mpr ⟨List.mem_of_getElem? (i := 621) (by decide +kernel), by decide +kernel⟩
theorem kw_622 : (Jvm.Cond.methodLink "ShardRowsModel" (71 : Nat) ({ cls := "ShardRowsModel", name := "mean", desc := "()I" } : Jvm.MethodName)) ∈ TB := List.mem_filter.mpr ⟨List.mem_of_getElem? (i := 622) (by decide +kernel), by decide +kernel⟩
theorem kw_623 : (Jvm.Cond.methodLink "ShardRowsModel" (95 : Nat) ({ cls := "ShardRowsModel", name := "exact", desc := "()V" } : Jvm.MethodName)) ∈ TB := List.mem_filter.mpr ⟨List.mem_of_getElem? (i := 623) (by decide +kernel), by decide +kernel⟩
theorem kw_625 : (Jvm.Cond.instanceMethod ({ cls := "ShardRowsModel", name := "exact", desc := "()V" } : Jvm.MethodName)) ∈ TB := List.mem_filter.mpr ⟨List.mem_of_getElem? (i := 625) (by decide +kernel), by decide +kernel⟩
theorem kw_626 : (Jvm.Cond.code ({ cls := "ShardRowsModel", name := "exact", desc := "()V" } : Jvm.MethodName) prog_10_method_16_code (7 : Nat) (Option.none : Option Jvm.ClassFile.FieldType)) ∈ TB := List.mem_filter.mpr ⟨List.mem_of_getElem? (i := 626) (by decide +kernel), by decide +kernel⟩
theorem kw_627 : (Jvm.Cond.methodLink "ShardRowsModel" (82 : Nat) ({ cls := "ShardRowsModel", name := "length", desc := "()I" } : Jvm.MethodName)) ∈ TB := List.mem_filter.mpr ⟨List.mem_of_getElem? (i := 627) (by decide +kernel), by decide +kernel⟩
theorem kw_629 : (Jvm.Cond.instanceMethod ({ cls := "ShardRowsModel", name := "length", desc := "()I" } : Jvm.MethodName)) ∈ TB := List.mem_filter.mpr ⟨List.mem_of_getElem? (i := 629) (by decide +kernel), by decide +kernel⟩
theorem kw_630 : (Jvm.Cond.code ({ cls := "ShardRowsModel", name := "length", desc := "()I" } : Jvm.MethodName) prog_10_method_12_code (3 : Nat) (Option.some Jvm.ClassFile.FieldType.int)) ∈ TB := List.mem_filter.mpr ⟨List.mem_of_getElem? (i := 630) (by decide +kernel), by decide +kernel⟩
theorem kw_631 : (Jvm.Cond.methodLink "ShardRowsModel" (85 : Nat) ({ cls := "ShardRowsModel", name := "moves", desc := "()I" } : Jvm.MethodName)) ∈ TB := List.mem_filter.mpr ⟨List.mem_of_getElem? (i := 631) (by decide +kernel), by decide +kernel⟩
theorem kw_633 : (Jvm.Cond.instanceMethod ({ cls := "ShardRowsModel", name := "moves", desc := "()I" } : Jvm.MethodName)) ∈ TB := List.mem_filter.mpr ⟨List.mem_of_getElem? (i := 633) (by decide +kernel), by decide +kernel⟩
theorem kw_634 : (Jvm.Cond.code ({ cls := "ShardRowsModel", name := "moves", desc := "()I" } : Jvm.MethodName) prog_10_method_14_code (3 : Nat) (Option.some Jvm.ClassFile.FieldType.int)) ∈ TB := List.mem_filter.mpr ⟨List.mem_of_getElem? (i := 634) (by decide +kernel), by decide +kernel⟩
theorem kw_635 : (Jvm.Cond.methodLink "ShardRowsModel" (78 : Nat) ({ cls := "ShardRowsModel", name := "movesOf", desc := "(II)I" } : Jvm.MethodName)) ∈ TB := List.mem_filter.mpr ⟨List.mem_of_getElem? (i := 635) (by decide +kernel), by decide +kernel⟩
theorem kw_637 : (Jvm.Cond.instanceMethod ({ cls := "ShardRowsModel", name := "movesOf", desc := "(II)I" } : Jvm.MethodName)) ∈ TB := List.mem_filter.mpr ⟨List.mem_of_getElem? (i := 637) (by decide +kernel), by decide +kernel⟩
theorem kw_638 : (Jvm.Cond.code ({ cls := "ShardRowsModel", name := "movesOf", desc := "(II)I" } : Jvm.MethodName) prog_10_method_13_code (5 : Nat) (Option.some Jvm.ClassFile.FieldType.int)) ∈ TB := List.mem_filter.mpr ⟨List.mem_of_getElem? (i := 638) (by decide +kernel), by decide +kernel⟩
theorem kw_639 : (Jvm.Cond.methodLink "ShardRowsModel" (88 : Nat) ({ cls := "ShardRowsModel", name := "next", desc := "()Z" } : Jvm.MethodName)) ∈ TB := List.mem_filter.mpr ⟨List.mem_of_getElem? (i := 639) (by decide +kernel), by decide +kernel⟩
theorem kw_641 : (Jvm.Cond.instanceMethod ({ cls := "ShardRowsModel", name := "next", desc := "()Z" } : Jvm.MethodName)) ∈ TB := List.mem_filter.mpr ⟨List.mem_of_getElem? (i := 641) (by decide +kernel), by decide +kernel⟩
theorem kw_642 : (Jvm.Cond.code ({ cls := "ShardRowsModel", name := "next", desc := "()Z" } : Jvm.MethodName) prog_10_method_15_code (2 : Nat) (Option.some Jvm.ClassFile.FieldType.boolean)) ∈ TB := List.mem_filter.mpr ⟨List.mem_of_getElem? (i := 642) (by decide +kernel), by decide +kernel⟩
theorem kw_643 : (Jvm.Cond.methodLink "ShardRowsModel" (98 : Nat) ({ cls := "ShardRowsModel", name := "byTimes", desc := "()V" } : Jvm.MethodName)) ∈ TB := List.mem_filter.mpr ⟨List.mem_of_getElem? (i := 643) (by decide +kernel), by decide +kernel⟩
theorem kw_645 : (Jvm.Cond.instanceMethod ({ cls := "ShardRowsModel", name := "byTimes", desc := "()V" } : Jvm.MethodName)) ∈ TB := List.mem_filter.mpr ⟨List.mem_of_getElem? (i := 645) (by decide +kernel), by decide +kernel⟩
theorem kw_646 : (Jvm.Cond.code ({ cls := "ShardRowsModel", name := "byTimes", desc := "()V" } : Jvm.MethodName) prog_10_method_17_code (5 : Nat) (Option.none : Option Jvm.ClassFile.FieldType)) ∈ TB := List.mem_filter.mpr ⟨List.mem_of_getElem? (i := 646) (by decide +kernel), by decide +kernel⟩
theorem kw_647 : (Jvm.Cond.methodLink "ShardRowsLaw" (56 : Nat) ({ cls := "ShardRowsModel", name := "shard", desc := "(I)I" } : Jvm.MethodName)) ∈ TB := List.mem_filter.mpr ⟨List.mem_of_getElem? (i := 647) (by decide +kernel), by decide +kernel⟩
theorem kw_648 : (Jvm.Cond.instanceMethod ({ cls := "ShardRowsModel", name := "shard", desc := "(I)I" } : Jvm.MethodName)) ∈ TB := List.mem_filter.mpr ⟨List.mem_of_getElem? (i := 648) (by decide +kernel), by decide +kernel⟩
theorem kw_649 : (Jvm.Cond.selects "ShardRowsModel" ({ cls := "ShardRowsModel", name := "shard", desc := "(I)I" } : Jvm.MethodName) ({ cls := "ShardRowsModel", name := "shard", desc := "(I)I" } : Jvm.MethodName)) ∈ TB := List.mem_filter.mpr ⟨List.mem_of_getElem? (i := 649) (by decide +kernel), by decide +kernel⟩
theorem kw_650 : (Jvm.Cond.code ({ cls := "ShardRowsModel", name := "shard", desc := "(I)I" } : Jvm.MethodName) prog_10_method_21_code (2 : Nat) (Option.some Jvm.ClassFile.FieldType.int)) ∈ TB := List.mem_filter.mpr ⟨List.mem_of_getElem? (i := 650) (by decide +kernel), by decide +kernel⟩
theorem kw_651 : (Jvm.Cond.methodLink "ShardRowsModel" (117 : Nat) ({ cls := "ShardRowsModel", name := "isIn", desc := "(I)Z" } : Jvm.MethodName)) ∈ TB := List.mem_filter.mpr ⟨List.mem_of_getElem? (i := 651) (by decide +kernel), by decide +kernel⟩
theorem kw_653 : (Jvm.Cond.instanceMethod ({ cls := "ShardRowsModel", name := "isIn", desc := "(I)Z" } : Jvm.MethodName)) ∈ TB := List.mem_filter.mpr ⟨List.mem_of_getElem? (i := 653) (by decide +kernel), by decide +kernel⟩
theorem kw_654 : (Jvm.Cond.code ({ cls := "ShardRowsModel", name := "isIn", desc := "(I)Z" } : Jvm.MethodName) prog_10_method_20_code (2 : Nat) (Option.some Jvm.ClassFile.FieldType.boolean)) ∈ TB := List.mem_filter.mpr ⟨List.mem_of_getElem? (i := 654) (by decide +kernel), by decide +kernel⟩
theorem kw_655 : (Jvm.Cond.methodLink "ShardRowsLaw" (60 : Nat) ({ cls := "ShardRowsModel", name := "sum", desc := "(I)I" } : Jvm.MethodName)) ∈ TB := List.mem_filter.mpr ⟨List.mem_of_getElem? (i := 655) (by decide +kernel), by decide +kernel⟩
theorem kw_656 : (Jvm.Cond.instanceMethod ({ cls := "ShardRowsModel", name := "sum", desc := "(I)I" } : Jvm.MethodName)) ∈ TB := List.mem_filter.mpr ⟨List.mem_of_getElem? (i := 656) (by decide +kernel), by decide +kernel⟩
theorem kw_657 : (Jvm.Cond.selects "ShardRowsModel" ({ cls := "ShardRowsModel", name := "sum", desc := "(I)I" } : Jvm.MethodName) ({ cls := "ShardRowsModel", name := "sum", desc := "(I)I" } : Jvm.MethodName)) ∈ TB := List.mem_filter.mpr ⟨List.mem_of_getElem? (i := 657) (by decide +kernel), by decide +kernel⟩
theorem kw_658 : (Jvm.Cond.code ({ cls := "ShardRowsModel", name := "sum", desc := "(I)I" } : Jvm.MethodName) prog_10_method_22_code (2 : Nat) (Option.some Jvm.ClassFile.FieldType.int)) ∈ TB := List.mem_filter.mpr ⟨List.mem_of_getElem? (i := 658) (by decide +kernel), by decide +kernel⟩
theorem kw_659 : (Jvm.Cond.methodLink "ShardRowsModel" (120 : Nat) ({ cls := "ShardRowsModel", name := "isShard", desc := "(I)Z" } : Jvm.MethodName)) ∈ TB := List.mem_filter.mpr ⟨List.mem_of_getElem? (i := 659) (by decide +kernel), by decide +kernel⟩
theorem kw_661 : (Jvm.Cond.instanceMethod ({ cls := "ShardRowsModel", name := "isShard", desc := "(I)Z" } : Jvm.MethodName)) ∈ TB := List.mem_filter.mpr ⟨List.mem_of_getElem? (i := 661) (by decide +kernel), by decide +kernel⟩
theorem kw_662 : (Jvm.Cond.code ({ cls := "ShardRowsModel", name := "isShard", desc := "(I)Z" } : Jvm.MethodName) prog_10_method_19_code (2 : Nat) (Option.some Jvm.ClassFile.FieldType.boolean)) ∈ TB := List.mem_filter.mpr ⟨List.mem_of_getElem? (i := 662) (by decide +kernel), by decide +kernel⟩
theorem kw_663 : (Jvm.Cond.methodLink "ShardRowsLaw" (64 : Nat) ({ cls := "ShardRowsModel", name := "moved", desc := "()I" } : Jvm.MethodName)) ∈ TB := List.mem_filter.mpr ⟨List.mem_of_getElem? (i := 663) (by decide +kernel), by decide +kernel⟩
theorem kw_664 : (Jvm.Cond.instanceMethod ({ cls := "ShardRowsModel", name := "moved", desc := "()I" } : Jvm.MethodName)) ∈ TB := List.mem_filter.mpr ⟨List.mem_of_getElem? (i := 664) (by decide +kernel), by decide +kernel⟩
theorem kw_665 : (Jvm.Cond.selects "ShardRowsModel" ({ cls := "ShardRowsModel", name := "moved", desc := "()I" } : Jvm.MethodName) ({ cls := "ShardRowsModel", name := "moved", desc := "()I" } : Jvm.MethodName)) ∈ TB := List.mem_filter.mpr ⟨List.mem_of_getElem? (i := 665) (by decide +kernel), by decide +kernel⟩
theorem kw_666 : (Jvm.Cond.code ({ cls := "ShardRowsModel", name := "moved", desc := "()I" } : Jvm.MethodName) prog_10_method_23_code (1 : Nat) (Option.some Jvm.ClassFile.FieldType.int)) ∈ TB := List.mem_filter.mpr ⟨List.mem_of_getElem? (i := 666) (by decide +kernel), by decide +kernel⟩
theorem kw_667 : (Jvm.Cond.methodLink "ShardRowsLaw" (68 : Nat) ({ cls := "ShardRowsModel", name := "empty", desc := "(I)I" } : Jvm.MethodName)) ∈ TB := List.mem_filter.mpr ⟨List.mem_of_getElem? (i := 667) (by decide +kernel), by decide +kernel⟩
theorem kw_668 : (Jvm.Cond.instanceMethod ({ cls := "ShardRowsModel", name := "empty", desc := "(I)I" } : Jvm.MethodName)) ∈ TB := List.mem_filter.mpr ⟨List.mem_of_getElem? (i := 668) (by decide +kernel), by decide +kernel⟩
theorem kw_669 : (Jvm.Cond.selects "ShardRowsModel" ({ cls := "ShardRowsModel", name := "empty", desc := "(I)I" } : Jvm.MethodName) ({ cls := "ShardRowsModel", name := "empty", desc := "(I)I" } : Jvm.MethodName)) ∈ TB := List.mem_filter.mpr ⟨List.mem_of_getElem? (i := 669) (by decide +kernel), by decide +kernel⟩
theorem kw_670 : (Jvm.Cond.code ({ cls := "ShardRowsModel", name := "empty", desc := "(I)I" } : Jvm.MethodName) prog_10_method_25_code (4 : Nat) (Option.some Jvm.ClassFile.FieldType.int)) ∈ TB := List.mem_filter.mpr ⟨List.mem_of_getElem? (i := 670) (by decide +kernel), by decide +kernel⟩
theorem kw_671 : (Jvm.Cond.methodLink "ShardRowsModel" (123 : Nat) ({ cls := "ShardRowsModel", name := "testsOf", desc := "(I)I" } : Jvm.MethodName)) ∈ TB := List.mem_filter.mpr ⟨List.mem_of_getElem? (i := 671) (by decide +kernel), by decide +kernel⟩
theorem kw_673 : (Jvm.Cond.instanceMethod ({ cls := "ShardRowsModel", name := "testsOf", desc := "(I)I" } : Jvm.MethodName)) ∈ TB := List.mem_filter.mpr ⟨List.mem_of_getElem? (i := 673) (by decide +kernel), by decide +kernel⟩
theorem kw_674 : (Jvm.Cond.code ({ cls := "ShardRowsModel", name := "testsOf", desc := "(I)I" } : Jvm.MethodName) prog_10_method_24_code (4 : Nat) (Option.some Jvm.ClassFile.FieldType.int)) ∈ TB := List.mem_filter.mpr ⟨List.mem_of_getElem? (i := 674) (by decide +kernel), by decide +kernel⟩
theorem kw_675 : (Jvm.Cond.methodLink "ShardRowsLaw" (75 : Nat) ({ cls := "ShardRowsModel", name := "draw", desc := "(IJ)I" } : Jvm.MethodName)) ∈ TB := List.mem_filter.mpr ⟨List.mem_of_getElem? (i := 675) (by decide +kernel), by decide +kernel⟩
theorem kw_676 : (Jvm.Cond.instanceMethod ({ cls := "ShardRowsModel", name := "draw", desc := "(IJ)I" } : Jvm.MethodName)) ∈ TB := List.mem_filter.mpr ⟨List.mem_of_getElem? (i := 676) (by decide +kernel), by decide +kernel⟩
theorem kw_677 : (Jvm.Cond.selects "ShardRowsModel" ({ cls := "ShardRowsModel", name := "draw", desc := "(IJ)I" } : Jvm.MethodName) ({ cls := "ShardRowsModel", name := "draw", desc := "(IJ)I" } : Jvm.MethodName)) ∈ TB := List.mem_filter.mpr ⟨List.mem_of_getElem? (i := 677) (by decide +kernel), by decide +kernel⟩
theorem kw_678 : (Jvm.Cond.code ({ cls := "ShardRowsModel", name := "draw", desc := "(IJ)I" } : Jvm.MethodName) prog_10_method_26_code (9 : Nat) (Option.some Jvm.ClassFile.FieldType.int)) ∈ TB := List.mem_filter.mpr ⟨List.mem_of_getElem? (i := 678) (by decide +kernel), by decide +kernel⟩
theorem kw_679 : (Jvm.Cond.constantLong "ShardRowsModel" (130 : Nat) (6364136223846793005 : Int64)) ∈ TB := List.mem_filter.mpr ⟨List.mem_of_getElem? (i := 679) (by decide +kernel), by decide +kernel⟩
theorem kw_680 : (Jvm.Cond.constantLong "ShardRowsModel" (132 : Nat) (1442695040888963407 : Int64)) ∈ TB := List.mem_filter.mpr ⟨List.mem_of_getElem? (i := 680) (by decide +kernel), by decide +kernel⟩
theorem kw_681 : (Jvm.Cond.methodLink "ShardRowsLaw" (79 : Nat) ({ cls := "ShardRowsModel", name := "drawn", desc := "(I)I" } : Jvm.MethodName)) ∈ TB := List.mem_filter.mpr ⟨List.mem_of_getElem? (i := 681) (by decide +kernel), by decide +kernel⟩
theorem kw_682 : (Jvm.Cond.instanceMethod ({ cls := "ShardRowsModel", name := "drawn", desc := "(I)I" } : Jvm.MethodName)) ∈ TB := List.mem_filter.mpr ⟨List.mem_of_getElem? (i := 682) (by decide +kernel), by decide +kernel⟩
theorem kw_683 : (Jvm.Cond.selects "ShardRowsModel" ({ cls := "ShardRowsModel", name := "drawn", desc := "(I)I" } : Jvm.MethodName) ({ cls := "ShardRowsModel", name := "drawn", desc := "(I)I" } : Jvm.MethodName)) ∈ TB := List.mem_filter.mpr ⟨List.mem_of_getElem? (i := 683) (by decide +kernel), by decide +kernel⟩
theorem kw_684 : (Jvm.Cond.code ({ cls := "ShardRowsModel", name := "drawn", desc := "(I)I" } : Jvm.MethodName) prog_10_method_27_code (2 : Nat) (Option.some Jvm.ClassFile.FieldType.int)) ∈ TB := List.mem_filter.mpr ⟨List.mem_of_getElem? (i := 684) (by decide +kernel), by decide +kernel⟩
theorem kw_685 : (Jvm.Cond.methodLink "ShardRowsLaw" (84 : Nat) ({ cls := "ShardRowsModel", name := "result", desc := "(III)I" } : Jvm.MethodName)) ∈ TB := List.mem_filter.mpr ⟨List.mem_of_getElem? (i := 685) (by decide +kernel), by decide +kernel⟩
theorem kw_686 : (Jvm.Cond.instanceMethod ({ cls := "ShardRowsModel", name := "result", desc := "(III)I" } : Jvm.MethodName)) ∈ TB := List.mem_filter.mpr ⟨List.mem_of_getElem? (i := 686) (by decide +kernel), by decide +kernel⟩
theorem kw_687 : (Jvm.Cond.selects "ShardRowsModel" ({ cls := "ShardRowsModel", name := "result", desc := "(III)I" } : Jvm.MethodName) ({ cls := "ShardRowsModel", name := "result", desc := "(III)I" } : Jvm.MethodName)) ∈ TB := List.mem_filter.mpr ⟨List.mem_of_getElem? (i := 687) (by decide +kernel), by decide +kernel⟩
theorem kw_688 : (Jvm.Cond.code ({ cls := "ShardRowsModel", name := "result", desc := "(III)I" } : Jvm.MethodName) prog_10_method_28_code (4 : Nat) (Option.some Jvm.ClassFile.FieldType.int)) ∈ TB := List.mem_filter.mpr ⟨List.mem_of_getElem? (i := 688) (by decide +kernel), by decide +kernel⟩
theorem kw_689 : (Jvm.Cond.methodLink "ShardRowsLaw" (88 : Nat) ({ cls := "ShardRowsModel", name := "again", desc := "(I)Z" } : Jvm.MethodName)) ∈ TB := List.mem_filter.mpr ⟨List.mem_of_getElem? (i := 689) (by decide +kernel), by decide +kernel⟩
theorem kw_690 : (Jvm.Cond.instanceMethod ({ cls := "ShardRowsModel", name := "again", desc := "(I)Z" } : Jvm.MethodName)) ∈ TB := List.mem_filter.mpr ⟨List.mem_of_getElem? (i := 690) (by decide +kernel), by decide +kernel⟩
theorem kw_691 : (Jvm.Cond.selects "ShardRowsModel" ({ cls := "ShardRowsModel", name := "again", desc := "(I)Z" } : Jvm.MethodName) ({ cls := "ShardRowsModel", name := "again", desc := "(I)Z" } : Jvm.MethodName)) ∈ TB := List.mem_filter.mpr ⟨List.mem_of_getElem? (i := 691) (by decide +kernel), by decide +kernel⟩
theorem kw_692 : (Jvm.Cond.code ({ cls := "ShardRowsModel", name := "again", desc := "(I)Z" } : Jvm.MethodName) prog_10_method_29_code (2 : Nat) (Option.some Jvm.ClassFile.FieldType.boolean)) ∈ TB := List.mem_filter.mpr ⟨List.mem_of_getElem? (i := 692) (by decide +kernel), by decide +kernel⟩
theorem kw_693 : (Jvm.Cond.methodLink "ShardRowsLaw" (92 : Nat) ({ cls := "ShardRowsModel", name := "strange", desc := "()I" } : Jvm.MethodName)) ∈ TB := List.mem_filter.mpr ⟨List.mem_of_getElem? (i := 693) (by decide +kernel), by decide +kernel⟩
theorem kw_694 : (Jvm.Cond.instanceMethod ({ cls := "ShardRowsModel", name := "strange", desc := "()I" } : Jvm.MethodName)) ∈ TB := List.mem_filter.mpr ⟨List.mem_of_getElem? (i := 694) (by decide +kernel), by decide +kernel⟩
theorem kw_695 : (Jvm.Cond.selects "ShardRowsModel" ({ cls := "ShardRowsModel", name := "strange", desc := "()I" } : Jvm.MethodName) ({ cls := "ShardRowsModel", name := "strange", desc := "()I" } : Jvm.MethodName)) ∈ TB := List.mem_filter.mpr ⟨List.mem_of_getElem? (i := 695) (by decide +kernel), by decide +kernel⟩
theorem kw_696 : (Jvm.Cond.code ({ cls := "ShardRowsModel", name := "strange", desc := "()I" } : Jvm.MethodName) prog_10_method_30_code (1 : Nat) (Option.some Jvm.ClassFile.FieldType.int)) ∈ TB := List.mem_filter.mpr ⟨List.mem_of_getElem? (i := 696) (by decide +kernel), by decide +kernel⟩
theorem kw_697 : (Jvm.Cond.methodLink "ShardRowsLaw" (96 : Nat) ({ cls := "ShardRowsModel", name := "missing", desc := "(I)I" } : Jvm.MethodName)) ∈ TB := List.mem_filter.mpr ⟨List.mem_of_getElem? (i := 697) (by decide +kernel), by decide +kernel⟩
theorem kw_698 : (Jvm.Cond.instanceMethod ({ cls := "ShardRowsModel", name := "missing", desc := "(I)I" } : Jvm.MethodName)) ∈ TB := List.mem_filter.mpr ⟨List.mem_of_getElem? (i := 698) (by decide +kernel), by decide +kernel⟩
theorem kw_699 : (Jvm.Cond.selects "ShardRowsModel" ({ cls := "ShardRowsModel", name := "missing", desc := "(I)I" } : Jvm.MethodName) ({ cls := "ShardRowsModel", name := "missing", desc := "(I)I" } : Jvm.MethodName)) ∈ TB := List.mem_filter.mpr ⟨List.mem_of_getElem? (i := 699) (by decide +kernel), by decide +kernel⟩
theorem kw_700 : (Jvm.Cond.code ({ cls := "ShardRowsModel", name := "missing", desc := "(I)I" } : Jvm.MethodName) prog_10_method_31_code (4 : Nat) (Option.some Jvm.ClassFile.FieldType.int)) ∈ TB := List.mem_filter.mpr ⟨List.mem_of_getElem? (i := 700) (by decide +kernel), by decide +kernel⟩
theorem kw_701 : (Jvm.Cond.methodLink "ShardRowsLaw" (100 : Nat) ({ cls := "ShardRowsModel", name := "verdict", desc := "()I" } : Jvm.MethodName)) ∈ TB := List.mem_filter.mpr ⟨List.mem_of_getElem? (i := 701) (by decide +kernel), by decide +kernel⟩
theorem kw_702 : (Jvm.Cond.instanceMethod ({ cls := "ShardRowsModel", name := "verdict", desc := "()I" } : Jvm.MethodName)) ∈ TB := List.mem_filter.mpr ⟨List.mem_of_getElem? (i := 702) (by decide +kernel), by decide +kernel⟩
theorem kw_703 : (Jvm.Cond.selects "ShardRowsModel" ({ cls := "ShardRowsModel", name := "verdict", desc := "()I" } : Jvm.MethodName) ({ cls := "ShardRowsModel", name := "verdict", desc := "()I" } : Jvm.MethodName)) ∈ TB := List.mem_filter.mpr ⟨List.mem_of_getElem? (i := 703) (by decide +kernel), by decide +kernel⟩
theorem kw_704 : (Jvm.Cond.code ({ cls := "ShardRowsModel", name := "verdict", desc := "()I" } : Jvm.MethodName) prog_10_method_32_code (4 : Nat) (Option.some Jvm.ClassFile.FieldType.int)) ∈ TB := List.mem_filter.mpr ⟨List.mem_of_getElem? (i := 704) (by decide +kernel), by decide +kernel⟩
theorem kw_705 : (Jvm.Cond.methodLink "ShardRowsLaw" (104 : Nat) ({ cls := "ShardRowsModel", name := "tries", desc := "(I)I" } : Jvm.MethodName)) ∈ TB := List.mem_filter.mpr ⟨List.mem_of_getElem? (i := 705) (by decide +kernel), by decide +kernel⟩
theorem kw_706 : (Jvm.Cond.instanceMethod ({ cls := "ShardRowsModel", name := "tries", desc := "(I)I" } : Jvm.MethodName)) ∈ TB := List.mem_filter.mpr ⟨List.mem_of_getElem? (i := 706) (by decide +kernel), by decide +kernel⟩
theorem kw_707 : (Jvm.Cond.selects "ShardRowsModel" ({ cls := "ShardRowsModel", name := "tries", desc := "(I)I" } : Jvm.MethodName) ({ cls := "ShardRowsModel", name := "tries", desc := "(I)I" } : Jvm.MethodName)) ∈ TB := List.mem_filter.mpr ⟨List.mem_of_getElem? (i := 707) (by decide +kernel), by decide +kernel⟩
theorem kw_708 : (Jvm.Cond.code ({ cls := "ShardRowsModel", name := "tries", desc := "(I)I" } : Jvm.MethodName) prog_10_method_33_code (2 : Nat) (Option.some Jvm.ClassFile.FieldType.int)) ∈ TB := List.mem_filter.mpr ⟨List.mem_of_getElem? (i := 708) (by decide +kernel), by decide +kernel⟩
theorem kw_709 : (Jvm.Cond.constantLong "ShardRowsLaw" (69 : Nat) (4294967295 : Int64)) ∈ TB := List.mem_filter.mpr ⟨List.mem_of_getElem? (i := 709) (by decide +kernel), by decide +kernel⟩
theorem kw_0 : (Jvm.Cond.selects "ShardRows$GroupRows" ({ cls := "ShardRows$GroupRows", name := "open", desc := "(I)I" } : Jvm.MethodName) ({ cls := "ShardRows$GroupRows", name := "open", desc := "(I)I" } : Jvm.MethodName)) ∈ TB := List.mem_filter.mpr ⟨List.mem_of_getElem? (i := 0) (by decide +kernel), by decide +kernel⟩
theorem kw_1 : (Jvm.Cond.selects "ShardRows$Search" ({ cls := "ShardRows$Search", name := "countMoves", desc := "(LShardRows$GroupRows;LShardRows$SplitRows;)V" } : Jvm.MethodName) ({ cls := "ShardRows$Search", name := "countMoves", desc := "(LShardRows$GroupRows;LShardRows$SplitRows;)V" } : Jvm.MethodName)) ∈ TB := List.mem_filter.mpr ⟨List.mem_of_getElem? (i := 1) (by decide +kernel), by decide +kernel⟩
theorem kw_2 : (Jvm.Cond.selects "ShardRows$Search" ({ cls := "ShardRows$Search", name := "addMove", desc := "(II)V" } : Jvm.MethodName) ({ cls := "ShardRows$Search", name := "addMove", desc := "(II)V" } : Jvm.MethodName)) ∈ TB := List.mem_filter.mpr ⟨List.mem_of_getElem? (i := 2) (by decide +kernel), by decide +kernel⟩
theorem kw_3 : (Jvm.Cond.selects "ShardRows$Search" ({ cls := "ShardRows$Search", name := "sumLeastMoves", desc := "()V" } : Jvm.MethodName) ({ cls := "ShardRows$Search", name := "sumLeastMoves", desc := "()V" } : Jvm.MethodName)) ∈ TB := List.mem_filter.mpr ⟨List.mem_of_getElem? (i := 3) (by decide +kernel), by decide +kernel⟩
theorem kw_4 : (Jvm.Cond.selects "ShardRows$Search" ({ cls := "ShardRows$Search", name := "seekLength", desc := "(III)V" } : Jvm.MethodName) ({ cls := "ShardRows$Search", name := "seekLength", desc := "(III)V" } : Jvm.MethodName)) ∈ TB := List.mem_filter.mpr ⟨List.mem_of_getElem? (i := 4) (by decide +kernel), by decide +kernel⟩
theorem kw_5 : (Jvm.Cond.selects "ShardRows$Search" ({ cls := "ShardRows$Search", name := "seekShards", desc := "(II)V" } : Jvm.MethodName) ({ cls := "ShardRows$Search", name := "seekShards", desc := "(II)V" } : Jvm.MethodName)) ∈ TB := List.mem_filter.mpr ⟨List.mem_of_getElem? (i := 5) (by decide +kernel), by decide +kernel⟩
theorem kw_6 : (Jvm.Cond.selects "ShardRows$Greedy" ({ cls := "ShardRows$Greedy", name := "leastShard", desc := "(I)I" } : Jvm.MethodName) ({ cls := "ShardRows$Greedy", name := "leastShard", desc := "(I)I" } : Jvm.MethodName)) ∈ TB := List.mem_filter.mpr ⟨List.mem_of_getElem? (i := 6) (by decide +kernel), by decide +kernel⟩
theorem kw_7 : (Jvm.Cond.selects "ShardRows$SplitRows" ({ cls := "ShardRows$SplitRows", name := "addTime", desc := "(II)V" } : Jvm.MethodName) ({ cls := "ShardRows$SplitRows", name := "addTime", desc := "(II)V" } : Jvm.MethodName)) ∈ TB := List.mem_filter.mpr ⟨List.mem_of_getElem? (i := 7) (by decide +kernel), by decide +kernel⟩
theorem kw_8 : (Jvm.Cond.selects "ShardRows$SplitRows" ({ cls := "ShardRows$SplitRows", name := "give", desc := "(II)V" } : Jvm.MethodName) ({ cls := "ShardRows$SplitRows", name := "give", desc := "(II)V" } : Jvm.MethodName)) ∈ TB := List.mem_filter.mpr ⟨List.mem_of_getElem? (i := 8) (by decide +kernel), by decide +kernel⟩
theorem kw_9 : (Jvm.Cond.selects "ShardRows$ResultRows" ({ cls := "ShardRows$ResultRows", name := "isBad", desc := "(I)Z" } : Jvm.MethodName) ({ cls := "ShardRows$ResultRows", name := "isBad", desc := "(I)Z" } : Jvm.MethodName)) ∈ TB := List.mem_filter.mpr ⟨List.mem_of_getElem? (i := 9) (by decide +kernel), by decide +kernel⟩
theorem kw_10 : (Jvm.Cond.selects "ShardRows" ({ cls := "ShardRows", name := "isMissing", desc := "(I)Z" } : Jvm.MethodName) ({ cls := "ShardRows", name := "isMissing", desc := "(I)Z" } : Jvm.MethodName)) ∈ TB := List.mem_filter.mpr ⟨List.mem_of_getElem? (i := 10) (by decide +kernel), by decide +kernel⟩
theorem kw_11 : (Jvm.Cond.selects "ShardRowsModel" ({ cls := "ShardRowsModel", name := "isTest", desc := "(I)Z" } : Jvm.MethodName) ({ cls := "ShardRowsModel", name := "isTest", desc := "(I)Z" } : Jvm.MethodName)) ∈ TB := List.mem_filter.mpr ⟨List.mem_of_getElem? (i := 11) (by decide +kernel), by decide +kernel⟩
theorem kw_12 : (Jvm.Cond.selects "ShardRowsModel" ({ cls := "ShardRowsModel", name := "gathers", desc := "()V" } : Jvm.MethodName) ({ cls := "ShardRowsModel", name := "gathers", desc := "()V" } : Jvm.MethodName)) ∈ TB := List.mem_filter.mpr ⟨List.mem_of_getElem? (i := 12) (by decide +kernel), by decide +kernel⟩
theorem kw_13 : (Jvm.Cond.selects "ShardRowsModel" ({ cls := "ShardRowsModel", name := "exact", desc := "()V" } : Jvm.MethodName) ({ cls := "ShardRowsModel", name := "exact", desc := "()V" } : Jvm.MethodName)) ∈ TB := List.mem_filter.mpr ⟨List.mem_of_getElem? (i := 13) (by decide +kernel), by decide +kernel⟩
theorem kw_14 : (Jvm.Cond.selects "ShardRowsModel" ({ cls := "ShardRowsModel", name := "length", desc := "()I" } : Jvm.MethodName) ({ cls := "ShardRowsModel", name := "length", desc := "()I" } : Jvm.MethodName)) ∈ TB := List.mem_filter.mpr ⟨List.mem_of_getElem? (i := 14) (by decide +kernel), by decide +kernel⟩
theorem kw_15 : (Jvm.Cond.selects "ShardRowsModel" ({ cls := "ShardRowsModel", name := "moves", desc := "()I" } : Jvm.MethodName) ({ cls := "ShardRowsModel", name := "moves", desc := "()I" } : Jvm.MethodName)) ∈ TB := List.mem_filter.mpr ⟨List.mem_of_getElem? (i := 15) (by decide +kernel), by decide +kernel⟩
theorem kw_16 : (Jvm.Cond.selects "ShardRowsModel" ({ cls := "ShardRowsModel", name := "movesOf", desc := "(II)I" } : Jvm.MethodName) ({ cls := "ShardRowsModel", name := "movesOf", desc := "(II)I" } : Jvm.MethodName)) ∈ TB := List.mem_filter.mpr ⟨List.mem_of_getElem? (i := 16) (by decide +kernel), by decide +kernel⟩
theorem kw_17 : (Jvm.Cond.selects "ShardRowsModel" ({ cls := "ShardRowsModel", name := "next", desc := "()Z" } : Jvm.MethodName) ({ cls := "ShardRowsModel", name := "next", desc := "()Z" } : Jvm.MethodName)) ∈ TB := List.mem_filter.mpr ⟨List.mem_of_getElem? (i := 17) (by decide +kernel), by decide +kernel⟩
theorem kw_18 : (Jvm.Cond.selects "ShardRowsModel" ({ cls := "ShardRowsModel", name := "byTimes", desc := "()V" } : Jvm.MethodName) ({ cls := "ShardRowsModel", name := "byTimes", desc := "()V" } : Jvm.MethodName)) ∈ TB := List.mem_filter.mpr ⟨List.mem_of_getElem? (i := 18) (by decide +kernel), by decide +kernel⟩
theorem kw_19 : (Jvm.Cond.selects "ShardRowsModel" ({ cls := "ShardRowsModel", name := "isIn", desc := "(I)Z" } : Jvm.MethodName) ({ cls := "ShardRowsModel", name := "isIn", desc := "(I)Z" } : Jvm.MethodName)) ∈ TB := List.mem_filter.mpr ⟨List.mem_of_getElem? (i := 19) (by decide +kernel), by decide +kernel⟩
theorem kw_20 : (Jvm.Cond.selects "ShardRowsModel" ({ cls := "ShardRowsModel", name := "isShard", desc := "(I)Z" } : Jvm.MethodName) ({ cls := "ShardRowsModel", name := "isShard", desc := "(I)Z" } : Jvm.MethodName)) ∈ TB := List.mem_filter.mpr ⟨List.mem_of_getElem? (i := 20) (by decide +kernel), by decide +kernel⟩
theorem kw_21 : (Jvm.Cond.selects "ShardRowsModel" ({ cls := "ShardRowsModel", name := "testsOf", desc := "(I)I" } : Jvm.MethodName) ({ cls := "ShardRowsModel", name := "testsOf", desc := "(I)I" } : Jvm.MethodName)) ∈ TB := List.mem_filter.mpr ⟨List.mem_of_getElem? (i := 21) (by decide +kernel), by decide +kernel⟩
abbrev cSR_init : ByteArray := prog_1_method_1_code
def ySR_init : MethodName := ⟨"ShardRows", "<init>", "(I)V"⟩
abbrev wsSR_init : List Cond := .code ySR_init cSR_init 2 (Option.none : Option Jvm.ClassFile.FieldType) :: TB
abbrev cTR_init : ByteArray := prog_8_method_1_code
def yTR_init : MethodName := ⟨"ShardRows$TestRows", "<init>", "()V"⟩
abbrev wsTR_init : List Cond := .code yTR_init cTR_init 1 (Option.none : Option Jvm.ClassFile.FieldType) :: TB
abbrev cGR_init : ByteArray := prog_4_method_1_code
def yGR_init : MethodName := ⟨"ShardRows$GroupRows", "<init>", "()V"⟩
abbrev wsGR_init : List Cond := .code yGR_init cGR_init 1 (Option.none : Option Jvm.ClassFile.FieldType) :: TB
abbrev cSE_init : ByteArray := prog_6_method_1_code
def ySE_init : MethodName := ⟨"ShardRows$Search", "<init>", "()V"⟩
abbrev wsSE_init : List Cond := .code ySE_init cSE_init 1 (Option.none : Option Jvm.ClassFile.FieldType) :: TB
abbrev cGY_init : ByteArray := prog_3_method_1_code
def yGY_init : MethodName := ⟨"ShardRows$Greedy", "<init>", "()V"⟩
abbrev wsGY_init : List Cond := .code yGY_init cGY_init 1 (Option.none : Option Jvm.ClassFile.FieldType) :: TB
abbrev cSP_init : ByteArray := prog_7_method_1_code
def ySP_init : MethodName := ⟨"ShardRows$SplitRows", "<init>", "()V"⟩
abbrev wsSP_init : List Cond := .code ySP_init cSP_init 1 (Option.none : Option Jvm.ClassFile.FieldType) :: TB
abbrev cAR_fill : ByteArray := prog_13_method_103_code
def yAR_fill : MethodName := ⟨"java/util/Arrays", "fill", "([II)V"⟩
abbrev wsAR_fill : List Cond := .code yAR_fill cAR_fill 4 (Option.none : Option Jvm.ClassFile.FieldType) :: TB
abbrev cRR_init : ByteArray := prog_5_method_1_code
def yRR_init : MethodName := ⟨"ShardRows$ResultRows", "<init>", "()V"⟩
abbrev wsRR_init : List Cond := .code yRR_init cRR_init 1 (Option.none : Option Jvm.ClassFile.FieldType) :: TB
abbrev cDR_init : ByteArray := prog_2_method_1_code
def yDR_init : MethodName := ⟨"ShardRows$DrawRow", "<init>", "()V"⟩
abbrev wsDR_init : List Cond := .code yDR_init cDR_init 1 (Option.none : Option Jvm.ClassFile.FieldType) :: TB
abbrev cSR_test : ByteArray := prog_1_method_2_code
def ySR_test : MethodName := ⟨"ShardRows", "test", "(I)I"⟩
abbrev wsSR_test : List Cond := .code ySR_test cSR_test 2 (Option.some Jvm.ClassFile.FieldType.int) :: TB
abbrev cTR_add : ByteArray := prog_8_method_3_code
def yTR_add : MethodName := ⟨"ShardRows$TestRows", "add", "(I)I"⟩
abbrev wsTR_add : List Cond := .code yTR_add cTR_add 3 (Option.some Jvm.ClassFile.FieldType.int) :: TB
abbrev cTR_isTime : ByteArray := prog_8_method_8_code
def yTR_isTime : MethodName := ⟨"ShardRows$TestRows", "isTime", "(I)Z"⟩
abbrev wsTR_isTime : List Cond := .code yTR_isTime cTR_isTime 1 (Option.some Jvm.ClassFile.FieldType.boolean) :: TB
abbrev cSR_time : ByteArray := prog_1_method_3_code
def ySR_time : MethodName := ⟨"ShardRows", "time", "(II)Z"⟩
abbrev wsSR_time : List Cond := .code ySR_time cSR_time 3 (Option.some Jvm.ClassFile.FieldType.boolean) :: TB
abbrev cTR_retime : ByteArray := prog_8_method_4_code
def yTR_retime : MethodName := ⟨"ShardRows$TestRows", "retime", "(II)Z"⟩
abbrev wsTR_retime : List Cond := .code yTR_retime cTR_retime 3 (Option.some Jvm.ClassFile.FieldType.boolean) :: TB
abbrev cTR_has : ByteArray := prog_8_method_2_code
def yTR_has : MethodName := ⟨"ShardRows$TestRows", "has", "(I)Z"⟩
abbrev wsTR_has : List Cond := .code yTR_has cTR_has 2 (Option.some Jvm.ClassFile.FieldType.boolean) :: TB
abbrev cSR_join : ByteArray := prog_1_method_4_code
def ySR_join : MethodName := ⟨"ShardRows", "join", "(II)Z"⟩
abbrev wsSR_join : List Cond := .code ySR_join cSR_join 3 (Option.some Jvm.ClassFile.FieldType.boolean) :: TB
abbrev cTR_unite : ByteArray := prog_8_method_5_code
def yTR_unite : MethodName := ⟨"ShardRows$TestRows", "unite", "(II)Z"⟩
abbrev wsTR_unite : List Cond := .code yTR_unite cTR_unite 6 (Option.some Jvm.ClassFile.FieldType.boolean) :: TB
abbrev cSR_shards : ByteArray := prog_1_method_5_code
def ySR_shards : MethodName := ⟨"ShardRows", "shards", "(I)Z"⟩
abbrev wsSR_shards : List Cond := .code ySR_shards cSR_shards 2 (Option.some Jvm.ClassFile.FieldType.boolean) :: TB
abbrev cSR_mean : ByteArray := prog_1_method_6_code
def ySR_mean : MethodName := ⟨"ShardRows", "mean", "()I"⟩
abbrev wsSR_mean : List Cond := .code ySR_mean cSR_mean 1 (Option.some Jvm.ClassFile.FieldType.int) :: TB
abbrev cTR_meanTime : ByteArray := prog_8_method_6_code
def yTR_meanTime : MethodName := ⟨"ShardRows$TestRows", "meanTime", "()I"⟩
abbrev wsTR_meanTime : List Cond := .code yTR_meanTime cTR_meanTime 4 (Option.some Jvm.ClassFile.FieldType.int) :: TB
abbrev cSR_groups : ByteArray := prog_1_method_7_code
def ySR_groups : MethodName := ⟨"ShardRows", "groups", "()I"⟩
abbrev wsSR_groups : List Cond := .code ySR_groups cSR_groups 1 (Option.some Jvm.ClassFile.FieldType.int) :: TB
abbrev cTR_countGroups : ByteArray := prog_8_method_7_code
def yTR_countGroups : MethodName := ⟨"ShardRows$TestRows", "countGroups", "()I"⟩
abbrev wsTR_countGroups : List Cond := .code yTR_countGroups cTR_countGroups 3 (Option.some Jvm.ClassFile.FieldType.int) :: TB
abbrev cSR_split : ByteArray := prog_1_method_8_code
def ySR_split : MethodName := ⟨"ShardRows", "split", "()I"⟩
abbrev wsSR_split : List Cond := .code ySR_split cSR_split 1 (Option.some Jvm.ClassFile.FieldType.int) :: TB
abbrev cGR_gather : ByteArray := prog_4_method_2_code
def yGR_gather : MethodName := ⟨"ShardRows$GroupRows", "gather", "(LShardRows$TestRows;)V"⟩
abbrev wsGR_gather : List Cond := .code yGR_gather cGR_gather 6 (Option.none : Option Jvm.ClassFile.FieldType) :: TB
abbrev cGR_open : ByteArray := prog_4_method_5_code
def yGR_open : MethodName := ⟨"ShardRows$GroupRows", "open", "(I)I"⟩
abbrev wsGR_open : List Cond := .code yGR_open cGR_open 3 (Option.some Jvm.ClassFile.FieldType.int) :: TB
abbrev cGR_groupAt : ByteArray := prog_4_method_3_code
def yGR_groupAt : MethodName := ⟨"ShardRows$GroupRows", "groupAt", "(I)I"⟩
abbrev wsGR_groupAt : List Cond := .code yGR_groupAt cGR_groupAt 2 (Option.some Jvm.ClassFile.FieldType.int) :: TB
abbrev cSE_place : ByteArray := prog_6_method_2_code
def ySE_place : MethodName := ⟨"ShardRows$Search", "place", "(LShardRows$GroupRows;LShardRows$SplitRows;I)V"⟩
abbrev wsSE_place : List Cond := .code ySE_place cSE_place 4 (Option.none : Option Jvm.ClassFile.FieldType) :: TB
abbrev cSE_countMoves : ByteArray := prog_6_method_3_code
def ySE_countMoves : MethodName := ⟨"ShardRows$Search", "countMoves", "(LShardRows$GroupRows;LShardRows$SplitRows;)V"⟩
abbrev wsSE_countMoves : List Cond := .code ySE_countMoves cSE_countMoves 6 (Option.none : Option Jvm.ClassFile.FieldType) :: TB
abbrev cSP_shardAt : ByteArray := prog_7_method_3_code
def ySP_shardAt : MethodName := ⟨"ShardRows$SplitRows", "shardAt", "(I)I"⟩
abbrev wsSP_shardAt : List Cond := .code ySP_shardAt cSP_shardAt 2 (Option.some Jvm.ClassFile.FieldType.int) :: TB
abbrev cSR_isTestNumber : ByteArray := prog_1_method_22_code
def ySR_isTestNumber : MethodName := ⟨"ShardRows", "isTestNumber", "(I)Z"⟩
abbrev wsSR_isTestNumber : List Cond := .code ySR_isTestNumber cSR_isTestNumber 1 (Option.some Jvm.ClassFile.FieldType.boolean) :: TB
abbrev cSE_addMove : ByteArray := prog_6_method_4_code
def ySE_addMove : MethodName := ⟨"ShardRows$Search", "addMove", "(II)V"⟩
abbrev wsSE_addMove : List Cond := .code ySE_addMove cSE_addMove 4 (Option.none : Option Jvm.ClassFile.FieldType) :: TB
abbrev cSE_sumLeastMoves : ByteArray := prog_6_method_5_code
def ySE_sumLeastMoves : MethodName := ⟨"ShardRows$Search", "sumLeastMoves", "()V"⟩
abbrev wsSE_sumLeastMoves : List Cond := .code ySE_sumLeastMoves cSE_sumLeastMoves 4 (Option.none : Option Jvm.ClassFile.FieldType) :: TB
abbrev cSE_seekLength : ByteArray := prog_6_method_6_code
def ySE_seekLength : MethodName := ⟨"ShardRows$Search", "seekLength", "(III)V"⟩
abbrev wsSE_seekLength : List Cond := .code ySE_seekLength cSE_seekLength 6 (Option.none : Option Jvm.ClassFile.FieldType) :: TB
abbrev cSE_seekShards : ByteArray := prog_6_method_7_code
def ySE_seekShards : MethodName := ⟨"ShardRows$Search", "seekShards", "(II)V"⟩
abbrev wsSE_seekShards : List Cond := .code ySE_seekShards cSE_seekShards 4 (Option.none : Option Jvm.ClassFile.FieldType) :: TB
abbrev cGY_place : ByteArray := prog_3_method_2_code
def yGY_place : MethodName := ⟨"ShardRows$Greedy", "place", "(LShardRows$GroupRows;LShardRows$SplitRows;I)V"⟩
abbrev wsGY_place : List Cond := .code yGY_place cGY_place 7 (Option.none : Option Jvm.ClassFile.FieldType) :: TB
abbrev cGY_longestUnplaced : ByteArray := prog_3_method_3_code
def yGY_longestUnplaced : MethodName := ⟨"ShardRows$Greedy", "longestUnplaced", "(LShardRows$GroupRows;)I"⟩
abbrev wsGY_longestUnplaced : List Cond := .code yGY_longestUnplaced cGY_longestUnplaced 4 (Option.some Jvm.ClassFile.FieldType.int) :: TB
abbrev cGY_leastShard : ByteArray := prog_3_method_4_code
def yGY_leastShard : MethodName := ⟨"ShardRows$Greedy", "leastShard", "(I)I"⟩
abbrev wsGY_leastShard : List Cond := .code yGY_leastShard cGY_leastShard 4 (Option.some Jvm.ClassFile.FieldType.int) :: TB
abbrev cSP_take : ByteArray := prog_7_method_5_code
def ySP_take : MethodName := ⟨"ShardRows$SplitRows", "take", "(LShardRows$GroupRows;I)V"⟩
abbrev wsSP_take : List Cond := .code ySP_take cSP_take 4 (Option.none : Option Jvm.ClassFile.FieldType) :: TB
abbrev cSP_addTime : ByteArray := prog_7_method_6_code
def ySP_addTime : MethodName := ⟨"ShardRows$SplitRows", "addTime", "(II)V"⟩
abbrev wsSP_addTime : List Cond := .code ySP_addTime cSP_addTime 3 (Option.none : Option Jvm.ClassFile.FieldType) :: TB
abbrev cSP_hasShard : ByteArray := prog_7_method_2_code
def ySP_hasShard : MethodName := ⟨"ShardRows$SplitRows", "hasShard", "(I)Z"⟩
abbrev wsSP_hasShard : List Cond := .code ySP_hasShard cSP_hasShard 2 (Option.some Jvm.ClassFile.FieldType.boolean) :: TB
abbrev cGR_shardFor : ByteArray := prog_4_method_4_code
def yGR_shardFor : MethodName := ⟨"ShardRows$GroupRows", "shardFor", "(I)I"⟩
abbrev wsGR_shardFor : List Cond := .code yGR_shardFor cGR_shardFor 3 (Option.some Jvm.ClassFile.FieldType.int) :: TB
abbrev cSP_give : ByteArray := prog_7_method_7_code
def ySP_give : MethodName := ⟨"ShardRows$SplitRows", "give", "(II)V"⟩
abbrev wsSP_give : List Cond := .code ySP_give cSP_give 3 (Option.none : Option Jvm.ClassFile.FieldType) :: TB
abbrev cRR_forget : ByteArray := prog_5_method_2_code
def yRR_forget : MethodName := ⟨"ShardRows$ResultRows", "forget", "()V"⟩
abbrev wsRR_forget : List Cond := .code yRR_forget cRR_forget 2 (Option.none : Option Jvm.ClassFile.FieldType) :: TB
abbrev cSP_longest : ByteArray := prog_7_method_4_code
def ySP_longest : MethodName := ⟨"ShardRows$SplitRows", "longest", "()I"⟩
abbrev wsSP_longest : List Cond := .code ySP_longest cSP_longest 3 (Option.some Jvm.ClassFile.FieldType.int) :: TB
abbrev cSR_shard : ByteArray := prog_1_method_9_code
def ySR_shard : MethodName := ⟨"ShardRows", "shard", "(I)I"⟩
abbrev wsSR_shard : List Cond := .code ySR_shard cSR_shard 2 (Option.some Jvm.ClassFile.FieldType.int) :: TB
abbrev cSR_sum : ByteArray := prog_1_method_10_code
def ySR_sum : MethodName := ⟨"ShardRows", "sum", "(I)I"⟩
abbrev wsSR_sum : List Cond := .code ySR_sum cSR_sum 2 (Option.some Jvm.ClassFile.FieldType.int) :: TB
abbrev cSR_moved : ByteArray := prog_1_method_11_code
def ySR_moved : MethodName := ⟨"ShardRows", "moved", "()I"⟩
abbrev wsSR_moved : List Cond := .code ySR_moved cSR_moved 1 (Option.some Jvm.ClassFile.FieldType.int) :: TB
abbrev cSR_empty : ByteArray := prog_1_method_12_code
def ySR_empty : MethodName := ⟨"ShardRows", "empty", "(I)I"⟩
abbrev wsSR_empty : List Cond := .code ySR_empty cSR_empty 4 (Option.some Jvm.ClassFile.FieldType.int) :: TB
abbrev cSR_draw : ByteArray := prog_1_method_13_code
def ySR_draw : MethodName := ⟨"ShardRows", "draw", "(IJ)I"⟩
abbrev wsSR_draw : List Cond := .code ySR_draw cSR_draw 4 (Option.some Jvm.ClassFile.FieldType.int) :: TB
abbrev cDR_gather : ByteArray := prog_2_method_3_code
def yDR_gather : MethodName := ⟨"ShardRows$DrawRow", "gather", "(LShardRows$SplitRows;I)V"⟩
abbrev wsDR_gather : List Cond := .code yDR_gather cDR_gather 4 (Option.none : Option Jvm.ClassFile.FieldType) :: TB
abbrev cDR_shuffle : ByteArray := prog_2_method_4_code
def yDR_shuffle : MethodName := ⟨"ShardRows$DrawRow", "shuffle", "(J)V"⟩
abbrev wsDR_shuffle : List Cond := .code yDR_shuffle cDR_shuffle 8 (Option.none : Option Jvm.ClassFile.FieldType) :: TB
abbrev cSR_drawn : ByteArray := prog_1_method_14_code
def ySR_drawn : MethodName := ⟨"ShardRows", "drawn", "(I)I"⟩
abbrev wsSR_drawn : List Cond := .code ySR_drawn cSR_drawn 2 (Option.some Jvm.ClassFile.FieldType.int) :: TB
abbrev cDR_at : ByteArray := prog_2_method_2_code
def yDR_at : MethodName := ⟨"ShardRows$DrawRow", "at", "(I)I"⟩
abbrev wsDR_at : List Cond := .code yDR_at cDR_at 2 (Option.some Jvm.ClassFile.FieldType.int) :: TB
abbrev cSR_result : ByteArray := prog_1_method_15_code
def ySR_result : MethodName := ⟨"ShardRows", "result", "(III)I"⟩
abbrev wsSR_result : List Cond := .code ySR_result cSR_result 5 (Option.some Jvm.ClassFile.FieldType.int) :: TB
abbrev cRR_put : ByteArray := prog_5_method_4_code
def yRR_put : MethodName := ⟨"ShardRows$ResultRows", "put", "(II)Z"⟩
abbrev wsRR_put : List Cond := .code yRR_put cRR_put 3 (Option.some Jvm.ClassFile.FieldType.boolean) :: TB
abbrev cSR_again : ByteArray := prog_1_method_16_code
def ySR_again : MethodName := ⟨"ShardRows", "again", "(I)Z"⟩
abbrev wsSR_again : List Cond := .code ySR_again cSR_again 2 (Option.some Jvm.ClassFile.FieldType.boolean) :: TB
abbrev cRR_dropBad : ByteArray := prog_5_method_5_code
def yRR_dropBad : MethodName := ⟨"ShardRows$ResultRows", "dropBad", "(I)Z"⟩
abbrev wsRR_dropBad : List Cond := .code yRR_dropBad cRR_dropBad 2 (Option.some Jvm.ClassFile.FieldType.boolean) :: TB
abbrev cRR_isBad : ByteArray := prog_5_method_8_code
def yRR_isBad : MethodName := ⟨"ShardRows$ResultRows", "isBad", "(I)Z"⟩
abbrev wsRR_isBad : List Cond := .code yRR_isBad cRR_isBad 2 (Option.some Jvm.ClassFile.FieldType.boolean) :: TB
abbrev cRR_has : ByteArray := prog_5_method_3_code
def yRR_has : MethodName := ⟨"ShardRows$ResultRows", "has", "(I)Z"⟩
abbrev wsRR_has : List Cond := .code yRR_has cRR_has 2 (Option.some Jvm.ClassFile.FieldType.boolean) :: TB
abbrev cSR_strange : ByteArray := prog_1_method_17_code
def ySR_strange : MethodName := ⟨"ShardRows", "strange", "()I"⟩
abbrev wsSR_strange : List Cond := .code ySR_strange cSR_strange 1 (Option.some Jvm.ClassFile.FieldType.int) :: TB
abbrev cSR_missing : ByteArray := prog_1_method_18_code
def ySR_missing : MethodName := ⟨"ShardRows", "missing", "(I)I"⟩
abbrev wsSR_missing : List Cond := .code ySR_missing cSR_missing 4 (Option.some Jvm.ClassFile.FieldType.int) :: TB
abbrev cSR_isMissing : ByteArray := prog_1_method_21_code
def ySR_isMissing : MethodName := ⟨"ShardRows", "isMissing", "(I)Z"⟩
abbrev wsSR_isMissing : List Cond := .code ySR_isMissing cSR_isMissing 2 (Option.some Jvm.ClassFile.FieldType.boolean) :: TB
abbrev cSR_verdict : ByteArray := prog_1_method_19_code
def ySR_verdict : MethodName := ⟨"ShardRows", "verdict", "()I"⟩
abbrev wsSR_verdict : List Cond := .code ySR_verdict cSR_verdict 1 (Option.some Jvm.ClassFile.FieldType.int) :: TB
abbrev cRR_anyBad : ByteArray := prog_5_method_6_code
def yRR_anyBad : MethodName := ⟨"ShardRows$ResultRows", "anyBad", "()Z"⟩
abbrev wsRR_anyBad : List Cond := .code yRR_anyBad cRR_anyBad 2 (Option.some Jvm.ClassFile.FieldType.boolean) :: TB
abbrev cSR_tries : ByteArray := prog_1_method_20_code
def ySR_tries : MethodName := ⟨"ShardRows", "tries", "(I)I"⟩
abbrev wsSR_tries : List Cond := .code ySR_tries cSR_tries 2 (Option.some Jvm.ClassFile.FieldType.int) :: TB
abbrev cRR_triesOf : ByteArray := prog_5_method_7_code
def yRR_triesOf : MethodName := ⟨"ShardRows$ResultRows", "triesOf", "(I)I"⟩
abbrev wsRR_triesOf : List Cond := .code yRR_triesOf cRR_triesOf 2 (Option.some Jvm.ClassFile.FieldType.int) :: TB
abbrev cLW_cell : ByteArray := method_2_code
def yLW_cell : MethodName := ⟨"ShardRowsLaw", "cell", "([II)I"⟩
abbrev wsLW_cell : List Cond := .code yLW_cell cLW_cell 2 (Option.some Jvm.ClassFile.FieldType.int) :: TB
abbrev cMO_init : ByteArray := prog_10_method_1_code
def yMO_init : MethodName := ⟨"ShardRowsModel", "<init>", "(I)V"⟩
abbrev wsMO_init : List Cond := .code yMO_init cMO_init 3 (Option.none : Option Jvm.ClassFile.FieldType) :: TB
abbrev cMO_test : ByteArray := prog_10_method_5_code
def yMO_test : MethodName := ⟨"ShardRowsModel", "test", "(I)I"⟩
abbrev wsMO_test : List Cond := .code yMO_test cMO_test 2 (Option.some Jvm.ClassFile.FieldType.int) :: TB
abbrev cMO_isTime : ByteArray := prog_10_method_4_code
def yMO_isTime : MethodName := ⟨"ShardRowsModel", "isTime", "(I)Z"⟩
abbrev wsMO_isTime : List Cond := .code yMO_isTime cMO_isTime 1 (Option.some Jvm.ClassFile.FieldType.boolean) :: TB
abbrev cMO_time : ByteArray := prog_10_method_6_code
def yMO_time : MethodName := ⟨"ShardRowsModel", "time", "(II)Z"⟩
abbrev wsMO_time : List Cond := .code yMO_time cMO_time 3 (Option.some Jvm.ClassFile.FieldType.boolean) :: TB
abbrev cMO_isTest : ByteArray := prog_10_method_3_code
def yMO_isTest : MethodName := ⟨"ShardRowsModel", "isTest", "(I)Z"⟩
abbrev wsMO_isTest : List Cond := .code yMO_isTest cMO_isTest 2 (Option.some Jvm.ClassFile.FieldType.boolean) :: TB
abbrev cMO_join : ByteArray := prog_10_method_7_code
def yMO_join : MethodName := ⟨"ShardRowsModel", "join", "(II)Z"⟩
abbrev wsMO_join : List Cond := .code yMO_join cMO_join 6 (Option.some Jvm.ClassFile.FieldType.boolean) :: TB
abbrev cMO_shards : ByteArray := prog_10_method_8_code
def yMO_shards : MethodName := ⟨"ShardRowsModel", "shards", "(I)Z"⟩
abbrev wsMO_shards : List Cond := .code yMO_shards cMO_shards 2 (Option.some Jvm.ClassFile.FieldType.boolean) :: TB
abbrev cMO_mean : ByteArray := prog_10_method_9_code
def yMO_mean : MethodName := ⟨"ShardRowsModel", "mean", "()I"⟩
abbrev wsMO_mean : List Cond := .code yMO_mean cMO_mean 4 (Option.some Jvm.ClassFile.FieldType.int) :: TB
abbrev cMO_groups : ByteArray := prog_10_method_10_code
def yMO_groups : MethodName := ⟨"ShardRowsModel", "groups", "()I"⟩
abbrev wsMO_groups : List Cond := .code yMO_groups cMO_groups 3 (Option.some Jvm.ClassFile.FieldType.int) :: TB
abbrev cMO_split : ByteArray := prog_10_method_18_code
def yMO_split : MethodName := ⟨"ShardRowsModel", "split", "()I"⟩
abbrev wsMO_split : List Cond := .code yMO_split cMO_split 4 (Option.some Jvm.ClassFile.FieldType.int) :: TB
abbrev cMO_gathers : ByteArray := prog_10_method_11_code
def yMO_gathers : MethodName := ⟨"ShardRowsModel", "gathers", "()V"⟩
abbrev wsMO_gathers : List Cond := .code yMO_gathers cMO_gathers 4 (Option.none : Option Jvm.ClassFile.FieldType) :: TB
abbrev cMO_exact : ByteArray := prog_10_method_16_code
def yMO_exact : MethodName := ⟨"ShardRowsModel", "exact", "()V"⟩
abbrev wsMO_exact : List Cond := .code yMO_exact cMO_exact 7 (Option.none : Option Jvm.ClassFile.FieldType) :: TB
abbrev cMO_length : ByteArray := prog_10_method_12_code
def yMO_length : MethodName := ⟨"ShardRowsModel", "length", "()I"⟩
abbrev wsMO_length : List Cond := .code yMO_length cMO_length 3 (Option.some Jvm.ClassFile.FieldType.int) :: TB
abbrev cMO_moves : ByteArray := prog_10_method_14_code
def yMO_moves : MethodName := ⟨"ShardRowsModel", "moves", "()I"⟩
abbrev wsMO_moves : List Cond := .code yMO_moves cMO_moves 3 (Option.some Jvm.ClassFile.FieldType.int) :: TB
abbrev cMO_movesOf : ByteArray := prog_10_method_13_code
def yMO_movesOf : MethodName := ⟨"ShardRowsModel", "movesOf", "(II)I"⟩
abbrev wsMO_movesOf : List Cond := .code yMO_movesOf cMO_movesOf 5 (Option.some Jvm.ClassFile.FieldType.int) :: TB
abbrev cMO_next : ByteArray := prog_10_method_15_code
def yMO_next : MethodName := ⟨"ShardRowsModel", "next", "()Z"⟩
abbrev wsMO_next : List Cond := .code yMO_next cMO_next 2 (Option.some Jvm.ClassFile.FieldType.boolean) :: TB
abbrev cMO_byTimes : ByteArray := prog_10_method_17_code
def yMO_byTimes : MethodName := ⟨"ShardRowsModel", "byTimes", "()V"⟩
abbrev wsMO_byTimes : List Cond := .code yMO_byTimes cMO_byTimes 5 (Option.none : Option Jvm.ClassFile.FieldType) :: TB
abbrev cMO_shard : ByteArray := prog_10_method_21_code
def yMO_shard : MethodName := ⟨"ShardRowsModel", "shard", "(I)I"⟩
abbrev wsMO_shard : List Cond := .code yMO_shard cMO_shard 2 (Option.some Jvm.ClassFile.FieldType.int) :: TB
abbrev cMO_isIn : ByteArray := prog_10_method_20_code
def yMO_isIn : MethodName := ⟨"ShardRowsModel", "isIn", "(I)Z"⟩
abbrev wsMO_isIn : List Cond := .code yMO_isIn cMO_isIn 2 (Option.some Jvm.ClassFile.FieldType.boolean) :: TB
abbrev cMO_sum : ByteArray := prog_10_method_22_code
def yMO_sum : MethodName := ⟨"ShardRowsModel", "sum", "(I)I"⟩
abbrev wsMO_sum : List Cond := .code yMO_sum cMO_sum 2 (Option.some Jvm.ClassFile.FieldType.int) :: TB
abbrev cMO_isShard : ByteArray := prog_10_method_19_code
def yMO_isShard : MethodName := ⟨"ShardRowsModel", "isShard", "(I)Z"⟩
abbrev wsMO_isShard : List Cond := .code yMO_isShard cMO_isShard 2 (Option.some Jvm.ClassFile.FieldType.boolean) :: TB
abbrev cMO_moved : ByteArray := prog_10_method_23_code
def yMO_moved : MethodName := ⟨"ShardRowsModel", "moved", "()I"⟩
abbrev wsMO_moved : List Cond := .code yMO_moved cMO_moved 1 (Option.some Jvm.ClassFile.FieldType.int) :: TB
abbrev cMO_empty : ByteArray := prog_10_method_25_code
def yMO_empty : MethodName := ⟨"ShardRowsModel", "empty", "(I)I"⟩
abbrev wsMO_empty : List Cond := .code yMO_empty cMO_empty 4 (Option.some Jvm.ClassFile.FieldType.int) :: TB
abbrev cMO_testsOf : ByteArray := prog_10_method_24_code
def yMO_testsOf : MethodName := ⟨"ShardRowsModel", "testsOf", "(I)I"⟩
abbrev wsMO_testsOf : List Cond := .code yMO_testsOf cMO_testsOf 4 (Option.some Jvm.ClassFile.FieldType.int) :: TB
abbrev cMO_draw : ByteArray := prog_10_method_26_code
def yMO_draw : MethodName := ⟨"ShardRowsModel", "draw", "(IJ)I"⟩
abbrev wsMO_draw : List Cond := .code yMO_draw cMO_draw 9 (Option.some Jvm.ClassFile.FieldType.int) :: TB
abbrev cMO_drawn : ByteArray := prog_10_method_27_code
def yMO_drawn : MethodName := ⟨"ShardRowsModel", "drawn", "(I)I"⟩
abbrev wsMO_drawn : List Cond := .code yMO_drawn cMO_drawn 2 (Option.some Jvm.ClassFile.FieldType.int) :: TB
abbrev cMO_result : ByteArray := prog_10_method_28_code
def yMO_result : MethodName := ⟨"ShardRowsModel", "result", "(III)I"⟩
abbrev wsMO_result : List Cond := .code yMO_result cMO_result 4 (Option.some Jvm.ClassFile.FieldType.int) :: TB
abbrev cMO_again : ByteArray := prog_10_method_29_code
def yMO_again : MethodName := ⟨"ShardRowsModel", "again", "(I)Z"⟩
abbrev wsMO_again : List Cond := .code yMO_again cMO_again 2 (Option.some Jvm.ClassFile.FieldType.boolean) :: TB
abbrev cMO_strange : ByteArray := prog_10_method_30_code
def yMO_strange : MethodName := ⟨"ShardRowsModel", "strange", "()I"⟩
abbrev wsMO_strange : List Cond := .code yMO_strange cMO_strange 1 (Option.some Jvm.ClassFile.FieldType.int) :: TB
abbrev cMO_missing : ByteArray := prog_10_method_31_code
def yMO_missing : MethodName := ⟨"ShardRowsModel", "missing", "(I)I"⟩
abbrev wsMO_missing : List Cond := .code yMO_missing cMO_missing 4 (Option.some Jvm.ClassFile.FieldType.int) :: TB
abbrev cMO_verdict : ByteArray := prog_10_method_32_code
def yMO_verdict : MethodName := ⟨"ShardRowsModel", "verdict", "()I"⟩
abbrev wsMO_verdict : List Cond := .code yMO_verdict cMO_verdict 4 (Option.some Jvm.ClassFile.FieldType.int) :: TB
abbrev cMO_tries : ByteArray := prog_10_method_33_code
def yMO_tries : MethodName := ⟨"ShardRowsModel", "tries", "(I)I"⟩
abbrev wsMO_tries : List Cond := .code yMO_tries cMO_tries 2 (Option.some Jvm.ClassFile.FieldType.int) :: TB
