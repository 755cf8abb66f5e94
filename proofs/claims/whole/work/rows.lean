section
-- ===== PART A: goes FIRST, ahead of the names: the tables' words, and 'selects' of the private methods out of them =====
/-- a private method of a class that the tables say can be made, by its rows of tables_1 -/
def lw_okq (q : MethodName × Nat) : Prop := (q.1.cls ≠ "java/lang/invoke/MethodHandle" ∧ q.1.cls ≠ "java/lang/invoke/VarHandle") ∧ Cond.instantiable q.1.cls q.2 ∈ tables_1 ∧ Cond.privateMethod q.1 ∈ tables_1 ∧ Cond.instanceMethod q.1 ∈ tables_1
theorem lw_p0 : lw_okq (⟨"RoadTurns$Roads", "placeOf", "(II)I"⟩, 5) := ⟨⟨by decide +kernel, by decide +kernel⟩, List.mem_of_getElem? (i := 18) (by decide +kernel), List.mem_of_getElem? (i := 150) (by decide +kernel), List.mem_of_getElem? (i := 151) (by decide +kernel)⟩
theorem lw_p1 : lw_okq (⟨"RoadTurns$Roads", "addArc", "(III)V"⟩, 5) := ⟨⟨by decide +kernel, by decide +kernel⟩, List.mem_of_getElem? (i := 18) (by decide +kernel), List.mem_of_getElem? (i := 172) (by decide +kernel), List.mem_of_getElem? (i := 173) (by decide +kernel)⟩
theorem lw_p2 : lw_okq (⟨"RoadTurns", "append", "(I)V"⟩, 5) := ⟨⟨by decide +kernel, by decide +kernel⟩, List.mem_of_getElem? (i := 10) (by decide +kernel), List.mem_of_getElem? (i := 217) (by decide +kernel), List.mem_of_getElem? (i := 218) (by decide +kernel)⟩
theorem lw_p3 : lw_okq (⟨"RoadTurns$Search", "spread", "(IIJ)V"⟩, 7) := ⟨⟨by decide +kernel, by decide +kernel⟩, List.mem_of_getElem? (i := 58) (by decide +kernel), List.mem_of_getElem? (i := 225) (by decide +kernel), List.mem_of_getElem? (i := 226) (by decide +kernel)⟩
theorem lw_p4 : lw_okq (⟨"RoadTurns$Search", "gatherOpenArcs", "(I)V"⟩, 7) := ⟨⟨by decide +kernel, by decide +kernel⟩, List.mem_of_getElem? (i := 58) (by decide +kernel), List.mem_of_getElem? (i := 229) (by decide +kernel), List.mem_of_getElem? (i := 230) (by decide +kernel)⟩
theorem lw_p5 : lw_okq (⟨"RoadTurns$Search", "mayTurn", "(III)Z"⟩, 7) := ⟨⟨by decide +kernel, by decide +kernel⟩, List.mem_of_getElem? (i := 58) (by decide +kernel), List.mem_of_getElem? (i := 241) (by decide +kernel), List.mem_of_getElem? (i := 242) (by decide +kernel)⟩
theorem lw_p6 : lw_okq (⟨"RoadTurns", "layWay", "(IJ)V"⟩, 5) := ⟨⟨by decide +kernel, by decide +kernel⟩, List.mem_of_getElem? (i := 10) (by decide +kernel), List.mem_of_getElem? (i := 268) (by decide +kernel), List.mem_of_getElem? (i := 269) (by decide +kernel)⟩
theorem lw_p7 : lw_okq (⟨"RoadTurnsModel", "isNode", "(I)Z"⟩, 17) := ⟨⟨by decide +kernel, by decide +kernel⟩, List.mem_of_getElem? (i := 297) (by decide +kernel), List.mem_of_getElem? (i := 364) (by decide +kernel), List.mem_of_getElem? (i := 365) (by decide +kernel)⟩
theorem lw_p8 : lw_okq (⟨"RoadTurnsModel", "find", "(II)I"⟩, 17) := ⟨⟨by decide +kernel, by decide +kernel⟩, List.mem_of_getElem? (i := 297) (by decide +kernel), List.mem_of_getElem? (i := 369) (by decide +kernel), List.mem_of_getElem? (i := 370) (by decide +kernel)⟩
theorem lw_p9 : lw_okq (⟨"RoadTurnsModel", "placeOf", "(II)I"⟩, 17) := ⟨⟨by decide +kernel, by decide +kernel⟩, List.mem_of_getElem? (i := 297) (by decide +kernel), List.mem_of_getElem? (i := 373) (by decide +kernel), List.mem_of_getElem? (i := 374) (by decide +kernel)⟩
theorem lw_p10 : lw_okq (⟨"RoadTurnsModel", "isBefore", "(III)Z"⟩, 17) := ⟨⟨by decide +kernel, by decide +kernel⟩, List.mem_of_getElem? (i := 297) (by decide +kernel), List.mem_of_getElem? (i := 383) (by decide +kernel), List.mem_of_getElem? (i := 384) (by decide +kernel)⟩
theorem lw_p11 : lw_okq (⟨"RoadTurnsModel", "barAt", "(III)I"⟩, 17) := ⟨⟨by decide +kernel, by decide +kernel⟩, List.mem_of_getElem? (i := 297) (by decide +kernel), List.mem_of_getElem? (i := 399) (by decide +kernel), List.mem_of_getElem? (i := 400) (by decide +kernel)⟩
theorem lw_p12 : lw_okq (⟨"RoadTurnsModel", "spread", "(I)V"⟩, 17) := ⟨⟨by decide +kernel, by decide +kernel⟩, List.mem_of_getElem? (i := 297) (by decide +kernel), List.mem_of_getElem? (i := 408) (by decide +kernel), List.mem_of_getElem? (i := 409) (by decide +kernel)⟩
theorem lw_p13 : lw_okq (⟨"RoadTurnsModel", "begin", "()V"⟩, 17) := ⟨⟨by decide +kernel, by decide +kernel⟩, List.mem_of_getElem? (i := 297) (by decide +kernel), List.mem_of_getElem? (i := 412) (by decide +kernel), List.mem_of_getElem? (i := 413) (by decide +kernel)⟩
theorem lw_p14 : lw_okq (⟨"RoadTurnsModel", "start", "(I)I"⟩, 17) := ⟨⟨by decide +kernel, by decide +kernel⟩, List.mem_of_getElem? (i := 297) (by decide +kernel), List.mem_of_getElem? (i := 416) (by decide +kernel), List.mem_of_getElem? (i := 417) (by decide +kernel)⟩
theorem lw_p15 : lw_okq (⟨"RoadTurnsModel", "known", "(IJI)V"⟩, 17) := ⟨⟨by decide +kernel, by decide +kernel⟩, List.mem_of_getElem? (i := 297) (by decide +kernel), List.mem_of_getElem? (i := 420) (by decide +kernel), List.mem_of_getElem? (i := 421) (by decide +kernel)⟩
def lw_privs_1 : List (MethodName × Nat) := [(⟨"RoadTurns$Roads", "placeOf", "(II)I"⟩, 5), (⟨"RoadTurns$Roads", "addArc", "(III)V"⟩, 5), (⟨"RoadTurns", "append", "(I)V"⟩, 5), (⟨"RoadTurns$Search", "spread", "(IIJ)V"⟩, 7), (⟨"RoadTurns$Search", "gatherOpenArcs", "(I)V"⟩, 7), (⟨"RoadTurns$Search", "mayTurn", "(III)Z"⟩, 7), (⟨"RoadTurns", "layWay", "(IJ)V"⟩, 5), (⟨"RoadTurnsModel", "isNode", "(I)Z"⟩, 17), (⟨"RoadTurnsModel", "find", "(II)I"⟩, 17), (⟨"RoadTurnsModel", "placeOf", "(II)I"⟩, 17), (⟨"RoadTurnsModel", "isBefore", "(III)Z"⟩, 17), (⟨"RoadTurnsModel", "barAt", "(III)I"⟩, 17), (⟨"RoadTurnsModel", "spread", "(I)V"⟩, 17), (⟨"RoadTurnsModel", "begin", "()V"⟩, 17), (⟨"RoadTurnsModel", "start", "(I)I"⟩, 17), (⟨"RoadTurnsModel", "known", "(IJI)V"⟩, 17)]
theorem lw_r1 : ∀ q ∈ lw_privs_1, lw_okq q := List.forall_mem_cons.mpr ⟨lw_p0, List.forall_mem_cons.mpr ⟨lw_p1, List.forall_mem_cons.mpr ⟨lw_p2, List.forall_mem_cons.mpr ⟨lw_p3, List.forall_mem_cons.mpr ⟨lw_p4, List.forall_mem_cons.mpr ⟨lw_p5, List.forall_mem_cons.mpr ⟨lw_p6, List.forall_mem_cons.mpr ⟨lw_p7, List.forall_mem_cons.mpr ⟨lw_p8, List.forall_mem_cons.mpr ⟨lw_p9, List.forall_mem_cons.mpr ⟨lw_p10, List.forall_mem_cons.mpr ⟨lw_p11, List.forall_mem_cons.mpr ⟨lw_p12, List.forall_mem_cons.mpr ⟨lw_p13, List.forall_mem_cons.mpr ⟨lw_p14, List.forall_mem_cons.mpr ⟨lw_p15, fun _ h => absurd h List.not_mem_nil⟩⟩⟩⟩⟩⟩⟩⟩⟩⟩⟩⟩⟩⟩⟩⟩
theorem lw_p16 : lw_okq (⟨"RoadTurnsModel", "isLess", "(II)Z"⟩, 17) := ⟨⟨by decide +kernel, by decide +kernel⟩, List.mem_of_getElem? (i := 297) (by decide +kernel), List.mem_of_getElem? (i := 424) (by decide +kernel), List.mem_of_getElem? (i := 425) (by decide +kernel)⟩
theorem lw_p17 : lw_okq (⟨"RoadTurnsModel", "pull", "()I"⟩, 17) := ⟨⟨by decide +kernel, by decide +kernel⟩, List.mem_of_getElem? (i := 297) (by decide +kernel), List.mem_of_getElem? (i := 428) (by decide +kernel), List.mem_of_getElem? (i := 429) (by decide +kernel)⟩
theorem lw_p18 : lw_okq (⟨"RoadTurnsModel", "end", "(I)I"⟩, 17) := ⟨⟨by decide +kernel, by decide +kernel⟩, List.mem_of_getElem? (i := 297) (by decide +kernel), List.mem_of_getElem? (i := 432) (by decide +kernel), List.mem_of_getElem? (i := 433) (by decide +kernel)⟩
theorem lw_p19 : lw_okq (⟨"RoadTurnsModel", "better", "(II)I"⟩, 17) := ⟨⟨by decide +kernel, by decide +kernel⟩, List.mem_of_getElem? (i := 297) (by decide +kernel), List.mem_of_getElem? (i := 436) (by decide +kernel), List.mem_of_getElem? (i := 437) (by decide +kernel)⟩
def lw_privs_2 : List (MethodName × Nat) := [(⟨"RoadTurnsModel", "isLess", "(II)Z"⟩, 17), (⟨"RoadTurnsModel", "pull", "()I"⟩, 17), (⟨"RoadTurnsModel", "end", "(I)I"⟩, 17), (⟨"RoadTurnsModel", "better", "(II)I"⟩, 17)]
theorem lw_r2 : ∀ q ∈ lw_privs_2, lw_okq q := List.forall_mem_cons.mpr ⟨lw_p16, List.forall_mem_cons.mpr ⟨lw_p17, List.forall_mem_cons.mpr ⟨lw_p18, List.forall_mem_cons.mpr ⟨lw_p19, fun _ h => absurd h List.not_mem_nil⟩⟩⟩⟩
def lw_privs : List (MethodName × Nat) := lw_privs_1 ++ (lw_privs_2)
def lw_tbl : List Cond := k2_sels lw_privs ++ tables_1
theorem lw_privs_ok : ∀ q ∈ lw_privs, lw_okq q := by
  show ∀ q ∈ lw_privs_1 ++ (lw_privs_2), lw_okq q
  exact List.forall_mem_append.mpr ⟨lw_r1, lw_r2⟩
-- ===== end of PART A; then your names; then what follows =====
end
section
/-! ===== BEGIN words of one list among another's, by their places ===== -/
theorem goodIn_r {big : List Cond} (ws : List Cond) (ps : List Nat) (hp : ws = ps.filterMap (fun i => big[i]?)) (h : ws.all goodWord = true) : GoodIn big ws := by
  intro w hw
  have h1 := List.all_eq_true.mp h w hw
  rw [hp] at hw
  obtain ⟨i, -, hi⟩ := List.mem_filterMap.mp hw
  have hm : w ∈ big := by first | exact List.mem_of_getElem? hi | exact List.getElem?_mem hi
  exact ⟨hm, good_of_word h1⟩
theorem goodIn_app {big a b : List Cond} (ha : GoodIn big a) (hb : GoodIn big b) : GoodIn big (a ++ b) := fun w h => (List.mem_append.mp h).elim (ha w) (hb w)
theorem goodIn_ca {big a b : List Cond} {c : Cond} (ha : GoodIn big (c :: a)) (hb : GoodIn big b) : GoodIn big (c :: (a ++ b)) := fun w h => (List.mem_cons.mp h).elim (fun e => ha w (List.mem_cons.mpr (Or.inl e))) (fun h => (List.mem_append.mp h).elim (fun h => ha w (List.mem_cons.mpr (Or.inr h))) (hb w))
theorem goodIn_sub {big ws : List Cond} (hm : ∀ w ∈ ws, w ∈ big) (h : ws.all goodWord = true) : GoodIn big ws := fun w hw => ⟨hm w hw, good_of_word (List.all_eq_true.mp h w hw)⟩
/-! ===== END ===== -/

/-! ===== BEGIN printed: names, fields, word lists, decode rows ===== -/
def RX0 : String := "RoadTurns$ArcHeap"
def TX0 : u_T := fun k => match k with
  | 0 => ("RoadTurns$ArcHeap", "weights", "[J", true)
  | 1 => ("RoadTurns$ArcHeap", "arcs", "[I", true)
  | _ => ("RoadTurns$ArcHeap", "count", "I", false)
def tyX0 : Nat → FieldType := fun k => match k with
  | 0 => .array .long
  | 1 => .array .int
  | _ => .int
abbrev wsX00 : List Cond := u_ws RX0 TX0 3
theorem nmX0 : ∀ a, a < 3 → ∀ b, b < 3 → a ≠ b → (TX0 a).2.1 ≠ (TX0 b).2.1 := by decide +kernel
theorem tyX0_ok : ∀ k, k < 3 → parseFieldDescriptor (TX0 k).2.2.1 = some (tyX0 k) := by decide +kernel
abbrev cX0_init : ByteArray := prog_2_method_1_code
def yX0_init : MethodName := ⟨RX0, "<init>", "([J)V"⟩
abbrev cX0_add : ByteArray := prog_2_method_2_code
def yX0_add : MethodName := ⟨RX0, "add", "(I)V"⟩
abbrev cX0_take : ByteArray := prog_2_method_3_code
def yX0_take : MethodName := ⟨RX0, "take", "()I"⟩
def RX1 : String := "RoadTurns$Roads"
def TX1 : u_T := fun k => match k with
  | 0 => ("RoadTurns$Roads", "nodes", "I", false)
  | 1 => ("RoadTurns$Roads", "arcs", "I", false)
  | 2 => ("RoadTurns$Roads", "ends", "[I", true)
  | 3 => ("RoadTurns$Roads", "signedCosts", "[I", true)
  | _ => ("RoadTurns$Roads", "firstArc", "[I", true)
def tyX1 : Nat → FieldType := fun k => match k with
  | 0 => .int
  | 1 => .int
  | 2 => .array .int
  | 3 => .array .int
  | _ => .array .int
abbrev wsX10 : List Cond := u_ws RX1 TX1 5
theorem nmX1 : ∀ a, a < 5 → ∀ b, b < 5 → a ≠ b → (TX1 a).2.1 ≠ (TX1 b).2.1 := by decide +kernel
theorem tyX1_ok : ∀ k, k < 5 → parseFieldDescriptor (TX1 k).2.2.1 = some (tyX1 k) := by decide +kernel
abbrev cX1_init : ByteArray := prog_3_method_1_code
def yX1_init : MethodName := ⟨RX1, "<init>", "()V"⟩
abbrev cX1_reset : ByteArray := prog_3_method_2_code
def yX1_reset : MethodName := ⟨RX1, "reset", "(I)V"⟩
abbrev cX1_hasNode : ByteArray := prog_3_method_3_code
def yX1_hasNode : MethodName := ⟨RX1, "hasNode", "(I)Z"⟩
abbrev cX1_count : ByteArray := prog_3_method_4_code
def yX1_count : MethodName := ⟨RX1, "count", "()I"⟩
abbrev cX1_originOf : ByteArray := prog_3_method_5_code
def yX1_originOf : MethodName := ⟨RX1, "originOf", "(I)I"⟩
abbrev cX1_targetOf : ByteArray := prog_3_method_6_code
def yX1_targetOf : MethodName := ⟨RX1, "targetOf", "(I)I"⟩
abbrev cX1_isOpen : ByteArray := prog_3_method_7_code
def yX1_isOpen : MethodName := ⟨RX1, "isOpen", "(I)Z"⟩
abbrev cX1_weightOf : ByteArray := prog_3_method_8_code
def yX1_weightOf : MethodName := ⟨RX1, "weightOf", "(I)J"⟩
abbrev cX1_find : ByteArray := prog_3_method_9_code
def yX1_find : MethodName := ⟨RX1, "find", "(II)I"⟩
abbrev cX1_signedCost : ByteArray := prog_3_method_10_code
def yX1_signedCost : MethodName := ⟨RX1, "signedCost", "(II)I"⟩
abbrev cX1_change : ByteArray := prog_3_method_11_code
def yX1_change : MethodName := ⟨RX1, "change", "(III)V"⟩
abbrev cX1_add : ByteArray := prog_3_method_12_code
def yX1_add : MethodName := ⟨RX1, "add", "(III)V"⟩
abbrev cX1_addArc : ByteArray := prog_3_method_13_code
def yX1_addArc : MethodName := ⟨RX1, "addArc", "(III)V"⟩
abbrev cX1_placeOf : ByteArray := prog_3_method_14_code
def yX1_placeOf : MethodName := ⟨RX1, "placeOf", "(II)I"⟩
abbrev cX1_key : ByteArray := prog_3_method_15_code
def yX1_key : MethodName := ⟨RX1, "key", "(II)I"⟩
def RX2 : String := "RoadTurns$Search"
def TX2 : u_T := fun k => match k with
  | 0 => ("RoadTurns$Search", "roads", "LRoadTurns$Roads;", true)
  | 1 => ("RoadTurns$Search", "turns", "LRoadTurns$Turns;", true)
  | 2 => ("RoadTurns$Search", "weights", "[J", true)
  | 3 => ("RoadTurns$Search", "heap", "LRoadTurns$ArcHeap;", true)
  | 4 => ("RoadTurns$Search", "waiting", "[I", true)
  | 5 => ("RoadTurns$Search", "waitingCounts", "[I", true)
  | _ => ("RoadTurns$Search", "backward", "Z", false)
def tyX2 : Nat → FieldType := fun k => match k with
  | 0 => .object "RoadTurns$Roads"
  | 1 => .object "RoadTurns$Turns"
  | 2 => .array .long
  | 3 => .object "RoadTurns$ArcHeap"
  | 4 => .array .int
  | 5 => .array .int
  | _ => .boolean
abbrev wsX20 : List Cond := u_ws RX2 TX2 7
theorem nmX2 : ∀ a, a < 7 → ∀ b, b < 7 → a ≠ b → (TX2 a).2.1 ≠ (TX2 b).2.1 := by decide +kernel
theorem tyX2_ok : ∀ k, k < 7 → parseFieldDescriptor (TX2 k).2.2.1 = some (tyX2 k) := by decide +kernel
abbrev cX2_init : ByteArray := prog_4_method_1_code
def yX2_init : MethodName := ⟨RX2, "<init>", "(LRoadTurns$Roads;LRoadTurns$Turns;)V"⟩
abbrev cX2_begin : ByteArray := prog_4_method_2_code
def yX2_begin : MethodName := ⟨RX2, "begin", "(IZ)V"⟩
abbrev cX2_weightOfFirstArrival : ByteArray := prog_4_method_3_code
def yX2_weightOfFirstArrival : MethodName := ⟨RX2, "weightOfFirstArrival", "(I)J"⟩
abbrev cX2_countOtherNodes : ByteArray := prog_4_method_4_code
def yX2_countOtherNodes : MethodName := ⟨RX2, "countOtherNodes", "(J)I"⟩
abbrev cX2_leastArcBackTo : ByteArray := prog_4_method_5_code
def yX2_leastArcBackTo : MethodName := ⟨RX2, "leastArcBackTo", "(IIJ)I"⟩
abbrev cX2_spread : ByteArray := prog_4_method_6_code
def yX2_spread : MethodName := ⟨RX2, "spread", "(IIJ)V"⟩
abbrev cX2_gatherOpenArcs : ByteArray := prog_4_method_7_code
def yX2_gatherOpenArcs : MethodName := ⟨RX2, "gatherOpenArcs", "(I)V"⟩
abbrev cX2_mayTurn : ByteArray := prog_4_method_8_code
def yX2_mayTurn : MethodName := ⟨RX2, "mayTurn", "(III)Z"⟩
def RX3 : String := "RoadTurns$Turns"
def TX3 : u_T := fun k => match k with
  | 0 => ("RoadTurns$Turns", "count", "I", false)
  | _ => ("RoadTurns$Turns", "keys", "[I", true)
def tyX3 : Nat → FieldType := fun k => match k with
  | 0 => .int
  | _ => .array .int
abbrev wsX30 : List Cond := u_ws RX3 TX3 2
theorem nmX3 : ∀ a, a < 2 → ∀ b, b < 2 → a ≠ b → (TX3 a).2.1 ≠ (TX3 b).2.1 := by decide +kernel
theorem tyX3_ok : ∀ k, k < 2 → parseFieldDescriptor (TX3 k).2.2.1 = some (tyX3 k) := by decide +kernel
abbrev cX3_init : ByteArray := prog_5_method_1_code
def yX3_init : MethodName := ⟨RX3, "<init>", "()V"⟩
abbrev cX3_reset : ByteArray := prog_5_method_2_code
def yX3_reset : MethodName := ⟨RX3, "reset", "()V"⟩
abbrev cX3_isBarred : ByteArray := prog_5_method_3_code
def yX3_isBarred : MethodName := ⟨RX3, "isBarred", "(III)Z"⟩
abbrev cX3_add : ByteArray := prog_5_method_4_code
def yX3_add : MethodName := ⟨RX3, "add", "(III)V"⟩
abbrev cX3_remove : ByteArray := prog_5_method_5_code
def yX3_remove : MethodName := ⟨RX3, "remove", "(III)V"⟩
abbrev cX3_key : ByteArray := prog_5_method_6_code
def yX3_key : MethodName := ⟨RX3, "key", "(III)I"⟩
def RX4 : String := "RoadTurns"
def TX4 : u_T := fun k => match k with
  | 0 => ("RoadTurns", "roads", "LRoadTurns$Roads;", true)
  | 1 => ("RoadTurns", "turns", "LRoadTurns$Turns;", true)
  | 2 => ("RoadTurns", "search", "LRoadTurns$Search;", true)
  | 3 => ("RoadTurns", "way", "[I", true)
  | _ => ("RoadTurns", "wayLength", "I", false)
def tyX4 : Nat → FieldType := fun k => match k with
  | 0 => .object "RoadTurns$Roads"
  | 1 => .object "RoadTurns$Turns"
  | 2 => .object "RoadTurns$Search"
  | 3 => .array .int
  | _ => .int
abbrev wsX40 : List Cond := u_ws RX4 TX4 5
theorem nmX4 : ∀ a, a < 5 → ∀ b, b < 5 → a ≠ b → (TX4 a).2.1 ≠ (TX4 b).2.1 := by decide +kernel
theorem tyX4_ok : ∀ k, k < 5 → parseFieldDescriptor (TX4 k).2.2.1 = some (tyX4 k) := by decide +kernel
abbrev cX4_init : ByteArray := prog_1_method_1_code
def yX4_init : MethodName := ⟨RX4, "<init>", "()V"⟩
abbrev cX4_size : ByteArray := prog_1_method_2_code
def yX4_size : MethodName := ⟨RX4, "size", "(I)Z"⟩
abbrev cX4_road : ByteArray := prog_1_method_3_code
def yX4_road : MethodName := ⟨RX4, "road", "(III)I"⟩
abbrev cX4_close : ByteArray := prog_1_method_4_code
def yX4_close : MethodName := ⟨RX4, "close", "(IIZ)Z"⟩
abbrev cX4_cost : ByteArray := prog_1_method_5_code
def yX4_cost : MethodName := ⟨RX4, "cost", "(II)I"⟩
abbrev cX4_bar : ByteArray := prog_1_method_6_code
def yX4_bar : MethodName := ⟨RX4, "bar", "(IIIZ)I"⟩
abbrev cX4_route : ByteArray := prog_1_method_7_code
def yX4_route : MethodName := ⟨RX4, "route", "(II)J"⟩
abbrev cX4_length : ByteArray := prog_1_method_8_code
def yX4_length : MethodName := ⟨RX4, "length", "()I"⟩
abbrev cX4_node : ByteArray := prog_1_method_9_code
def yX4_node : MethodName := ⟨RX4, "node", "(I)I"⟩
abbrev cX4_within : ByteArray := prog_1_method_10_code
def yX4_within : MethodName := ⟨RX4, "within", "(IJ)I"⟩
abbrev cX4_append : ByteArray := prog_1_method_11_code
def yX4_append : MethodName := ⟨RX4, "append", "(I)V"⟩
abbrev cX4_layWay : ByteArray := prog_1_method_12_code
def yX4_layWay : MethodName := ⟨RX4, "layWay", "(IJ)V"⟩
abbrev cX4_placeIn : ByteArray := prog_1_method_13_code
def yX4_placeIn : MethodName := ⟨RX4, "placeIn", "([IIII)I"⟩
abbrev cX4_insert : ByteArray := prog_1_method_14_code
def yX4_insert : MethodName := ⟨RX4, "insert", "([IIII)V"⟩
def RX5 : String := "RoadTurnsModel"
def TX5 : u_T := fun k => match k with
  | 0 => ("RoadTurnsModel", "nodes", "I", false)
  | 1 => ("RoadTurnsModel", "low", "[I", true)
  | 2 => ("RoadTurnsModel", "high", "[I", true)
  | 3 => ("RoadTurnsModel", "costs", "[I", true)
  | 4 => ("RoadTurnsModel", "isClosed", "[Z", true)
  | 5 => ("RoadTurnsModel", "roads", "I", false)
  | 6 => ("RoadTurnsModel", "bars", "[I", true)
  | 7 => ("RoadTurnsModel", "barCount", "I", false)
  | 8 => ("RoadTurnsModel", "totals", "[J", true)
  | 9 => ("RoadTurnsModel", "many", "[I", true)
  | 10 => ("RoadTurnsModel", "isKnown", "[Z", true)
  | 11 => ("RoadTurnsModel", "first", "[I", true)
  | 12 => ("RoadTurnsModel", "next", "[I", true)
  | 13 => ("RoadTurnsModel", "heap", "[I", true)
  | 14 => ("RoadTurnsModel", "heaped", "I", false)
  | 15 => ("RoadTurnsModel", "row", "[I", true)
  | _ => ("RoadTurnsModel", "length", "I", false)
def tyX5 : Nat → FieldType := fun k => match k with
  | 0 => .int
  | 1 => .array .int
  | 2 => .array .int
  | 3 => .array .int
  | 4 => .array .boolean
  | 5 => .int
  | 6 => .array .int
  | 7 => .int
  | 8 => .array .long
  | 9 => .array .int
  | 10 => .array .boolean
  | 11 => .array .int
  | 12 => .array .int
  | 13 => .array .int
  | 14 => .int
  | 15 => .array .int
  | _ => .int
abbrev wsX50 : List Cond := u_ws RX5 TX5 17
theorem nmX5 : ∀ a, a < 17 → ∀ b, b < 17 → a ≠ b → (TX5 a).2.1 ≠ (TX5 b).2.1 := by decide +kernel
theorem tyX5_ok : ∀ k, k < 17 → parseFieldDescriptor (TX5 k).2.2.1 = some (tyX5 k) := by decide +kernel
abbrev cX5_init : ByteArray := prog_7_method_1_code
def yX5_init : MethodName := ⟨RX5, "<init>", "()V"⟩
abbrev cX5_size : ByteArray := prog_7_method_3_code
def yX5_size : MethodName := ⟨RX5, "size", "(I)Z"⟩
abbrev cX5_isNode : ByteArray := prog_7_method_4_code
def yX5_isNode : MethodName := ⟨RX5, "isNode", "(I)Z"⟩
abbrev cX5_isBefore : ByteArray := prog_7_method_5_code
def yX5_isBefore : MethodName := ⟨RX5, "isBefore", "(III)Z"⟩
abbrev cX5_placeOf : ByteArray := prog_7_method_6_code
def yX5_placeOf : MethodName := ⟨RX5, "placeOf", "(II)I"⟩
abbrev cX5_find : ByteArray := prog_7_method_7_code
def yX5_find : MethodName := ⟨RX5, "find", "(II)I"⟩
abbrev cX5_road : ByteArray := prog_7_method_8_code
def yX5_road : MethodName := ⟨RX5, "road", "(III)I"⟩
abbrev cX5_close : ByteArray := prog_7_method_9_code
def yX5_close : MethodName := ⟨RX5, "close", "(IIZ)Z"⟩
abbrev cX5_cost : ByteArray := prog_7_method_10_code
def yX5_cost : MethodName := ⟨RX5, "cost", "(II)I"⟩
abbrev cX5_barAt : ByteArray := prog_7_method_11_code
def yX5_barAt : MethodName := ⟨RX5, "barAt", "(III)I"⟩
abbrev cX5_bar : ByteArray := prog_7_method_12_code
def yX5_bar : MethodName := ⟨RX5, "bar", "(IIIZ)I"⟩
abbrev cX5_start : ByteArray := prog_7_method_13_code
def yX5_start : MethodName := ⟨RX5, "start", "(I)I"⟩
abbrev cX5_end : ByteArray := prog_7_method_14_code
def yX5_end : MethodName := ⟨RX5, "end", "(I)I"⟩
abbrev cX5_isLess : ByteArray := prog_7_method_15_code
def yX5_isLess : MethodName := ⟨RX5, "isLess", "(II)Z"⟩
abbrev cX5_known : ByteArray := prog_7_method_16_code
def yX5_known : MethodName := ⟨RX5, "known", "(IJI)V"⟩
abbrev cX5_pull : ByteArray := prog_7_method_17_code
def yX5_pull : MethodName := ⟨RX5, "pull", "()I"⟩
abbrev cX5_begin : ByteArray := prog_7_method_18_code
def yX5_begin : MethodName := ⟨RX5, "begin", "()V"⟩
abbrev cX5_spread : ByteArray := prog_7_method_19_code
def yX5_spread : MethodName := ⟨RX5, "spread", "(I)V"⟩
abbrev cX5_better : ByteArray := prog_7_method_20_code
def yX5_better : MethodName := ⟨RX5, "better", "(II)I"⟩
abbrev cX5_route : ByteArray := prog_7_method_21_code
def yX5_route : MethodName := ⟨RX5, "route", "(II)J"⟩
abbrev cX5_length : ByteArray := prog_7_method_22_code
def yX5_length : MethodName := ⟨RX5, "length", "()I"⟩
abbrev cX5_node : ByteArray := prog_7_method_23_code
def yX5_node : MethodName := ⟨RX5, "node", "(I)I"⟩
abbrev cX5_within : ByteArray := prog_7_method_24_code
def yX5_within : MethodName := ⟨RX5, "within", "(IJ)I"⟩
def RJ9 : String := "java/lang/Math"
def TJ9 : u_T := fun k => match k with
  | _ => ("", "", "", false)
def tyJ9 : Nat → FieldType := fun k => match k with
  | _ => .int
abbrev wsJ90 : List Cond := u_ws RJ9 TJ9 0
theorem nmJ9 : ∀ a, a < 0 → ∀ b, b < 0 → a ≠ b → (TJ9 a).2.1 ≠ (TJ9 b).2.1 := by decide +kernel
theorem tyJ9_ok : ∀ k, k < 0 → parseFieldDescriptor (TJ9 k).2.2.1 = some (tyJ9 k) := by decide +kernel
abbrev cJ9_max_7cf53 : ByteArray := prog_8_method_65_code
def yJ9_max_7cf53 : MethodName := ⟨RJ9, "max", "(II)I"⟩
abbrev cJ9_min_7cf53 : ByteArray := prog_8_method_69_code
def yJ9_min_7cf53 : MethodName := ⟨RJ9, "min", "(II)I"⟩
def RJ10 : String := "java/lang/System"
def TJ10 : u_T := fun k => match k with
  | _ => ("", "", "", false)
def tyJ10 : Nat → FieldType := fun k => match k with
  | _ => .int
abbrev wsJ100 : List Cond := u_ws RJ10 TJ10 0
theorem nmJ10 : ∀ a, a < 0 → ∀ b, b < 0 → a ≠ b → (TJ10 a).2.1 ≠ (TJ10 b).2.1 := by decide +kernel
theorem tyJ10_ok : ∀ k, k < 0 → parseFieldDescriptor (TJ10 k).2.2.1 = some (tyJ10 k) := by decide +kernel
def RL : String := "RoadTurnsLaw"
abbrev cL_law : ByteArray := code
def yL_law : MethodName := ⟨RL, "law", "([I)Z"⟩
def wsX0_init : List Cond := .code yX0_init cX0_init 2 none :: ([.methodLink RX0 3 objectInit, .instanceMethod objectInit, .code objectInit ⟨#[0xb1]⟩ 1 none, .fieldLink RX0 9 "RoadTurns$ArcHeap" "weights" "[J", .arrayClass .int, .fieldLink RX0 15 "RoadTurns$ArcHeap" "arcs" "[I", .fieldLink RX0 19 "RoadTurns$ArcHeap" "count" "I"] ++ wsX00)
def wsX0_add : List Cond := .code yX0_add cX0_add 4 none :: ([.fieldLink RX0 19 "RoadTurns$ArcHeap" "count" "I", .fieldLink RX0 15 "RoadTurns$ArcHeap" "arcs" "[I", .fieldLink RX0 9 "RoadTurns$ArcHeap" "weights" "[J"] ++ wsX00)
def wsX0_take : List Cond := .code yX0_take cX0_take 5 (some .int) :: ([.fieldLink RX0 19 "RoadTurns$ArcHeap" "count" "I", .fieldLink RX0 15 "RoadTurns$ArcHeap" "arcs" "[I", .fieldLink RX0 9 "RoadTurns$ArcHeap" "weights" "[J"] ++ wsX00)
def wsX1_init : List Cond := .code yX1_init cX1_init 1 none :: ([.methodLink RX1 3 objectInit, .instanceMethod objectInit, .code objectInit ⟨#[0xb1]⟩ 1 none, .fieldLink RX1 9 "RoadTurns$Roads" "nodes" "I", .fieldLink RX1 15 "RoadTurns$Roads" "arcs" "I", .arrayClass .int, .fieldLink RX1 18 "RoadTurns$Roads" "ends" "[I", .fieldLink RX1 22 "RoadTurns$Roads" "signedCosts" "[I", .fieldLink RX1 25 "RoadTurns$Roads" "firstArc" "[I"] ++ wsX10)
def wsX1_reset : List Cond := .code yX1_reset cX1_reset 3 none :: ([.fieldLink RX1 9 "RoadTurns$Roads" "nodes" "I", .fieldLink RX1 15 "RoadTurns$Roads" "arcs" "I", .fieldLink RX1 25 "RoadTurns$Roads" "firstArc" "[I"] ++ wsX10)
def wsX1_hasNode : List Cond := .code yX1_hasNode cX1_hasNode 2 (some .boolean) :: ([.fieldLink RX1 9 "RoadTurns$Roads" "nodes" "I"] ++ wsX10)
def wsX1_count : List Cond := .code yX1_count cX1_count 1 (some .int) :: ([.fieldLink RX1 15 "RoadTurns$Roads" "arcs" "I"] ++ wsX10)
def wsX1_originOf : List Cond := .code yX1_originOf cX1_originOf 2 (some .int) :: ([.fieldLink RX1 18 "RoadTurns$Roads" "ends" "[I"] ++ wsX10)
def wsX1_targetOf : List Cond := .code yX1_targetOf cX1_targetOf 2 (some .int) :: ([.fieldLink RX1 18 "RoadTurns$Roads" "ends" "[I"] ++ wsX10)
def wsX1_isOpen : List Cond := .code yX1_isOpen cX1_isOpen 2 (some .boolean) :: ([.fieldLink RX1 22 "RoadTurns$Roads" "signedCosts" "[I"] ++ wsX10)
def wsX1_weightOf : List Cond := .code yX1_weightOf cX1_weightOf 2 (some .long) :: ([.fieldLink RX1 22 "RoadTurns$Roads" "signedCosts" "[I", .constantLong RX1 28 (4096)] ++ wsX10)
def wsX1_key : List Cond := .code yX1_key cX1_key 2 (some .int) :: ([])
def wsX4_placeIn : List Cond := .code yX4_placeIn cX4_placeIn 7 (some .int) :: ([])
def wsX1_placeOf : List Cond := .code yX1_placeOf cX1_placeOf 3 (some .int) :: ([.fieldLink RX1 18 "RoadTurns$Roads" "ends" "[I", .fieldLink RX1 25 "RoadTurns$Roads" "firstArc" "[I", .methodLink RX1 38 yX1_key, .static yX1_key, .initialized RX1, .code yX1_key cX1_key 2 (some .int), .static yX4_placeIn, .initialized RX4, .code yX4_placeIn cX4_placeIn 7 (some .int)] ++ wsX10)
def wsX1_find : List Cond := .code yX1_find cX1_find 4 (some .int) :: ([.fieldLink RX1 25 "RoadTurns$Roads" "firstArc" "[I", .fieldLink RX1 18 "RoadTurns$Roads" "ends" "[I", .methodLink RX1 30 yX1_hasNode, .instanceMethod yX1_hasNode, .selects RX1 yX1_hasNode yX1_hasNode, .initialized RX1, .code yX1_hasNode cX1_hasNode 2 (some .boolean), .fieldLink RX1 9 "RoadTurns$Roads" "nodes" "I", .methodLink RX1 34 yX1_placeOf, .instanceMethod yX1_placeOf, .selects RX1 yX1_placeOf yX1_placeOf, .code yX1_placeOf cX1_placeOf 3 (some .int), .methodLink RX1 38 yX1_key, .static yX1_key, .code yX1_key cX1_key 2 (some .int), .static yX4_placeIn, .initialized RX4, .code yX4_placeIn cX4_placeIn 7 (some .int)] ++ wsX10)
def wsX1_signedCost : List Cond := .code yX1_signedCost cX1_signedCost 4 (some .int) :: ([.fieldLink RX1 22 "RoadTurns$Roads" "signedCosts" "[I", .methodLink RX1 41 yX1_find, .instanceMethod yX1_find, .selects RX1 yX1_find yX1_find, .initialized RX1, .code yX1_find cX1_find 4 (some .int), .fieldLink RX1 25 "RoadTurns$Roads" "firstArc" "[I", .fieldLink RX1 18 "RoadTurns$Roads" "ends" "[I", .methodLink RX1 30 yX1_hasNode, .instanceMethod yX1_hasNode, .selects RX1 yX1_hasNode yX1_hasNode, .code yX1_hasNode cX1_hasNode 2 (some .boolean), .fieldLink RX1 9 "RoadTurns$Roads" "nodes" "I", .methodLink RX1 34 yX1_placeOf, .instanceMethod yX1_placeOf, .selects RX1 yX1_placeOf yX1_placeOf, .code yX1_placeOf cX1_placeOf 3 (some .int), .methodLink RX1 38 yX1_key, .static yX1_key, .code yX1_key cX1_key 2 (some .int), .static yX4_placeIn, .initialized RX4, .code yX4_placeIn cX4_placeIn 7 (some .int)] ++ wsX10)
def wsX1_change : List Cond := .code yX1_change cX1_change 6 none :: ([.fieldLink RX1 22 "RoadTurns$Roads" "signedCosts" "[I", .methodLink RX1 41 yX1_find, .instanceMethod yX1_find, .selects RX1 yX1_find yX1_find, .initialized RX1, .code yX1_find cX1_find 4 (some .int), .fieldLink RX1 25 "RoadTurns$Roads" "firstArc" "[I", .fieldLink RX1 18 "RoadTurns$Roads" "ends" "[I", .methodLink RX1 30 yX1_hasNode, .instanceMethod yX1_hasNode, .selects RX1 yX1_hasNode yX1_hasNode, .code yX1_hasNode cX1_hasNode 2 (some .boolean), .fieldLink RX1 9 "RoadTurns$Roads" "nodes" "I", .methodLink RX1 34 yX1_placeOf, .instanceMethod yX1_placeOf, .selects RX1 yX1_placeOf yX1_placeOf, .code yX1_placeOf cX1_placeOf 3 (some .int), .methodLink RX1 38 yX1_key, .static yX1_key, .code yX1_key cX1_key 2 (some .int), .static yX4_placeIn, .initialized RX4, .code yX4_placeIn cX4_placeIn 7 (some .int)] ++ wsX10)
def wsX4_insert : List Cond := .code yX4_insert cX4_insert 4 none :: ([.methodLink RX4 112 arraycopyName, .native arraycopyName, .static arraycopyName, .initialized "java/lang/System"])
def wsX1_addArc : List Cond := .code yX1_addArc cX1_addArc 6 none :: ([.fieldLink RX1 18 "RoadTurns$Roads" "ends" "[I", .fieldLink RX1 15 "RoadTurns$Roads" "arcs" "I", .fieldLink RX1 22 "RoadTurns$Roads" "signedCosts" "[I", .fieldLink RX1 25 "RoadTurns$Roads" "firstArc" "[I", .methodLink RX1 34 yX1_placeOf, .instanceMethod yX1_placeOf, .selects RX1 yX1_placeOf yX1_placeOf, .initialized RX1, .code yX1_placeOf cX1_placeOf 3 (some .int), .methodLink RX1 38 yX1_key, .static yX1_key, .code yX1_key cX1_key 2 (some .int), .static yX4_placeIn, .initialized RX4, .code yX4_placeIn cX4_placeIn 7 (some .int), .static yX4_insert, .code yX4_insert cX4_insert 4 none, .methodLink RX4 112 arraycopyName, .native arraycopyName, .static arraycopyName, .initialized "java/lang/System"] ++ wsX10)
def wsX1_add_r1 : List Cond := [Cond.methodLink RX1 44 yX1_addArc, Cond.instanceMethod yX1_addArc, Cond.selects RX1 yX1_addArc yX1_addArc, Cond.initialized RX1, Cond.code yX1_addArc cX1_addArc 6 none, Cond.fieldLink RX1 18 "RoadTurns$Roads" "ends" "[I", Cond.fieldLink RX1 15 "RoadTurns$Roads" "arcs" "I", Cond.fieldLink RX1 22 "RoadTurns$Roads" "signedCosts" "[I", Cond.fieldLink RX1 25 "RoadTurns$Roads" "firstArc" "[I", Cond.methodLink RX1 34 yX1_placeOf, Cond.instanceMethod yX1_placeOf, Cond.selects RX1 yX1_placeOf yX1_placeOf, Cond.code yX1_placeOf cX1_placeOf 3 (some .int), Cond.methodLink RX1 38 yX1_key, Cond.static yX1_key, Cond.code yX1_key cX1_key 2 (some .int), Cond.static yX4_placeIn, Cond.initialized RX4, Cond.code yX4_placeIn cX4_placeIn 7 (some .int), Cond.static yX4_insert, Cond.code yX4_insert cX4_insert 4 none, Cond.methodLink RX4 112 arraycopyName, Cond.native arraycopyName, Cond.static arraycopyName]
def wsX1_add_r2 : List Cond := [Cond.initialized "java/lang/System"]
def wsX1_add : List Cond := .code yX1_add cX1_add 4 none :: ((wsX1_add_r1 ++ wsX1_add_r2) ++ wsX10)
def wsX2_init : List Cond := .code yX2_init cX2_init 3 none :: ([.methodLink RX2 3 objectInit, .instanceMethod objectInit, .code objectInit ⟨#[0xb1]⟩ 1 none, .fieldLink RX2 9 "RoadTurns$Search" "roads" "LRoadTurns$Roads;", .fieldLink RX2 15 "RoadTurns$Search" "turns" "LRoadTurns$Turns;", .arrayClass .long, .fieldLink RX2 19 "RoadTurns$Search" "weights" "[J", .classLink RX2 23 RX0, .instantiable RX0 3, .initialized RX0, .fieldLink RX2 28 "RoadTurns$Search" "heap" "LRoadTurns$ArcHeap;", .arrayClass .int, .fieldLink RX2 32 "RoadTurns$Search" "waiting" "[I", .fieldLink RX2 36 "RoadTurns$Search" "waitingCounts" "[I", .fieldLink RX2 39 "RoadTurns$Search" "backward" "Z", .methodLink RX2 25 yX0_init, .instanceMethod yX0_init, .code yX0_init cX0_init 2 none, .methodLink RX0 3 objectInit, .fieldLink RX0 9 "RoadTurns$ArcHeap" "weights" "[J", .fieldLink RX0 15 "RoadTurns$ArcHeap" "arcs" "[I", .fieldLink RX0 19 "RoadTurns$ArcHeap" "count" "I"] ++ wsX20 ++ wsX00)
def wsX2_gatherOpenArcs : List Cond := .code yX2_gatherOpenArcs cX2_gatherOpenArcs 5 none :: ([.fieldLink RX2 9 "RoadTurns$Search" "roads" "LRoadTurns$Roads;", .fieldLink RX2 32 "RoadTurns$Search" "waiting" "[I", .fieldLink RX2 36 "RoadTurns$Search" "waitingCounts" "[I", .methodLink RX2 94 yX1_isOpen, .instanceMethod yX1_isOpen, .selects RX1 yX1_isOpen yX1_isOpen, .initialized RX1, .code yX1_isOpen cX1_isOpen 2 (some .boolean), .fieldLink RX1 22 "RoadTurns$Roads" "signedCosts" "[I"] ++ wsX20 ++ wsX10)
def wsX3_key : List Cond := .code yX3_key cX3_key 3 (some .int) :: ([])
def wsX3_isBarred : List Cond := .code yX3_isBarred cX3_isBarred 6 (some .boolean) :: ([.fieldLink RX3 15 "RoadTurns$Turns" "keys" "[I", .fieldLink RX3 9 "RoadTurns$Turns" "count" "I", .methodLink RX3 19 yX3_key, .static yX3_key, .initialized RX3, .code yX3_key cX3_key 3 (some .int), .static yX4_placeIn, .initialized RX4, .code yX4_placeIn cX4_placeIn 7 (some .int)] ++ wsX30)
def wsX2_mayTurn : List Cond := .code yX2_mayTurn cX2_mayTurn 4 (some .boolean) :: ([.fieldLink RX2 39 "RoadTurns$Search" "backward" "Z", .fieldLink RX2 15 "RoadTurns$Search" "turns" "LRoadTurns$Turns;", .methodLink RX2 98 yX3_isBarred, .instanceMethod yX3_isBarred, .selects RX3 yX3_isBarred yX3_isBarred, .initialized RX3, .code yX3_isBarred cX3_isBarred 6 (some .boolean), .fieldLink RX3 15 "RoadTurns$Turns" "keys" "[I", .fieldLink RX3 9 "RoadTurns$Turns" "count" "I", .methodLink RX3 19 yX3_key, .static yX3_key, .code yX3_key cX3_key 3 (some .int), .static yX4_placeIn, .initialized RX4, .code yX4_placeIn cX4_placeIn 7 (some .int)] ++ wsX20 ++ wsX30)
def wsX2_spread_r1 : List Cond := [Cond.fieldLink RX2 36 "RoadTurns$Search" "waitingCounts" "[I", Cond.fieldLink RX2 9 "RoadTurns$Search" "roads" "LRoadTurns$Roads;", Cond.fieldLink RX2 32 "RoadTurns$Search" "waiting" "[I", Cond.fieldLink RX2 19 "RoadTurns$Search" "weights" "[J", Cond.fieldLink RX2 28 "RoadTurns$Search" "heap" "LRoadTurns$ArcHeap;", Cond.methodLink RX2 83 yX2_gatherOpenArcs, Cond.instanceMethod yX2_gatherOpenArcs, Cond.selects RX2 yX2_gatherOpenArcs yX2_gatherOpenArcs, Cond.initialized RX2, Cond.code yX2_gatherOpenArcs cX2_gatherOpenArcs 5 none, Cond.methodLink RX2 94 yX1_isOpen, Cond.instanceMethod yX1_isOpen, Cond.selects RX1 yX1_isOpen yX1_isOpen, Cond.initialized RX1, Cond.code yX1_isOpen cX1_isOpen 2 (some .boolean), Cond.fieldLink RX1 22 "RoadTurns$Roads" "signedCosts" "[I", Cond.methodLink RX2 63 yX1_targetOf, Cond.instanceMethod yX1_targetOf, Cond.selects RX1 yX1_targetOf yX1_targetOf, Cond.code yX1_targetOf cX1_targetOf 2 (some .int), Cond.fieldLink RX1 18 "RoadTurns$Roads" "ends" "[I", Cond.methodLink RX2 79 yX2_mayTurn, Cond.instanceMethod yX2_mayTurn, Cond.selects RX2 yX2_mayTurn yX2_mayTurn]
def wsX2_spread_r2 : List Cond := [Cond.code yX2_mayTurn cX2_mayTurn 4 (some .boolean), Cond.fieldLink RX2 39 "RoadTurns$Search" "backward" "Z", Cond.fieldLink RX2 15 "RoadTurns$Search" "turns" "LRoadTurns$Turns;", Cond.methodLink RX2 98 yX3_isBarred, Cond.instanceMethod yX3_isBarred, Cond.selects RX3 yX3_isBarred yX3_isBarred, Cond.initialized RX3, Cond.code yX3_isBarred cX3_isBarred 6 (some .boolean), Cond.fieldLink RX3 15 "RoadTurns$Turns" "keys" "[I", Cond.fieldLink RX3 9 "RoadTurns$Turns" "count" "I", Cond.methodLink RX3 19 yX3_key, Cond.static yX3_key, Cond.code yX3_key cX3_key 3 (some .int), Cond.static yX4_placeIn, Cond.initialized RX4, Cond.code yX4_placeIn cX4_placeIn 7 (some .int), Cond.methodLink RX2 87 yX1_weightOf, Cond.instanceMethod yX1_weightOf, Cond.selects RX1 yX1_weightOf yX1_weightOf, Cond.code yX1_weightOf cX1_weightOf 2 (some .long), Cond.constantLong RX1 28 (4096), Cond.methodLink RX2 91 yX0_add, Cond.instanceMethod yX0_add, Cond.selects RX0 yX0_add yX0_add]
def wsX2_spread_r3 : List Cond := [Cond.initialized RX0, Cond.code yX0_add cX0_add 4 none, Cond.fieldLink RX0 19 "RoadTurns$ArcHeap" "count" "I", Cond.fieldLink RX0 15 "RoadTurns$ArcHeap" "arcs" "[I", Cond.fieldLink RX0 9 "RoadTurns$ArcHeap" "weights" "[J"]
def wsX2_spread : List Cond := .code yX2_spread cX2_spread 9 none :: ((wsX2_spread_r1 ++ (wsX2_spread_r2 ++ wsX2_spread_r3)) ++ wsX20 ++ wsX10 ++ wsX30 ++ wsX00)
def wsX2_begin_r1 : List Cond := [Cond.fieldLink RX2 39 "RoadTurns$Search" "backward" "Z", Cond.fieldLink RX2 28 "RoadTurns$Search" "heap" "LRoadTurns$ArcHeap;", Cond.fieldLink RX2 9 "RoadTurns$Search" "roads" "LRoadTurns$Roads;", Cond.fieldLink RX2 19 "RoadTurns$Search" "weights" "[J", Cond.fieldLink RX2 36 "RoadTurns$Search" "waitingCounts" "[I", Cond.methodLink RX2 55 yX2_spread, Cond.instanceMethod yX2_spread, Cond.selects RX2 yX2_spread yX2_spread, Cond.initialized RX2, Cond.code yX2_spread cX2_spread 9 none, Cond.fieldLink RX2 32 "RoadTurns$Search" "waiting" "[I", Cond.methodLink RX2 83 yX2_gatherOpenArcs, Cond.instanceMethod yX2_gatherOpenArcs, Cond.selects RX2 yX2_gatherOpenArcs yX2_gatherOpenArcs, Cond.code yX2_gatherOpenArcs cX2_gatherOpenArcs 5 none, Cond.methodLink RX2 94 yX1_isOpen, Cond.instanceMethod yX1_isOpen, Cond.selects RX1 yX1_isOpen yX1_isOpen, Cond.initialized RX1, Cond.code yX1_isOpen cX1_isOpen 2 (some .boolean), Cond.fieldLink RX1 22 "RoadTurns$Roads" "signedCosts" "[I", Cond.methodLink RX2 63 yX1_targetOf, Cond.instanceMethod yX1_targetOf, Cond.selects RX1 yX1_targetOf yX1_targetOf]
def wsX2_begin_r2 : List Cond := [Cond.code yX1_targetOf cX1_targetOf 2 (some .int), Cond.fieldLink RX1 18 "RoadTurns$Roads" "ends" "[I", Cond.methodLink RX2 79 yX2_mayTurn, Cond.instanceMethod yX2_mayTurn, Cond.selects RX2 yX2_mayTurn yX2_mayTurn, Cond.code yX2_mayTurn cX2_mayTurn 4 (some .boolean), Cond.fieldLink RX2 15 "RoadTurns$Search" "turns" "LRoadTurns$Turns;", Cond.methodLink RX2 98 yX3_isBarred, Cond.instanceMethod yX3_isBarred, Cond.selects RX3 yX3_isBarred yX3_isBarred, Cond.initialized RX3, Cond.code yX3_isBarred cX3_isBarred 6 (some .boolean), Cond.fieldLink RX3 15 "RoadTurns$Turns" "keys" "[I", Cond.fieldLink RX3 9 "RoadTurns$Turns" "count" "I", Cond.methodLink RX3 19 yX3_key, Cond.static yX3_key, Cond.code yX3_key cX3_key 3 (some .int), Cond.static yX4_placeIn, Cond.initialized RX4, Cond.code yX4_placeIn cX4_placeIn 7 (some .int), Cond.methodLink RX2 87 yX1_weightOf, Cond.instanceMethod yX1_weightOf, Cond.selects RX1 yX1_weightOf yX1_weightOf, Cond.code yX1_weightOf cX1_weightOf 2 (some .long)]
def wsX2_begin_r3 : List Cond := [Cond.constantLong RX1 28 (4096), Cond.methodLink RX2 91 yX0_add, Cond.instanceMethod yX0_add, Cond.selects RX0 yX0_add yX0_add, Cond.initialized RX0, Cond.code yX0_add cX0_add 4 none, Cond.fieldLink RX0 19 "RoadTurns$ArcHeap" "count" "I", Cond.fieldLink RX0 15 "RoadTurns$ArcHeap" "arcs" "[I", Cond.fieldLink RX0 9 "RoadTurns$ArcHeap" "weights" "[J"]
def wsX2_begin : List Cond := .code yX2_begin cX2_begin 4 none :: ((wsX2_begin_r1 ++ (wsX2_begin_r2 ++ wsX2_begin_r3)) ++ wsX20 ++ wsX00 ++ wsX10 ++ wsX30)
def wsX2_weightOfFirstArrival_r1 : List Cond := [Cond.fieldLink RX2 28 "RoadTurns$Search" "heap" "LRoadTurns$ArcHeap;", Cond.fieldLink RX2 9 "RoadTurns$Search" "roads" "LRoadTurns$Roads;", Cond.fieldLink RX2 19 "RoadTurns$Search" "weights" "[J", Cond.methodLink RX2 59 yX0_take, Cond.instanceMethod yX0_take, Cond.selects RX0 yX0_take yX0_take, Cond.initialized RX0, Cond.code yX0_take cX0_take 5 (some .int), Cond.fieldLink RX0 19 "RoadTurns$ArcHeap" "count" "I", Cond.fieldLink RX0 15 "RoadTurns$ArcHeap" "arcs" "[I", Cond.fieldLink RX0 9 "RoadTurns$ArcHeap" "weights" "[J", Cond.methodLink RX2 63 yX1_targetOf, Cond.instanceMethod yX1_targetOf, Cond.selects RX1 yX1_targetOf yX1_targetOf, Cond.initialized RX1, Cond.code yX1_targetOf cX1_targetOf 2 (some .int), Cond.fieldLink RX1 18 "RoadTurns$Roads" "ends" "[I", Cond.methodLink RX2 67 yX1_originOf, Cond.instanceMethod yX1_originOf, Cond.selects RX1 yX1_originOf yX1_originOf, Cond.code yX1_originOf cX1_originOf 2 (some .int), Cond.methodLink RX2 55 yX2_spread, Cond.instanceMethod yX2_spread, Cond.selects RX2 yX2_spread yX2_spread]
def wsX2_weightOfFirstArrival_r2 : List Cond := [Cond.initialized RX2, Cond.code yX2_spread cX2_spread 9 none, Cond.fieldLink RX2 36 "RoadTurns$Search" "waitingCounts" "[I", Cond.fieldLink RX2 32 "RoadTurns$Search" "waiting" "[I", Cond.methodLink RX2 83 yX2_gatherOpenArcs, Cond.instanceMethod yX2_gatherOpenArcs, Cond.selects RX2 yX2_gatherOpenArcs yX2_gatherOpenArcs, Cond.code yX2_gatherOpenArcs cX2_gatherOpenArcs 5 none, Cond.methodLink RX2 94 yX1_isOpen, Cond.instanceMethod yX1_isOpen, Cond.selects RX1 yX1_isOpen yX1_isOpen, Cond.code yX1_isOpen cX1_isOpen 2 (some .boolean), Cond.fieldLink RX1 22 "RoadTurns$Roads" "signedCosts" "[I", Cond.methodLink RX2 79 yX2_mayTurn, Cond.instanceMethod yX2_mayTurn, Cond.selects RX2 yX2_mayTurn yX2_mayTurn, Cond.code yX2_mayTurn cX2_mayTurn 4 (some .boolean), Cond.fieldLink RX2 39 "RoadTurns$Search" "backward" "Z", Cond.fieldLink RX2 15 "RoadTurns$Search" "turns" "LRoadTurns$Turns;", Cond.methodLink RX2 98 yX3_isBarred, Cond.instanceMethod yX3_isBarred, Cond.selects RX3 yX3_isBarred yX3_isBarred, Cond.initialized RX3, Cond.code yX3_isBarred cX3_isBarred 6 (some .boolean)]
def wsX2_weightOfFirstArrival_r3 : List Cond := [Cond.fieldLink RX3 15 "RoadTurns$Turns" "keys" "[I", Cond.fieldLink RX3 9 "RoadTurns$Turns" "count" "I", Cond.methodLink RX3 19 yX3_key, Cond.static yX3_key, Cond.code yX3_key cX3_key 3 (some .int), Cond.static yX4_placeIn, Cond.initialized RX4, Cond.code yX4_placeIn cX4_placeIn 7 (some .int), Cond.methodLink RX2 87 yX1_weightOf, Cond.instanceMethod yX1_weightOf, Cond.selects RX1 yX1_weightOf yX1_weightOf, Cond.code yX1_weightOf cX1_weightOf 2 (some .long), Cond.constantLong RX1 28 (4096), Cond.methodLink RX2 91 yX0_add, Cond.instanceMethod yX0_add, Cond.selects RX0 yX0_add yX0_add, Cond.code yX0_add cX0_add 4 none]
def wsX2_weightOfFirstArrival : List Cond := .code yX2_weightOfFirstArrival cX2_weightOfFirstArrival 4 (some .long) :: ((wsX2_weightOfFirstArrival_r1 ++ (wsX2_weightOfFirstArrival_r2 ++ wsX2_weightOfFirstArrival_r3)) ++ wsX20 ++ wsX00 ++ wsX10 ++ wsX30)
def wsX2_countOtherNodes_r1 : List Cond := [Cond.fieldLink RX2 28 "RoadTurns$Search" "heap" "LRoadTurns$ArcHeap;", Cond.fieldLink RX2 19 "RoadTurns$Search" "weights" "[J", Cond.constantLong RX2 70 (4096), Cond.fieldLink RX2 36 "RoadTurns$Search" "waitingCounts" "[I", Cond.fieldLink RX2 9 "RoadTurns$Search" "roads" "LRoadTurns$Roads;", Cond.methodLink RX2 59 yX0_take, Cond.instanceMethod yX0_take, Cond.selects RX0 yX0_take yX0_take, Cond.initialized RX0, Cond.code yX0_take cX0_take 5 (some .int), Cond.fieldLink RX0 19 "RoadTurns$ArcHeap" "count" "I", Cond.fieldLink RX0 15 "RoadTurns$ArcHeap" "arcs" "[I", Cond.fieldLink RX0 9 "RoadTurns$ArcHeap" "weights" "[J", Cond.methodLink RX2 63 yX1_targetOf, Cond.instanceMethod yX1_targetOf, Cond.selects RX1 yX1_targetOf yX1_targetOf, Cond.initialized RX1, Cond.code yX1_targetOf cX1_targetOf 2 (some .int), Cond.fieldLink RX1 18 "RoadTurns$Roads" "ends" "[I", Cond.methodLink RX2 67 yX1_originOf, Cond.instanceMethod yX1_originOf, Cond.selects RX1 yX1_originOf yX1_originOf, Cond.code yX1_originOf cX1_originOf 2 (some .int), Cond.methodLink RX2 55 yX2_spread]
def wsX2_countOtherNodes_r2 : List Cond := [Cond.instanceMethod yX2_spread, Cond.selects RX2 yX2_spread yX2_spread, Cond.initialized RX2, Cond.code yX2_spread cX2_spread 9 none, Cond.fieldLink RX2 32 "RoadTurns$Search" "waiting" "[I", Cond.methodLink RX2 83 yX2_gatherOpenArcs, Cond.instanceMethod yX2_gatherOpenArcs, Cond.selects RX2 yX2_gatherOpenArcs yX2_gatherOpenArcs, Cond.code yX2_gatherOpenArcs cX2_gatherOpenArcs 5 none, Cond.methodLink RX2 94 yX1_isOpen, Cond.instanceMethod yX1_isOpen, Cond.selects RX1 yX1_isOpen yX1_isOpen, Cond.code yX1_isOpen cX1_isOpen 2 (some .boolean), Cond.fieldLink RX1 22 "RoadTurns$Roads" "signedCosts" "[I", Cond.methodLink RX2 79 yX2_mayTurn, Cond.instanceMethod yX2_mayTurn, Cond.selects RX2 yX2_mayTurn yX2_mayTurn, Cond.code yX2_mayTurn cX2_mayTurn 4 (some .boolean), Cond.fieldLink RX2 39 "RoadTurns$Search" "backward" "Z", Cond.fieldLink RX2 15 "RoadTurns$Search" "turns" "LRoadTurns$Turns;", Cond.methodLink RX2 98 yX3_isBarred, Cond.instanceMethod yX3_isBarred, Cond.selects RX3 yX3_isBarred yX3_isBarred, Cond.initialized RX3]
def wsX2_countOtherNodes_r3 : List Cond := [Cond.code yX3_isBarred cX3_isBarred 6 (some .boolean), Cond.fieldLink RX3 15 "RoadTurns$Turns" "keys" "[I", Cond.fieldLink RX3 9 "RoadTurns$Turns" "count" "I", Cond.methodLink RX3 19 yX3_key, Cond.static yX3_key, Cond.code yX3_key cX3_key 3 (some .int), Cond.static yX4_placeIn, Cond.initialized RX4, Cond.code yX4_placeIn cX4_placeIn 7 (some .int), Cond.methodLink RX2 87 yX1_weightOf, Cond.instanceMethod yX1_weightOf, Cond.selects RX1 yX1_weightOf yX1_weightOf, Cond.code yX1_weightOf cX1_weightOf 2 (some .long), Cond.constantLong RX1 28 (4096), Cond.methodLink RX2 91 yX0_add, Cond.instanceMethod yX0_add, Cond.selects RX0 yX0_add yX0_add, Cond.code yX0_add cX0_add 4 none]
def wsX2_countOtherNodes : List Cond := .code yX2_countOtherNodes cX2_countOtherNodes 6 (some .int) :: ((wsX2_countOtherNodes_r1 ++ (wsX2_countOtherNodes_r2 ++ wsX2_countOtherNodes_r3)) ++ wsX20 ++ wsX00 ++ wsX10 ++ wsX30)
def wsX2_leastArcBackTo_r1 : List Cond := [Cond.fieldLink RX2 9 "RoadTurns$Search" "roads" "LRoadTurns$Roads;", Cond.fieldLink RX2 19 "RoadTurns$Search" "weights" "[J", Cond.methodLink RX2 63 yX1_targetOf, Cond.instanceMethod yX1_targetOf, Cond.selects RX1 yX1_targetOf yX1_targetOf, Cond.initialized RX1, Cond.code yX1_targetOf cX1_targetOf 2 (some .int), Cond.fieldLink RX1 18 "RoadTurns$Roads" "ends" "[I", Cond.methodLink RX2 75 yX1_find, Cond.instanceMethod yX1_find, Cond.selects RX1 yX1_find yX1_find, Cond.code yX1_find cX1_find 4 (some .int), Cond.fieldLink RX1 25 "RoadTurns$Roads" "firstArc" "[I", Cond.methodLink RX1 30 yX1_hasNode, Cond.instanceMethod yX1_hasNode, Cond.selects RX1 yX1_hasNode yX1_hasNode, Cond.code yX1_hasNode cX1_hasNode 2 (some .boolean), Cond.fieldLink RX1 9 "RoadTurns$Roads" "nodes" "I", Cond.methodLink RX1 34 yX1_placeOf, Cond.instanceMethod yX1_placeOf, Cond.selects RX1 yX1_placeOf yX1_placeOf, Cond.code yX1_placeOf cX1_placeOf 3 (some .int), Cond.methodLink RX1 38 yX1_key, Cond.static yX1_key]
def wsX2_leastArcBackTo_r2 : List Cond := [Cond.code yX1_key cX1_key 2 (some .int), Cond.static yX4_placeIn, Cond.initialized RX4, Cond.code yX4_placeIn cX4_placeIn 7 (some .int), Cond.methodLink RX2 79 yX2_mayTurn, Cond.instanceMethod yX2_mayTurn, Cond.selects RX2 yX2_mayTurn yX2_mayTurn, Cond.initialized RX2, Cond.code yX2_mayTurn cX2_mayTurn 4 (some .boolean), Cond.fieldLink RX2 39 "RoadTurns$Search" "backward" "Z", Cond.fieldLink RX2 15 "RoadTurns$Search" "turns" "LRoadTurns$Turns;", Cond.methodLink RX2 98 yX3_isBarred, Cond.instanceMethod yX3_isBarred, Cond.selects RX3 yX3_isBarred yX3_isBarred, Cond.initialized RX3, Cond.code yX3_isBarred cX3_isBarred 6 (some .boolean), Cond.fieldLink RX3 15 "RoadTurns$Turns" "keys" "[I", Cond.fieldLink RX3 9 "RoadTurns$Turns" "count" "I", Cond.methodLink RX3 19 yX3_key, Cond.static yX3_key, Cond.code yX3_key cX3_key 3 (some .int)]
def wsX2_leastArcBackTo : List Cond := .code yX2_leastArcBackTo cX2_leastArcBackTo 8 (some .int) :: ((wsX2_leastArcBackTo_r1 ++ wsX2_leastArcBackTo_r2) ++ wsX20 ++ wsX10 ++ wsX30)
def wsX3_init : List Cond := .code yX3_init cX3_init 1 none :: ([.methodLink RX3 3 objectInit, .instanceMethod objectInit, .code objectInit ⟨#[0xb1]⟩ 1 none, .fieldLink RX3 9 "RoadTurns$Turns" "count" "I", .arrayClass .int, .fieldLink RX3 15 "RoadTurns$Turns" "keys" "[I"] ++ wsX30)
def wsX3_reset : List Cond := .code yX3_reset cX3_reset 1 none :: ([.fieldLink RX3 9 "RoadTurns$Turns" "count" "I"] ++ wsX30)
def wsX3_add : List Cond := .code yX3_add cX3_add 5 none :: ([.fieldLink RX3 9 "RoadTurns$Turns" "count" "I", .fieldLink RX3 15 "RoadTurns$Turns" "keys" "[I", .methodLink RX3 19 yX3_key, .static yX3_key, .initialized RX3, .code yX3_key cX3_key 3 (some .int), .static yX4_placeIn, .initialized RX4, .code yX4_placeIn cX4_placeIn 7 (some .int), .static yX4_insert, .code yX4_insert cX4_insert 4 none, .methodLink RX4 112 arraycopyName, .native arraycopyName, .static arraycopyName, .initialized "java/lang/System"] ++ wsX30)
def wsX3_remove : List Cond := .code yX3_remove cX3_remove 6 none :: ([.fieldLink RX3 15 "RoadTurns$Turns" "keys" "[I", .fieldLink RX3 9 "RoadTurns$Turns" "count" "I", .methodLink RX3 31 arraycopyName, .native arraycopyName, .static arraycopyName, .initialized "java/lang/System", .methodLink RX3 19 yX3_key, .static yX3_key, .initialized RX3, .code yX3_key cX3_key 3 (some .int), .static yX4_placeIn, .initialized RX4, .code yX4_placeIn cX4_placeIn 7 (some .int)] ++ wsX30)
def wsX4_init_r1 : List Cond := [Cond.methodLink RX4 3 objectInit, Cond.instanceMethod objectInit, Cond.code objectInit ⟨#[0xb1]⟩ 1 none, Cond.classLink RX4 9 RX1, Cond.instantiable RX1 5, Cond.initialized RX1, Cond.fieldLink RX4 12 "RoadTurns" "roads" "LRoadTurns$Roads;", Cond.classLink RX4 16 RX3, Cond.instantiable RX3 2, Cond.initialized RX3, Cond.fieldLink RX4 19 "RoadTurns" "turns" "LRoadTurns$Turns;", Cond.classLink RX4 23 RX2, Cond.instantiable RX2 7, Cond.initialized RX2, Cond.fieldLink RX4 28 "RoadTurns" "search" "LRoadTurns$Search;", Cond.arrayClass .int, Cond.fieldLink RX4 32 "RoadTurns" "way" "[I", Cond.fieldLink RX4 36 "RoadTurns" "wayLength" "I", Cond.methodLink RX4 11 yX1_init, Cond.instanceMethod yX1_init, Cond.code yX1_init cX1_init 1 none, Cond.methodLink RX1 3 objectInit, Cond.fieldLink RX1 9 "RoadTurns$Roads" "nodes" "I", Cond.fieldLink RX1 15 "RoadTurns$Roads" "arcs" "I"]
def wsX4_init_r2 : List Cond := [Cond.fieldLink RX1 18 "RoadTurns$Roads" "ends" "[I", Cond.fieldLink RX1 22 "RoadTurns$Roads" "signedCosts" "[I", Cond.fieldLink RX1 25 "RoadTurns$Roads" "firstArc" "[I", Cond.methodLink RX4 18 yX3_init, Cond.instanceMethod yX3_init, Cond.code yX3_init cX3_init 1 none, Cond.methodLink RX3 3 objectInit, Cond.fieldLink RX3 9 "RoadTurns$Turns" "count" "I", Cond.fieldLink RX3 15 "RoadTurns$Turns" "keys" "[I", Cond.methodLink RX4 25 yX2_init, Cond.instanceMethod yX2_init, Cond.code yX2_init cX2_init 3 none, Cond.methodLink RX2 3 objectInit, Cond.fieldLink RX2 9 "RoadTurns$Search" "roads" "LRoadTurns$Roads;", Cond.fieldLink RX2 15 "RoadTurns$Search" "turns" "LRoadTurns$Turns;", Cond.arrayClass .long, Cond.fieldLink RX2 19 "RoadTurns$Search" "weights" "[J", Cond.classLink RX2 23 RX0, Cond.instantiable RX0 3, Cond.initialized RX0, Cond.fieldLink RX2 28 "RoadTurns$Search" "heap" "LRoadTurns$ArcHeap;", Cond.fieldLink RX2 32 "RoadTurns$Search" "waiting" "[I", Cond.fieldLink RX2 36 "RoadTurns$Search" "waitingCounts" "[I", Cond.fieldLink RX2 39 "RoadTurns$Search" "backward" "Z"]
def wsX4_init_r3 : List Cond := [Cond.methodLink RX2 25 yX0_init, Cond.instanceMethod yX0_init, Cond.code yX0_init cX0_init 2 none, Cond.methodLink RX0 3 objectInit, Cond.fieldLink RX0 9 "RoadTurns$ArcHeap" "weights" "[J", Cond.fieldLink RX0 15 "RoadTurns$ArcHeap" "arcs" "[I", Cond.fieldLink RX0 19 "RoadTurns$ArcHeap" "count" "I"]
def wsX4_init : List Cond := .code yX4_init cX4_init 1 none :: ((wsX4_init_r1 ++ (wsX4_init_r2 ++ wsX4_init_r3)) ++ wsX10 ++ wsX40 ++ wsX30 ++ wsX20 ++ wsX00)
def wsX4_size : List Cond := .code yX4_size cX4_size 2 (some .boolean) :: ([.fieldLink RX4 12 "RoadTurns" "roads" "LRoadTurns$Roads;", .fieldLink RX4 19 "RoadTurns" "turns" "LRoadTurns$Turns;", .fieldLink RX4 36 "RoadTurns" "wayLength" "I", .methodLink RX4 40 yX1_reset, .instanceMethod yX1_reset, .selects RX1 yX1_reset yX1_reset, .initialized RX1, .code yX1_reset cX1_reset 3 none, .fieldLink RX1 9 "RoadTurns$Roads" "nodes" "I", .fieldLink RX1 15 "RoadTurns$Roads" "arcs" "I", .fieldLink RX1 25 "RoadTurns$Roads" "firstArc" "[I", .methodLink RX4 44 yX3_reset, .instanceMethod yX3_reset, .selects RX3 yX3_reset yX3_reset, .initialized RX3, .code yX3_reset cX3_reset 1 none, .fieldLink RX3 9 "RoadTurns$Turns" "count" "I"] ++ wsX40 ++ wsX10 ++ wsX30)
def wsX4_road_r1 : List Cond := [Cond.fieldLink RX4 12 "RoadTurns" "roads" "LRoadTurns$Roads;", Cond.constant RX4 50 (1000000000), Cond.methodLink RX4 46 yX1_hasNode, Cond.instanceMethod yX1_hasNode, Cond.selects RX1 yX1_hasNode yX1_hasNode, Cond.initialized RX1, Cond.code yX1_hasNode cX1_hasNode 2 (some .boolean), Cond.fieldLink RX1 9 "RoadTurns$Roads" "nodes" "I", Cond.methodLink RX4 51 yX1_signedCost, Cond.instanceMethod yX1_signedCost, Cond.selects RX1 yX1_signedCost yX1_signedCost, Cond.code yX1_signedCost cX1_signedCost 4 (some .int), Cond.fieldLink RX1 22 "RoadTurns$Roads" "signedCosts" "[I", Cond.methodLink RX1 41 yX1_find, Cond.instanceMethod yX1_find, Cond.selects RX1 yX1_find yX1_find, Cond.code yX1_find cX1_find 4 (some .int), Cond.fieldLink RX1 25 "RoadTurns$Roads" "firstArc" "[I", Cond.fieldLink RX1 18 "RoadTurns$Roads" "ends" "[I", Cond.methodLink RX1 30 yX1_hasNode, Cond.methodLink RX1 34 yX1_placeOf, Cond.instanceMethod yX1_placeOf, Cond.selects RX1 yX1_placeOf yX1_placeOf, Cond.code yX1_placeOf cX1_placeOf 3 (some .int)]
def wsX4_road_r2 : List Cond := [Cond.methodLink RX1 38 yX1_key, Cond.static yX1_key, Cond.code yX1_key cX1_key 2 (some .int), Cond.static yX4_placeIn, Cond.initialized RX4, Cond.code yX4_placeIn cX4_placeIn 7 (some .int), Cond.methodLink RX4 55 yX1_change, Cond.instanceMethod yX1_change, Cond.selects RX1 yX1_change yX1_change, Cond.code yX1_change cX1_change 6 none, Cond.methodLink RX4 59 yX1_count, Cond.instanceMethod yX1_count, Cond.selects RX1 yX1_count yX1_count, Cond.code yX1_count cX1_count 1 (some .int), Cond.fieldLink RX1 15 "RoadTurns$Roads" "arcs" "I", Cond.methodLink RX4 63 yX1_add, Cond.instanceMethod yX1_add, Cond.selects RX1 yX1_add yX1_add, Cond.code yX1_add cX1_add 4 none, Cond.methodLink RX1 44 yX1_addArc, Cond.instanceMethod yX1_addArc, Cond.selects RX1 yX1_addArc yX1_addArc, Cond.code yX1_addArc cX1_addArc 6 none, Cond.static yX4_insert]
def wsX4_road_r3 : List Cond := [Cond.code yX4_insert cX4_insert 4 none, Cond.methodLink RX4 112 arraycopyName, Cond.native arraycopyName, Cond.static arraycopyName, Cond.initialized "java/lang/System"]
def wsX4_road : List Cond := .code yX4_road cX4_road 5 (some .int) :: ((wsX4_road_r1 ++ (wsX4_road_r2 ++ wsX4_road_r3)) ++ wsX40 ++ wsX10)
def wsX4_close_r1 : List Cond := [Cond.fieldLink RX4 12 "RoadTurns" "roads" "LRoadTurns$Roads;", Cond.methodLink RX4 51 yX1_signedCost, Cond.instanceMethod yX1_signedCost, Cond.selects RX1 yX1_signedCost yX1_signedCost, Cond.initialized RX1, Cond.code yX1_signedCost cX1_signedCost 4 (some .int), Cond.fieldLink RX1 22 "RoadTurns$Roads" "signedCosts" "[I", Cond.methodLink RX1 41 yX1_find, Cond.instanceMethod yX1_find, Cond.selects RX1 yX1_find yX1_find, Cond.code yX1_find cX1_find 4 (some .int), Cond.fieldLink RX1 25 "RoadTurns$Roads" "firstArc" "[I", Cond.fieldLink RX1 18 "RoadTurns$Roads" "ends" "[I", Cond.methodLink RX1 30 yX1_hasNode, Cond.instanceMethod yX1_hasNode, Cond.selects RX1 yX1_hasNode yX1_hasNode, Cond.code yX1_hasNode cX1_hasNode 2 (some .boolean), Cond.fieldLink RX1 9 "RoadTurns$Roads" "nodes" "I", Cond.methodLink RX1 34 yX1_placeOf, Cond.instanceMethod yX1_placeOf, Cond.selects RX1 yX1_placeOf yX1_placeOf, Cond.code yX1_placeOf cX1_placeOf 3 (some .int), Cond.methodLink RX1 38 yX1_key, Cond.static yX1_key]
def wsX4_close_r2 : List Cond := [Cond.code yX1_key cX1_key 2 (some .int), Cond.static yX4_placeIn, Cond.initialized RX4, Cond.code yX4_placeIn cX4_placeIn 7 (some .int), Cond.methodLink RX4 55 yX1_change, Cond.instanceMethod yX1_change, Cond.selects RX1 yX1_change yX1_change, Cond.code yX1_change cX1_change 6 none]
def wsX4_close : List Cond := .code yX4_close cX4_close 5 (some .boolean) :: ((wsX4_close_r1 ++ wsX4_close_r2) ++ wsX40 ++ wsX10)
def wsX4_cost_r1 : List Cond := [Cond.fieldLink RX4 12 "RoadTurns" "roads" "LRoadTurns$Roads;", Cond.methodLink RX4 51 yX1_signedCost, Cond.instanceMethod yX1_signedCost, Cond.selects RX1 yX1_signedCost yX1_signedCost, Cond.initialized RX1, Cond.code yX1_signedCost cX1_signedCost 4 (some .int), Cond.fieldLink RX1 22 "RoadTurns$Roads" "signedCosts" "[I", Cond.methodLink RX1 41 yX1_find, Cond.instanceMethod yX1_find, Cond.selects RX1 yX1_find yX1_find, Cond.code yX1_find cX1_find 4 (some .int), Cond.fieldLink RX1 25 "RoadTurns$Roads" "firstArc" "[I", Cond.fieldLink RX1 18 "RoadTurns$Roads" "ends" "[I", Cond.methodLink RX1 30 yX1_hasNode, Cond.instanceMethod yX1_hasNode, Cond.selects RX1 yX1_hasNode yX1_hasNode, Cond.code yX1_hasNode cX1_hasNode 2 (some .boolean), Cond.fieldLink RX1 9 "RoadTurns$Roads" "nodes" "I", Cond.methodLink RX1 34 yX1_placeOf, Cond.instanceMethod yX1_placeOf, Cond.selects RX1 yX1_placeOf yX1_placeOf, Cond.code yX1_placeOf cX1_placeOf 3 (some .int), Cond.methodLink RX1 38 yX1_key, Cond.static yX1_key]
def wsX4_cost_r2 : List Cond := [Cond.code yX1_key cX1_key 2 (some .int), Cond.static yX4_placeIn, Cond.initialized RX4, Cond.code yX4_placeIn cX4_placeIn 7 (some .int)]
def wsX4_cost : List Cond := .code yX4_cost cX4_cost 3 (some .int) :: ((wsX4_cost_r1 ++ wsX4_cost_r2) ++ wsX40 ++ wsX10)
def wsX4_bar_r1 : List Cond := [Cond.fieldLink RX4 12 "RoadTurns" "roads" "LRoadTurns$Roads;", Cond.fieldLink RX4 19 "RoadTurns" "turns" "LRoadTurns$Turns;", Cond.methodLink RX4 46 yX1_hasNode, Cond.instanceMethod yX1_hasNode, Cond.selects RX1 yX1_hasNode yX1_hasNode, Cond.initialized RX1, Cond.code yX1_hasNode cX1_hasNode 2 (some .boolean), Cond.fieldLink RX1 9 "RoadTurns$Roads" "nodes" "I", Cond.methodLink RX4 66 yX3_isBarred, Cond.instanceMethod yX3_isBarred, Cond.selects RX3 yX3_isBarred yX3_isBarred, Cond.initialized RX3, Cond.code yX3_isBarred cX3_isBarred 6 (some .boolean), Cond.fieldLink RX3 15 "RoadTurns$Turns" "keys" "[I", Cond.fieldLink RX3 9 "RoadTurns$Turns" "count" "I", Cond.methodLink RX3 19 yX3_key, Cond.static yX3_key, Cond.code yX3_key cX3_key 3 (some .int), Cond.static yX4_placeIn, Cond.initialized RX4, Cond.code yX4_placeIn cX4_placeIn 7 (some .int), Cond.methodLink RX4 72 yX3_remove, Cond.instanceMethod yX3_remove, Cond.selects RX3 yX3_remove yX3_remove]
def wsX4_bar_r2 : List Cond := [Cond.code yX3_remove cX3_remove 6 none, Cond.methodLink RX3 31 arraycopyName, Cond.native arraycopyName, Cond.static arraycopyName, Cond.initialized "java/lang/System", Cond.methodLink RX4 75 yX3_add, Cond.instanceMethod yX3_add, Cond.selects RX3 yX3_add yX3_add, Cond.code yX3_add cX3_add 5 none, Cond.static yX4_insert, Cond.code yX4_insert cX4_insert 4 none, Cond.methodLink RX4 112 arraycopyName]
def wsX4_bar : List Cond := .code yX4_bar cX4_bar 5 (some .int) :: ((wsX4_bar_r1 ++ wsX4_bar_r2) ++ wsX40 ++ wsX30 ++ wsX10)
def wsX4_append : List Cond := .code yX4_append cX4_append 2 none :: ([.fieldLink RX4 36 "RoadTurns" "wayLength" "I", .fieldLink RX4 32 "RoadTurns" "way" "[I"] ++ wsX40)
def wsX4_layWay_r1 : List Cond := [Cond.fieldLink RX4 28 "RoadTurns" "search" "LRoadTurns$Search;", Cond.fieldLink RX4 12 "RoadTurns" "roads" "LRoadTurns$Roads;", Cond.methodLink RX4 78 yX4_append, Cond.instanceMethod yX4_append, Cond.selects RX4 yX4_append yX4_append, Cond.initialized RX4, Cond.code yX4_append cX4_append 2 none, Cond.fieldLink RX4 36 "RoadTurns" "wayLength" "I", Cond.fieldLink RX4 32 "RoadTurns" "way" "[I", Cond.methodLink RX4 101 yX2_leastArcBackTo, Cond.instanceMethod yX2_leastArcBackTo, Cond.selects RX2 yX2_leastArcBackTo yX2_leastArcBackTo, Cond.initialized RX2, Cond.code yX2_leastArcBackTo cX2_leastArcBackTo 8 (some .int), Cond.fieldLink RX2 9 "RoadTurns$Search" "roads" "LRoadTurns$Roads;", Cond.fieldLink RX2 19 "RoadTurns$Search" "weights" "[J", Cond.methodLink RX2 63 yX1_targetOf, Cond.instanceMethod yX1_targetOf, Cond.selects RX1 yX1_targetOf yX1_targetOf, Cond.initialized RX1, Cond.code yX1_targetOf cX1_targetOf 2 (some .int), Cond.fieldLink RX1 18 "RoadTurns$Roads" "ends" "[I", Cond.methodLink RX2 75 yX1_find, Cond.instanceMethod yX1_find]
def wsX4_layWay_r2 : List Cond := [Cond.selects RX1 yX1_find yX1_find, Cond.code yX1_find cX1_find 4 (some .int), Cond.fieldLink RX1 25 "RoadTurns$Roads" "firstArc" "[I", Cond.methodLink RX1 30 yX1_hasNode, Cond.instanceMethod yX1_hasNode, Cond.selects RX1 yX1_hasNode yX1_hasNode, Cond.code yX1_hasNode cX1_hasNode 2 (some .boolean), Cond.fieldLink RX1 9 "RoadTurns$Roads" "nodes" "I", Cond.methodLink RX1 34 yX1_placeOf, Cond.instanceMethod yX1_placeOf, Cond.selects RX1 yX1_placeOf yX1_placeOf, Cond.code yX1_placeOf cX1_placeOf 3 (some .int), Cond.methodLink RX1 38 yX1_key, Cond.static yX1_key, Cond.code yX1_key cX1_key 2 (some .int), Cond.static yX4_placeIn, Cond.code yX4_placeIn cX4_placeIn 7 (some .int), Cond.methodLink RX2 79 yX2_mayTurn, Cond.instanceMethod yX2_mayTurn, Cond.selects RX2 yX2_mayTurn yX2_mayTurn, Cond.code yX2_mayTurn cX2_mayTurn 4 (some .boolean), Cond.fieldLink RX2 39 "RoadTurns$Search" "backward" "Z", Cond.fieldLink RX2 15 "RoadTurns$Search" "turns" "LRoadTurns$Turns;", Cond.methodLink RX2 98 yX3_isBarred]
def wsX4_layWay_r3 : List Cond := [Cond.instanceMethod yX3_isBarred, Cond.selects RX3 yX3_isBarred yX3_isBarred, Cond.initialized RX3, Cond.code yX3_isBarred cX3_isBarred 6 (some .boolean), Cond.fieldLink RX3 15 "RoadTurns$Turns" "keys" "[I", Cond.fieldLink RX3 9 "RoadTurns$Turns" "count" "I", Cond.methodLink RX3 19 yX3_key, Cond.static yX3_key, Cond.code yX3_key cX3_key 3 (some .int), Cond.methodLink RX4 105 yX1_weightOf, Cond.instanceMethod yX1_weightOf, Cond.selects RX1 yX1_weightOf yX1_weightOf, Cond.code yX1_weightOf cX1_weightOf 2 (some .long), Cond.fieldLink RX1 22 "RoadTurns$Roads" "signedCosts" "[I", Cond.constantLong RX1 28 (4096), Cond.methodLink RX4 108 yX1_originOf, Cond.instanceMethod yX1_originOf, Cond.selects RX1 yX1_originOf yX1_originOf, Cond.code yX1_originOf cX1_originOf 2 (some .int)]
def wsX4_layWay : List Cond := .code yX4_layWay cX4_layWay 10 none :: ((wsX4_layWay_r1 ++ (wsX4_layWay_r2 ++ wsX4_layWay_r3)) ++ wsX40 ++ wsX20 ++ wsX10 ++ wsX30)
def wsX4_route_r1 : List Cond := [Cond.fieldLink RX4 36 "RoadTurns" "wayLength" "I", Cond.fieldLink RX4 12 "RoadTurns" "roads" "LRoadTurns$Roads;", Cond.constantLong RX4 76 (-14), Cond.fieldLink RX4 28 "RoadTurns" "search" "LRoadTurns$Search;", Cond.constantLong RX4 89 (-3), Cond.constantLong RX4 95 (4096), Cond.methodLink RX4 46 yX1_hasNode, Cond.instanceMethod yX1_hasNode, Cond.selects RX1 yX1_hasNode yX1_hasNode, Cond.initialized RX1, Cond.code yX1_hasNode cX1_hasNode 2 (some .boolean), Cond.fieldLink RX1 9 "RoadTurns$Roads" "nodes" "I", Cond.methodLink RX4 78 yX4_append, Cond.instanceMethod yX4_append, Cond.selects RX4 yX4_append yX4_append, Cond.initialized RX4, Cond.code yX4_append cX4_append 2 none, Cond.fieldLink RX4 32 "RoadTurns" "way" "[I", Cond.methodLink RX4 81 yX2_begin, Cond.instanceMethod yX2_begin, Cond.selects RX2 yX2_begin yX2_begin, Cond.initialized RX2, Cond.code yX2_begin cX2_begin 4 none, Cond.fieldLink RX2 39 "RoadTurns$Search" "backward" "Z"]
def wsX4_route_r2 : List Cond := [Cond.fieldLink RX2 28 "RoadTurns$Search" "heap" "LRoadTurns$ArcHeap;", Cond.fieldLink RX2 9 "RoadTurns$Search" "roads" "LRoadTurns$Roads;", Cond.fieldLink RX2 19 "RoadTurns$Search" "weights" "[J", Cond.fieldLink RX2 36 "RoadTurns$Search" "waitingCounts" "[I", Cond.methodLink RX2 55 yX2_spread, Cond.instanceMethod yX2_spread, Cond.selects RX2 yX2_spread yX2_spread, Cond.code yX2_spread cX2_spread 9 none, Cond.fieldLink RX2 32 "RoadTurns$Search" "waiting" "[I", Cond.methodLink RX2 83 yX2_gatherOpenArcs, Cond.instanceMethod yX2_gatherOpenArcs, Cond.selects RX2 yX2_gatherOpenArcs yX2_gatherOpenArcs, Cond.code yX2_gatherOpenArcs cX2_gatherOpenArcs 5 none, Cond.methodLink RX2 94 yX1_isOpen, Cond.instanceMethod yX1_isOpen, Cond.selects RX1 yX1_isOpen yX1_isOpen, Cond.code yX1_isOpen cX1_isOpen 2 (some .boolean), Cond.fieldLink RX1 22 "RoadTurns$Roads" "signedCosts" "[I", Cond.methodLink RX2 63 yX1_targetOf, Cond.instanceMethod yX1_targetOf, Cond.selects RX1 yX1_targetOf yX1_targetOf, Cond.code yX1_targetOf cX1_targetOf 2 (some .int), Cond.fieldLink RX1 18 "RoadTurns$Roads" "ends" "[I", Cond.methodLink RX2 79 yX2_mayTurn]
def wsX4_route_r3 : List Cond := [Cond.instanceMethod yX2_mayTurn, Cond.selects RX2 yX2_mayTurn yX2_mayTurn, Cond.code yX2_mayTurn cX2_mayTurn 4 (some .boolean), Cond.fieldLink RX2 15 "RoadTurns$Search" "turns" "LRoadTurns$Turns;", Cond.methodLink RX2 98 yX3_isBarred, Cond.instanceMethod yX3_isBarred, Cond.selects RX3 yX3_isBarred yX3_isBarred, Cond.initialized RX3, Cond.code yX3_isBarred cX3_isBarred 6 (some .boolean), Cond.fieldLink RX3 15 "RoadTurns$Turns" "keys" "[I", Cond.fieldLink RX3 9 "RoadTurns$Turns" "count" "I", Cond.methodLink RX3 19 yX3_key, Cond.static yX3_key, Cond.code yX3_key cX3_key 3 (some .int), Cond.static yX4_placeIn, Cond.code yX4_placeIn cX4_placeIn 7 (some .int), Cond.methodLink RX2 87 yX1_weightOf, Cond.instanceMethod yX1_weightOf, Cond.selects RX1 yX1_weightOf yX1_weightOf, Cond.code yX1_weightOf cX1_weightOf 2 (some .long), Cond.constantLong RX1 28 (4096), Cond.methodLink RX2 91 yX0_add, Cond.instanceMethod yX0_add, Cond.selects RX0 yX0_add yX0_add]
def wsX4_route_r4 : List Cond := [Cond.initialized RX0, Cond.code yX0_add cX0_add 4 none, Cond.fieldLink RX0 19 "RoadTurns$ArcHeap" "count" "I", Cond.fieldLink RX0 15 "RoadTurns$ArcHeap" "arcs" "[I", Cond.fieldLink RX0 9 "RoadTurns$ArcHeap" "weights" "[J", Cond.methodLink RX4 85 yX2_weightOfFirstArrival, Cond.instanceMethod yX2_weightOfFirstArrival, Cond.selects RX2 yX2_weightOfFirstArrival yX2_weightOfFirstArrival, Cond.code yX2_weightOfFirstArrival cX2_weightOfFirstArrival 4 (some .long), Cond.methodLink RX2 59 yX0_take, Cond.instanceMethod yX0_take, Cond.selects RX0 yX0_take yX0_take, Cond.code yX0_take cX0_take 5 (some .int), Cond.methodLink RX2 67 yX1_originOf, Cond.instanceMethod yX1_originOf, Cond.selects RX1 yX1_originOf yX1_originOf, Cond.code yX1_originOf cX1_originOf 2 (some .int), Cond.methodLink RX4 91 yX4_layWay, Cond.instanceMethod yX4_layWay, Cond.selects RX4 yX4_layWay yX4_layWay, Cond.code yX4_layWay cX4_layWay 10 none, Cond.methodLink RX4 101 yX2_leastArcBackTo, Cond.instanceMethod yX2_leastArcBackTo, Cond.selects RX2 yX2_leastArcBackTo yX2_leastArcBackTo]
def wsX4_route_r5 : List Cond := [Cond.code yX2_leastArcBackTo cX2_leastArcBackTo 8 (some .int), Cond.methodLink RX2 75 yX1_find, Cond.instanceMethod yX1_find, Cond.selects RX1 yX1_find yX1_find, Cond.code yX1_find cX1_find 4 (some .int), Cond.fieldLink RX1 25 "RoadTurns$Roads" "firstArc" "[I", Cond.methodLink RX1 30 yX1_hasNode, Cond.methodLink RX1 34 yX1_placeOf, Cond.instanceMethod yX1_placeOf, Cond.selects RX1 yX1_placeOf yX1_placeOf, Cond.code yX1_placeOf cX1_placeOf 3 (some .int), Cond.methodLink RX1 38 yX1_key, Cond.static yX1_key, Cond.code yX1_key cX1_key 2 (some .int), Cond.methodLink RX4 105 yX1_weightOf, Cond.methodLink RX4 108 yX1_originOf]
def wsX4_route : List Cond := .code yX4_route cX4_route 5 (some .long) :: ((wsX4_route_r1 ++ (wsX4_route_r2 ++ (wsX4_route_r3 ++ (wsX4_route_r4 ++ wsX4_route_r5)))) ++ wsX40 ++ wsX10 ++ wsX20 ++ wsX00 ++ wsX30)
def wsX4_length : List Cond := .code yX4_length cX4_length 1 (some .int) :: ([.fieldLink RX4 36 "RoadTurns" "wayLength" "I"] ++ wsX40)
def wsX4_node : List Cond := .code yX4_node cX4_node 2 (some .int) :: ([.fieldLink RX4 36 "RoadTurns" "wayLength" "I", .fieldLink RX4 32 "RoadTurns" "way" "[I"] ++ wsX40)
def wsX4_within_r1 : List Cond := [Cond.fieldLink RX4 12 "RoadTurns" "roads" "LRoadTurns$Roads;", Cond.fieldLink RX4 28 "RoadTurns" "search" "LRoadTurns$Search;", Cond.methodLink RX4 46 yX1_hasNode, Cond.instanceMethod yX1_hasNode, Cond.selects RX1 yX1_hasNode yX1_hasNode, Cond.initialized RX1, Cond.code yX1_hasNode cX1_hasNode 2 (some .boolean), Cond.fieldLink RX1 9 "RoadTurns$Roads" "nodes" "I", Cond.methodLink RX4 81 yX2_begin, Cond.instanceMethod yX2_begin, Cond.selects RX2 yX2_begin yX2_begin, Cond.initialized RX2, Cond.code yX2_begin cX2_begin 4 none, Cond.fieldLink RX2 39 "RoadTurns$Search" "backward" "Z", Cond.fieldLink RX2 28 "RoadTurns$Search" "heap" "LRoadTurns$ArcHeap;", Cond.fieldLink RX2 9 "RoadTurns$Search" "roads" "LRoadTurns$Roads;", Cond.fieldLink RX2 19 "RoadTurns$Search" "weights" "[J", Cond.fieldLink RX2 36 "RoadTurns$Search" "waitingCounts" "[I", Cond.methodLink RX2 55 yX2_spread, Cond.instanceMethod yX2_spread, Cond.selects RX2 yX2_spread yX2_spread, Cond.code yX2_spread cX2_spread 9 none, Cond.fieldLink RX2 32 "RoadTurns$Search" "waiting" "[I", Cond.methodLink RX2 83 yX2_gatherOpenArcs]
def wsX4_within_r2 : List Cond := [Cond.instanceMethod yX2_gatherOpenArcs, Cond.selects RX2 yX2_gatherOpenArcs yX2_gatherOpenArcs, Cond.code yX2_gatherOpenArcs cX2_gatherOpenArcs 5 none, Cond.methodLink RX2 94 yX1_isOpen, Cond.instanceMethod yX1_isOpen, Cond.selects RX1 yX1_isOpen yX1_isOpen, Cond.code yX1_isOpen cX1_isOpen 2 (some .boolean), Cond.fieldLink RX1 22 "RoadTurns$Roads" "signedCosts" "[I", Cond.methodLink RX2 63 yX1_targetOf, Cond.instanceMethod yX1_targetOf, Cond.selects RX1 yX1_targetOf yX1_targetOf, Cond.code yX1_targetOf cX1_targetOf 2 (some .int), Cond.fieldLink RX1 18 "RoadTurns$Roads" "ends" "[I", Cond.methodLink RX2 79 yX2_mayTurn, Cond.instanceMethod yX2_mayTurn, Cond.selects RX2 yX2_mayTurn yX2_mayTurn, Cond.code yX2_mayTurn cX2_mayTurn 4 (some .boolean), Cond.fieldLink RX2 15 "RoadTurns$Search" "turns" "LRoadTurns$Turns;", Cond.methodLink RX2 98 yX3_isBarred, Cond.instanceMethod yX3_isBarred, Cond.selects RX3 yX3_isBarred yX3_isBarred, Cond.initialized RX3, Cond.code yX3_isBarred cX3_isBarred 6 (some .boolean), Cond.fieldLink RX3 15 "RoadTurns$Turns" "keys" "[I"]
def wsX4_within_r3 : List Cond := [Cond.fieldLink RX3 9 "RoadTurns$Turns" "count" "I", Cond.methodLink RX3 19 yX3_key, Cond.static yX3_key, Cond.code yX3_key cX3_key 3 (some .int), Cond.static yX4_placeIn, Cond.initialized RX4, Cond.code yX4_placeIn cX4_placeIn 7 (some .int), Cond.methodLink RX2 87 yX1_weightOf, Cond.instanceMethod yX1_weightOf, Cond.selects RX1 yX1_weightOf yX1_weightOf, Cond.code yX1_weightOf cX1_weightOf 2 (some .long), Cond.constantLong RX1 28 (4096), Cond.methodLink RX2 91 yX0_add, Cond.instanceMethod yX0_add, Cond.selects RX0 yX0_add yX0_add, Cond.initialized RX0, Cond.code yX0_add cX0_add 4 none, Cond.fieldLink RX0 19 "RoadTurns$ArcHeap" "count" "I", Cond.fieldLink RX0 15 "RoadTurns$ArcHeap" "arcs" "[I", Cond.fieldLink RX0 9 "RoadTurns$ArcHeap" "weights" "[J", Cond.methodLink RX4 97 yX2_countOtherNodes, Cond.instanceMethod yX2_countOtherNodes, Cond.selects RX2 yX2_countOtherNodes yX2_countOtherNodes, Cond.code yX2_countOtherNodes cX2_countOtherNodes 6 (some .int)]
def wsX4_within_r4 : List Cond := [Cond.constantLong RX2 70 (4096), Cond.methodLink RX2 59 yX0_take, Cond.instanceMethod yX0_take, Cond.selects RX0 yX0_take yX0_take, Cond.code yX0_take cX0_take 5 (some .int), Cond.methodLink RX2 67 yX1_originOf, Cond.instanceMethod yX1_originOf, Cond.selects RX1 yX1_originOf yX1_originOf, Cond.code yX1_originOf cX1_originOf 2 (some .int)]
def wsX4_within : List Cond := .code yX4_within cX4_within 4 (some .int) :: ((wsX4_within_r1 ++ (wsX4_within_r2 ++ (wsX4_within_r3 ++ wsX4_within_r4))) ++ wsX40 ++ wsX10 ++ wsX20 ++ wsX00 ++ wsX30)
def wsX5_init : List Cond := .code yX5_init cX5_init 1 none :: ([.methodLink RX5 1 objectInit, .instanceMethod objectInit, .code objectInit ⟨#[0xb1]⟩ 1 none, .fieldLink RX5 7 "RoadTurnsModel" "nodes" "I", .arrayClass .int, .fieldLink RX5 13 "RoadTurnsModel" "low" "[I", .fieldLink RX5 17 "RoadTurnsModel" "high" "[I", .fieldLink RX5 20 "RoadTurnsModel" "costs" "[I", .arrayClass .boolean, .fieldLink RX5 23 "RoadTurnsModel" "isClosed" "[Z", .fieldLink RX5 27 "RoadTurnsModel" "bars" "[I", .arrayClass .long, .fieldLink RX5 30 "RoadTurnsModel" "totals" "[J", .fieldLink RX5 34 "RoadTurnsModel" "many" "[I", .fieldLink RX5 37 "RoadTurnsModel" "isKnown" "[Z", .fieldLink RX5 40 "RoadTurnsModel" "first" "[I", .fieldLink RX5 43 "RoadTurnsModel" "next" "[I", .fieldLink RX5 46 "RoadTurnsModel" "heap" "[I", .fieldLink RX5 49 "RoadTurnsModel" "row" "[I"] ++ wsX50)
def wsX5_size : List Cond := .code yX5_size cX5_size 2 (some .boolean) :: ([.fieldLink RX5 7 "RoadTurnsModel" "nodes" "I", .fieldLink RX5 52 "RoadTurnsModel" "roads" "I", .fieldLink RX5 55 "RoadTurnsModel" "barCount" "I", .fieldLink RX5 58 "RoadTurnsModel" "length" "I"] ++ wsX50)
def wsX5_isNode : List Cond := .code yX5_isNode cX5_isNode 2 (some .boolean) :: ([.fieldLink RX5 7 "RoadTurnsModel" "nodes" "I"] ++ wsX50)
def wsX5_isBefore : List Cond := .code yX5_isBefore cX5_isBefore 4 (some .boolean) :: ([.fieldLink RX5 13 "RoadTurnsModel" "low" "[I", .fieldLink RX5 17 "RoadTurnsModel" "high" "[I"] ++ wsX50)
def wsX5_placeOf : List Cond := .code yX5_placeOf cX5_placeOf 6 (some .int) :: ([.fieldLink RX5 52 "RoadTurnsModel" "roads" "I", .methodLink RX5 61 Lib.Math.min.name, .static Lib.Math.min.name, .initialized "java/lang/Math", .code Lib.Math.min.name Lib.Math.min.code 2 (some .int), .methodLink RX5 67 Lib.Math.max.name, .static Lib.Math.max.name, .code Lib.Math.max.name Lib.Math.max.code 2 (some .int), .methodLink RX5 70 yX5_isBefore, .instanceMethod yX5_isBefore, .selects RX5 yX5_isBefore yX5_isBefore, .initialized RX5, .code yX5_isBefore cX5_isBefore 4 (some .boolean), .fieldLink RX5 13 "RoadTurnsModel" "low" "[I", .fieldLink RX5 17 "RoadTurnsModel" "high" "[I"] ++ wsX50)
def wsX5_find : List Cond := .code yX5_find cX5_find 4 (some .int) :: ([.fieldLink RX5 52 "RoadTurnsModel" "roads" "I", .fieldLink RX5 13 "RoadTurnsModel" "low" "[I", .methodLink RX5 61 Lib.Math.min.name, .static Lib.Math.min.name, .initialized "java/lang/Math", .code Lib.Math.min.name Lib.Math.min.code 2 (some .int), .fieldLink RX5 17 "RoadTurnsModel" "high" "[I", .methodLink RX5 67 Lib.Math.max.name, .static Lib.Math.max.name, .code Lib.Math.max.name Lib.Math.max.code 2 (some .int), .methodLink RX5 74 yX5_placeOf, .instanceMethod yX5_placeOf, .selects RX5 yX5_placeOf yX5_placeOf, .initialized RX5, .code yX5_placeOf cX5_placeOf 6 (some .int), .methodLink RX5 70 yX5_isBefore, .instanceMethod yX5_isBefore, .selects RX5 yX5_isBefore yX5_isBefore, .code yX5_isBefore cX5_isBefore 4 (some .boolean)] ++ wsX50)
def wsX5_road_r1 : List Cond := [Cond.constant RX5 81 (1000000000), Cond.fieldLink RX5 20 "RoadTurnsModel" "costs" "[I", Cond.fieldLink RX5 52 "RoadTurnsModel" "roads" "I", Cond.fieldLink RX5 13 "RoadTurnsModel" "low" "[I", Cond.fieldLink RX5 17 "RoadTurnsModel" "high" "[I", Cond.fieldLink RX5 23 "RoadTurnsModel" "isClosed" "[Z", Cond.methodLink RX5 61 Lib.Math.min.name, Cond.static Lib.Math.min.name, Cond.initialized "java/lang/Math", Cond.code Lib.Math.min.name Lib.Math.min.code 2 (some .int), Cond.methodLink RX5 67 Lib.Math.max.name, Cond.static Lib.Math.max.name, Cond.code Lib.Math.max.name Lib.Math.max.code 2 (some .int), Cond.methodLink RX5 77 yX5_isNode, Cond.instanceMethod yX5_isNode, Cond.selects RX5 yX5_isNode yX5_isNode, Cond.initialized RX5, Cond.code yX5_isNode cX5_isNode 2 (some .boolean), Cond.fieldLink RX5 7 "RoadTurnsModel" "nodes" "I", Cond.methodLink RX5 82 yX5_find, Cond.instanceMethod yX5_find, Cond.selects RX5 yX5_find yX5_find, Cond.code yX5_find cX5_find 4 (some .int), Cond.methodLink RX5 74 yX5_placeOf]
def wsX5_road_r2 : List Cond := [Cond.instanceMethod yX5_placeOf, Cond.selects RX5 yX5_placeOf yX5_placeOf, Cond.code yX5_placeOf cX5_placeOf 6 (some .int), Cond.methodLink RX5 70 yX5_isBefore, Cond.instanceMethod yX5_isBefore, Cond.selects RX5 yX5_isBefore yX5_isBefore, Cond.code yX5_isBefore cX5_isBefore 4 (some .boolean)]
def wsX5_road : List Cond := .code yX5_road cX5_road 7 (some .int) :: ((wsX5_road_r1 ++ wsX5_road_r2) ++ wsX50)
def wsX5_close : List Cond := .code yX5_close cX5_close 5 (some .boolean) :: ([.fieldLink RX5 23 "RoadTurnsModel" "isClosed" "[Z", .methodLink RX5 82 yX5_find, .instanceMethod yX5_find, .selects RX5 yX5_find yX5_find, .initialized RX5, .code yX5_find cX5_find 4 (some .int), .fieldLink RX5 52 "RoadTurnsModel" "roads" "I", .fieldLink RX5 13 "RoadTurnsModel" "low" "[I", .methodLink RX5 61 Lib.Math.min.name, .static Lib.Math.min.name, .initialized "java/lang/Math", .code Lib.Math.min.name Lib.Math.min.code 2 (some .int), .fieldLink RX5 17 "RoadTurnsModel" "high" "[I", .methodLink RX5 67 Lib.Math.max.name, .static Lib.Math.max.name, .code Lib.Math.max.name Lib.Math.max.code 2 (some .int), .methodLink RX5 74 yX5_placeOf, .instanceMethod yX5_placeOf, .selects RX5 yX5_placeOf yX5_placeOf, .code yX5_placeOf cX5_placeOf 6 (some .int), .methodLink RX5 70 yX5_isBefore, .instanceMethod yX5_isBefore, .selects RX5 yX5_isBefore yX5_isBefore, .code yX5_isBefore cX5_isBefore 4 (some .boolean)] ++ wsX50)
def wsX5_cost_r1 : List Cond := [Cond.fieldLink RX5 23 "RoadTurnsModel" "isClosed" "[Z", Cond.fieldLink RX5 20 "RoadTurnsModel" "costs" "[I", Cond.methodLink RX5 82 yX5_find, Cond.instanceMethod yX5_find, Cond.selects RX5 yX5_find yX5_find, Cond.initialized RX5, Cond.code yX5_find cX5_find 4 (some .int), Cond.fieldLink RX5 52 "RoadTurnsModel" "roads" "I", Cond.fieldLink RX5 13 "RoadTurnsModel" "low" "[I", Cond.methodLink RX5 61 Lib.Math.min.name, Cond.static Lib.Math.min.name, Cond.initialized "java/lang/Math", Cond.code Lib.Math.min.name Lib.Math.min.code 2 (some .int), Cond.fieldLink RX5 17 "RoadTurnsModel" "high" "[I", Cond.methodLink RX5 67 Lib.Math.max.name, Cond.static Lib.Math.max.name, Cond.code Lib.Math.max.name Lib.Math.max.code 2 (some .int), Cond.methodLink RX5 74 yX5_placeOf, Cond.instanceMethod yX5_placeOf, Cond.selects RX5 yX5_placeOf yX5_placeOf, Cond.code yX5_placeOf cX5_placeOf 6 (some .int), Cond.methodLink RX5 70 yX5_isBefore, Cond.instanceMethod yX5_isBefore, Cond.selects RX5 yX5_isBefore yX5_isBefore]
def wsX5_cost_r2 : List Cond := [Cond.code yX5_isBefore cX5_isBefore 4 (some .boolean)]
def wsX5_cost : List Cond := .code yX5_cost cX5_cost 4 (some .int) :: ((wsX5_cost_r1 ++ wsX5_cost_r2) ++ wsX50)
def wsX5_barAt : List Cond := .code yX5_barAt cX5_barAt 5 (some .int) :: ([.fieldLink RX5 55 "RoadTurnsModel" "barCount" "I", .fieldLink RX5 27 "RoadTurnsModel" "bars" "[I"] ++ wsX50)
def wsX5_bar : List Cond := .code yX5_bar cX5_bar 7 (some .int) :: ([.fieldLink RX5 55 "RoadTurnsModel" "barCount" "I", .fieldLink RX5 27 "RoadTurnsModel" "bars" "[I", .methodLink RX5 77 yX5_isNode, .instanceMethod yX5_isNode, .selects RX5 yX5_isNode yX5_isNode, .initialized RX5, .code yX5_isNode cX5_isNode 2 (some .boolean), .fieldLink RX5 7 "RoadTurnsModel" "nodes" "I", .methodLink RX5 85 yX5_barAt, .instanceMethod yX5_barAt, .selects RX5 yX5_barAt yX5_barAt, .code yX5_barAt cX5_barAt 5 (some .int)] ++ wsX50)
def wsX5_start : List Cond := .code yX5_start cX5_start 2 (some .int) :: ([.fieldLink RX5 13 "RoadTurnsModel" "low" "[I", .fieldLink RX5 17 "RoadTurnsModel" "high" "[I"] ++ wsX50)
def wsX5_end : List Cond := .code yX5_end cX5_end 2 (some .int) :: ([.methodLink RX5 89 yX5_start, .instanceMethod yX5_start, .selects RX5 yX5_start yX5_start, .initialized RX5, .code yX5_start cX5_start 2 (some .int), .fieldLink RX5 13 "RoadTurnsModel" "low" "[I", .fieldLink RX5 17 "RoadTurnsModel" "high" "[I"] ++ wsX50)
def wsX5_isLess : List Cond := .code yX5_isLess cX5_isLess 3 (some .boolean) :: ([.fieldLink RX5 30 "RoadTurnsModel" "totals" "[J", .fieldLink RX5 34 "RoadTurnsModel" "many" "[I"] ++ wsX50)
def wsX5_known : List Cond := .code yX5_known cX5_known 6 none :: ([.fieldLink RX5 30 "RoadTurnsModel" "totals" "[J", .fieldLink RX5 20 "RoadTurnsModel" "costs" "[I", .fieldLink RX5 34 "RoadTurnsModel" "many" "[I", .fieldLink RX5 37 "RoadTurnsModel" "isKnown" "[Z", .fieldLink RX5 93 "RoadTurnsModel" "heaped" "I", .fieldLink RX5 46 "RoadTurnsModel" "heap" "[I", .methodLink RX5 96 yX5_isLess, .instanceMethod yX5_isLess, .selects RX5 yX5_isLess yX5_isLess, .initialized RX5, .code yX5_isLess cX5_isLess 3 (some .boolean)] ++ wsX50)
def wsX5_pull : List Cond := .code yX5_pull cX5_pull 6 (some .int) :: ([.fieldLink RX5 46 "RoadTurnsModel" "heap" "[I", .fieldLink RX5 93 "RoadTurnsModel" "heaped" "I", .methodLink RX5 96 yX5_isLess, .instanceMethod yX5_isLess, .selects RX5 yX5_isLess yX5_isLess, .initialized RX5, .code yX5_isLess cX5_isLess 3 (some .boolean), .fieldLink RX5 30 "RoadTurnsModel" "totals" "[J", .fieldLink RX5 34 "RoadTurnsModel" "many" "[I"] ++ wsX50)
def wsX5_begin : List Cond := .code yX5_begin cX5_begin 2 none :: ([.fieldLink RX5 93 "RoadTurnsModel" "heaped" "I", .fieldLink RX5 7 "RoadTurnsModel" "nodes" "I", .fieldLink RX5 40 "RoadTurnsModel" "first" "[I", .fieldLink RX5 52 "RoadTurnsModel" "roads" "I", .fieldLink RX5 37 "RoadTurnsModel" "isKnown" "[Z", .fieldLink RX5 23 "RoadTurnsModel" "isClosed" "[Z", .fieldLink RX5 43 "RoadTurnsModel" "next" "[I", .methodLink RX5 89 yX5_start, .instanceMethod yX5_start, .selects RX5 yX5_start yX5_start, .initialized RX5, .code yX5_start cX5_start 2 (some .int), .fieldLink RX5 13 "RoadTurnsModel" "low" "[I", .fieldLink RX5 17 "RoadTurnsModel" "high" "[I"] ++ wsX50)
def wsX5_spread_r1 : List Cond := [Cond.fieldLink RX5 40 "RoadTurnsModel" "first" "[I", Cond.fieldLink RX5 43 "RoadTurnsModel" "next" "[I", Cond.fieldLink RX5 93 "RoadTurnsModel" "heaped" "I", Cond.fieldLink RX5 37 "RoadTurnsModel" "isKnown" "[Z", Cond.fieldLink RX5 30 "RoadTurnsModel" "totals" "[J", Cond.fieldLink RX5 34 "RoadTurnsModel" "many" "[I", Cond.methodLink RX5 100 yX5_begin, Cond.instanceMethod yX5_begin, Cond.selects RX5 yX5_begin yX5_begin, Cond.initialized RX5, Cond.code yX5_begin cX5_begin 2 none, Cond.fieldLink RX5 7 "RoadTurnsModel" "nodes" "I", Cond.fieldLink RX5 52 "RoadTurnsModel" "roads" "I", Cond.fieldLink RX5 23 "RoadTurnsModel" "isClosed" "[Z", Cond.methodLink RX5 89 yX5_start, Cond.instanceMethod yX5_start, Cond.selects RX5 yX5_start yX5_start, Cond.code yX5_start cX5_start 2 (some .int), Cond.fieldLink RX5 13 "RoadTurnsModel" "low" "[I", Cond.fieldLink RX5 17 "RoadTurnsModel" "high" "[I", Cond.methodLink RX5 103 yX5_known, Cond.instanceMethod yX5_known, Cond.selects RX5 yX5_known yX5_known, Cond.code yX5_known cX5_known 6 none]
def wsX5_spread_r2 : List Cond := [Cond.fieldLink RX5 20 "RoadTurnsModel" "costs" "[I", Cond.fieldLink RX5 46 "RoadTurnsModel" "heap" "[I", Cond.methodLink RX5 96 yX5_isLess, Cond.instanceMethod yX5_isLess, Cond.selects RX5 yX5_isLess yX5_isLess, Cond.code yX5_isLess cX5_isLess 3 (some .boolean), Cond.methodLink RX5 107 yX5_pull, Cond.instanceMethod yX5_pull, Cond.selects RX5 yX5_pull yX5_pull, Cond.code yX5_pull cX5_pull 6 (some .int), Cond.methodLink RX5 111 yX5_end, Cond.instanceMethod yX5_end, Cond.selects RX5 yX5_end yX5_end, Cond.code yX5_end cX5_end 2 (some .int), Cond.methodLink RX5 85 yX5_barAt, Cond.instanceMethod yX5_barAt, Cond.selects RX5 yX5_barAt yX5_barAt, Cond.code yX5_barAt cX5_barAt 5 (some .int), Cond.fieldLink RX5 55 "RoadTurnsModel" "barCount" "I", Cond.fieldLink RX5 27 "RoadTurnsModel" "bars" "[I"]
def wsX5_spread : List Cond := .code yX5_spread cX5_spread 5 none :: ((wsX5_spread_r1 ++ wsX5_spread_r2) ++ wsX50)
def wsX5_better : List Cond := .code yX5_better cX5_better 3 (some .int) :: ([.fieldLink RX5 37 "RoadTurnsModel" "isKnown" "[Z", .methodLink RX5 96 yX5_isLess, .instanceMethod yX5_isLess, .selects RX5 yX5_isLess yX5_isLess, .initialized RX5, .code yX5_isLess cX5_isLess 3 (some .boolean), .fieldLink RX5 30 "RoadTurnsModel" "totals" "[J", .fieldLink RX5 34 "RoadTurnsModel" "many" "[I", .methodLink RX5 111 yX5_end, .instanceMethod yX5_end, .selects RX5 yX5_end yX5_end, .code yX5_end cX5_end 2 (some .int), .methodLink RX5 89 yX5_start, .instanceMethod yX5_start, .selects RX5 yX5_start yX5_start, .code yX5_start cX5_start 2 (some .int), .fieldLink RX5 13 "RoadTurnsModel" "low" "[I", .fieldLink RX5 17 "RoadTurnsModel" "high" "[I"] ++ wsX50)
def wsX5_route_r1 : List Cond := [Cond.fieldLink RX5 58 "RoadTurnsModel" "length" "I", Cond.constantLong RX5 114 (-14), Cond.fieldLink RX5 49 "RoadTurnsModel" "row" "[I", Cond.fieldLink RX5 40 "RoadTurnsModel" "first" "[I", Cond.fieldLink RX5 43 "RoadTurnsModel" "next" "[I", Cond.constantLong RX5 123 (-3), Cond.fieldLink RX5 30 "RoadTurnsModel" "totals" "[J", Cond.methodLink RX5 77 yX5_isNode, Cond.instanceMethod yX5_isNode, Cond.selects RX5 yX5_isNode yX5_isNode, Cond.initialized RX5, Cond.code yX5_isNode cX5_isNode 2 (some .boolean), Cond.fieldLink RX5 7 "RoadTurnsModel" "nodes" "I", Cond.methodLink RX5 116 yX5_spread, Cond.instanceMethod yX5_spread, Cond.selects RX5 yX5_spread yX5_spread, Cond.code yX5_spread cX5_spread 5 none, Cond.fieldLink RX5 93 "RoadTurnsModel" "heaped" "I", Cond.fieldLink RX5 37 "RoadTurnsModel" "isKnown" "[Z", Cond.fieldLink RX5 34 "RoadTurnsModel" "many" "[I", Cond.methodLink RX5 100 yX5_begin, Cond.instanceMethod yX5_begin, Cond.selects RX5 yX5_begin yX5_begin, Cond.code yX5_begin cX5_begin 2 none]
def wsX5_route_r2 : List Cond := [Cond.fieldLink RX5 52 "RoadTurnsModel" "roads" "I", Cond.fieldLink RX5 23 "RoadTurnsModel" "isClosed" "[Z", Cond.methodLink RX5 89 yX5_start, Cond.instanceMethod yX5_start, Cond.selects RX5 yX5_start yX5_start, Cond.code yX5_start cX5_start 2 (some .int), Cond.fieldLink RX5 13 "RoadTurnsModel" "low" "[I", Cond.fieldLink RX5 17 "RoadTurnsModel" "high" "[I", Cond.methodLink RX5 103 yX5_known, Cond.instanceMethod yX5_known, Cond.selects RX5 yX5_known yX5_known, Cond.code yX5_known cX5_known 6 none, Cond.fieldLink RX5 20 "RoadTurnsModel" "costs" "[I", Cond.fieldLink RX5 46 "RoadTurnsModel" "heap" "[I", Cond.methodLink RX5 96 yX5_isLess, Cond.instanceMethod yX5_isLess, Cond.selects RX5 yX5_isLess yX5_isLess, Cond.code yX5_isLess cX5_isLess 3 (some .boolean), Cond.methodLink RX5 107 yX5_pull, Cond.instanceMethod yX5_pull, Cond.selects RX5 yX5_pull yX5_pull, Cond.code yX5_pull cX5_pull 6 (some .int), Cond.methodLink RX5 111 yX5_end, Cond.instanceMethod yX5_end]
def wsX5_route_r3 : List Cond := [Cond.selects RX5 yX5_end yX5_end, Cond.code yX5_end cX5_end 2 (some .int), Cond.methodLink RX5 85 yX5_barAt, Cond.instanceMethod yX5_barAt, Cond.selects RX5 yX5_barAt yX5_barAt, Cond.code yX5_barAt cX5_barAt 5 (some .int), Cond.fieldLink RX5 55 "RoadTurnsModel" "barCount" "I", Cond.fieldLink RX5 27 "RoadTurnsModel" "bars" "[I", Cond.methodLink RX5 120 yX5_better, Cond.instanceMethod yX5_better, Cond.selects RX5 yX5_better yX5_better, Cond.code yX5_better cX5_better 3 (some .int)]
def wsX5_route : List Cond := .code yX5_route cX5_route 8 (some .long) :: ((wsX5_route_r1 ++ (wsX5_route_r2 ++ wsX5_route_r3)) ++ wsX50)
def wsX5_length : List Cond := .code yX5_length cX5_length 1 (some .int) :: ([.fieldLink RX5 58 "RoadTurnsModel" "length" "I"] ++ wsX50)
def wsX5_node : List Cond := .code yX5_node cX5_node 2 (some .int) :: ([.fieldLink RX5 58 "RoadTurnsModel" "length" "I", .fieldLink RX5 49 "RoadTurnsModel" "row" "[I"] ++ wsX50)
def wsX5_within_r1 : List Cond := [Cond.fieldLink RX5 7 "RoadTurnsModel" "nodes" "I", Cond.arrayClass .boolean, Cond.fieldLink RX5 40 "RoadTurnsModel" "first" "[I", Cond.fieldLink RX5 43 "RoadTurnsModel" "next" "[I", Cond.fieldLink RX5 93 "RoadTurnsModel" "heaped" "I", Cond.fieldLink RX5 30 "RoadTurnsModel" "totals" "[J", Cond.fieldLink RX5 37 "RoadTurnsModel" "isKnown" "[Z", Cond.fieldLink RX5 34 "RoadTurnsModel" "many" "[I", Cond.methodLink RX5 77 yX5_isNode, Cond.instanceMethod yX5_isNode, Cond.selects RX5 yX5_isNode yX5_isNode, Cond.initialized RX5, Cond.code yX5_isNode cX5_isNode 2 (some .boolean), Cond.methodLink RX5 100 yX5_begin, Cond.instanceMethod yX5_begin, Cond.selects RX5 yX5_begin yX5_begin, Cond.code yX5_begin cX5_begin 2 none, Cond.fieldLink RX5 52 "RoadTurnsModel" "roads" "I", Cond.fieldLink RX5 23 "RoadTurnsModel" "isClosed" "[Z", Cond.methodLink RX5 89 yX5_start, Cond.instanceMethod yX5_start, Cond.selects RX5 yX5_start yX5_start, Cond.code yX5_start cX5_start 2 (some .int), Cond.fieldLink RX5 13 "RoadTurnsModel" "low" "[I"]
def wsX5_within_r2 : List Cond := [Cond.fieldLink RX5 17 "RoadTurnsModel" "high" "[I", Cond.methodLink RX5 103 yX5_known, Cond.instanceMethod yX5_known, Cond.selects RX5 yX5_known yX5_known, Cond.code yX5_known cX5_known 6 none, Cond.fieldLink RX5 20 "RoadTurnsModel" "costs" "[I", Cond.fieldLink RX5 46 "RoadTurnsModel" "heap" "[I", Cond.methodLink RX5 96 yX5_isLess, Cond.instanceMethod yX5_isLess, Cond.selects RX5 yX5_isLess yX5_isLess, Cond.code yX5_isLess cX5_isLess 3 (some .boolean), Cond.methodLink RX5 107 yX5_pull, Cond.instanceMethod yX5_pull, Cond.selects RX5 yX5_pull yX5_pull, Cond.code yX5_pull cX5_pull 6 (some .int), Cond.methodLink RX5 111 yX5_end, Cond.instanceMethod yX5_end, Cond.selects RX5 yX5_end yX5_end, Cond.code yX5_end cX5_end 2 (some .int), Cond.methodLink RX5 85 yX5_barAt, Cond.instanceMethod yX5_barAt, Cond.selects RX5 yX5_barAt yX5_barAt, Cond.code yX5_barAt cX5_barAt 5 (some .int), Cond.fieldLink RX5 55 "RoadTurnsModel" "barCount" "I"]
def wsX5_within_r3 : List Cond := [Cond.fieldLink RX5 27 "RoadTurnsModel" "bars" "[I"]
def wsX5_within : List Cond := .code yX5_within cX5_within 8 (some .int) :: ((wsX5_within_r1 ++ (wsX5_within_r2 ++ wsX5_within_r3)) ++ wsX50)
def wsJ9_max_7cf53 : List Cond := .code yJ9_max_7cf53 cJ9_max_7cf53 2 (some .int) :: ([])
def wsJ9_min_7cf53 : List Cond := .code yJ9_min_7cf53 cJ9_min_7cf53 2 (some .int) :: ([])
def wsL_law_r1 : List Cond := [Cond.classLink RL 7 RX4, Cond.instantiable RX4 5, Cond.initialized RX4, Cond.classLink RL 10 RX5, Cond.instantiable RX5 17, Cond.initialized RX5, Cond.constantLong RL 53 (4294967295), Cond.methodLink RL 9 yX4_init, Cond.instanceMethod yX4_init, Cond.code yX4_init cX4_init 1 none, Cond.methodLink RX4 3 objectInit, Cond.instanceMethod objectInit, Cond.code objectInit ⟨#[0xb1]⟩ 1 none, Cond.classLink RX4 9 RX1, Cond.instantiable RX1 5, Cond.initialized RX1, Cond.fieldLink RX4 12 "RoadTurns" "roads" "LRoadTurns$Roads;", Cond.classLink RX4 16 RX3, Cond.instantiable RX3 2, Cond.initialized RX3, Cond.fieldLink RX4 19 "RoadTurns" "turns" "LRoadTurns$Turns;", Cond.classLink RX4 23 RX2, Cond.instantiable RX2 7, Cond.initialized RX2]
def wsL_law_r2 : List Cond := [Cond.fieldLink RX4 28 "RoadTurns" "search" "LRoadTurns$Search;", Cond.arrayClass .int, Cond.fieldLink RX4 32 "RoadTurns" "way" "[I", Cond.fieldLink RX4 36 "RoadTurns" "wayLength" "I", Cond.methodLink RX4 11 yX1_init, Cond.instanceMethod yX1_init, Cond.code yX1_init cX1_init 1 none, Cond.methodLink RX1 3 objectInit, Cond.fieldLink RX1 9 "RoadTurns$Roads" "nodes" "I", Cond.fieldLink RX1 15 "RoadTurns$Roads" "arcs" "I", Cond.fieldLink RX1 18 "RoadTurns$Roads" "ends" "[I", Cond.fieldLink RX1 22 "RoadTurns$Roads" "signedCosts" "[I", Cond.fieldLink RX1 25 "RoadTurns$Roads" "firstArc" "[I", Cond.methodLink RX4 18 yX3_init, Cond.instanceMethod yX3_init, Cond.code yX3_init cX3_init 1 none, Cond.methodLink RX3 3 objectInit, Cond.fieldLink RX3 9 "RoadTurns$Turns" "count" "I", Cond.fieldLink RX3 15 "RoadTurns$Turns" "keys" "[I", Cond.methodLink RX4 25 yX2_init, Cond.instanceMethod yX2_init, Cond.code yX2_init cX2_init 3 none, Cond.methodLink RX2 3 objectInit, Cond.fieldLink RX2 9 "RoadTurns$Search" "roads" "LRoadTurns$Roads;"]
def wsL_law_r3 : List Cond := [Cond.fieldLink RX2 15 "RoadTurns$Search" "turns" "LRoadTurns$Turns;", Cond.arrayClass .long, Cond.fieldLink RX2 19 "RoadTurns$Search" "weights" "[J", Cond.classLink RX2 23 RX0, Cond.instantiable RX0 3, Cond.initialized RX0, Cond.fieldLink RX2 28 "RoadTurns$Search" "heap" "LRoadTurns$ArcHeap;", Cond.fieldLink RX2 32 "RoadTurns$Search" "waiting" "[I", Cond.fieldLink RX2 36 "RoadTurns$Search" "waitingCounts" "[I", Cond.fieldLink RX2 39 "RoadTurns$Search" "backward" "Z", Cond.methodLink RX2 25 yX0_init, Cond.instanceMethod yX0_init, Cond.code yX0_init cX0_init 2 none, Cond.methodLink RX0 3 objectInit, Cond.fieldLink RX0 9 "RoadTurns$ArcHeap" "weights" "[J", Cond.fieldLink RX0 15 "RoadTurns$ArcHeap" "arcs" "[I", Cond.fieldLink RX0 19 "RoadTurns$ArcHeap" "count" "I", Cond.methodLink RL 12 yX5_init, Cond.instanceMethod yX5_init, Cond.code yX5_init cX5_init 1 none, Cond.methodLink RX5 1 objectInit, Cond.fieldLink RX5 7 "RoadTurnsModel" "nodes" "I", Cond.fieldLink RX5 13 "RoadTurnsModel" "low" "[I", Cond.fieldLink RX5 17 "RoadTurnsModel" "high" "[I"]
def wsL_law_r4 : List Cond := [Cond.fieldLink RX5 20 "RoadTurnsModel" "costs" "[I", Cond.arrayClass .boolean, Cond.fieldLink RX5 23 "RoadTurnsModel" "isClosed" "[Z", Cond.fieldLink RX5 27 "RoadTurnsModel" "bars" "[I", Cond.fieldLink RX5 30 "RoadTurnsModel" "totals" "[J", Cond.fieldLink RX5 34 "RoadTurnsModel" "many" "[I", Cond.fieldLink RX5 37 "RoadTurnsModel" "isKnown" "[Z", Cond.fieldLink RX5 40 "RoadTurnsModel" "first" "[I", Cond.fieldLink RX5 43 "RoadTurnsModel" "next" "[I", Cond.fieldLink RX5 46 "RoadTurnsModel" "heap" "[I", Cond.fieldLink RX5 49 "RoadTurnsModel" "row" "[I", Cond.methodLink RL 13 yX4_size, Cond.instanceMethod yX4_size, Cond.selects RX4 yX4_size yX4_size, Cond.code yX4_size cX4_size 2 (some .boolean), Cond.methodLink RX4 40 yX1_reset, Cond.instanceMethod yX1_reset, Cond.selects RX1 yX1_reset yX1_reset, Cond.code yX1_reset cX1_reset 3 none, Cond.methodLink RX4 44 yX3_reset, Cond.instanceMethod yX3_reset, Cond.selects RX3 yX3_reset yX3_reset, Cond.code yX3_reset cX3_reset 1 none, Cond.methodLink RL 17 yX5_size]
def wsL_law_r5 : List Cond := [Cond.instanceMethod yX5_size, Cond.selects RX5 yX5_size yX5_size, Cond.code yX5_size cX5_size 2 (some .boolean), Cond.fieldLink RX5 52 "RoadTurnsModel" "roads" "I", Cond.fieldLink RX5 55 "RoadTurnsModel" "barCount" "I", Cond.fieldLink RX5 58 "RoadTurnsModel" "length" "I", Cond.methodLink RL 18 yX4_road, Cond.instanceMethod yX4_road, Cond.selects RX4 yX4_road yX4_road, Cond.code yX4_road cX4_road 5 (some .int), Cond.constant RX4 50 (1000000000), Cond.methodLink RX4 46 yX1_hasNode, Cond.instanceMethod yX1_hasNode, Cond.selects RX1 yX1_hasNode yX1_hasNode, Cond.code yX1_hasNode cX1_hasNode 2 (some .boolean), Cond.methodLink RX4 51 yX1_signedCost, Cond.instanceMethod yX1_signedCost, Cond.selects RX1 yX1_signedCost yX1_signedCost, Cond.code yX1_signedCost cX1_signedCost 4 (some .int), Cond.methodLink RX1 41 yX1_find, Cond.instanceMethod yX1_find, Cond.selects RX1 yX1_find yX1_find, Cond.code yX1_find cX1_find 4 (some .int), Cond.methodLink RX1 30 yX1_hasNode]
def wsL_law_r6 : List Cond := [Cond.methodLink RX1 34 yX1_placeOf, Cond.instanceMethod yX1_placeOf, Cond.selects RX1 yX1_placeOf yX1_placeOf, Cond.code yX1_placeOf cX1_placeOf 3 (some .int), Cond.methodLink RX1 38 yX1_key, Cond.static yX1_key, Cond.code yX1_key cX1_key 2 (some .int), Cond.static yX4_placeIn, Cond.code yX4_placeIn cX4_placeIn 7 (some .int), Cond.methodLink RX4 55 yX1_change, Cond.instanceMethod yX1_change, Cond.selects RX1 yX1_change yX1_change, Cond.code yX1_change cX1_change 6 none, Cond.methodLink RX4 59 yX1_count, Cond.instanceMethod yX1_count, Cond.selects RX1 yX1_count yX1_count, Cond.code yX1_count cX1_count 1 (some .int), Cond.methodLink RX4 63 yX1_add, Cond.instanceMethod yX1_add, Cond.selects RX1 yX1_add yX1_add, Cond.code yX1_add cX1_add 4 none, Cond.methodLink RX1 44 yX1_addArc, Cond.instanceMethod yX1_addArc, Cond.selects RX1 yX1_addArc yX1_addArc]
def wsL_law_r7 : List Cond := [Cond.code yX1_addArc cX1_addArc 6 none, Cond.static yX4_insert, Cond.code yX4_insert cX4_insert 4 none, Cond.methodLink RX4 112 arraycopyName, Cond.native arraycopyName, Cond.static arraycopyName, Cond.initialized "java/lang/System", Cond.methodLink RL 22 yX5_road, Cond.instanceMethod yX5_road, Cond.selects RX5 yX5_road yX5_road, Cond.code yX5_road cX5_road 7 (some .int), Cond.constant RX5 81 (1000000000), Cond.methodLink RX5 61 Lib.Math.min.name, Cond.static Lib.Math.min.name, Cond.initialized "java/lang/Math", Cond.code Lib.Math.min.name Lib.Math.min.code 2 (some .int), Cond.methodLink RX5 67 Lib.Math.max.name, Cond.static Lib.Math.max.name, Cond.code Lib.Math.max.name Lib.Math.max.code 2 (some .int), Cond.methodLink RX5 77 yX5_isNode, Cond.instanceMethod yX5_isNode, Cond.selects RX5 yX5_isNode yX5_isNode, Cond.code yX5_isNode cX5_isNode 2 (some .boolean), Cond.methodLink RX5 82 yX5_find]
def wsL_law_r8 : List Cond := [Cond.instanceMethod yX5_find, Cond.selects RX5 yX5_find yX5_find, Cond.code yX5_find cX5_find 4 (some .int), Cond.methodLink RX5 74 yX5_placeOf, Cond.instanceMethod yX5_placeOf, Cond.selects RX5 yX5_placeOf yX5_placeOf, Cond.code yX5_placeOf cX5_placeOf 6 (some .int), Cond.methodLink RX5 70 yX5_isBefore, Cond.instanceMethod yX5_isBefore, Cond.selects RX5 yX5_isBefore yX5_isBefore, Cond.code yX5_isBefore cX5_isBefore 4 (some .boolean), Cond.methodLink RL 23 yX4_close, Cond.instanceMethod yX4_close, Cond.selects RX4 yX4_close yX4_close, Cond.code yX4_close cX4_close 5 (some .boolean), Cond.methodLink RL 27 yX5_close, Cond.instanceMethod yX5_close, Cond.selects RX5 yX5_close yX5_close, Cond.code yX5_close cX5_close 5 (some .boolean), Cond.methodLink RL 28 yX4_cost, Cond.instanceMethod yX4_cost, Cond.selects RX4 yX4_cost yX4_cost, Cond.code yX4_cost cX4_cost 3 (some .int), Cond.methodLink RL 32 yX5_cost]
def wsL_law_r9 : List Cond := [Cond.instanceMethod yX5_cost, Cond.selects RX5 yX5_cost yX5_cost, Cond.code yX5_cost cX5_cost 4 (some .int), Cond.methodLink RL 33 yX4_bar, Cond.instanceMethod yX4_bar, Cond.selects RX4 yX4_bar yX4_bar, Cond.code yX4_bar cX4_bar 5 (some .int), Cond.methodLink RX4 66 yX3_isBarred, Cond.instanceMethod yX3_isBarred, Cond.selects RX3 yX3_isBarred yX3_isBarred, Cond.code yX3_isBarred cX3_isBarred 6 (some .boolean), Cond.methodLink RX3 19 yX3_key, Cond.static yX3_key, Cond.code yX3_key cX3_key 3 (some .int), Cond.methodLink RX4 72 yX3_remove, Cond.instanceMethod yX3_remove, Cond.selects RX3 yX3_remove yX3_remove, Cond.code yX3_remove cX3_remove 6 none, Cond.methodLink RX3 31 arraycopyName, Cond.methodLink RX4 75 yX3_add, Cond.instanceMethod yX3_add, Cond.selects RX3 yX3_add yX3_add, Cond.code yX3_add cX3_add 5 none, Cond.methodLink RL 37 yX5_bar]
def wsL_law_r10 : List Cond := [Cond.instanceMethod yX5_bar, Cond.selects RX5 yX5_bar yX5_bar, Cond.code yX5_bar cX5_bar 7 (some .int), Cond.methodLink RX5 85 yX5_barAt, Cond.instanceMethod yX5_barAt, Cond.selects RX5 yX5_barAt yX5_barAt, Cond.code yX5_barAt cX5_barAt 5 (some .int), Cond.methodLink RL 38 yX4_route, Cond.instanceMethod yX4_route, Cond.selects RX4 yX4_route yX4_route, Cond.code yX4_route cX4_route 5 (some .long), Cond.constantLong RX4 76 (-14), Cond.constantLong RX4 89 (-3), Cond.constantLong RX4 95 (4096), Cond.methodLink RX4 78 yX4_append, Cond.instanceMethod yX4_append, Cond.selects RX4 yX4_append yX4_append, Cond.code yX4_append cX4_append 2 none, Cond.methodLink RX4 81 yX2_begin, Cond.instanceMethod yX2_begin, Cond.selects RX2 yX2_begin yX2_begin, Cond.code yX2_begin cX2_begin 4 none, Cond.methodLink RX2 55 yX2_spread, Cond.instanceMethod yX2_spread]
def wsL_law_r11 : List Cond := [Cond.selects RX2 yX2_spread yX2_spread, Cond.code yX2_spread cX2_spread 9 none, Cond.methodLink RX2 83 yX2_gatherOpenArcs, Cond.instanceMethod yX2_gatherOpenArcs, Cond.selects RX2 yX2_gatherOpenArcs yX2_gatherOpenArcs, Cond.code yX2_gatherOpenArcs cX2_gatherOpenArcs 5 none, Cond.methodLink RX2 94 yX1_isOpen, Cond.instanceMethod yX1_isOpen, Cond.selects RX1 yX1_isOpen yX1_isOpen, Cond.code yX1_isOpen cX1_isOpen 2 (some .boolean), Cond.methodLink RX2 63 yX1_targetOf, Cond.instanceMethod yX1_targetOf, Cond.selects RX1 yX1_targetOf yX1_targetOf, Cond.code yX1_targetOf cX1_targetOf 2 (some .int), Cond.methodLink RX2 79 yX2_mayTurn, Cond.instanceMethod yX2_mayTurn, Cond.selects RX2 yX2_mayTurn yX2_mayTurn, Cond.code yX2_mayTurn cX2_mayTurn 4 (some .boolean), Cond.methodLink RX2 98 yX3_isBarred, Cond.methodLink RX2 87 yX1_weightOf, Cond.instanceMethod yX1_weightOf, Cond.selects RX1 yX1_weightOf yX1_weightOf, Cond.code yX1_weightOf cX1_weightOf 2 (some .long), Cond.constantLong RX1 28 (4096)]
def wsL_law_r12 : List Cond := [Cond.methodLink RX2 91 yX0_add, Cond.instanceMethod yX0_add, Cond.selects RX0 yX0_add yX0_add, Cond.code yX0_add cX0_add 4 none, Cond.methodLink RX4 85 yX2_weightOfFirstArrival, Cond.instanceMethod yX2_weightOfFirstArrival, Cond.selects RX2 yX2_weightOfFirstArrival yX2_weightOfFirstArrival, Cond.code yX2_weightOfFirstArrival cX2_weightOfFirstArrival 4 (some .long), Cond.methodLink RX2 59 yX0_take, Cond.instanceMethod yX0_take, Cond.selects RX0 yX0_take yX0_take, Cond.code yX0_take cX0_take 5 (some .int), Cond.methodLink RX2 67 yX1_originOf, Cond.instanceMethod yX1_originOf, Cond.selects RX1 yX1_originOf yX1_originOf, Cond.code yX1_originOf cX1_originOf 2 (some .int), Cond.methodLink RX4 91 yX4_layWay, Cond.instanceMethod yX4_layWay, Cond.selects RX4 yX4_layWay yX4_layWay, Cond.code yX4_layWay cX4_layWay 10 none, Cond.methodLink RX4 101 yX2_leastArcBackTo, Cond.instanceMethod yX2_leastArcBackTo, Cond.selects RX2 yX2_leastArcBackTo yX2_leastArcBackTo, Cond.code yX2_leastArcBackTo cX2_leastArcBackTo 8 (some .int)]
def wsL_law_r13 : List Cond := [Cond.methodLink RX2 75 yX1_find, Cond.methodLink RX4 105 yX1_weightOf, Cond.methodLink RX4 108 yX1_originOf, Cond.methodLink RL 42 yX5_route, Cond.instanceMethod yX5_route, Cond.selects RX5 yX5_route yX5_route, Cond.code yX5_route cX5_route 8 (some .long), Cond.constantLong RX5 114 (-14), Cond.constantLong RX5 123 (-3), Cond.methodLink RX5 116 yX5_spread, Cond.instanceMethod yX5_spread, Cond.selects RX5 yX5_spread yX5_spread, Cond.code yX5_spread cX5_spread 5 none, Cond.fieldLink RX5 93 "RoadTurnsModel" "heaped" "I", Cond.methodLink RX5 100 yX5_begin, Cond.instanceMethod yX5_begin, Cond.selects RX5 yX5_begin yX5_begin, Cond.code yX5_begin cX5_begin 2 none, Cond.methodLink RX5 89 yX5_start, Cond.instanceMethod yX5_start, Cond.selects RX5 yX5_start yX5_start, Cond.code yX5_start cX5_start 2 (some .int), Cond.methodLink RX5 103 yX5_known, Cond.instanceMethod yX5_known]
def wsL_law_r14 : List Cond := [Cond.selects RX5 yX5_known yX5_known, Cond.code yX5_known cX5_known 6 none, Cond.methodLink RX5 96 yX5_isLess, Cond.instanceMethod yX5_isLess, Cond.selects RX5 yX5_isLess yX5_isLess, Cond.code yX5_isLess cX5_isLess 3 (some .boolean), Cond.methodLink RX5 107 yX5_pull, Cond.instanceMethod yX5_pull, Cond.selects RX5 yX5_pull yX5_pull, Cond.code yX5_pull cX5_pull 6 (some .int), Cond.methodLink RX5 111 yX5_end, Cond.instanceMethod yX5_end, Cond.selects RX5 yX5_end yX5_end, Cond.code yX5_end cX5_end 2 (some .int), Cond.methodLink RX5 120 yX5_better, Cond.instanceMethod yX5_better, Cond.selects RX5 yX5_better yX5_better, Cond.code yX5_better cX5_better 3 (some .int), Cond.methodLink RL 43 yX4_length, Cond.instanceMethod yX4_length, Cond.selects RX4 yX4_length yX4_length, Cond.code yX4_length cX4_length 1 (some .int), Cond.methodLink RL 47 yX5_length, Cond.instanceMethod yX5_length]
def wsL_law_r15 : List Cond := [Cond.selects RX5 yX5_length yX5_length, Cond.code yX5_length cX5_length 1 (some .int), Cond.methodLink RL 48 yX4_node, Cond.instanceMethod yX4_node, Cond.selects RX4 yX4_node yX4_node, Cond.code yX4_node cX4_node 2 (some .int), Cond.methodLink RL 52 yX5_node, Cond.instanceMethod yX5_node, Cond.selects RX5 yX5_node yX5_node, Cond.code yX5_node cX5_node 2 (some .int), Cond.methodLink RL 55 yX4_within, Cond.instanceMethod yX4_within, Cond.selects RX4 yX4_within yX4_within, Cond.code yX4_within cX4_within 4 (some .int), Cond.methodLink RX4 97 yX2_countOtherNodes, Cond.instanceMethod yX2_countOtherNodes, Cond.selects RX2 yX2_countOtherNodes yX2_countOtherNodes, Cond.code yX2_countOtherNodes cX2_countOtherNodes 6 (some .int), Cond.constantLong RX2 70 (4096), Cond.methodLink RL 59 yX5_within, Cond.instanceMethod yX5_within, Cond.selects RX5 yX5_within yX5_within, Cond.code yX5_within cX5_within 8 (some .int)]
def wsL_law : List Cond := (wsL_law_r1 ++ (wsL_law_r2 ++ (wsL_law_r3 ++ (wsL_law_r4 ++ (wsL_law_r5 ++ (wsL_law_r6 ++ (wsL_law_r7 ++ (wsL_law_r8 ++ (wsL_law_r9 ++ (wsL_law_r10 ++ (wsL_law_r11 ++ (wsL_law_r12 ++ (wsL_law_r13 ++ (wsL_law_r14 ++ wsL_law_r15)))))))))))))) ++ wsX40 ++ wsX50 ++ wsX10 ++ wsX30 ++ wsX20 ++ wsX00 ++ ([] : List Cond)
abbrev vwCl : List vw_C := [(RX0, TX0, 3), (RX1, TX1, 5), (RX2, TX2, 7), (RX3, TX3, 2), (RX4, TX4, 5), (RX5, TX5, 17)]
end
section
theorem dX0_init_0 : decode cX0_init 0 = .ok (.aload_n 0, 1) := by decide +kernel
theorem dX0_init_1 : decode cX0_init 1 = .ok (.invokespecial 3, 3) := by decide +kernel
theorem dX0_init_4 : decode cX0_init 4 = .ok (.aload_n 0, 1) := by decide +kernel
theorem dX0_init_5 : decode cX0_init 5 = .ok (.aload_n 1, 1) := by decide +kernel
theorem dX0_init_6 : decode cX0_init 6 = .ok (.putfield 9, 3) := by decide +kernel
theorem dX0_init_9 : decode cX0_init 9 = .ok (.aload_n 0, 1) := by decide +kernel
theorem dX0_init_10 : decode cX0_init 10 = .ok (.sipush 4000, 3) := by decide +kernel
theorem dX0_init_13 : decode cX0_init 13 = .ok (.newarray .int, 2) := by decide +kernel
theorem dX0_init_15 : decode cX0_init 15 = .ok (.putfield 15, 3) := by decide +kernel
theorem dX0_init_18 : decode cX0_init 18 = .ok (.aload_n 0, 1) := by decide +kernel
theorem dX0_init_19 : decode cX0_init 19 = .ok (.iconst 0, 1) := by decide +kernel
theorem dX0_init_20 : decode cX0_init 20 = .ok (.putfield 19, 3) := by decide +kernel
theorem dX0_init_23 : decode cX0_init 23 = .ok (.return_, 1) := by decide +kernel
theorem dX0_add_0 : decode cX0_add 0 = .ok (.aload_n 0, 1) := by decide +kernel
theorem dX0_add_1 : decode cX0_add 1 = .ok (.getfield 19, 3) := by decide +kernel
theorem dX0_add_4 : decode cX0_add 4 = .ok (.aload_n 0, 1) := by decide +kernel
theorem dX0_add_5 : decode cX0_add 5 = .ok (.getfield 15, 3) := by decide +kernel
theorem dX0_add_8 : decode cX0_add 8 = .ok (.arraylength, 1) := by decide +kernel
theorem dX0_add_9 : decode cX0_add 9 = .ok (.if_icmp .lt 4, 3) := by decide +kernel
theorem dX0_add_12 : decode cX0_add 12 = .ok (.return_, 1) := by decide +kernel
theorem dX0_add_13 : decode cX0_add 13 = .ok (.aload_n 0, 1) := by decide +kernel
theorem dX0_add_14 : decode cX0_add 14 = .ok (.getfield 19, 3) := by decide +kernel
theorem dX0_add_17 : decode cX0_add 17 = .ok (.istore_n 2, 1) := by decide +kernel
theorem dX0_add_18 : decode cX0_add 18 = .ok (.aload_n 0, 1) := by decide +kernel
theorem dX0_add_19 : decode cX0_add 19 = .ok (.dup, 1) := by decide +kernel
theorem dX0_add_20 : decode cX0_add 20 = .ok (.getfield 19, 3) := by decide +kernel
theorem dX0_add_23 : decode cX0_add 23 = .ok (.iconst 1, 1) := by decide +kernel
theorem dX0_add_24 : decode cX0_add 24 = .ok (.iadd, 1) := by decide +kernel
theorem dX0_add_25 : decode cX0_add 25 = .ok (.putfield 19, 3) := by decide +kernel
theorem dX0_add_28 : decode cX0_add 28 = .ok (.iload_n 2, 1) := by decide +kernel
theorem dX0_add_29 : decode cX0_add 29 = .ok (.ifCond .le 50, 3) := by decide +kernel
theorem dX0_add_32 : decode cX0_add 32 = .ok (.iload_n 2, 1) := by decide +kernel
theorem dX0_add_33 : decode cX0_add 33 = .ok (.iconst 1, 1) := by decide +kernel
theorem dX0_add_34 : decode cX0_add 34 = .ok (.isub, 1) := by decide +kernel
theorem dX0_add_35 : decode cX0_add 35 = .ok (.iconst 2, 1) := by decide +kernel
theorem dX0_add_36 : decode cX0_add 36 = .ok (.idiv, 1) := by decide +kernel
theorem dX0_add_37 : decode cX0_add 37 = .ok (.istore_n 3, 1) := by decide +kernel
theorem dX0_add_38 : decode cX0_add 38 = .ok (.aload_n 0, 1) := by decide +kernel
theorem dX0_add_39 : decode cX0_add 39 = .ok (.getfield 9, 3) := by decide +kernel
theorem dX0_add_42 : decode cX0_add 42 = .ok (.aload_n 0, 1) := by decide +kernel
theorem dX0_add_43 : decode cX0_add 43 = .ok (.getfield 15, 3) := by decide +kernel
theorem dX0_add_46 : decode cX0_add 46 = .ok (.iload_n 3, 1) := by decide +kernel
theorem dX0_add_47 : decode cX0_add 47 = .ok (.iaload, 1) := by decide +kernel
theorem dX0_add_48 : decode cX0_add 48 = .ok (.laload, 1) := by decide +kernel
theorem dX0_add_49 : decode cX0_add 49 = .ok (.aload_n 0, 1) := by decide +kernel
theorem dX0_add_50 : decode cX0_add 50 = .ok (.getfield 9, 3) := by decide +kernel
theorem dX0_add_53 : decode cX0_add 53 = .ok (.iload_n 1, 1) := by decide +kernel
theorem dX0_add_54 : decode cX0_add 54 = .ok (.laload, 1) := by decide +kernel
theorem dX0_add_55 : decode cX0_add 55 = .ok (.lcmp, 1) := by decide +kernel
theorem dX0_add_56 : decode cX0_add 56 = .ok (.ifCond .gt 6, 3) := by decide +kernel
theorem dX0_add_59 : decode cX0_add 59 = .ok (.goto 20, 3) := by decide +kernel
theorem dX0_add_62 : decode cX0_add 62 = .ok (.aload_n 0, 1) := by decide +kernel
theorem dX0_add_63 : decode cX0_add 63 = .ok (.getfield 15, 3) := by decide +kernel
theorem dX0_add_66 : decode cX0_add 66 = .ok (.iload_n 2, 1) := by decide +kernel
theorem dX0_add_67 : decode cX0_add 67 = .ok (.aload_n 0, 1) := by decide +kernel
theorem dX0_add_68 : decode cX0_add 68 = .ok (.getfield 15, 3) := by decide +kernel
theorem dX0_add_71 : decode cX0_add 71 = .ok (.iload_n 3, 1) := by decide +kernel
theorem dX0_add_72 : decode cX0_add 72 = .ok (.iaload, 1) := by decide +kernel
theorem dX0_add_73 : decode cX0_add 73 = .ok (.iastore, 1) := by decide +kernel
theorem dX0_add_74 : decode cX0_add 74 = .ok (.iload_n 3, 1) := by decide +kernel
theorem dX0_add_75 : decode cX0_add 75 = .ok (.istore_n 2, 1) := by decide +kernel
theorem dX0_add_76 : decode cX0_add 76 = .ok (.goto (-48), 3) := by decide +kernel
theorem dX0_add_79 : decode cX0_add 79 = .ok (.aload_n 0, 1) := by decide +kernel
theorem dX0_add_80 : decode cX0_add 80 = .ok (.getfield 15, 3) := by decide +kernel
theorem dX0_add_83 : decode cX0_add 83 = .ok (.iload_n 2, 1) := by decide +kernel
theorem dX0_add_84 : decode cX0_add 84 = .ok (.iload_n 1, 1) := by decide +kernel
theorem dX0_add_85 : decode cX0_add 85 = .ok (.iastore, 1) := by decide +kernel
theorem dX0_add_86 : decode cX0_add 86 = .ok (.return_, 1) := by decide +kernel
theorem dX0_take_0 : decode cX0_take 0 = .ok (.aload_n 0, 1) := by decide +kernel
theorem dX0_take_1 : decode cX0_take 1 = .ok (.getfield 19, 3) := by decide +kernel
theorem dX0_take_4 : decode cX0_take 4 = .ok (.ifCond .gt 5, 3) := by decide +kernel
theorem dX0_take_7 : decode cX0_take 7 = .ok (.iconst (-1), 1) := by decide +kernel
theorem dX0_take_8 : decode cX0_take 8 = .ok (.ireturn, 1) := by decide +kernel
theorem dX0_take_9 : decode cX0_take 9 = .ok (.aload_n 0, 1) := by decide +kernel
theorem dX0_take_10 : decode cX0_take 10 = .ok (.getfield 15, 3) := by decide +kernel
theorem dX0_take_13 : decode cX0_take 13 = .ok (.iconst 0, 1) := by decide +kernel
theorem dX0_take_14 : decode cX0_take 14 = .ok (.iaload, 1) := by decide +kernel
theorem dX0_take_15 : decode cX0_take 15 = .ok (.istore_n 1, 1) := by decide +kernel
theorem dX0_take_16 : decode cX0_take 16 = .ok (.aload_n 0, 1) := by decide +kernel
theorem dX0_take_17 : decode cX0_take 17 = .ok (.dup, 1) := by decide +kernel
theorem dX0_take_18 : decode cX0_take 18 = .ok (.getfield 19, 3) := by decide +kernel
theorem dX0_take_21 : decode cX0_take 21 = .ok (.iconst 1, 1) := by decide +kernel
theorem dX0_take_22 : decode cX0_take 22 = .ok (.isub, 1) := by decide +kernel
theorem dX0_take_23 : decode cX0_take 23 = .ok (.putfield 19, 3) := by decide +kernel
theorem dX0_take_26 : decode cX0_take 26 = .ok (.aload_n 0, 1) := by decide +kernel
theorem dX0_take_27 : decode cX0_take 27 = .ok (.getfield 15, 3) := by decide +kernel
theorem dX0_take_30 : decode cX0_take 30 = .ok (.aload_n 0, 1) := by decide +kernel
theorem dX0_take_31 : decode cX0_take 31 = .ok (.getfield 19, 3) := by decide +kernel
theorem dX0_take_34 : decode cX0_take 34 = .ok (.iaload, 1) := by decide +kernel
theorem dX0_take_35 : decode cX0_take 35 = .ok (.istore_n 2, 1) := by decide +kernel
theorem dX0_take_36 : decode cX0_take 36 = .ok (.iconst 0, 1) := by decide +kernel
theorem dX0_take_37 : decode cX0_take 37 = .ok (.istore_n 3, 1) := by decide +kernel
theorem dX0_take_38 : decode cX0_take 38 = .ok (.iconst 1, 1) := by decide +kernel
theorem dX0_take_39 : decode cX0_take 39 = .ok (.istore 4, 2) := by decide +kernel
theorem dX0_take_41 : decode cX0_take 41 = .ok (.iload 4, 2) := by decide +kernel
theorem dX0_take_43 : decode cX0_take 43 = .ok (.aload_n 0, 1) := by decide +kernel
theorem dX0_take_44 : decode cX0_take 44 = .ok (.getfield 19, 3) := by decide +kernel
theorem dX0_take_47 : decode cX0_take 47 = .ok (.if_icmp .ge 98, 3) := by decide +kernel
theorem dX0_take_50 : decode cX0_take 50 = .ok (.iload 4, 2) := by decide +kernel
theorem dX0_take_52 : decode cX0_take 52 = .ok (.iconst 1, 1) := by decide +kernel
theorem dX0_take_53 : decode cX0_take 53 = .ok (.iadd, 1) := by decide +kernel
theorem dX0_take_54 : decode cX0_take 54 = .ok (.aload_n 0, 1) := by decide +kernel
theorem dX0_take_55 : decode cX0_take 55 = .ok (.getfield 19, 3) := by decide +kernel
theorem dX0_take_58 : decode cX0_take 58 = .ok (.if_icmp .ge 36, 3) := by decide +kernel
theorem dX0_take_61 : decode cX0_take 61 = .ok (.aload_n 0, 1) := by decide +kernel
theorem dX0_take_62 : decode cX0_take 62 = .ok (.getfield 9, 3) := by decide +kernel
theorem dX0_take_65 : decode cX0_take 65 = .ok (.aload_n 0, 1) := by decide +kernel
theorem dX0_take_66 : decode cX0_take 66 = .ok (.getfield 15, 3) := by decide +kernel
theorem dX0_take_69 : decode cX0_take 69 = .ok (.iload 4, 2) := by decide +kernel
theorem dX0_take_71 : decode cX0_take 71 = .ok (.iconst 1, 1) := by decide +kernel
theorem dX0_take_72 : decode cX0_take 72 = .ok (.iadd, 1) := by decide +kernel
theorem dX0_take_73 : decode cX0_take 73 = .ok (.iaload, 1) := by decide +kernel
theorem dX0_take_74 : decode cX0_take 74 = .ok (.laload, 1) := by decide +kernel
theorem dX0_take_75 : decode cX0_take 75 = .ok (.aload_n 0, 1) := by decide +kernel
theorem dX0_take_76 : decode cX0_take 76 = .ok (.getfield 9, 3) := by decide +kernel
theorem dX0_take_79 : decode cX0_take 79 = .ok (.aload_n 0, 1) := by decide +kernel
theorem dX0_take_80 : decode cX0_take 80 = .ok (.getfield 15, 3) := by decide +kernel
theorem dX0_take_83 : decode cX0_take 83 = .ok (.iload 4, 2) := by decide +kernel
theorem dX0_take_85 : decode cX0_take 85 = .ok (.iaload, 1) := by decide +kernel
theorem dX0_take_86 : decode cX0_take 86 = .ok (.laload, 1) := by decide +kernel
theorem dX0_take_87 : decode cX0_take 87 = .ok (.lcmp, 1) := by decide +kernel
theorem dX0_take_88 : decode cX0_take 88 = .ok (.ifCond .ge 6, 3) := by decide +kernel
theorem dX0_take_91 : decode cX0_take 91 = .ok (.iinc 4 1, 3) := by decide +kernel
theorem dX0_take_94 : decode cX0_take 94 = .ok (.aload_n 0, 1) := by decide +kernel
theorem dX0_take_95 : decode cX0_take 95 = .ok (.getfield 9, 3) := by decide +kernel
theorem dX0_take_98 : decode cX0_take 98 = .ok (.aload_n 0, 1) := by decide +kernel
theorem dX0_take_99 : decode cX0_take 99 = .ok (.getfield 15, 3) := by decide +kernel
theorem dX0_take_102 : decode cX0_take 102 = .ok (.iload 4, 2) := by decide +kernel
theorem dX0_take_104 : decode cX0_take 104 = .ok (.iaload, 1) := by decide +kernel
theorem dX0_take_105 : decode cX0_take 105 = .ok (.laload, 1) := by decide +kernel
theorem dX0_take_106 : decode cX0_take 106 = .ok (.aload_n 0, 1) := by decide +kernel
theorem dX0_take_107 : decode cX0_take 107 = .ok (.getfield 9, 3) := by decide +kernel
theorem dX0_take_110 : decode cX0_take 110 = .ok (.iload_n 2, 1) := by decide +kernel
theorem dX0_take_111 : decode cX0_take 111 = .ok (.laload, 1) := by decide +kernel
theorem dX0_take_112 : decode cX0_take 112 = .ok (.lcmp, 1) := by decide +kernel
theorem dX0_take_113 : decode cX0_take 113 = .ok (.ifCond .lt 6, 3) := by decide +kernel
theorem dX0_take_116 : decode cX0_take 116 = .ok (.goto 29, 3) := by decide +kernel
theorem dX0_take_119 : decode cX0_take 119 = .ok (.aload_n 0, 1) := by decide +kernel
theorem dX0_take_120 : decode cX0_take 120 = .ok (.getfield 15, 3) := by decide +kernel
theorem dX0_take_123 : decode cX0_take 123 = .ok (.iload_n 3, 1) := by decide +kernel
theorem dX0_take_124 : decode cX0_take 124 = .ok (.aload_n 0, 1) := by decide +kernel
theorem dX0_take_125 : decode cX0_take 125 = .ok (.getfield 15, 3) := by decide +kernel
theorem dX0_take_128 : decode cX0_take 128 = .ok (.iload 4, 2) := by decide +kernel
theorem dX0_take_130 : decode cX0_take 130 = .ok (.iaload, 1) := by decide +kernel
theorem dX0_take_131 : decode cX0_take 131 = .ok (.iastore, 1) := by decide +kernel
theorem dX0_take_132 : decode cX0_take 132 = .ok (.iload 4, 2) := by decide +kernel
theorem dX0_take_134 : decode cX0_take 134 = .ok (.istore_n 3, 1) := by decide +kernel
theorem dX0_take_135 : decode cX0_take 135 = .ok (.iconst 2, 1) := by decide +kernel
theorem dX0_take_136 : decode cX0_take 136 = .ok (.iload_n 3, 1) := by decide +kernel
theorem dX0_take_137 : decode cX0_take 137 = .ok (.imul, 1) := by decide +kernel
theorem dX0_take_138 : decode cX0_take 138 = .ok (.iconst 1, 1) := by decide +kernel
theorem dX0_take_139 : decode cX0_take 139 = .ok (.iadd, 1) := by decide +kernel
theorem dX0_take_140 : decode cX0_take 140 = .ok (.istore 4, 2) := by decide +kernel
theorem dX0_take_142 : decode cX0_take 142 = .ok (.goto (-101), 3) := by decide +kernel
theorem dX0_take_145 : decode cX0_take 145 = .ok (.aload_n 0, 1) := by decide +kernel
theorem dX0_take_146 : decode cX0_take 146 = .ok (.getfield 15, 3) := by decide +kernel
theorem dX0_take_149 : decode cX0_take 149 = .ok (.iload_n 3, 1) := by decide +kernel
theorem dX0_take_150 : decode cX0_take 150 = .ok (.iload_n 2, 1) := by decide +kernel
theorem dX0_take_151 : decode cX0_take 151 = .ok (.iastore, 1) := by decide +kernel
theorem dX0_take_152 : decode cX0_take 152 = .ok (.iload_n 1, 1) := by decide +kernel
theorem dX0_take_153 : decode cX0_take 153 = .ok (.ireturn, 1) := by decide +kernel
theorem dX1_init_0 : decode cX1_init 0 = .ok (.aload_n 0, 1) := by decide +kernel
theorem dX1_init_1 : decode cX1_init 1 = .ok (.invokespecial 3, 3) := by decide +kernel
theorem dX1_init_4 : decode cX1_init 4 = .ok (.aload_n 0, 1) := by decide +kernel
theorem dX1_init_5 : decode cX1_init 5 = .ok (.iconst 1, 1) := by decide +kernel
theorem dX1_init_6 : decode cX1_init 6 = .ok (.putfield 9, 3) := by decide +kernel
theorem dX1_init_9 : decode cX1_init 9 = .ok (.aload_n 0, 1) := by decide +kernel
theorem dX1_init_10 : decode cX1_init 10 = .ok (.iconst 0, 1) := by decide +kernel
theorem dX1_init_11 : decode cX1_init 11 = .ok (.putfield 15, 3) := by decide +kernel
theorem dX1_init_14 : decode cX1_init 14 = .ok (.aload_n 0, 1) := by decide +kernel
theorem dX1_init_15 : decode cX1_init 15 = .ok (.sipush 4000, 3) := by decide +kernel
theorem dX1_init_18 : decode cX1_init 18 = .ok (.newarray .int, 2) := by decide +kernel
theorem dX1_init_20 : decode cX1_init 20 = .ok (.putfield 18, 3) := by decide +kernel
theorem dX1_init_23 : decode cX1_init 23 = .ok (.aload_n 0, 1) := by decide +kernel
theorem dX1_init_24 : decode cX1_init 24 = .ok (.sipush 4000, 3) := by decide +kernel
theorem dX1_init_27 : decode cX1_init 27 = .ok (.newarray .int, 2) := by decide +kernel
theorem dX1_init_29 : decode cX1_init 29 = .ok (.putfield 22, 3) := by decide +kernel
theorem dX1_init_32 : decode cX1_init 32 = .ok (.aload_n 0, 1) := by decide +kernel
theorem dX1_init_33 : decode cX1_init 33 = .ok (.sipush 301, 3) := by decide +kernel
theorem dX1_init_36 : decode cX1_init 36 = .ok (.newarray .int, 2) := by decide +kernel
theorem dX1_init_38 : decode cX1_init 38 = .ok (.putfield 25, 3) := by decide +kernel
theorem dX1_init_41 : decode cX1_init 41 = .ok (.return_, 1) := by decide +kernel
theorem dX1_reset_0 : decode cX1_reset 0 = .ok (.aload_n 0, 1) := by decide +kernel
theorem dX1_reset_1 : decode cX1_reset 1 = .ok (.iload_n 1, 1) := by decide +kernel
theorem dX1_reset_2 : decode cX1_reset 2 = .ok (.putfield 9, 3) := by decide +kernel
theorem dX1_reset_5 : decode cX1_reset 5 = .ok (.aload_n 0, 1) := by decide +kernel
theorem dX1_reset_6 : decode cX1_reset 6 = .ok (.iconst 0, 1) := by decide +kernel
theorem dX1_reset_7 : decode cX1_reset 7 = .ok (.putfield 15, 3) := by decide +kernel
theorem dX1_reset_10 : decode cX1_reset 10 = .ok (.iconst 0, 1) := by decide +kernel
theorem dX1_reset_11 : decode cX1_reset 11 = .ok (.istore_n 2, 1) := by decide +kernel
theorem dX1_reset_12 : decode cX1_reset 12 = .ok (.iload_n 2, 1) := by decide +kernel
theorem dX1_reset_13 : decode cX1_reset 13 = .ok (.aload_n 0, 1) := by decide +kernel
theorem dX1_reset_14 : decode cX1_reset 14 = .ok (.getfield 25, 3) := by decide +kernel
theorem dX1_reset_17 : decode cX1_reset 17 = .ok (.arraylength, 1) := by decide +kernel
theorem dX1_reset_18 : decode cX1_reset 18 = .ok (.if_icmp .ge 16, 3) := by decide +kernel
theorem dX1_reset_21 : decode cX1_reset 21 = .ok (.aload_n 0, 1) := by decide +kernel
theorem dX1_reset_22 : decode cX1_reset 22 = .ok (.getfield 25, 3) := by decide +kernel
theorem dX1_reset_25 : decode cX1_reset 25 = .ok (.iload_n 2, 1) := by decide +kernel
theorem dX1_reset_26 : decode cX1_reset 26 = .ok (.iconst 0, 1) := by decide +kernel
theorem dX1_reset_27 : decode cX1_reset 27 = .ok (.iastore, 1) := by decide +kernel
theorem dX1_reset_28 : decode cX1_reset 28 = .ok (.iinc 2 1, 3) := by decide +kernel
theorem dX1_reset_31 : decode cX1_reset 31 = .ok (.goto (-19), 3) := by decide +kernel
theorem dX1_reset_34 : decode cX1_reset 34 = .ok (.return_, 1) := by decide +kernel
theorem dX1_hasNode_0 : decode cX1_hasNode 0 = .ok (.iload_n 1, 1) := by decide +kernel
theorem dX1_hasNode_1 : decode cX1_hasNode 1 = .ok (.ifCond .lt 15, 3) := by decide +kernel
theorem dX1_hasNode_4 : decode cX1_hasNode 4 = .ok (.iload_n 1, 1) := by decide +kernel
theorem dX1_hasNode_5 : decode cX1_hasNode 5 = .ok (.aload_n 0, 1) := by decide +kernel
theorem dX1_hasNode_6 : decode cX1_hasNode 6 = .ok (.getfield 9, 3) := by decide +kernel
theorem dX1_hasNode_9 : decode cX1_hasNode 9 = .ok (.if_icmp .ge 7, 3) := by decide +kernel
theorem dX1_hasNode_12 : decode cX1_hasNode 12 = .ok (.iconst 1, 1) := by decide +kernel
theorem dX1_hasNode_13 : decode cX1_hasNode 13 = .ok (.goto 4, 3) := by decide +kernel
theorem dX1_hasNode_16 : decode cX1_hasNode 16 = .ok (.iconst 0, 1) := by decide +kernel
theorem dX1_hasNode_17 : decode cX1_hasNode 17 = .ok (.ireturn, 1) := by decide +kernel
theorem dX1_count_0 : decode cX1_count 0 = .ok (.aload_n 0, 1) := by decide +kernel
theorem dX1_count_1 : decode cX1_count 1 = .ok (.getfield 15, 3) := by decide +kernel
theorem dX1_count_4 : decode cX1_count 4 = .ok (.iconst 2, 1) := by decide +kernel
theorem dX1_count_5 : decode cX1_count 5 = .ok (.idiv, 1) := by decide +kernel
theorem dX1_count_6 : decode cX1_count 6 = .ok (.ireturn, 1) := by decide +kernel
theorem dX1_originOf_0 : decode cX1_originOf 0 = .ok (.aload_n 0, 1) := by decide +kernel
theorem dX1_originOf_1 : decode cX1_originOf 1 = .ok (.getfield 18, 3) := by decide +kernel
theorem dX1_originOf_4 : decode cX1_originOf 4 = .ok (.iload_n 1, 1) := by decide +kernel
theorem dX1_originOf_5 : decode cX1_originOf 5 = .ok (.iaload, 1) := by decide +kernel
theorem dX1_originOf_6 : decode cX1_originOf 6 = .ok (.sipush 300, 3) := by decide +kernel
theorem dX1_originOf_9 : decode cX1_originOf 9 = .ok (.idiv, 1) := by decide +kernel
theorem dX1_originOf_10 : decode cX1_originOf 10 = .ok (.ireturn, 1) := by decide +kernel
theorem dX1_targetOf_0 : decode cX1_targetOf 0 = .ok (.aload_n 0, 1) := by decide +kernel
theorem dX1_targetOf_1 : decode cX1_targetOf 1 = .ok (.getfield 18, 3) := by decide +kernel
theorem dX1_targetOf_4 : decode cX1_targetOf 4 = .ok (.iload_n 1, 1) := by decide +kernel
theorem dX1_targetOf_5 : decode cX1_targetOf 5 = .ok (.iaload, 1) := by decide +kernel
theorem dX1_targetOf_6 : decode cX1_targetOf 6 = .ok (.sipush 300, 3) := by decide +kernel
theorem dX1_targetOf_9 : decode cX1_targetOf 9 = .ok (.irem, 1) := by decide +kernel
theorem dX1_targetOf_10 : decode cX1_targetOf 10 = .ok (.ireturn, 1) := by decide +kernel
theorem dX1_isOpen_0 : decode cX1_isOpen 0 = .ok (.aload_n 0, 1) := by decide +kernel
theorem dX1_isOpen_1 : decode cX1_isOpen 1 = .ok (.getfield 22, 3) := by decide +kernel
theorem dX1_isOpen_4 : decode cX1_isOpen 4 = .ok (.iload_n 1, 1) := by decide +kernel
theorem dX1_isOpen_5 : decode cX1_isOpen 5 = .ok (.iaload, 1) := by decide +kernel
theorem dX1_isOpen_6 : decode cX1_isOpen 6 = .ok (.ifCond .le 7, 3) := by decide +kernel
theorem dX1_isOpen_9 : decode cX1_isOpen 9 = .ok (.iconst 1, 1) := by decide +kernel
theorem dX1_isOpen_10 : decode cX1_isOpen 10 = .ok (.goto 4, 3) := by decide +kernel
theorem dX1_isOpen_13 : decode cX1_isOpen 13 = .ok (.iconst 0, 1) := by decide +kernel
theorem dX1_isOpen_14 : decode cX1_isOpen 14 = .ok (.ireturn, 1) := by decide +kernel
theorem dX1_weightOf_0 : decode cX1_weightOf 0 = .ok (.aload_n 0, 1) := by decide +kernel
theorem dX1_weightOf_1 : decode cX1_weightOf 1 = .ok (.getfield 22, 3) := by decide +kernel
theorem dX1_weightOf_4 : decode cX1_weightOf 4 = .ok (.iload_n 1, 1) := by decide +kernel
theorem dX1_weightOf_5 : decode cX1_weightOf 5 = .ok (.iaload, 1) := by decide +kernel
theorem dX1_weightOf_6 : decode cX1_weightOf 6 = .ok (.i2l, 1) := by decide +kernel
theorem dX1_weightOf_7 : decode cX1_weightOf 7 = .ok (.ldc2_w 28, 3) := by decide +kernel
theorem dX1_weightOf_10 : decode cX1_weightOf 10 = .ok (.lmul, 1) := by decide +kernel
theorem dX1_weightOf_11 : decode cX1_weightOf 11 = .ok (.lconst 1, 1) := by decide +kernel
theorem dX1_weightOf_12 : decode cX1_weightOf 12 = .ok (.ladd, 1) := by decide +kernel
theorem dX1_weightOf_13 : decode cX1_weightOf 13 = .ok (.lreturn, 1) := by decide +kernel
set_option maxRecDepth 20000 in
theorem ggX1_find_X1_hasNode : GoodIn wsX1_find wsX1_hasNode := goodIn_r _ [7, 8, 19, 20, 21, 22, 23] (by decide +kernel) (by decide +kernel)
set_option maxRecDepth 20000 in
theorem gX1_find_X1_hasNode : GoodIn wsX1_find (wsV RX1 30 RX1 yX1_hasNode wsX1_hasNode) := goodIn_app (goodIn_of _ (by decide +kernel)) ggX1_find_X1_hasNode
set_option maxRecDepth 20000 in
theorem ggX1_find_X1_placeOf : GoodIn wsX1_find wsX1_placeOf := goodIn_r _ [12, 2, 1, 13, 14, 6, 15, 16, 17, 18, 19, 20, 21, 22, 23] (by decide +kernel) (by decide +kernel)
set_option maxRecDepth 20000 in
theorem gX1_find_X1_placeOf : GoodIn wsX1_find (wsV RX1 34 RX1 yX1_placeOf wsX1_placeOf) := goodIn_app (goodIn_of _ (by decide +kernel)) ggX1_find_X1_placeOf
set_option maxRecDepth 20000 in
theorem ggX1_find_X1_key : GoodIn wsX1_find wsX1_key := goodIn_r _ [15] (by decide +kernel) (by decide +kernel)
set_option maxRecDepth 20000 in
theorem gX1_find_X1_key : GoodIn wsX1_find (va_wsS RX1 38 yX1_key wsX1_key) := goodIn_app (goodIn_of _ (by decide +kernel)) ggX1_find_X1_key
theorem dX1_find_0 : decode cX1_find 0 = .ok (.aload_n 0, 1) := by decide +kernel
theorem dX1_find_1 : decode cX1_find 1 = .ok (.iload_n 1, 1) := by decide +kernel
theorem dX1_find_2 : decode cX1_find 2 = .ok (.invokevirtual 30, 3) := by decide +kernel
theorem dX1_find_5 : decode cX1_find 5 = .ok (.ifCond .eq 11, 3) := by decide +kernel
theorem dX1_find_8 : decode cX1_find 8 = .ok (.aload_n 0, 1) := by decide +kernel
theorem dX1_find_9 : decode cX1_find 9 = .ok (.iload_n 2, 1) := by decide +kernel
theorem dX1_find_10 : decode cX1_find 10 = .ok (.invokevirtual 30, 3) := by decide +kernel
theorem dX1_find_13 : decode cX1_find 13 = .ok (.ifCond .ne 5, 3) := by decide +kernel
theorem dX1_find_16 : decode cX1_find 16 = .ok (.iconst (-1), 1) := by decide +kernel
theorem dX1_find_17 : decode cX1_find 17 = .ok (.ireturn, 1) := by decide +kernel
theorem dX1_find_18 : decode cX1_find 18 = .ok (.aload_n 0, 1) := by decide +kernel
theorem dX1_find_19 : decode cX1_find 19 = .ok (.iload_n 1, 1) := by decide +kernel
theorem dX1_find_20 : decode cX1_find 20 = .ok (.iload_n 2, 1) := by decide +kernel
theorem dX1_find_21 : decode cX1_find 21 = .ok (.invokevirtual 34, 3) := by decide +kernel
theorem dX1_find_24 : decode cX1_find 24 = .ok (.istore_n 3, 1) := by decide +kernel
theorem dX1_find_25 : decode cX1_find 25 = .ok (.iload_n 3, 1) := by decide +kernel
theorem dX1_find_26 : decode cX1_find 26 = .ok (.aload_n 0, 1) := by decide +kernel
theorem dX1_find_27 : decode cX1_find 27 = .ok (.getfield 25, 3) := by decide +kernel
theorem dX1_find_30 : decode cX1_find 30 = .ok (.iload_n 1, 1) := by decide +kernel
theorem dX1_find_31 : decode cX1_find 31 = .ok (.iconst 1, 1) := by decide +kernel
theorem dX1_find_32 : decode cX1_find 32 = .ok (.iadd, 1) := by decide +kernel
theorem dX1_find_33 : decode cX1_find 33 = .ok (.iaload, 1) := by decide +kernel
theorem dX1_find_34 : decode cX1_find 34 = .ok (.if_icmp .ge 21, 3) := by decide +kernel
theorem dX1_find_37 : decode cX1_find 37 = .ok (.aload_n 0, 1) := by decide +kernel
theorem dX1_find_38 : decode cX1_find 38 = .ok (.getfield 18, 3) := by decide +kernel
theorem dX1_find_41 : decode cX1_find 41 = .ok (.iload_n 3, 1) := by decide +kernel
theorem dX1_find_42 : decode cX1_find 42 = .ok (.iaload, 1) := by decide +kernel
theorem dX1_find_43 : decode cX1_find 43 = .ok (.iload_n 1, 1) := by decide +kernel
theorem dX1_find_44 : decode cX1_find 44 = .ok (.iload_n 2, 1) := by decide +kernel
theorem dX1_find_45 : decode cX1_find 45 = .ok (.invokestatic 38, 3) := by decide +kernel
theorem dX1_find_48 : decode cX1_find 48 = .ok (.if_icmp .ne 7, 3) := by decide +kernel
theorem dX1_find_51 : decode cX1_find 51 = .ok (.iload_n 3, 1) := by decide +kernel
theorem dX1_find_52 : decode cX1_find 52 = .ok (.goto 4, 3) := by decide +kernel
theorem dX1_find_55 : decode cX1_find 55 = .ok (.iconst (-1), 1) := by decide +kernel
theorem dX1_find_56 : decode cX1_find 56 = .ok (.ireturn, 1) := by decide +kernel
set_option maxRecDepth 20000 in
theorem ggX1_signedCost_X1_find : GoodIn wsX1_signedCost wsX1_find := goodIn_r _ [6, 7, 8, 9, 10, 11, 5, 12, 13, 14, 15, 16, 17, 18, 19, 20, 21, 22, 23, 24, 25, 26, 27, 28] (by decide +kernel) (by decide +kernel)
set_option maxRecDepth 20000 in
theorem gX1_signedCost_X1_find : GoodIn wsX1_signedCost (wsV RX1 41 RX1 yX1_find wsX1_find) := goodIn_app (goodIn_of _ (by decide +kernel)) ggX1_signedCost_X1_find
theorem dX1_signedCost_0 : decode cX1_signedCost 0 = .ok (.aload_n 0, 1) := by decide +kernel
theorem dX1_signedCost_1 : decode cX1_signedCost 1 = .ok (.iload_n 1, 1) := by decide +kernel
theorem dX1_signedCost_2 : decode cX1_signedCost 2 = .ok (.iload_n 2, 1) := by decide +kernel
theorem dX1_signedCost_3 : decode cX1_signedCost 3 = .ok (.invokevirtual 41, 3) := by decide +kernel
theorem dX1_signedCost_6 : decode cX1_signedCost 6 = .ok (.istore_n 3, 1) := by decide +kernel
theorem dX1_signedCost_7 : decode cX1_signedCost 7 = .ok (.iload_n 3, 1) := by decide +kernel
theorem dX1_signedCost_8 : decode cX1_signedCost 8 = .ok (.iconst (-1), 1) := by decide +kernel
theorem dX1_signedCost_9 : decode cX1_signedCost 9 = .ok (.if_icmp .ne 7, 3) := by decide +kernel
theorem dX1_signedCost_12 : decode cX1_signedCost 12 = .ok (.iconst 0, 1) := by decide +kernel
theorem dX1_signedCost_13 : decode cX1_signedCost 13 = .ok (.goto 9, 3) := by decide +kernel
theorem dX1_signedCost_16 : decode cX1_signedCost 16 = .ok (.aload_n 0, 1) := by decide +kernel
theorem dX1_signedCost_17 : decode cX1_signedCost 17 = .ok (.getfield 22, 3) := by decide +kernel
theorem dX1_signedCost_20 : decode cX1_signedCost 20 = .ok (.iload_n 3, 1) := by decide +kernel
theorem dX1_signedCost_21 : decode cX1_signedCost 21 = .ok (.iaload, 1) := by decide +kernel
theorem dX1_signedCost_22 : decode cX1_signedCost 22 = .ok (.ireturn, 1) := by decide +kernel
set_option maxRecDepth 20000 in
theorem ggX1_change_X1_find : GoodIn wsX1_change wsX1_find := goodIn_r _ [6, 7, 8, 9, 10, 11, 5, 12, 13, 14, 15, 16, 17, 18, 19, 20, 21, 22, 23, 24, 25, 26, 27, 28] (by decide +kernel) (by decide +kernel)
set_option maxRecDepth 20000 in
theorem gX1_change_X1_find : GoodIn wsX1_change (wsV RX1 41 RX1 yX1_find wsX1_find) := goodIn_app (goodIn_of _ (by decide +kernel)) ggX1_change_X1_find
theorem dX1_change_0 : decode cX1_change 0 = .ok (.aload_n 0, 1) := by decide +kernel
theorem dX1_change_1 : decode cX1_change 1 = .ok (.iload_n 1, 1) := by decide +kernel
theorem dX1_change_2 : decode cX1_change 2 = .ok (.iload_n 2, 1) := by decide +kernel
theorem dX1_change_3 : decode cX1_change 3 = .ok (.invokevirtual 41, 3) := by decide +kernel
theorem dX1_change_6 : decode cX1_change 6 = .ok (.istore 4, 2) := by decide +kernel
theorem dX1_change_8 : decode cX1_change 8 = .ok (.aload_n 0, 1) := by decide +kernel
theorem dX1_change_9 : decode cX1_change 9 = .ok (.iload_n 2, 1) := by decide +kernel
theorem dX1_change_10 : decode cX1_change 10 = .ok (.iload_n 1, 1) := by decide +kernel
theorem dX1_change_11 : decode cX1_change 11 = .ok (.invokevirtual 41, 3) := by decide +kernel
theorem dX1_change_14 : decode cX1_change 14 = .ok (.istore 5, 2) := by decide +kernel
theorem dX1_change_16 : decode cX1_change 16 = .ok (.iload 4, 2) := by decide +kernel
theorem dX1_change_18 : decode cX1_change 18 = .ok (.iconst (-1), 1) := by decide +kernel
theorem dX1_change_19 : decode cX1_change 19 = .ok (.if_icmp .eq 9, 3) := by decide +kernel
theorem dX1_change_22 : decode cX1_change 22 = .ok (.iload 5, 2) := by decide +kernel
theorem dX1_change_24 : decode cX1_change 24 = .ok (.iconst (-1), 1) := by decide +kernel
theorem dX1_change_25 : decode cX1_change 25 = .ok (.if_icmp .ne 4, 3) := by decide +kernel
theorem dX1_change_28 : decode cX1_change 28 = .ok (.return_, 1) := by decide +kernel
theorem dX1_change_29 : decode cX1_change 29 = .ok (.aload_n 0, 1) := by decide +kernel
theorem dX1_change_30 : decode cX1_change 30 = .ok (.getfield 22, 3) := by decide +kernel
theorem dX1_change_33 : decode cX1_change 33 = .ok (.iload 4, 2) := by decide +kernel
theorem dX1_change_35 : decode cX1_change 35 = .ok (.iload_n 3, 1) := by decide +kernel
theorem dX1_change_36 : decode cX1_change 36 = .ok (.iastore, 1) := by decide +kernel
theorem dX1_change_37 : decode cX1_change 37 = .ok (.aload_n 0, 1) := by decide +kernel
theorem dX1_change_38 : decode cX1_change 38 = .ok (.getfield 22, 3) := by decide +kernel
theorem dX1_change_41 : decode cX1_change 41 = .ok (.iload 5, 2) := by decide +kernel
theorem dX1_change_43 : decode cX1_change 43 = .ok (.iload_n 3, 1) := by decide +kernel
theorem dX1_change_44 : decode cX1_change 44 = .ok (.iastore, 1) := by decide +kernel
theorem dX1_change_45 : decode cX1_change 45 = .ok (.return_, 1) := by decide +kernel
set_option maxRecDepth 20000 in
theorem ggX1_add_X1_addArc : GoodIn wsX1_add wsX1_addArc := goodIn_r _ [5, 6, 7, 8, 9, 10, 11, 12, 4, 13, 14, 15, 16, 17, 18, 19, 20, 21, 22, 23, 24, 25, 26, 27, 28, 29, 30] (by decide +kernel) (by decide +kernel)
set_option maxRecDepth 20000 in
theorem gX1_add_X1_addArc : GoodIn wsX1_add (wsV RX1 44 RX1 yX1_addArc wsX1_addArc) := goodIn_app (goodIn_of _ (by decide +kernel)) ggX1_add_X1_addArc
theorem dX1_add_0 : decode cX1_add 0 = .ok (.aload_n 0, 1) := by decide +kernel
theorem dX1_add_1 : decode cX1_add 1 = .ok (.iload_n 1, 1) := by decide +kernel
theorem dX1_add_2 : decode cX1_add 2 = .ok (.iload_n 2, 1) := by decide +kernel
theorem dX1_add_3 : decode cX1_add 3 = .ok (.iload_n 3, 1) := by decide +kernel
theorem dX1_add_4 : decode cX1_add 4 = .ok (.invokevirtual 44, 3) := by decide +kernel
theorem dX1_add_7 : decode cX1_add 7 = .ok (.aload_n 0, 1) := by decide +kernel
theorem dX1_add_8 : decode cX1_add 8 = .ok (.iload_n 2, 1) := by decide +kernel
theorem dX1_add_9 : decode cX1_add 9 = .ok (.iload_n 1, 1) := by decide +kernel
theorem dX1_add_10 : decode cX1_add 10 = .ok (.iload_n 3, 1) := by decide +kernel
theorem dX1_add_11 : decode cX1_add 11 = .ok (.invokevirtual 44, 3) := by decide +kernel
theorem dX1_add_14 : decode cX1_add 14 = .ok (.return_, 1) := by decide +kernel
set_option maxRecDepth 20000 in
theorem ggX1_addArc_X1_placeOf : GoodIn wsX1_addArc wsX1_placeOf := goodIn_r _ [9, 1, 4, 10, 11, 8, 12, 13, 14, 15, 22, 23, 24, 25, 26] (by decide +kernel) (by decide +kernel)
set_option maxRecDepth 20000 in
theorem gX1_addArc_X1_placeOf : GoodIn wsX1_addArc (wsV RX1 34 RX1 yX1_placeOf wsX1_placeOf) := goodIn_app (goodIn_of _ (by decide +kernel)) ggX1_addArc_X1_placeOf
set_option maxRecDepth 20000 in
theorem ggX1_addArc_X1_key : GoodIn wsX1_addArc wsX1_key := goodIn_r _ [12] (by decide +kernel) (by decide +kernel)
set_option maxRecDepth 20000 in
theorem gX1_addArc_X1_key : GoodIn wsX1_addArc (va_wsS RX1 38 yX1_key wsX1_key) := goodIn_app (goodIn_of _ (by decide +kernel)) ggX1_addArc_X1_key
set_option maxRecDepth 20000 in
theorem ggX1_addArc_X4_insert : GoodIn wsX1_addArc wsX4_insert := goodIn_r _ [17, 18, 19, 20, 21] (by decide +kernel) (by decide +kernel)
set_option maxRecDepth 20000 in
theorem gX1_addArc_X4_insert_n48 : GoodIn wsX1_addArc (wsX4_insert) := ggX1_addArc_X4_insert
theorem dX1_addArc_0 : decode cX1_addArc 0 = .ok (.aload_n 0, 1) := by decide +kernel
theorem dX1_addArc_1 : decode cX1_addArc 1 = .ok (.iload_n 1, 1) := by decide +kernel
theorem dX1_addArc_2 : decode cX1_addArc 2 = .ok (.iload_n 2, 1) := by decide +kernel
theorem dX1_addArc_3 : decode cX1_addArc 3 = .ok (.invokevirtual 34, 3) := by decide +kernel
theorem dX1_addArc_6 : decode cX1_addArc 6 = .ok (.istore 4, 2) := by decide +kernel
theorem dX1_addArc_8 : decode cX1_addArc 8 = .ok (.aload_n 0, 1) := by decide +kernel
theorem dX1_addArc_9 : decode cX1_addArc 9 = .ok (.getfield 18, 3) := by decide +kernel
theorem dX1_addArc_12 : decode cX1_addArc 12 = .ok (.aload_n 0, 1) := by decide +kernel
theorem dX1_addArc_13 : decode cX1_addArc 13 = .ok (.getfield 15, 3) := by decide +kernel
theorem dX1_addArc_16 : decode cX1_addArc 16 = .ok (.iload 4, 2) := by decide +kernel
theorem dX1_addArc_18 : decode cX1_addArc 18 = .ok (.iload_n 1, 1) := by decide +kernel
theorem dX1_addArc_19 : decode cX1_addArc 19 = .ok (.iload_n 2, 1) := by decide +kernel
theorem dX1_addArc_20 : decode cX1_addArc 20 = .ok (.invokestatic 38, 3) := by decide +kernel
theorem dX1_addArc_23 : decode cX1_addArc 23 = .ok (.invokestatic 48, 3) := by decide +kernel
theorem dX1_addArc_26 : decode cX1_addArc 26 = .ok (.aload_n 0, 1) := by decide +kernel
theorem dX1_addArc_27 : decode cX1_addArc 27 = .ok (.getfield 22, 3) := by decide +kernel
theorem dX1_addArc_30 : decode cX1_addArc 30 = .ok (.aload_n 0, 1) := by decide +kernel
theorem dX1_addArc_31 : decode cX1_addArc 31 = .ok (.getfield 15, 3) := by decide +kernel
theorem dX1_addArc_34 : decode cX1_addArc 34 = .ok (.iload 4, 2) := by decide +kernel
theorem dX1_addArc_36 : decode cX1_addArc 36 = .ok (.iload_n 3, 1) := by decide +kernel
theorem dX1_addArc_37 : decode cX1_addArc 37 = .ok (.invokestatic 48, 3) := by decide +kernel
theorem dX1_addArc_40 : decode cX1_addArc 40 = .ok (.aload_n 0, 1) := by decide +kernel
theorem dX1_addArc_41 : decode cX1_addArc 41 = .ok (.dup, 1) := by decide +kernel
theorem dX1_addArc_42 : decode cX1_addArc 42 = .ok (.getfield 15, 3) := by decide +kernel
theorem dX1_addArc_45 : decode cX1_addArc 45 = .ok (.iconst 1, 1) := by decide +kernel
theorem dX1_addArc_46 : decode cX1_addArc 46 = .ok (.iadd, 1) := by decide +kernel
theorem dX1_addArc_47 : decode cX1_addArc 47 = .ok (.putfield 15, 3) := by decide +kernel
theorem dX1_addArc_50 : decode cX1_addArc 50 = .ok (.iload_n 1, 1) := by decide +kernel
theorem dX1_addArc_51 : decode cX1_addArc 51 = .ok (.iconst 1, 1) := by decide +kernel
theorem dX1_addArc_52 : decode cX1_addArc 52 = .ok (.iadd, 1) := by decide +kernel
theorem dX1_addArc_53 : decode cX1_addArc 53 = .ok (.istore 5, 2) := by decide +kernel
theorem dX1_addArc_55 : decode cX1_addArc 55 = .ok (.iload 5, 2) := by decide +kernel
theorem dX1_addArc_57 : decode cX1_addArc 57 = .ok (.aload_n 0, 1) := by decide +kernel
theorem dX1_addArc_58 : decode cX1_addArc 58 = .ok (.getfield 25, 3) := by decide +kernel
theorem dX1_addArc_61 : decode cX1_addArc 61 = .ok (.arraylength, 1) := by decide +kernel
theorem dX1_addArc_62 : decode cX1_addArc 62 = .ok (.if_icmp .ge 20, 3) := by decide +kernel
theorem dX1_addArc_65 : decode cX1_addArc 65 = .ok (.aload_n 0, 1) := by decide +kernel
theorem dX1_addArc_66 : decode cX1_addArc 66 = .ok (.getfield 25, 3) := by decide +kernel
theorem dX1_addArc_69 : decode cX1_addArc 69 = .ok (.iload 5, 2) := by decide +kernel
theorem dX1_addArc_71 : decode cX1_addArc 71 = .ok (.dup2, 1) := by decide +kernel
theorem dX1_addArc_72 : decode cX1_addArc 72 = .ok (.iaload, 1) := by decide +kernel
theorem dX1_addArc_73 : decode cX1_addArc 73 = .ok (.iconst 1, 1) := by decide +kernel
theorem dX1_addArc_74 : decode cX1_addArc 74 = .ok (.iadd, 1) := by decide +kernel
theorem dX1_addArc_75 : decode cX1_addArc 75 = .ok (.iastore, 1) := by decide +kernel
theorem dX1_addArc_76 : decode cX1_addArc 76 = .ok (.iinc 5 1, 3) := by decide +kernel
theorem dX1_addArc_79 : decode cX1_addArc 79 = .ok (.goto (-24), 3) := by decide +kernel
theorem dX1_addArc_82 : decode cX1_addArc 82 = .ok (.return_, 1) := by decide +kernel
set_option maxRecDepth 20000 in
theorem ggX1_placeOf_X1_key : GoodIn wsX1_placeOf wsX1_key := goodIn_r _ [6] (by decide +kernel) (by decide +kernel)
set_option maxRecDepth 20000 in
theorem gX1_placeOf_X1_key : GoodIn wsX1_placeOf (va_wsS RX1 38 yX1_key wsX1_key) := goodIn_app (goodIn_of _ (by decide +kernel)) ggX1_placeOf_X1_key
set_option maxRecDepth 20000 in
theorem ggX1_placeOf_X4_placeIn : GoodIn wsX1_placeOf wsX4_placeIn := goodIn_r _ [9] (by decide +kernel) (by decide +kernel)
set_option maxRecDepth 20000 in
theorem gX1_placeOf_X4_placeIn_n52 : GoodIn wsX1_placeOf (wsX4_placeIn) := ggX1_placeOf_X4_placeIn
theorem dX1_placeOf_0 : decode cX1_placeOf 0 = .ok (.aload_n 0, 1) := by decide +kernel
theorem dX1_placeOf_1 : decode cX1_placeOf 1 = .ok (.getfield 18, 3) := by decide +kernel
theorem dX1_placeOf_4 : decode cX1_placeOf 4 = .ok (.aload_n 0, 1) := by decide +kernel
theorem dX1_placeOf_5 : decode cX1_placeOf 5 = .ok (.getfield 25, 3) := by decide +kernel
theorem dX1_placeOf_8 : decode cX1_placeOf 8 = .ok (.iload_n 1, 1) := by decide +kernel
theorem dX1_placeOf_9 : decode cX1_placeOf 9 = .ok (.iaload, 1) := by decide +kernel
theorem dX1_placeOf_10 : decode cX1_placeOf 10 = .ok (.aload_n 0, 1) := by decide +kernel
theorem dX1_placeOf_11 : decode cX1_placeOf 11 = .ok (.getfield 25, 3) := by decide +kernel
theorem dX1_placeOf_14 : decode cX1_placeOf 14 = .ok (.iload_n 1, 1) := by decide +kernel
theorem dX1_placeOf_15 : decode cX1_placeOf 15 = .ok (.iconst 1, 1) := by decide +kernel
theorem dX1_placeOf_16 : decode cX1_placeOf 16 = .ok (.iadd, 1) := by decide +kernel
theorem dX1_placeOf_17 : decode cX1_placeOf 17 = .ok (.iaload, 1) := by decide +kernel
theorem dX1_placeOf_18 : decode cX1_placeOf 18 = .ok (.iload_n 1, 1) := by decide +kernel
theorem dX1_placeOf_19 : decode cX1_placeOf 19 = .ok (.iload_n 2, 1) := by decide +kernel
theorem dX1_placeOf_20 : decode cX1_placeOf 20 = .ok (.invokestatic 38, 3) := by decide +kernel
theorem dX1_placeOf_23 : decode cX1_placeOf 23 = .ok (.invokestatic 52, 3) := by decide +kernel
theorem dX1_placeOf_26 : decode cX1_placeOf 26 = .ok (.ireturn, 1) := by decide +kernel
theorem dX1_key_0 : decode cX1_key 0 = .ok (.iload_n 0, 1) := by decide +kernel
theorem dX1_key_1 : decode cX1_key 1 = .ok (.sipush 300, 3) := by decide +kernel
theorem dX1_key_4 : decode cX1_key 4 = .ok (.imul, 1) := by decide +kernel
theorem dX1_key_5 : decode cX1_key 5 = .ok (.iload_n 1, 1) := by decide +kernel
theorem dX1_key_6 : decode cX1_key 6 = .ok (.iadd, 1) := by decide +kernel
theorem dX1_key_7 : decode cX1_key 7 = .ok (.ireturn, 1) := by decide +kernel
set_option maxRecDepth 20000 in
theorem ggX2_init_X0_init : GoodIn wsX2_init wsX0_init := goodIn_r _ [18, 19, 2, 3, 20, 12, 21, 22, 30, 31, 32] (by decide +kernel) (by decide +kernel)
set_option maxRecDepth 20000 in
theorem gX2_init_X0_init : GoodIn wsX2_init (wsX0_init) := ggX2_init_X0_init
theorem dX2_init_0 : decode cX2_init 0 = .ok (.aload_n 0, 1) := by decide +kernel
theorem dX2_init_1 : decode cX2_init 1 = .ok (.invokespecial 3, 3) := by decide +kernel
theorem dX2_init_4 : decode cX2_init 4 = .ok (.aload_n 0, 1) := by decide +kernel
theorem dX2_init_5 : decode cX2_init 5 = .ok (.aload_n 1, 1) := by decide +kernel
theorem dX2_init_6 : decode cX2_init 6 = .ok (.putfield 9, 3) := by decide +kernel
theorem dX2_init_9 : decode cX2_init 9 = .ok (.aload_n 0, 1) := by decide +kernel
theorem dX2_init_10 : decode cX2_init 10 = .ok (.aload_n 2, 1) := by decide +kernel
theorem dX2_init_11 : decode cX2_init 11 = .ok (.putfield 15, 3) := by decide +kernel
theorem dX2_init_14 : decode cX2_init 14 = .ok (.aload_n 0, 1) := by decide +kernel
theorem dX2_init_15 : decode cX2_init 15 = .ok (.sipush 4000, 3) := by decide +kernel
theorem dX2_init_18 : decode cX2_init 18 = .ok (.newarray .long, 2) := by decide +kernel
theorem dX2_init_20 : decode cX2_init 20 = .ok (.putfield 19, 3) := by decide +kernel
theorem dX2_init_23 : decode cX2_init 23 = .ok (.aload_n 0, 1) := by decide +kernel
theorem dX2_init_24 : decode cX2_init 24 = .ok (.new 23, 3) := by decide +kernel
theorem dX2_init_27 : decode cX2_init 27 = .ok (.dup, 1) := by decide +kernel
theorem dX2_init_28 : decode cX2_init 28 = .ok (.aload_n 0, 1) := by decide +kernel
theorem dX2_init_29 : decode cX2_init 29 = .ok (.getfield 19, 3) := by decide +kernel
theorem dX2_init_32 : decode cX2_init 32 = .ok (.invokespecial 25, 3) := by decide +kernel
theorem dX2_init_35 : decode cX2_init 35 = .ok (.putfield 28, 3) := by decide +kernel
theorem dX2_init_38 : decode cX2_init 38 = .ok (.aload_n 0, 1) := by decide +kernel
theorem dX2_init_39 : decode cX2_init 39 = .ok (.sipush 4000, 3) := by decide +kernel
theorem dX2_init_42 : decode cX2_init 42 = .ok (.newarray .int, 2) := by decide +kernel
theorem dX2_init_44 : decode cX2_init 44 = .ok (.putfield 32, 3) := by decide +kernel
theorem dX2_init_47 : decode cX2_init 47 = .ok (.aload_n 0, 1) := by decide +kernel
theorem dX2_init_48 : decode cX2_init 48 = .ok (.sipush 300, 3) := by decide +kernel
theorem dX2_init_51 : decode cX2_init 51 = .ok (.newarray .int, 2) := by decide +kernel
theorem dX2_init_53 : decode cX2_init 53 = .ok (.putfield 36, 3) := by decide +kernel
theorem dX2_init_56 : decode cX2_init 56 = .ok (.aload_n 0, 1) := by decide +kernel
theorem dX2_init_57 : decode cX2_init 57 = .ok (.iconst 0, 1) := by decide +kernel
theorem dX2_init_58 : decode cX2_init 58 = .ok (.putfield 39, 3) := by decide +kernel
theorem dX2_init_61 : decode cX2_init 61 = .ok (.return_, 1) := by decide +kernel
set_option maxRecDepth 20000 in
theorem ggX2_begin_X2_spread : GoodIn wsX2_begin wsX2_spread := goodIn_r _ [10, 5, 3, 11, 4, 2, 12, 13, 14, 9, 15, 16, 17, 18, 19, 20, 21, 22, 23, 24, 25, 26, 27, 28, 29, 30, 1, 31, 32, 33, 34, 35, 36, 37, 38, 39, 40, 41, 42, 43, 44, 45, 46, 47, 48, 49, 50, 51, 52, 53, 54, 55, 56, 57, 58, 59, 60, 61, 62, 63, 64, 68, 69, 70, 71, 72, 73, 74, 65, 66, 67] (by decide +kernel) (by decide +kernel)
set_option maxRecDepth 20000 in
theorem gX2_begin_X2_spread : GoodIn wsX2_begin (wsV RX2 55 RX2 yX2_spread wsX2_spread) := goodIn_app (goodIn_of _ (by decide +kernel)) ggX2_begin_X2_spread
theorem dX2_begin_0 : decode cX2_begin 0 = .ok (.aload_n 0, 1) := by decide +kernel
theorem dX2_begin_1 : decode cX2_begin 1 = .ok (.iload_n 2, 1) := by decide +kernel
theorem dX2_begin_2 : decode cX2_begin 2 = .ok (.putfield 39, 3) := by decide +kernel
theorem dX2_begin_5 : decode cX2_begin 5 = .ok (.aload_n 0, 1) := by decide +kernel
theorem dX2_begin_6 : decode cX2_begin 6 = .ok (.getfield 28, 3) := by decide +kernel
theorem dX2_begin_9 : decode cX2_begin 9 = .ok (.iconst 0, 1) := by decide +kernel
theorem dX2_begin_10 : decode cX2_begin 10 = .ok (.putfield 43, 3) := by decide +kernel
theorem dX2_begin_13 : decode cX2_begin 13 = .ok (.iconst 0, 1) := by decide +kernel
theorem dX2_begin_14 : decode cX2_begin 14 = .ok (.istore_n 3, 1) := by decide +kernel
theorem dX2_begin_15 : decode cX2_begin 15 = .ok (.iload_n 3, 1) := by decide +kernel
theorem dX2_begin_16 : decode cX2_begin 16 = .ok (.aload_n 0, 1) := by decide +kernel
theorem dX2_begin_17 : decode cX2_begin 17 = .ok (.getfield 9, 3) := by decide +kernel
theorem dX2_begin_20 : decode cX2_begin 20 = .ok (.getfield 47, 3) := by decide +kernel
theorem dX2_begin_23 : decode cX2_begin 23 = .ok (.if_icmp .ge 16, 3) := by decide +kernel
theorem dX2_begin_26 : decode cX2_begin 26 = .ok (.aload_n 0, 1) := by decide +kernel
theorem dX2_begin_27 : decode cX2_begin 27 = .ok (.getfield 19, 3) := by decide +kernel
theorem dX2_begin_30 : decode cX2_begin 30 = .ok (.iload_n 3, 1) := by decide +kernel
theorem dX2_begin_31 : decode cX2_begin 31 = .ok (.lconst 0, 1) := by decide +kernel
theorem dX2_begin_32 : decode cX2_begin 32 = .ok (.lastore, 1) := by decide +kernel
theorem dX2_begin_33 : decode cX2_begin 33 = .ok (.iinc 3 1, 3) := by decide +kernel
theorem dX2_begin_36 : decode cX2_begin 36 = .ok (.goto (-21), 3) := by decide +kernel
theorem dX2_begin_39 : decode cX2_begin 39 = .ok (.iconst 0, 1) := by decide +kernel
theorem dX2_begin_40 : decode cX2_begin 40 = .ok (.istore_n 3, 1) := by decide +kernel
theorem dX2_begin_41 : decode cX2_begin 41 = .ok (.iload_n 3, 1) := by decide +kernel
theorem dX2_begin_42 : decode cX2_begin 42 = .ok (.aload_n 0, 1) := by decide +kernel
theorem dX2_begin_43 : decode cX2_begin 43 = .ok (.getfield 9, 3) := by decide +kernel
theorem dX2_begin_46 : decode cX2_begin 46 = .ok (.getfield 52, 3) := by decide +kernel
theorem dX2_begin_49 : decode cX2_begin 49 = .ok (.if_icmp .ge 16, 3) := by decide +kernel
theorem dX2_begin_52 : decode cX2_begin 52 = .ok (.aload_n 0, 1) := by decide +kernel
theorem dX2_begin_53 : decode cX2_begin 53 = .ok (.getfield 36, 3) := by decide +kernel
theorem dX2_begin_56 : decode cX2_begin 56 = .ok (.iload_n 3, 1) := by decide +kernel
theorem dX2_begin_57 : decode cX2_begin 57 = .ok (.iconst (-1), 1) := by decide +kernel
theorem dX2_begin_58 : decode cX2_begin 58 = .ok (.iastore, 1) := by decide +kernel
theorem dX2_begin_59 : decode cX2_begin 59 = .ok (.iinc 3 1, 3) := by decide +kernel
theorem dX2_begin_62 : decode cX2_begin 62 = .ok (.goto (-21), 3) := by decide +kernel
theorem dX2_begin_65 : decode cX2_begin 65 = .ok (.aload_n 0, 1) := by decide +kernel
theorem dX2_begin_66 : decode cX2_begin 66 = .ok (.iload_n 1, 1) := by decide +kernel
theorem dX2_begin_67 : decode cX2_begin 67 = .ok (.iconst (-1), 1) := by decide +kernel
theorem dX2_begin_68 : decode cX2_begin 68 = .ok (.lconst 0, 1) := by decide +kernel
theorem dX2_begin_69 : decode cX2_begin 69 = .ok (.invokevirtual 55, 3) := by decide +kernel
theorem dX2_begin_72 : decode cX2_begin 72 = .ok (.return_, 1) := by decide +kernel
set_option maxRecDepth 20000 in
theorem ggX2_weightOfFirstArrival_X0_take : GoodIn wsX2_weightOfFirstArrival wsX0_take := goodIn_r _ [8, 9, 10, 11, 73, 74, 75] (by decide +kernel) (by decide +kernel)
set_option maxRecDepth 20000 in
theorem gX2_weightOfFirstArrival_X0_take : GoodIn wsX2_weightOfFirstArrival (wsV RX2 59 RX0 yX0_take wsX0_take) := goodIn_app (goodIn_of _ (by decide +kernel)) ggX2_weightOfFirstArrival_X0_take
set_option maxRecDepth 20000 in
theorem ggX2_weightOfFirstArrival_X1_targetOf : GoodIn wsX2_weightOfFirstArrival wsX1_targetOf := goodIn_r _ [16, 17, 76, 77, 78, 79, 80] (by decide +kernel) (by decide +kernel)
set_option maxRecDepth 20000 in
theorem gX2_weightOfFirstArrival_X1_targetOf : GoodIn wsX2_weightOfFirstArrival (wsV RX2 63 RX1 yX1_targetOf wsX1_targetOf) := goodIn_app (goodIn_of _ (by decide +kernel)) ggX2_weightOfFirstArrival_X1_targetOf
set_option maxRecDepth 20000 in
theorem ggX2_weightOfFirstArrival_X1_originOf : GoodIn wsX2_weightOfFirstArrival wsX1_originOf := goodIn_r _ [21, 17, 76, 77, 78, 79, 80] (by decide +kernel) (by decide +kernel)
set_option maxRecDepth 20000 in
theorem gX2_weightOfFirstArrival_X1_originOf : GoodIn wsX2_weightOfFirstArrival (wsV RX2 67 RX1 yX1_originOf wsX1_originOf) := goodIn_app (goodIn_of _ (by decide +kernel)) ggX2_weightOfFirstArrival_X1_originOf
set_option maxRecDepth 20000 in
theorem ggX2_weightOfFirstArrival_X2_spread : GoodIn wsX2_weightOfFirstArrival wsX2_spread := goodIn_r _ [26, 27, 2, 28, 3, 1, 29, 30, 31, 25, 32, 33, 34, 35, 15, 36, 37, 12, 13, 14, 16, 17, 38, 39, 40, 41, 42, 43, 44, 45, 46, 47, 48, 49, 50, 51, 52, 53, 54, 55, 56, 57, 58, 59, 60, 61, 62, 63, 64, 7, 65, 9, 10, 11, 66, 67, 68, 69, 70, 71, 72, 76, 77, 78, 79, 80, 81, 82, 73, 74, 75] (by decide +kernel) (by decide +kernel)
set_option maxRecDepth 20000 in
theorem gX2_weightOfFirstArrival_X2_spread : GoodIn wsX2_weightOfFirstArrival (wsV RX2 55 RX2 yX2_spread wsX2_spread) := goodIn_app (goodIn_of _ (by decide +kernel)) ggX2_weightOfFirstArrival_X2_spread
theorem dX2_weightOfFirstArrival_0 : decode cX2_weightOfFirstArrival 0 = .ok (.iconst 0, 1) := by decide +kernel
theorem dX2_weightOfFirstArrival_1 : decode cX2_weightOfFirstArrival 1 = .ok (.istore_n 2, 1) := by decide +kernel
theorem dX2_weightOfFirstArrival_2 : decode cX2_weightOfFirstArrival 2 = .ok (.iload_n 2, 1) := by decide +kernel
theorem dX2_weightOfFirstArrival_3 : decode cX2_weightOfFirstArrival 3 = .ok (.sipush 4000, 3) := by decide +kernel
theorem dX2_weightOfFirstArrival_6 : decode cX2_weightOfFirstArrival 6 = .ok (.if_icmp .ge 69, 3) := by decide +kernel
theorem dX2_weightOfFirstArrival_9 : decode cX2_weightOfFirstArrival 9 = .ok (.aload_n 0, 1) := by decide +kernel
theorem dX2_weightOfFirstArrival_10 : decode cX2_weightOfFirstArrival 10 = .ok (.getfield 28, 3) := by decide +kernel
theorem dX2_weightOfFirstArrival_13 : decode cX2_weightOfFirstArrival 13 = .ok (.invokevirtual 59, 3) := by decide +kernel
end
section
theorem dX2_weightOfFirstArrival_16 : decode cX2_weightOfFirstArrival 16 = .ok (.istore_n 3, 1) := by decide +kernel
theorem dX2_weightOfFirstArrival_17 : decode cX2_weightOfFirstArrival 17 = .ok (.iload_n 3, 1) := by decide +kernel
theorem dX2_weightOfFirstArrival_18 : decode cX2_weightOfFirstArrival 18 = .ok (.iconst (-1), 1) := by decide +kernel
theorem dX2_weightOfFirstArrival_19 : decode cX2_weightOfFirstArrival 19 = .ok (.if_icmp .ne 5, 3) := by decide +kernel
theorem dX2_weightOfFirstArrival_22 : decode cX2_weightOfFirstArrival 22 = .ok (.lconst 0, 1) := by decide +kernel
theorem dX2_weightOfFirstArrival_23 : decode cX2_weightOfFirstArrival 23 = .ok (.lreturn, 1) := by decide +kernel
theorem dX2_weightOfFirstArrival_24 : decode cX2_weightOfFirstArrival 24 = .ok (.aload_n 0, 1) := by decide +kernel
theorem dX2_weightOfFirstArrival_25 : decode cX2_weightOfFirstArrival 25 = .ok (.getfield 9, 3) := by decide +kernel
theorem dX2_weightOfFirstArrival_28 : decode cX2_weightOfFirstArrival 28 = .ok (.iload_n 3, 1) := by decide +kernel
theorem dX2_weightOfFirstArrival_29 : decode cX2_weightOfFirstArrival 29 = .ok (.invokevirtual 63, 3) := by decide +kernel
theorem dX2_weightOfFirstArrival_32 : decode cX2_weightOfFirstArrival 32 = .ok (.iload_n 1, 1) := by decide +kernel
theorem dX2_weightOfFirstArrival_33 : decode cX2_weightOfFirstArrival 33 = .ok (.if_icmp .ne 10, 3) := by decide +kernel
theorem dX2_weightOfFirstArrival_36 : decode cX2_weightOfFirstArrival 36 = .ok (.aload_n 0, 1) := by decide +kernel
theorem dX2_weightOfFirstArrival_37 : decode cX2_weightOfFirstArrival 37 = .ok (.getfield 19, 3) := by decide +kernel
theorem dX2_weightOfFirstArrival_40 : decode cX2_weightOfFirstArrival 40 = .ok (.iload_n 3, 1) := by decide +kernel
theorem dX2_weightOfFirstArrival_41 : decode cX2_weightOfFirstArrival 41 = .ok (.laload, 1) := by decide +kernel
theorem dX2_weightOfFirstArrival_42 : decode cX2_weightOfFirstArrival 42 = .ok (.lreturn, 1) := by decide +kernel
theorem dX2_weightOfFirstArrival_43 : decode cX2_weightOfFirstArrival 43 = .ok (.aload_n 0, 1) := by decide +kernel
theorem dX2_weightOfFirstArrival_44 : decode cX2_weightOfFirstArrival 44 = .ok (.aload_n 0, 1) := by decide +kernel
theorem dX2_weightOfFirstArrival_45 : decode cX2_weightOfFirstArrival 45 = .ok (.getfield 9, 3) := by decide +kernel
theorem dX2_weightOfFirstArrival_48 : decode cX2_weightOfFirstArrival 48 = .ok (.iload_n 3, 1) := by decide +kernel
theorem dX2_weightOfFirstArrival_49 : decode cX2_weightOfFirstArrival 49 = .ok (.invokevirtual 63, 3) := by decide +kernel
theorem dX2_weightOfFirstArrival_52 : decode cX2_weightOfFirstArrival 52 = .ok (.aload_n 0, 1) := by decide +kernel
theorem dX2_weightOfFirstArrival_53 : decode cX2_weightOfFirstArrival 53 = .ok (.getfield 9, 3) := by decide +kernel
theorem dX2_weightOfFirstArrival_56 : decode cX2_weightOfFirstArrival 56 = .ok (.iload_n 3, 1) := by decide +kernel
theorem dX2_weightOfFirstArrival_57 : decode cX2_weightOfFirstArrival 57 = .ok (.invokevirtual 67, 3) := by decide +kernel
theorem dX2_weightOfFirstArrival_60 : decode cX2_weightOfFirstArrival 60 = .ok (.aload_n 0, 1) := by decide +kernel
theorem dX2_weightOfFirstArrival_61 : decode cX2_weightOfFirstArrival 61 = .ok (.getfield 19, 3) := by decide +kernel
theorem dX2_weightOfFirstArrival_64 : decode cX2_weightOfFirstArrival 64 = .ok (.iload_n 3, 1) := by decide +kernel
theorem dX2_weightOfFirstArrival_65 : decode cX2_weightOfFirstArrival 65 = .ok (.laload, 1) := by decide +kernel
theorem dX2_weightOfFirstArrival_66 : decode cX2_weightOfFirstArrival 66 = .ok (.invokevirtual 55, 3) := by decide +kernel
theorem dX2_weightOfFirstArrival_69 : decode cX2_weightOfFirstArrival 69 = .ok (.iinc 2 1, 3) := by decide +kernel
theorem dX2_weightOfFirstArrival_72 : decode cX2_weightOfFirstArrival 72 = .ok (.goto (-70), 3) := by decide +kernel
theorem dX2_weightOfFirstArrival_75 : decode cX2_weightOfFirstArrival 75 = .ok (.lconst 0, 1) := by decide +kernel
theorem dX2_weightOfFirstArrival_76 : decode cX2_weightOfFirstArrival 76 = .ok (.lreturn, 1) := by decide +kernel
set_option maxRecDepth 20000 in
theorem ggX2_countOtherNodes_X0_take : GoodIn wsX2_countOtherNodes wsX0_take := goodIn_r _ [10, 11, 12, 13, 74, 75, 76] (by decide +kernel) (by decide +kernel)
set_option maxRecDepth 20000 in
theorem gX2_countOtherNodes_X0_take : GoodIn wsX2_countOtherNodes (wsV RX2 59 RX0 yX0_take wsX0_take) := goodIn_app (goodIn_of _ (by decide +kernel)) ggX2_countOtherNodes_X0_take
set_option maxRecDepth 20000 in
theorem ggX2_countOtherNodes_X1_targetOf : GoodIn wsX2_countOtherNodes wsX1_targetOf := goodIn_r _ [18, 19, 77, 78, 79, 80, 81] (by decide +kernel) (by decide +kernel)
set_option maxRecDepth 20000 in
theorem gX2_countOtherNodes_X1_targetOf : GoodIn wsX2_countOtherNodes (wsV RX2 63 RX1 yX1_targetOf wsX1_targetOf) := goodIn_app (goodIn_of _ (by decide +kernel)) ggX2_countOtherNodes_X1_targetOf
set_option maxRecDepth 20000 in
theorem ggX2_countOtherNodes_X1_originOf : GoodIn wsX2_countOtherNodes wsX1_originOf := goodIn_r _ [23, 19, 77, 78, 79, 80, 81] (by decide +kernel) (by decide +kernel)
set_option maxRecDepth 20000 in
theorem gX2_countOtherNodes_X1_originOf : GoodIn wsX2_countOtherNodes (wsV RX2 67 RX1 yX1_originOf wsX1_originOf) := goodIn_app (goodIn_of _ (by decide +kernel)) ggX2_countOtherNodes_X1_originOf
set_option maxRecDepth 20000 in
theorem ggX2_countOtherNodes_X2_spread : GoodIn wsX2_countOtherNodes wsX2_spread := goodIn_r _ [28, 4, 5, 29, 2, 1, 30, 31, 32, 27, 33, 34, 35, 36, 17, 37, 38, 14, 15, 16, 18, 19, 39, 40, 41, 42, 43, 44, 45, 46, 47, 48, 49, 50, 51, 52, 53, 54, 55, 56, 57, 58, 59, 60, 61, 62, 63, 64, 65, 9, 66, 11, 12, 13, 67, 68, 69, 70, 71, 72, 73, 77, 78, 79, 80, 81, 82, 83, 74, 75, 76] (by decide +kernel) (by decide +kernel)
set_option maxRecDepth 20000 in
theorem gX2_countOtherNodes_X2_spread : GoodIn wsX2_countOtherNodes (wsV RX2 55 RX2 yX2_spread wsX2_spread) := goodIn_app (goodIn_of _ (by decide +kernel)) ggX2_countOtherNodes_X2_spread
theorem dX2_countOtherNodes_0 : decode cX2_countOtherNodes 0 = .ok (.iconst 0, 1) := by decide +kernel
theorem dX2_countOtherNodes_1 : decode cX2_countOtherNodes 1 = .ok (.istore_n 3, 1) := by decide +kernel
theorem dX2_countOtherNodes_2 : decode cX2_countOtherNodes 2 = .ok (.iconst 0, 1) := by decide +kernel
theorem dX2_countOtherNodes_3 : decode cX2_countOtherNodes 3 = .ok (.istore 4, 2) := by decide +kernel
theorem dX2_countOtherNodes_5 : decode cX2_countOtherNodes 5 = .ok (.iload 4, 2) := by decide +kernel
theorem dX2_countOtherNodes_7 : decode cX2_countOtherNodes 7 = .ok (.sipush 4000, 3) := by decide +kernel
theorem dX2_countOtherNodes_10 : decode cX2_countOtherNodes 10 = .ok (.if_icmp .ge 92, 3) := by decide +kernel
theorem dX2_countOtherNodes_13 : decode cX2_countOtherNodes 13 = .ok (.aload_n 0, 1) := by decide +kernel
theorem dX2_countOtherNodes_14 : decode cX2_countOtherNodes 14 = .ok (.getfield 28, 3) := by decide +kernel
theorem dX2_countOtherNodes_17 : decode cX2_countOtherNodes 17 = .ok (.invokevirtual 59, 3) := by decide +kernel
theorem dX2_countOtherNodes_20 : decode cX2_countOtherNodes 20 = .ok (.istore 5, 2) := by decide +kernel
theorem dX2_countOtherNodes_22 : decode cX2_countOtherNodes 22 = .ok (.iload 5, 2) := by decide +kernel
theorem dX2_countOtherNodes_24 : decode cX2_countOtherNodes 24 = .ok (.iconst (-1), 1) := by decide +kernel
theorem dX2_countOtherNodes_25 : decode cX2_countOtherNodes 25 = .ok (.if_icmp .eq 19, 3) := by decide +kernel
theorem dX2_countOtherNodes_28 : decode cX2_countOtherNodes 28 = .ok (.aload_n 0, 1) := by decide +kernel
theorem dX2_countOtherNodes_29 : decode cX2_countOtherNodes 29 = .ok (.getfield 19, 3) := by decide +kernel
theorem dX2_countOtherNodes_32 : decode cX2_countOtherNodes 32 = .ok (.iload 5, 2) := by decide +kernel
theorem dX2_countOtherNodes_34 : decode cX2_countOtherNodes 34 = .ok (.laload, 1) := by decide +kernel
theorem dX2_countOtherNodes_35 : decode cX2_countOtherNodes 35 = .ok (.ldc2_w 70, 3) := by decide +kernel
theorem dX2_countOtherNodes_38 : decode cX2_countOtherNodes 38 = .ok (.ldiv, 1) := by decide +kernel
theorem dX2_countOtherNodes_39 : decode cX2_countOtherNodes 39 = .ok (.lload_n 1, 1) := by decide +kernel
theorem dX2_countOtherNodes_40 : decode cX2_countOtherNodes 40 = .ok (.lcmp, 1) := by decide +kernel
theorem dX2_countOtherNodes_41 : decode cX2_countOtherNodes 41 = .ok (.ifCond .le 5, 3) := by decide +kernel
theorem dX2_countOtherNodes_44 : decode cX2_countOtherNodes 44 = .ok (.iload_n 3, 1) := by decide +kernel
theorem dX2_countOtherNodes_45 : decode cX2_countOtherNodes 45 = .ok (.ireturn, 1) := by decide +kernel
theorem dX2_countOtherNodes_46 : decode cX2_countOtherNodes 46 = .ok (.aload_n 0, 1) := by decide +kernel
theorem dX2_countOtherNodes_47 : decode cX2_countOtherNodes 47 = .ok (.getfield 36, 3) := by decide +kernel
theorem dX2_countOtherNodes_50 : decode cX2_countOtherNodes 50 = .ok (.aload_n 0, 1) := by decide +kernel
theorem dX2_countOtherNodes_51 : decode cX2_countOtherNodes 51 = .ok (.getfield 9, 3) := by decide +kernel
theorem dX2_countOtherNodes_54 : decode cX2_countOtherNodes 54 = .ok (.iload 5, 2) := by decide +kernel
theorem dX2_countOtherNodes_56 : decode cX2_countOtherNodes 56 = .ok (.invokevirtual 63, 3) := by decide +kernel
theorem dX2_countOtherNodes_59 : decode cX2_countOtherNodes 59 = .ok (.iaload, 1) := by decide +kernel
theorem dX2_countOtherNodes_60 : decode cX2_countOtherNodes 60 = .ok (.iconst (-1), 1) := by decide +kernel
theorem dX2_countOtherNodes_61 : decode cX2_countOtherNodes 61 = .ok (.if_icmp .ne 6, 3) := by decide +kernel
theorem dX2_countOtherNodes_64 : decode cX2_countOtherNodes 64 = .ok (.iinc 3 1, 3) := by decide +kernel
theorem dX2_countOtherNodes_67 : decode cX2_countOtherNodes 67 = .ok (.aload_n 0, 1) := by decide +kernel
theorem dX2_countOtherNodes_68 : decode cX2_countOtherNodes 68 = .ok (.aload_n 0, 1) := by decide +kernel
theorem dX2_countOtherNodes_69 : decode cX2_countOtherNodes 69 = .ok (.getfield 9, 3) := by decide +kernel
theorem dX2_countOtherNodes_72 : decode cX2_countOtherNodes 72 = .ok (.iload 5, 2) := by decide +kernel
theorem dX2_countOtherNodes_74 : decode cX2_countOtherNodes 74 = .ok (.invokevirtual 63, 3) := by decide +kernel
theorem dX2_countOtherNodes_77 : decode cX2_countOtherNodes 77 = .ok (.aload_n 0, 1) := by decide +kernel
theorem dX2_countOtherNodes_78 : decode cX2_countOtherNodes 78 = .ok (.getfield 9, 3) := by decide +kernel
theorem dX2_countOtherNodes_81 : decode cX2_countOtherNodes 81 = .ok (.iload 5, 2) := by decide +kernel
theorem dX2_countOtherNodes_83 : decode cX2_countOtherNodes 83 = .ok (.invokevirtual 67, 3) := by decide +kernel
theorem dX2_countOtherNodes_86 : decode cX2_countOtherNodes 86 = .ok (.aload_n 0, 1) := by decide +kernel
theorem dX2_countOtherNodes_87 : decode cX2_countOtherNodes 87 = .ok (.getfield 19, 3) := by decide +kernel
theorem dX2_countOtherNodes_90 : decode cX2_countOtherNodes 90 = .ok (.iload 5, 2) := by decide +kernel
theorem dX2_countOtherNodes_92 : decode cX2_countOtherNodes 92 = .ok (.laload, 1) := by decide +kernel
theorem dX2_countOtherNodes_93 : decode cX2_countOtherNodes 93 = .ok (.invokevirtual 55, 3) := by decide +kernel
theorem dX2_countOtherNodes_96 : decode cX2_countOtherNodes 96 = .ok (.iinc 4 1, 3) := by decide +kernel
theorem dX2_countOtherNodes_99 : decode cX2_countOtherNodes 99 = .ok (.goto (-94), 3) := by decide +kernel
theorem dX2_countOtherNodes_102 : decode cX2_countOtherNodes 102 = .ok (.iload_n 3, 1) := by decide +kernel
theorem dX2_countOtherNodes_103 : decode cX2_countOtherNodes 103 = .ok (.ireturn, 1) := by decide +kernel
set_option maxRecDepth 20000 in
theorem ggX2_leastArcBackTo_X1_targetOf : GoodIn wsX2_leastArcBackTo wsX1_targetOf := goodIn_r _ [7, 8, 53, 54, 55, 56, 57] (by decide +kernel) (by decide +kernel)
set_option maxRecDepth 20000 in
theorem gX2_leastArcBackTo_X1_targetOf : GoodIn wsX2_leastArcBackTo (wsV RX2 63 RX1 yX1_targetOf wsX1_targetOf) := goodIn_app (goodIn_of _ (by decide +kernel)) ggX2_leastArcBackTo_X1_targetOf
set_option maxRecDepth 20000 in
theorem ggX2_leastArcBackTo_X1_find : GoodIn wsX2_leastArcBackTo wsX1_find := goodIn_r _ [12, 13, 8, 14, 15, 16, 6, 17, 18, 19, 20, 21, 22, 23, 24, 25, 26, 27, 28, 53, 54, 55, 56, 57] (by decide +kernel) (by decide +kernel)
set_option maxRecDepth 20000 in
theorem gX2_leastArcBackTo_X1_find : GoodIn wsX2_leastArcBackTo (wsV RX2 75 RX1 yX1_find wsX1_find) := goodIn_app (goodIn_of _ (by decide +kernel)) ggX2_leastArcBackTo_X1_find
set_option maxRecDepth 20000 in
theorem ggX2_leastArcBackTo_X2_mayTurn : GoodIn wsX2_leastArcBackTo wsX2_mayTurn := goodIn_r _ [33, 34, 35, 36, 37, 38, 39, 40, 41, 42, 43, 44, 45, 26, 27, 28, 46, 47, 48, 49, 50, 51, 52, 58, 59] (by decide +kernel) (by decide +kernel)
set_option maxRecDepth 20000 in
theorem gX2_leastArcBackTo_X2_mayTurn : GoodIn wsX2_leastArcBackTo (wsV RX2 79 RX2 yX2_mayTurn wsX2_mayTurn) := goodIn_app (goodIn_of _ (by decide +kernel)) ggX2_leastArcBackTo_X2_mayTurn
theorem dX2_leastArcBackTo_0 : decode cX2_leastArcBackTo 0 = .ok (.aload_n 0, 1) := by decide +kernel
theorem dX2_leastArcBackTo_1 : decode cX2_leastArcBackTo 1 = .ok (.getfield 9, 3) := by decide +kernel
theorem dX2_leastArcBackTo_4 : decode cX2_leastArcBackTo 4 = .ok (.getfield 72, 3) := by decide +kernel
theorem dX2_leastArcBackTo_7 : decode cX2_leastArcBackTo 7 = .ok (.iload_n 1, 1) := by decide +kernel
theorem dX2_leastArcBackTo_8 : decode cX2_leastArcBackTo 8 = .ok (.iaload, 1) := by decide +kernel
theorem dX2_leastArcBackTo_9 : decode cX2_leastArcBackTo 9 = .ok (.istore 5, 2) := by decide +kernel
theorem dX2_leastArcBackTo_11 : decode cX2_leastArcBackTo 11 = .ok (.iload 5, 2) := by decide +kernel
theorem dX2_leastArcBackTo_13 : decode cX2_leastArcBackTo 13 = .ok (.aload_n 0, 1) := by decide +kernel
theorem dX2_leastArcBackTo_14 : decode cX2_leastArcBackTo 14 = .ok (.getfield 9, 3) := by decide +kernel
theorem dX2_leastArcBackTo_17 : decode cX2_leastArcBackTo 17 = .ok (.getfield 72, 3) := by decide +kernel
theorem dX2_leastArcBackTo_20 : decode cX2_leastArcBackTo 20 = .ok (.iload_n 1, 1) := by decide +kernel
theorem dX2_leastArcBackTo_21 : decode cX2_leastArcBackTo 21 = .ok (.iconst 1, 1) := by decide +kernel
theorem dX2_leastArcBackTo_22 : decode cX2_leastArcBackTo 22 = .ok (.iadd, 1) := by decide +kernel
theorem dX2_leastArcBackTo_23 : decode cX2_leastArcBackTo 23 = .ok (.iaload, 1) := by decide +kernel
theorem dX2_leastArcBackTo_24 : decode cX2_leastArcBackTo 24 = .ok (.if_icmp .ge 64, 3) := by decide +kernel
theorem dX2_leastArcBackTo_27 : decode cX2_leastArcBackTo 27 = .ok (.aload_n 0, 1) := by decide +kernel
theorem dX2_leastArcBackTo_28 : decode cX2_leastArcBackTo 28 = .ok (.getfield 9, 3) := by decide +kernel
theorem dX2_leastArcBackTo_31 : decode cX2_leastArcBackTo 31 = .ok (.iload 5, 2) := by decide +kernel
theorem dX2_leastArcBackTo_33 : decode cX2_leastArcBackTo 33 = .ok (.invokevirtual 63, 3) := by decide +kernel
theorem dX2_leastArcBackTo_36 : decode cX2_leastArcBackTo 36 = .ok (.istore 6, 2) := by decide +kernel
theorem dX2_leastArcBackTo_38 : decode cX2_leastArcBackTo 38 = .ok (.aload_n 0, 1) := by decide +kernel
theorem dX2_leastArcBackTo_39 : decode cX2_leastArcBackTo 39 = .ok (.getfield 9, 3) := by decide +kernel
theorem dX2_leastArcBackTo_42 : decode cX2_leastArcBackTo 42 = .ok (.iload 6, 2) := by decide +kernel
theorem dX2_leastArcBackTo_44 : decode cX2_leastArcBackTo 44 = .ok (.iload_n 1, 1) := by decide +kernel
theorem dX2_leastArcBackTo_45 : decode cX2_leastArcBackTo 45 = .ok (.invokevirtual 75, 3) := by decide +kernel
theorem dX2_leastArcBackTo_48 : decode cX2_leastArcBackTo 48 = .ok (.istore 7, 2) := by decide +kernel
theorem dX2_leastArcBackTo_50 : decode cX2_leastArcBackTo 50 = .ok (.iload 7, 2) := by decide +kernel
theorem dX2_leastArcBackTo_52 : decode cX2_leastArcBackTo 52 = .ok (.iconst (-1), 1) := by decide +kernel
theorem dX2_leastArcBackTo_53 : decode cX2_leastArcBackTo 53 = .ok (.if_icmp .eq 29, 3) := by decide +kernel
theorem dX2_leastArcBackTo_56 : decode cX2_leastArcBackTo 56 = .ok (.aload_n 0, 1) := by decide +kernel
theorem dX2_leastArcBackTo_57 : decode cX2_leastArcBackTo 57 = .ok (.getfield 19, 3) := by decide +kernel
theorem dX2_leastArcBackTo_60 : decode cX2_leastArcBackTo 60 = .ok (.iload 7, 2) := by decide +kernel
theorem dX2_leastArcBackTo_62 : decode cX2_leastArcBackTo 62 = .ok (.laload, 1) := by decide +kernel
theorem dX2_leastArcBackTo_63 : decode cX2_leastArcBackTo 63 = .ok (.lload_n 3, 1) := by decide +kernel
theorem dX2_leastArcBackTo_64 : decode cX2_leastArcBackTo 64 = .ok (.lcmp, 1) := by decide +kernel
theorem dX2_leastArcBackTo_65 : decode cX2_leastArcBackTo 65 = .ok (.ifCond .ne 17, 3) := by decide +kernel
theorem dX2_leastArcBackTo_68 : decode cX2_leastArcBackTo 68 = .ok (.aload_n 0, 1) := by decide +kernel
theorem dX2_leastArcBackTo_69 : decode cX2_leastArcBackTo 69 = .ok (.iload 6, 2) := by decide +kernel
theorem dX2_leastArcBackTo_71 : decode cX2_leastArcBackTo 71 = .ok (.iload_n 1, 1) := by decide +kernel
theorem dX2_leastArcBackTo_72 : decode cX2_leastArcBackTo 72 = .ok (.iload_n 2, 1) := by decide +kernel
theorem dX2_leastArcBackTo_73 : decode cX2_leastArcBackTo 73 = .ok (.invokevirtual 79, 3) := by decide +kernel
theorem dX2_leastArcBackTo_76 : decode cX2_leastArcBackTo 76 = .ok (.ifCond .eq 6, 3) := by decide +kernel
theorem dX2_leastArcBackTo_79 : decode cX2_leastArcBackTo 79 = .ok (.iload 7, 2) := by decide +kernel
theorem dX2_leastArcBackTo_81 : decode cX2_leastArcBackTo 81 = .ok (.ireturn, 1) := by decide +kernel
theorem dX2_leastArcBackTo_82 : decode cX2_leastArcBackTo 82 = .ok (.iinc 5 1, 3) := by decide +kernel
theorem dX2_leastArcBackTo_85 : decode cX2_leastArcBackTo 85 = .ok (.goto (-74), 3) := by decide +kernel
theorem dX2_leastArcBackTo_88 : decode cX2_leastArcBackTo 88 = .ok (.iconst (-1), 1) := by decide +kernel
theorem dX2_leastArcBackTo_89 : decode cX2_leastArcBackTo 89 = .ok (.ireturn, 1) := by decide +kernel
set_option maxRecDepth 20000 in
theorem ggX2_spread_X2_gatherOpenArcs : GoodIn wsX2_spread wsX2_gatherOpenArcs := goodIn_r _ [10, 2, 3, 1, 11, 12, 13, 14, 15, 16, 54, 55, 56, 57, 58, 59, 60, 61, 62, 63, 64, 65] (by decide +kernel) (by decide +kernel)
set_option maxRecDepth 20000 in
theorem gX2_spread_X2_gatherOpenArcs : GoodIn wsX2_spread (wsV RX2 83 RX2 yX2_gatherOpenArcs wsX2_gatherOpenArcs) := goodIn_app (goodIn_of _ (by decide +kernel)) ggX2_spread_X2_gatherOpenArcs
set_option maxRecDepth 20000 in
theorem ggX2_spread_X1_targetOf : GoodIn wsX2_spread wsX1_targetOf := goodIn_r _ [20, 21, 61, 62, 63, 64, 65] (by decide +kernel) (by decide +kernel)
set_option maxRecDepth 20000 in
theorem gX2_spread_X1_targetOf : GoodIn wsX2_spread (wsV RX2 63 RX1 yX1_targetOf wsX1_targetOf) := goodIn_app (goodIn_of _ (by decide +kernel)) ggX2_spread_X1_targetOf
set_option maxRecDepth 20000 in
theorem ggX2_spread_X2_mayTurn : GoodIn wsX2_spread wsX2_mayTurn := goodIn_r _ [25, 26, 27, 28, 29, 30, 31, 32, 33, 34, 35, 36, 37, 38, 39, 40, 54, 55, 56, 57, 58, 59, 60, 66, 67] (by decide +kernel) (by decide +kernel)
set_option maxRecDepth 20000 in
theorem gX2_spread_X2_mayTurn : GoodIn wsX2_spread (wsV RX2 79 RX2 yX2_mayTurn wsX2_mayTurn) := goodIn_app (goodIn_of _ (by decide +kernel)) ggX2_spread_X2_mayTurn
set_option maxRecDepth 20000 in
theorem ggX2_spread_X1_weightOf : GoodIn wsX2_spread wsX1_weightOf := goodIn_r _ [44, 16, 45, 61, 62, 63, 64, 65] (by decide +kernel) (by decide +kernel)
set_option maxRecDepth 20000 in
theorem gX2_spread_X1_weightOf : GoodIn wsX2_spread (wsV RX2 87 RX1 yX1_weightOf wsX1_weightOf) := goodIn_app (goodIn_of _ (by decide +kernel)) ggX2_spread_X1_weightOf
set_option maxRecDepth 20000 in
theorem ggX2_spread_X0_add : GoodIn wsX2_spread wsX0_add := goodIn_r _ [50, 51, 52, 53, 68, 69, 70] (by decide +kernel) (by decide +kernel)
set_option maxRecDepth 20000 in
theorem gX2_spread_X0_add : GoodIn wsX2_spread (wsV RX2 91 RX0 yX0_add wsX0_add) := goodIn_app (goodIn_of _ (by decide +kernel)) ggX2_spread_X0_add
theorem dX2_spread_0 : decode cX2_spread 0 = .ok (.aload_n 0, 1) := by decide +kernel
theorem dX2_spread_1 : decode cX2_spread 1 = .ok (.getfield 36, 3) := by decide +kernel
theorem dX2_spread_4 : decode cX2_spread 4 = .ok (.iload_n 1, 1) := by decide +kernel
theorem dX2_spread_5 : decode cX2_spread 5 = .ok (.iaload, 1) := by decide +kernel
theorem dX2_spread_6 : decode cX2_spread 6 = .ok (.iconst (-1), 1) := by decide +kernel
theorem dX2_spread_7 : decode cX2_spread 7 = .ok (.if_icmp .ne 8, 3) := by decide +kernel
theorem dX2_spread_10 : decode cX2_spread 10 = .ok (.aload_n 0, 1) := by decide +kernel
theorem dX2_spread_11 : decode cX2_spread 11 = .ok (.iload_n 1, 1) := by decide +kernel
theorem dX2_spread_12 : decode cX2_spread 12 = .ok (.invokevirtual 83, 3) := by decide +kernel
theorem dX2_spread_15 : decode cX2_spread 15 = .ok (.aload_n 0, 1) := by decide +kernel
theorem dX2_spread_16 : decode cX2_spread 16 = .ok (.getfield 9, 3) := by decide +kernel
theorem dX2_spread_19 : decode cX2_spread 19 = .ok (.getfield 72, 3) := by decide +kernel
theorem dX2_spread_22 : decode cX2_spread 22 = .ok (.iload_n 1, 1) := by decide +kernel
theorem dX2_spread_23 : decode cX2_spread 23 = .ok (.iaload, 1) := by decide +kernel
theorem dX2_spread_24 : decode cX2_spread 24 = .ok (.istore 5, 2) := by decide +kernel
theorem dX2_spread_26 : decode cX2_spread 26 = .ok (.iconst 0, 1) := by decide +kernel
theorem dX2_spread_27 : decode cX2_spread 27 = .ok (.istore 6, 2) := by decide +kernel
theorem dX2_spread_29 : decode cX2_spread 29 = .ok (.iconst 0, 1) := by decide +kernel
theorem dX2_spread_30 : decode cX2_spread 30 = .ok (.istore 7, 2) := by decide +kernel
theorem dX2_spread_32 : decode cX2_spread 32 = .ok (.iload 7, 2) := by decide +kernel
theorem dX2_spread_34 : decode cX2_spread 34 = .ok (.aload_n 0, 1) := by decide +kernel
theorem dX2_spread_35 : decode cX2_spread 35 = .ok (.getfield 36, 3) := by decide +kernel
theorem dX2_spread_38 : decode cX2_spread 38 = .ok (.iload_n 1, 1) := by decide +kernel
theorem dX2_spread_39 : decode cX2_spread 39 = .ok (.iaload, 1) := by decide +kernel
theorem dX2_spread_40 : decode cX2_spread 40 = .ok (.if_icmp .ge 84, 3) := by decide +kernel
theorem dX2_spread_43 : decode cX2_spread 43 = .ok (.aload_n 0, 1) := by decide +kernel
theorem dX2_spread_44 : decode cX2_spread 44 = .ok (.getfield 32, 3) := by decide +kernel
theorem dX2_spread_47 : decode cX2_spread 47 = .ok (.iload 5, 2) := by decide +kernel
theorem dX2_spread_49 : decode cX2_spread 49 = .ok (.iload 7, 2) := by decide +kernel
theorem dX2_spread_51 : decode cX2_spread 51 = .ok (.iadd, 1) := by decide +kernel
theorem dX2_spread_52 : decode cX2_spread 52 = .ok (.iaload, 1) := by decide +kernel
theorem dX2_spread_53 : decode cX2_spread 53 = .ok (.istore 8, 2) := by decide +kernel
theorem dX2_spread_55 : decode cX2_spread 55 = .ok (.aload_n 0, 1) := by decide +kernel
theorem dX2_spread_56 : decode cX2_spread 56 = .ok (.iload_n 2, 1) := by decide +kernel
theorem dX2_spread_57 : decode cX2_spread 57 = .ok (.iload_n 1, 1) := by decide +kernel
theorem dX2_spread_58 : decode cX2_spread 58 = .ok (.aload_n 0, 1) := by decide +kernel
theorem dX2_spread_59 : decode cX2_spread 59 = .ok (.getfield 9, 3) := by decide +kernel
theorem dX2_spread_62 : decode cX2_spread 62 = .ok (.iload 8, 2) := by decide +kernel
theorem dX2_spread_64 : decode cX2_spread 64 = .ok (.invokevirtual 63, 3) := by decide +kernel
theorem dX2_spread_67 : decode cX2_spread 67 = .ok (.invokevirtual 79, 3) := by decide +kernel
theorem dX2_spread_70 : decode cX2_spread 70 = .ok (.ifCond .eq 33, 3) := by decide +kernel
theorem dX2_spread_73 : decode cX2_spread 73 = .ok (.aload_n 0, 1) := by decide +kernel
theorem dX2_spread_74 : decode cX2_spread 74 = .ok (.getfield 19, 3) := by decide +kernel
theorem dX2_spread_77 : decode cX2_spread 77 = .ok (.iload 8, 2) := by decide +kernel
theorem dX2_spread_79 : decode cX2_spread 79 = .ok (.lload_n 3, 1) := by decide +kernel
theorem dX2_spread_80 : decode cX2_spread 80 = .ok (.aload_n 0, 1) := by decide +kernel
theorem dX2_spread_81 : decode cX2_spread 81 = .ok (.getfield 9, 3) := by decide +kernel
theorem dX2_spread_84 : decode cX2_spread 84 = .ok (.iload 8, 2) := by decide +kernel
theorem dX2_spread_86 : decode cX2_spread 86 = .ok (.invokevirtual 87, 3) := by decide +kernel
theorem dX2_spread_89 : decode cX2_spread 89 = .ok (.ladd, 1) := by decide +kernel
theorem dX2_spread_90 : decode cX2_spread 90 = .ok (.lastore, 1) := by decide +kernel
theorem dX2_spread_91 : decode cX2_spread 91 = .ok (.aload_n 0, 1) := by decide +kernel
theorem dX2_spread_92 : decode cX2_spread 92 = .ok (.getfield 28, 3) := by decide +kernel
theorem dX2_spread_95 : decode cX2_spread 95 = .ok (.iload 8, 2) := by decide +kernel
theorem dX2_spread_97 : decode cX2_spread 97 = .ok (.invokevirtual 91, 3) := by decide +kernel
theorem dX2_spread_100 : decode cX2_spread 100 = .ok (.goto 18, 3) := by decide +kernel
theorem dX2_spread_103 : decode cX2_spread 103 = .ok (.aload_n 0, 1) := by decide +kernel
theorem dX2_spread_104 : decode cX2_spread 104 = .ok (.getfield 32, 3) := by decide +kernel
theorem dX2_spread_107 : decode cX2_spread 107 = .ok (.iload 5, 2) := by decide +kernel
theorem dX2_spread_109 : decode cX2_spread 109 = .ok (.iload 6, 2) := by decide +kernel
theorem dX2_spread_111 : decode cX2_spread 111 = .ok (.iadd, 1) := by decide +kernel
theorem dX2_spread_112 : decode cX2_spread 112 = .ok (.iload 8, 2) := by decide +kernel
theorem dX2_spread_114 : decode cX2_spread 114 = .ok (.iastore, 1) := by decide +kernel
theorem dX2_spread_115 : decode cX2_spread 115 = .ok (.iinc 6 1, 3) := by decide +kernel
theorem dX2_spread_118 : decode cX2_spread 118 = .ok (.iinc 7 1, 3) := by decide +kernel
theorem dX2_spread_121 : decode cX2_spread 121 = .ok (.goto (-89), 3) := by decide +kernel
theorem dX2_spread_124 : decode cX2_spread 124 = .ok (.aload_n 0, 1) := by decide +kernel
theorem dX2_spread_125 : decode cX2_spread 125 = .ok (.getfield 36, 3) := by decide +kernel
theorem dX2_spread_128 : decode cX2_spread 128 = .ok (.iload_n 1, 1) := by decide +kernel
theorem dX2_spread_129 : decode cX2_spread 129 = .ok (.iload 6, 2) := by decide +kernel
theorem dX2_spread_131 : decode cX2_spread 131 = .ok (.iastore, 1) := by decide +kernel
theorem dX2_spread_132 : decode cX2_spread 132 = .ok (.return_, 1) := by decide +kernel
set_option maxRecDepth 20000 in
theorem ggX2_gatherOpenArcs_X1_isOpen : GoodIn wsX2_gatherOpenArcs wsX1_isOpen := goodIn_r _ [8, 9, 17, 18, 19, 20, 21] (by decide +kernel) (by decide +kernel)
set_option maxRecDepth 20000 in
theorem gX2_gatherOpenArcs_X1_isOpen : GoodIn wsX2_gatherOpenArcs (wsV RX2 94 RX1 yX1_isOpen wsX1_isOpen) := goodIn_app (goodIn_of _ (by decide +kernel)) ggX2_gatherOpenArcs_X1_isOpen
theorem dX2_gatherOpenArcs_0 : decode cX2_gatherOpenArcs 0 = .ok (.aload_n 0, 1) := by decide +kernel
theorem dX2_gatherOpenArcs_1 : decode cX2_gatherOpenArcs 1 = .ok (.getfield 9, 3) := by decide +kernel
theorem dX2_gatherOpenArcs_4 : decode cX2_gatherOpenArcs 4 = .ok (.getfield 72, 3) := by decide +kernel
theorem dX2_gatherOpenArcs_7 : decode cX2_gatherOpenArcs 7 = .ok (.iload_n 1, 1) := by decide +kernel
theorem dX2_gatherOpenArcs_8 : decode cX2_gatherOpenArcs 8 = .ok (.iaload, 1) := by decide +kernel
theorem dX2_gatherOpenArcs_9 : decode cX2_gatherOpenArcs 9 = .ok (.istore_n 2, 1) := by decide +kernel
theorem dX2_gatherOpenArcs_10 : decode cX2_gatherOpenArcs 10 = .ok (.iconst 0, 1) := by decide +kernel
theorem dX2_gatherOpenArcs_11 : decode cX2_gatherOpenArcs 11 = .ok (.istore_n 3, 1) := by decide +kernel
theorem dX2_gatherOpenArcs_12 : decode cX2_gatherOpenArcs 12 = .ok (.iload_n 2, 1) := by decide +kernel
theorem dX2_gatherOpenArcs_13 : decode cX2_gatherOpenArcs 13 = .ok (.istore 4, 2) := by decide +kernel
theorem dX2_gatherOpenArcs_15 : decode cX2_gatherOpenArcs 15 = .ok (.iload 4, 2) := by decide +kernel
theorem dX2_gatherOpenArcs_17 : decode cX2_gatherOpenArcs 17 = .ok (.aload_n 0, 1) := by decide +kernel
theorem dX2_gatherOpenArcs_18 : decode cX2_gatherOpenArcs 18 = .ok (.getfield 9, 3) := by decide +kernel
theorem dX2_gatherOpenArcs_21 : decode cX2_gatherOpenArcs 21 = .ok (.getfield 72, 3) := by decide +kernel
theorem dX2_gatherOpenArcs_24 : decode cX2_gatherOpenArcs 24 = .ok (.iload_n 1, 1) := by decide +kernel
theorem dX2_gatherOpenArcs_25 : decode cX2_gatherOpenArcs 25 = .ok (.iconst 1, 1) := by decide +kernel
theorem dX2_gatherOpenArcs_26 : decode cX2_gatherOpenArcs 26 = .ok (.iadd, 1) := by decide +kernel
theorem dX2_gatherOpenArcs_27 : decode cX2_gatherOpenArcs 27 = .ok (.iaload, 1) := by decide +kernel
theorem dX2_gatherOpenArcs_28 : decode cX2_gatherOpenArcs 28 = .ok (.if_icmp .ge 34, 3) := by decide +kernel
theorem dX2_gatherOpenArcs_31 : decode cX2_gatherOpenArcs 31 = .ok (.aload_n 0, 1) := by decide +kernel
theorem dX2_gatherOpenArcs_32 : decode cX2_gatherOpenArcs 32 = .ok (.getfield 9, 3) := by decide +kernel
theorem dX2_gatherOpenArcs_35 : decode cX2_gatherOpenArcs 35 = .ok (.iload 4, 2) := by decide +kernel
theorem dX2_gatherOpenArcs_37 : decode cX2_gatherOpenArcs 37 = .ok (.invokevirtual 94, 3) := by decide +kernel
theorem dX2_gatherOpenArcs_40 : decode cX2_gatherOpenArcs 40 = .ok (.ifCond .eq 16, 3) := by decide +kernel
theorem dX2_gatherOpenArcs_43 : decode cX2_gatherOpenArcs 43 = .ok (.aload_n 0, 1) := by decide +kernel
theorem dX2_gatherOpenArcs_44 : decode cX2_gatherOpenArcs 44 = .ok (.getfield 32, 3) := by decide +kernel
theorem dX2_gatherOpenArcs_47 : decode cX2_gatherOpenArcs 47 = .ok (.iload_n 2, 1) := by decide +kernel
theorem dX2_gatherOpenArcs_48 : decode cX2_gatherOpenArcs 48 = .ok (.iload_n 3, 1) := by decide +kernel
theorem dX2_gatherOpenArcs_49 : decode cX2_gatherOpenArcs 49 = .ok (.iadd, 1) := by decide +kernel
theorem dX2_gatherOpenArcs_50 : decode cX2_gatherOpenArcs 50 = .ok (.iload 4, 2) := by decide +kernel
theorem dX2_gatherOpenArcs_52 : decode cX2_gatherOpenArcs 52 = .ok (.iastore, 1) := by decide +kernel
theorem dX2_gatherOpenArcs_53 : decode cX2_gatherOpenArcs 53 = .ok (.iinc 3 1, 3) := by decide +kernel
theorem dX2_gatherOpenArcs_56 : decode cX2_gatherOpenArcs 56 = .ok (.iinc 4 1, 3) := by decide +kernel
theorem dX2_gatherOpenArcs_59 : decode cX2_gatherOpenArcs 59 = .ok (.goto (-44), 3) := by decide +kernel
theorem dX2_gatherOpenArcs_62 : decode cX2_gatherOpenArcs 62 = .ok (.aload_n 0, 1) := by decide +kernel
theorem dX2_gatherOpenArcs_63 : decode cX2_gatherOpenArcs 63 = .ok (.getfield 36, 3) := by decide +kernel
theorem dX2_gatherOpenArcs_66 : decode cX2_gatherOpenArcs 66 = .ok (.iload_n 1, 1) := by decide +kernel
theorem dX2_gatherOpenArcs_67 : decode cX2_gatherOpenArcs 67 = .ok (.iload_n 3, 1) := by decide +kernel
theorem dX2_gatherOpenArcs_68 : decode cX2_gatherOpenArcs 68 = .ok (.iastore, 1) := by decide +kernel
theorem dX2_gatherOpenArcs_69 : decode cX2_gatherOpenArcs 69 = .ok (.return_, 1) := by decide +kernel
set_option maxRecDepth 20000 in
theorem ggX2_mayTurn_X3_isBarred : GoodIn wsX2_mayTurn wsX3_isBarred := goodIn_r _ [7, 8, 9, 10, 11, 6, 12, 13, 14, 15, 23, 24] (by decide +kernel) (by decide +kernel)
set_option maxRecDepth 20000 in
theorem gX2_mayTurn_X3_isBarred : GoodIn wsX2_mayTurn (wsV RX2 98 RX3 yX3_isBarred wsX3_isBarred) := goodIn_app (goodIn_of _ (by decide +kernel)) ggX2_mayTurn_X3_isBarred
theorem dX2_mayTurn_0 : decode cX2_mayTurn 0 = .ok (.iload_n 1, 1) := by decide +kernel
theorem dX2_mayTurn_1 : decode cX2_mayTurn 1 = .ok (.iconst (-1), 1) := by decide +kernel
theorem dX2_mayTurn_2 : decode cX2_mayTurn 2 = .ok (.if_icmp .eq 8, 3) := by decide +kernel
theorem dX2_mayTurn_5 : decode cX2_mayTurn 5 = .ok (.iload_n 3, 1) := by decide +kernel
theorem dX2_mayTurn_6 : decode cX2_mayTurn 6 = .ok (.iconst (-1), 1) := by decide +kernel
theorem dX2_mayTurn_7 : decode cX2_mayTurn 7 = .ok (.if_icmp .ne 5, 3) := by decide +kernel
theorem dX2_mayTurn_10 : decode cX2_mayTurn 10 = .ok (.iconst 1, 1) := by decide +kernel
theorem dX2_mayTurn_11 : decode cX2_mayTurn 11 = .ok (.ireturn, 1) := by decide +kernel
theorem dX2_mayTurn_12 : decode cX2_mayTurn 12 = .ok (.aload_n 0, 1) := by decide +kernel
theorem dX2_mayTurn_13 : decode cX2_mayTurn 13 = .ok (.getfield 39, 3) := by decide +kernel
theorem dX2_mayTurn_16 : decode cX2_mayTurn 16 = .ok (.ifCond .eq 24, 3) := by decide +kernel
theorem dX2_mayTurn_19 : decode cX2_mayTurn 19 = .ok (.aload_n 0, 1) := by decide +kernel
theorem dX2_mayTurn_20 : decode cX2_mayTurn 20 = .ok (.getfield 15, 3) := by decide +kernel
theorem dX2_mayTurn_23 : decode cX2_mayTurn 23 = .ok (.iload_n 3, 1) := by decide +kernel
theorem dX2_mayTurn_24 : decode cX2_mayTurn 24 = .ok (.iload_n 2, 1) := by decide +kernel
theorem dX2_mayTurn_25 : decode cX2_mayTurn 25 = .ok (.iload_n 1, 1) := by decide +kernel
theorem dX2_mayTurn_26 : decode cX2_mayTurn 26 = .ok (.invokevirtual 98, 3) := by decide +kernel
theorem dX2_mayTurn_29 : decode cX2_mayTurn 29 = .ok (.ifCond .ne 7, 3) := by decide +kernel
theorem dX2_mayTurn_32 : decode cX2_mayTurn 32 = .ok (.iconst 1, 1) := by decide +kernel
theorem dX2_mayTurn_33 : decode cX2_mayTurn 33 = .ok (.goto 25, 3) := by decide +kernel
theorem dX2_mayTurn_36 : decode cX2_mayTurn 36 = .ok (.iconst 0, 1) := by decide +kernel
theorem dX2_mayTurn_37 : decode cX2_mayTurn 37 = .ok (.goto 21, 3) := by decide +kernel
theorem dX2_mayTurn_40 : decode cX2_mayTurn 40 = .ok (.aload_n 0, 1) := by decide +kernel
theorem dX2_mayTurn_41 : decode cX2_mayTurn 41 = .ok (.getfield 15, 3) := by decide +kernel
theorem dX2_mayTurn_44 : decode cX2_mayTurn 44 = .ok (.iload_n 1, 1) := by decide +kernel
theorem dX2_mayTurn_45 : decode cX2_mayTurn 45 = .ok (.iload_n 2, 1) := by decide +kernel
theorem dX2_mayTurn_46 : decode cX2_mayTurn 46 = .ok (.iload_n 3, 1) := by decide +kernel
theorem dX2_mayTurn_47 : decode cX2_mayTurn 47 = .ok (.invokevirtual 98, 3) := by decide +kernel
theorem dX2_mayTurn_50 : decode cX2_mayTurn 50 = .ok (.ifCond .ne 7, 3) := by decide +kernel
theorem dX2_mayTurn_53 : decode cX2_mayTurn 53 = .ok (.iconst 1, 1) := by decide +kernel
theorem dX2_mayTurn_54 : decode cX2_mayTurn 54 = .ok (.goto 4, 3) := by decide +kernel
theorem dX2_mayTurn_57 : decode cX2_mayTurn 57 = .ok (.iconst 0, 1) := by decide +kernel
theorem dX2_mayTurn_58 : decode cX2_mayTurn 58 = .ok (.ireturn, 1) := by decide +kernel
theorem dX3_init_0 : decode cX3_init 0 = .ok (.aload_n 0, 1) := by decide +kernel
theorem dX3_init_1 : decode cX3_init 1 = .ok (.invokespecial 3, 3) := by decide +kernel
theorem dX3_init_4 : decode cX3_init 4 = .ok (.aload_n 0, 1) := by decide +kernel
theorem dX3_init_5 : decode cX3_init 5 = .ok (.iconst 0, 1) := by decide +kernel
theorem dX3_init_6 : decode cX3_init 6 = .ok (.putfield 9, 3) := by decide +kernel
theorem dX3_init_9 : decode cX3_init 9 = .ok (.aload_n 0, 1) := by decide +kernel
theorem dX3_init_10 : decode cX3_init 10 = .ok (.sipush 200, 3) := by decide +kernel
theorem dX3_init_13 : decode cX3_init 13 = .ok (.newarray .int, 2) := by decide +kernel
theorem dX3_init_15 : decode cX3_init 15 = .ok (.putfield 15, 3) := by decide +kernel
theorem dX3_init_18 : decode cX3_init 18 = .ok (.return_, 1) := by decide +kernel
theorem dX3_reset_0 : decode cX3_reset 0 = .ok (.aload_n 0, 1) := by decide +kernel
theorem dX3_reset_1 : decode cX3_reset 1 = .ok (.iconst 0, 1) := by decide +kernel
theorem dX3_reset_2 : decode cX3_reset 2 = .ok (.putfield 9, 3) := by decide +kernel
theorem dX3_reset_5 : decode cX3_reset 5 = .ok (.return_, 1) := by decide +kernel
set_option maxRecDepth 20000 in
theorem ggX3_isBarred_X3_key : GoodIn wsX3_isBarred wsX3_key := goodIn_r _ [6] (by decide +kernel) (by decide +kernel)
set_option maxRecDepth 20000 in
theorem gX3_isBarred_X3_key : GoodIn wsX3_isBarred (va_wsS RX3 19 yX3_key wsX3_key) := goodIn_app (goodIn_of _ (by decide +kernel)) ggX3_isBarred_X3_key
set_option maxRecDepth 20000 in
theorem ggX3_isBarred_X4_placeIn : GoodIn wsX3_isBarred wsX4_placeIn := goodIn_r _ [9] (by decide +kernel) (by decide +kernel)
set_option maxRecDepth 20000 in
theorem gX3_isBarred_X4_placeIn_n23 : GoodIn wsX3_isBarred (wsX4_placeIn) := ggX3_isBarred_X4_placeIn
theorem dX3_isBarred_0 : decode cX3_isBarred 0 = .ok (.iload_n 1, 1) := by decide +kernel
theorem dX3_isBarred_1 : decode cX3_isBarred 1 = .ok (.iload_n 2, 1) := by decide +kernel
theorem dX3_isBarred_2 : decode cX3_isBarred 2 = .ok (.iload_n 3, 1) := by decide +kernel
theorem dX3_isBarred_3 : decode cX3_isBarred 3 = .ok (.invokestatic 19, 3) := by decide +kernel
theorem dX3_isBarred_6 : decode cX3_isBarred 6 = .ok (.istore 4, 2) := by decide +kernel
theorem dX3_isBarred_8 : decode cX3_isBarred 8 = .ok (.aload_n 0, 1) := by decide +kernel
theorem dX3_isBarred_9 : decode cX3_isBarred 9 = .ok (.getfield 15, 3) := by decide +kernel
theorem dX3_isBarred_12 : decode cX3_isBarred 12 = .ok (.iconst 0, 1) := by decide +kernel
theorem dX3_isBarred_13 : decode cX3_isBarred 13 = .ok (.aload_n 0, 1) := by decide +kernel
theorem dX3_isBarred_14 : decode cX3_isBarred 14 = .ok (.getfield 9, 3) := by decide +kernel
theorem dX3_isBarred_17 : decode cX3_isBarred 17 = .ok (.iload 4, 2) := by decide +kernel
theorem dX3_isBarred_19 : decode cX3_isBarred 19 = .ok (.invokestatic 23, 3) := by decide +kernel
theorem dX3_isBarred_22 : decode cX3_isBarred 22 = .ok (.istore 5, 2) := by decide +kernel
theorem dX3_isBarred_24 : decode cX3_isBarred 24 = .ok (.iload 5, 2) := by decide +kernel
theorem dX3_isBarred_26 : decode cX3_isBarred 26 = .ok (.aload_n 0, 1) := by decide +kernel
theorem dX3_isBarred_27 : decode cX3_isBarred 27 = .ok (.getfield 9, 3) := by decide +kernel
theorem dX3_isBarred_30 : decode cX3_isBarred 30 = .ok (.if_icmp .ge 19, 3) := by decide +kernel
theorem dX3_isBarred_33 : decode cX3_isBarred 33 = .ok (.aload_n 0, 1) := by decide +kernel
theorem dX3_isBarred_34 : decode cX3_isBarred 34 = .ok (.getfield 15, 3) := by decide +kernel
theorem dX3_isBarred_37 : decode cX3_isBarred 37 = .ok (.iload 5, 2) := by decide +kernel
theorem dX3_isBarred_39 : decode cX3_isBarred 39 = .ok (.iaload, 1) := by decide +kernel
theorem dX3_isBarred_40 : decode cX3_isBarred 40 = .ok (.iload 4, 2) := by decide +kernel
theorem dX3_isBarred_42 : decode cX3_isBarred 42 = .ok (.if_icmp .ne 7, 3) := by decide +kernel
theorem dX3_isBarred_45 : decode cX3_isBarred 45 = .ok (.iconst 1, 1) := by decide +kernel
theorem dX3_isBarred_46 : decode cX3_isBarred 46 = .ok (.goto 4, 3) := by decide +kernel
theorem dX3_isBarred_49 : decode cX3_isBarred 49 = .ok (.iconst 0, 1) := by decide +kernel
theorem dX3_isBarred_50 : decode cX3_isBarred 50 = .ok (.ireturn, 1) := by decide +kernel
set_option maxRecDepth 20000 in
theorem ggX3_add_X3_key : GoodIn wsX3_add wsX3_key := goodIn_r _ [6] (by decide +kernel) (by decide +kernel)
set_option maxRecDepth 20000 in
theorem gX3_add_X3_key : GoodIn wsX3_add (va_wsS RX3 19 yX3_key wsX3_key) := goodIn_app (goodIn_of _ (by decide +kernel)) ggX3_add_X3_key
set_option maxRecDepth 20000 in
theorem ggX3_add_X4_placeIn : GoodIn wsX3_add wsX4_placeIn := goodIn_r _ [9] (by decide +kernel) (by decide +kernel)
set_option maxRecDepth 20000 in
theorem gX3_add_X4_placeIn_n23 : GoodIn wsX3_add (wsX4_placeIn) := ggX3_add_X4_placeIn
set_option maxRecDepth 20000 in
theorem ggX3_add_X4_insert : GoodIn wsX3_add wsX4_insert := goodIn_r _ [11, 12, 13, 14, 15] (by decide +kernel) (by decide +kernel)
set_option maxRecDepth 20000 in
theorem gX3_add_X4_insert_n27 : GoodIn wsX3_add (wsX4_insert) := ggX3_add_X4_insert
theorem dX3_add_0 : decode cX3_add 0 = .ok (.aload_n 0, 1) := by decide +kernel
theorem dX3_add_1 : decode cX3_add 1 = .ok (.getfield 9, 3) := by decide +kernel
theorem dX3_add_4 : decode cX3_add 4 = .ok (.aload_n 0, 1) := by decide +kernel
theorem dX3_add_5 : decode cX3_add 5 = .ok (.getfield 15, 3) := by decide +kernel
theorem dX3_add_8 : decode cX3_add 8 = .ok (.arraylength, 1) := by decide +kernel
theorem dX3_add_9 : decode cX3_add 9 = .ok (.if_icmp .lt 4, 3) := by decide +kernel
theorem dX3_add_12 : decode cX3_add 12 = .ok (.return_, 1) := by decide +kernel
theorem dX3_add_13 : decode cX3_add 13 = .ok (.iload_n 1, 1) := by decide +kernel
theorem dX3_add_14 : decode cX3_add 14 = .ok (.iload_n 2, 1) := by decide +kernel
theorem dX3_add_15 : decode cX3_add 15 = .ok (.iload_n 3, 1) := by decide +kernel
theorem dX3_add_16 : decode cX3_add 16 = .ok (.invokestatic 19, 3) := by decide +kernel
theorem dX3_add_19 : decode cX3_add 19 = .ok (.istore 4, 2) := by decide +kernel
theorem dX3_add_21 : decode cX3_add 21 = .ok (.aload_n 0, 1) := by decide +kernel
theorem dX3_add_22 : decode cX3_add 22 = .ok (.getfield 15, 3) := by decide +kernel
theorem dX3_add_25 : decode cX3_add 25 = .ok (.aload_n 0, 1) := by decide +kernel
theorem dX3_add_26 : decode cX3_add 26 = .ok (.getfield 9, 3) := by decide +kernel
theorem dX3_add_29 : decode cX3_add 29 = .ok (.aload_n 0, 1) := by decide +kernel
theorem dX3_add_30 : decode cX3_add 30 = .ok (.getfield 15, 3) := by decide +kernel
theorem dX3_add_33 : decode cX3_add 33 = .ok (.iconst 0, 1) := by decide +kernel
theorem dX3_add_34 : decode cX3_add 34 = .ok (.aload_n 0, 1) := by decide +kernel
theorem dX3_add_35 : decode cX3_add 35 = .ok (.getfield 9, 3) := by decide +kernel
theorem dX3_add_38 : decode cX3_add 38 = .ok (.iload 4, 2) := by decide +kernel
theorem dX3_add_40 : decode cX3_add 40 = .ok (.invokestatic 23, 3) := by decide +kernel
theorem dX3_add_43 : decode cX3_add 43 = .ok (.iload 4, 2) := by decide +kernel
theorem dX3_add_45 : decode cX3_add 45 = .ok (.invokestatic 27, 3) := by decide +kernel
theorem dX3_add_48 : decode cX3_add 48 = .ok (.aload_n 0, 1) := by decide +kernel
theorem dX3_add_49 : decode cX3_add 49 = .ok (.dup, 1) := by decide +kernel
theorem dX3_add_50 : decode cX3_add 50 = .ok (.getfield 9, 3) := by decide +kernel
theorem dX3_add_53 : decode cX3_add 53 = .ok (.iconst 1, 1) := by decide +kernel
theorem dX3_add_54 : decode cX3_add 54 = .ok (.iadd, 1) := by decide +kernel
theorem dX3_add_55 : decode cX3_add 55 = .ok (.putfield 9, 3) := by decide +kernel
theorem dX3_add_58 : decode cX3_add 58 = .ok (.return_, 1) := by decide +kernel
set_option maxRecDepth 20000 in
theorem ggX3_remove_X3_key : GoodIn wsX3_remove wsX3_key := goodIn_r _ [10] (by decide +kernel) (by decide +kernel)
set_option maxRecDepth 20000 in
theorem gX3_remove_X3_key : GoodIn wsX3_remove (va_wsS RX3 19 yX3_key wsX3_key) := goodIn_app (goodIn_of _ (by decide +kernel)) ggX3_remove_X3_key
set_option maxRecDepth 20000 in
theorem ggX3_remove_X4_placeIn : GoodIn wsX3_remove wsX4_placeIn := goodIn_r _ [13] (by decide +kernel) (by decide +kernel)
set_option maxRecDepth 20000 in
theorem gX3_remove_X4_placeIn_n23 : GoodIn wsX3_remove (wsX4_placeIn) := ggX3_remove_X4_placeIn
theorem dX3_remove_0 : decode cX3_remove 0 = .ok (.iload_n 1, 1) := by decide +kernel
theorem dX3_remove_1 : decode cX3_remove 1 = .ok (.iload_n 2, 1) := by decide +kernel
theorem dX3_remove_2 : decode cX3_remove 2 = .ok (.iload_n 3, 1) := by decide +kernel
theorem dX3_remove_3 : decode cX3_remove 3 = .ok (.invokestatic 19, 3) := by decide +kernel
theorem dX3_remove_6 : decode cX3_remove 6 = .ok (.istore 4, 2) := by decide +kernel
theorem dX3_remove_8 : decode cX3_remove 8 = .ok (.aload_n 0, 1) := by decide +kernel
theorem dX3_remove_9 : decode cX3_remove 9 = .ok (.getfield 15, 3) := by decide +kernel
theorem dX3_remove_12 : decode cX3_remove 12 = .ok (.iconst 0, 1) := by decide +kernel
theorem dX3_remove_13 : decode cX3_remove 13 = .ok (.aload_n 0, 1) := by decide +kernel
theorem dX3_remove_14 : decode cX3_remove 14 = .ok (.getfield 9, 3) := by decide +kernel
theorem dX3_remove_17 : decode cX3_remove 17 = .ok (.iload 4, 2) := by decide +kernel
theorem dX3_remove_19 : decode cX3_remove 19 = .ok (.invokestatic 23, 3) := by decide +kernel
theorem dX3_remove_22 : decode cX3_remove 22 = .ok (.istore 5, 2) := by decide +kernel
theorem dX3_remove_24 : decode cX3_remove 24 = .ok (.iload 5, 2) := by decide +kernel
theorem dX3_remove_26 : decode cX3_remove 26 = .ok (.aload_n 0, 1) := by decide +kernel
theorem dX3_remove_27 : decode cX3_remove 27 = .ok (.getfield 9, 3) := by decide +kernel
theorem dX3_remove_30 : decode cX3_remove 30 = .ok (.if_icmp .ge 15, 3) := by decide +kernel
theorem dX3_remove_33 : decode cX3_remove 33 = .ok (.aload_n 0, 1) := by decide +kernel
theorem dX3_remove_34 : decode cX3_remove 34 = .ok (.getfield 15, 3) := by decide +kernel
theorem dX3_remove_37 : decode cX3_remove 37 = .ok (.iload 5, 2) := by decide +kernel
theorem dX3_remove_39 : decode cX3_remove 39 = .ok (.iaload, 1) := by decide +kernel
theorem dX3_remove_40 : decode cX3_remove 40 = .ok (.iload 4, 2) := by decide +kernel
theorem dX3_remove_42 : decode cX3_remove 42 = .ok (.if_icmp .eq 4, 3) := by decide +kernel
theorem dX3_remove_45 : decode cX3_remove 45 = .ok (.return_, 1) := by decide +kernel
theorem dX3_remove_46 : decode cX3_remove 46 = .ok (.aload_n 0, 1) := by decide +kernel
theorem dX3_remove_47 : decode cX3_remove 47 = .ok (.getfield 15, 3) := by decide +kernel
theorem dX3_remove_50 : decode cX3_remove 50 = .ok (.iload 5, 2) := by decide +kernel
theorem dX3_remove_52 : decode cX3_remove 52 = .ok (.iconst 1, 1) := by decide +kernel
theorem dX3_remove_53 : decode cX3_remove 53 = .ok (.iadd, 1) := by decide +kernel
theorem dX3_remove_54 : decode cX3_remove 54 = .ok (.aload_n 0, 1) := by decide +kernel
theorem dX3_remove_55 : decode cX3_remove 55 = .ok (.getfield 15, 3) := by decide +kernel
theorem dX3_remove_58 : decode cX3_remove 58 = .ok (.iload 5, 2) := by decide +kernel
theorem dX3_remove_60 : decode cX3_remove 60 = .ok (.aload_n 0, 1) := by decide +kernel
theorem dX3_remove_61 : decode cX3_remove 61 = .ok (.getfield 9, 3) := by decide +kernel
theorem dX3_remove_64 : decode cX3_remove 64 = .ok (.iload 5, 2) := by decide +kernel
theorem dX3_remove_66 : decode cX3_remove 66 = .ok (.isub, 1) := by decide +kernel
theorem dX3_remove_67 : decode cX3_remove 67 = .ok (.iconst 1, 1) := by decide +kernel
theorem dX3_remove_68 : decode cX3_remove 68 = .ok (.isub, 1) := by decide +kernel
theorem dX3_remove_69 : decode cX3_remove 69 = .ok (.invokestatic 31, 3) := by decide +kernel
theorem dX3_remove_72 : decode cX3_remove 72 = .ok (.aload_n 0, 1) := by decide +kernel
theorem dX3_remove_73 : decode cX3_remove 73 = .ok (.dup, 1) := by decide +kernel
theorem dX3_remove_74 : decode cX3_remove 74 = .ok (.getfield 9, 3) := by decide +kernel
theorem dX3_remove_77 : decode cX3_remove 77 = .ok (.iconst 1, 1) := by decide +kernel
theorem dX3_remove_78 : decode cX3_remove 78 = .ok (.isub, 1) := by decide +kernel
theorem dX3_remove_79 : decode cX3_remove 79 = .ok (.putfield 9, 3) := by decide +kernel
theorem dX3_remove_82 : decode cX3_remove 82 = .ok (.return_, 1) := by decide +kernel
theorem dX3_key_0 : decode cX3_key 0 = .ok (.iload_n 0, 1) := by decide +kernel
theorem dX3_key_1 : decode cX3_key 1 = .ok (.sipush 300, 3) := by decide +kernel
theorem dX3_key_4 : decode cX3_key 4 = .ok (.imul, 1) := by decide +kernel
theorem dX3_key_5 : decode cX3_key 5 = .ok (.iload_n 1, 1) := by decide +kernel
theorem dX3_key_6 : decode cX3_key 6 = .ok (.iadd, 1) := by decide +kernel
theorem dX3_key_7 : decode cX3_key 7 = .ok (.sipush 300, 3) := by decide +kernel
theorem dX3_key_10 : decode cX3_key 10 = .ok (.imul, 1) := by decide +kernel
theorem dX3_key_11 : decode cX3_key 11 = .ok (.iload_n 2, 1) := by decide +kernel
theorem dX3_key_12 : decode cX3_key 12 = .ok (.iadd, 1) := by decide +kernel
theorem dX3_key_13 : decode cX3_key 13 = .ok (.ireturn, 1) := by decide +kernel
set_option maxRecDepth 20000 in
theorem ggX4_init_X1_init : GoodIn wsX4_init wsX1_init := goodIn_r _ [21, 22, 2, 3, 23, 24, 16, 25, 26, 27, 56, 57, 58, 59, 60] (by decide +kernel) (by decide +kernel)
set_option maxRecDepth 20000 in
theorem gX4_init_X1_init : GoodIn wsX4_init (wsX1_init) := ggX4_init_X1_init
set_option maxRecDepth 20000 in
theorem ggX4_init_X3_init : GoodIn wsX4_init wsX3_init := goodIn_r _ [30, 31, 2, 3, 32, 16, 33, 66, 67] (by decide +kernel) (by decide +kernel)
set_option maxRecDepth 20000 in
theorem gX4_init_X3_init : GoodIn wsX4_init (wsX3_init) := ggX4_init_X3_init
set_option maxRecDepth 20000 in
theorem ggX4_init_X2_init : GoodIn wsX4_init wsX2_init := goodIn_r _ [36, 37, 2, 3, 38, 39, 40, 41, 42, 43, 44, 45, 16, 46, 47, 48, 49, 50, 51, 52, 53, 54, 55, 68, 69, 70, 71, 72, 73, 74, 75, 76, 77] (by decide +kernel) (by decide +kernel)
set_option maxRecDepth 20000 in
theorem gX4_init_X2_init : GoodIn wsX4_init (wsX2_init) := ggX4_init_X2_init
theorem dX4_init_0 : decode cX4_init 0 = .ok (.aload_n 0, 1) := by decide +kernel
theorem dX4_init_1 : decode cX4_init 1 = .ok (.invokespecial 3, 3) := by decide +kernel
theorem dX4_init_4 : decode cX4_init 4 = .ok (.aload_n 0, 1) := by decide +kernel
theorem dX4_init_5 : decode cX4_init 5 = .ok (.new 9, 3) := by decide +kernel
theorem dX4_init_8 : decode cX4_init 8 = .ok (.dup, 1) := by decide +kernel
theorem dX4_init_9 : decode cX4_init 9 = .ok (.invokespecial 11, 3) := by decide +kernel
theorem dX4_init_12 : decode cX4_init 12 = .ok (.putfield 12, 3) := by decide +kernel
theorem dX4_init_15 : decode cX4_init 15 = .ok (.aload_n 0, 1) := by decide +kernel
theorem dX4_init_16 : decode cX4_init 16 = .ok (.new 16, 3) := by decide +kernel
theorem dX4_init_19 : decode cX4_init 19 = .ok (.dup, 1) := by decide +kernel
theorem dX4_init_20 : decode cX4_init 20 = .ok (.invokespecial 18, 3) := by decide +kernel
theorem dX4_init_23 : decode cX4_init 23 = .ok (.putfield 19, 3) := by decide +kernel
theorem dX4_init_26 : decode cX4_init 26 = .ok (.aload_n 0, 1) := by decide +kernel
theorem dX4_init_27 : decode cX4_init 27 = .ok (.new 23, 3) := by decide +kernel
theorem dX4_init_30 : decode cX4_init 30 = .ok (.dup, 1) := by decide +kernel
theorem dX4_init_31 : decode cX4_init 31 = .ok (.aload_n 0, 1) := by decide +kernel
theorem dX4_init_32 : decode cX4_init 32 = .ok (.getfield 12, 3) := by decide +kernel
theorem dX4_init_35 : decode cX4_init 35 = .ok (.aload_n 0, 1) := by decide +kernel
theorem dX4_init_36 : decode cX4_init 36 = .ok (.getfield 19, 3) := by decide +kernel
theorem dX4_init_39 : decode cX4_init 39 = .ok (.invokespecial 25, 3) := by decide +kernel
theorem dX4_init_42 : decode cX4_init 42 = .ok (.putfield 28, 3) := by decide +kernel
theorem dX4_init_45 : decode cX4_init 45 = .ok (.aload_n 0, 1) := by decide +kernel
theorem dX4_init_46 : decode cX4_init 46 = .ok (.sipush 4001, 3) := by decide +kernel
theorem dX4_init_49 : decode cX4_init 49 = .ok (.newarray .int, 2) := by decide +kernel
theorem dX4_init_51 : decode cX4_init 51 = .ok (.putfield 32, 3) := by decide +kernel
theorem dX4_init_54 : decode cX4_init 54 = .ok (.aload_n 0, 1) := by decide +kernel
theorem dX4_init_55 : decode cX4_init 55 = .ok (.iconst 0, 1) := by decide +kernel
theorem dX4_init_56 : decode cX4_init 56 = .ok (.putfield 36, 3) := by decide +kernel
theorem dX4_init_59 : decode cX4_init 59 = .ok (.return_, 1) := by decide +kernel
set_option maxRecDepth 20000 in
theorem ggX4_size_X1_reset : GoodIn wsX4_size wsX1_reset := goodIn_r _ [8, 9, 10, 11, 23, 24, 25, 26, 27] (by decide +kernel) (by decide +kernel)
set_option maxRecDepth 20000 in
theorem gX4_size_X1_reset : GoodIn wsX4_size (wsV RX4 40 RX1 yX1_reset wsX1_reset) := goodIn_app (goodIn_of _ (by decide +kernel)) ggX4_size_X1_reset
set_option maxRecDepth 20000 in
theorem ggX4_size_X3_reset : GoodIn wsX4_size wsX3_reset := goodIn_r _ [16, 17, 28, 29] (by decide +kernel) (by decide +kernel)
set_option maxRecDepth 20000 in
theorem gX4_size_X3_reset : GoodIn wsX4_size (wsV RX4 44 RX3 yX3_reset wsX3_reset) := goodIn_app (goodIn_of _ (by decide +kernel)) ggX4_size_X3_reset
theorem dX4_size_0 : decode cX4_size 0 = .ok (.iload_n 1, 1) := by decide +kernel
theorem dX4_size_1 : decode cX4_size 1 = .ok (.iconst 1, 1) := by decide +kernel
theorem dX4_size_2 : decode cX4_size 2 = .ok (.if_icmp .lt 10, 3) := by decide +kernel
theorem dX4_size_5 : decode cX4_size 5 = .ok (.iload_n 1, 1) := by decide +kernel
theorem dX4_size_6 : decode cX4_size 6 = .ok (.sipush 300, 3) := by decide +kernel
theorem dX4_size_9 : decode cX4_size 9 = .ok (.if_icmp .le 5, 3) := by decide +kernel
theorem dX4_size_12 : decode cX4_size 12 = .ok (.iconst 0, 1) := by decide +kernel
theorem dX4_size_13 : decode cX4_size 13 = .ok (.ireturn, 1) := by decide +kernel
theorem dX4_size_14 : decode cX4_size 14 = .ok (.aload_n 0, 1) := by decide +kernel
theorem dX4_size_15 : decode cX4_size 15 = .ok (.getfield 12, 3) := by decide +kernel
theorem dX4_size_18 : decode cX4_size 18 = .ok (.iload_n 1, 1) := by decide +kernel
theorem dX4_size_19 : decode cX4_size 19 = .ok (.invokevirtual 40, 3) := by decide +kernel
theorem dX4_size_22 : decode cX4_size 22 = .ok (.aload_n 0, 1) := by decide +kernel
theorem dX4_size_23 : decode cX4_size 23 = .ok (.getfield 19, 3) := by decide +kernel
theorem dX4_size_26 : decode cX4_size 26 = .ok (.invokevirtual 44, 3) := by decide +kernel
theorem dX4_size_29 : decode cX4_size 29 = .ok (.aload_n 0, 1) := by decide +kernel
theorem dX4_size_30 : decode cX4_size 30 = .ok (.iconst 0, 1) := by decide +kernel
end
section
theorem dX4_size_31 : decode cX4_size 31 = .ok (.putfield 36, 3) := by decide +kernel
theorem dX4_size_34 : decode cX4_size 34 = .ok (.iconst 1, 1) := by decide +kernel
theorem dX4_size_35 : decode cX4_size 35 = .ok (.ireturn, 1) := by decide +kernel
set_option maxRecDepth 20000 in
theorem ggX4_road_X1_hasNode : GoodIn wsX4_road wsX1_hasNode := goodIn_r _ [7, 8, 59, 60, 61, 62, 63] (by decide +kernel) (by decide +kernel)
set_option maxRecDepth 20000 in
theorem gX4_road_X1_hasNode : GoodIn wsX4_road (wsV RX4 46 RX1 yX1_hasNode wsX1_hasNode) := goodIn_app (goodIn_of _ (by decide +kernel)) ggX4_road_X1_hasNode
set_option maxRecDepth 20000 in
theorem ggX4_road_X1_signedCost : GoodIn wsX4_road wsX1_signedCost := goodIn_r _ [12, 13, 14, 15, 16, 6, 17, 18, 19, 20, 4, 5, 7, 8, 21, 22, 23, 24, 25, 26, 27, 28, 29, 30, 59, 60, 61, 62, 63] (by decide +kernel) (by decide +kernel)
set_option maxRecDepth 20000 in
theorem gX4_road_X1_signedCost : GoodIn wsX4_road (wsV RX4 51 RX1 yX1_signedCost wsX1_signedCost) := goodIn_app (goodIn_of _ (by decide +kernel)) ggX4_road_X1_signedCost
set_option maxRecDepth 20000 in
theorem ggX4_road_X1_change : GoodIn wsX4_road wsX1_change := goodIn_r _ [34, 13, 14, 15, 16, 6, 17, 18, 19, 20, 4, 5, 7, 8, 21, 22, 23, 24, 25, 26, 27, 28, 29, 30, 59, 60, 61, 62, 63] (by decide +kernel) (by decide +kernel)
set_option maxRecDepth 20000 in
theorem gX4_road_X1_change : GoodIn wsX4_road (wsV RX4 55 RX1 yX1_change wsX1_change) := goodIn_app (goodIn_of _ (by decide +kernel)) ggX4_road_X1_change
set_option maxRecDepth 20000 in
theorem ggX4_road_X1_count : GoodIn wsX4_road wsX1_count := goodIn_r _ [38, 39, 59, 60, 61, 62, 63] (by decide +kernel) (by decide +kernel)
set_option maxRecDepth 20000 in
theorem gX4_road_X1_count : GoodIn wsX4_road (wsV RX4 59 RX1 yX1_count wsX1_count) := goodIn_app (goodIn_of _ (by decide +kernel)) ggX4_road_X1_count
set_option maxRecDepth 20000 in
theorem ggX4_road_X1_add : GoodIn wsX4_road wsX1_add := goodIn_r _ [43, 44, 45, 46, 6, 47, 19, 39, 13, 18, 21, 22, 23, 24, 25, 26, 27, 28, 29, 30, 48, 49, 50, 51, 52, 53, 59, 60, 61, 62, 63] (by decide +kernel) (by decide +kernel)
set_option maxRecDepth 20000 in
theorem gX4_road_X1_add : GoodIn wsX4_road (wsV RX4 63 RX1 yX1_add wsX1_add) := goodIn_app (goodIn_of _ (by decide +kernel)) ggX4_road_X1_add
theorem dX4_road_0 : decode cX4_road 0 = .ok (.aload_n 0, 1) := by decide +kernel
theorem dX4_road_1 : decode cX4_road 1 = .ok (.getfield 12, 3) := by decide +kernel
theorem dX4_road_4 : decode cX4_road 4 = .ok (.iload_n 1, 1) := by decide +kernel
theorem dX4_road_5 : decode cX4_road 5 = .ok (.invokevirtual 46, 3) := by decide +kernel
theorem dX4_road_8 : decode cX4_road 8 = .ok (.ifCond .eq 19, 3) := by decide +kernel
theorem dX4_road_11 : decode cX4_road 11 = .ok (.aload_n 0, 1) := by decide +kernel
theorem dX4_road_12 : decode cX4_road 12 = .ok (.getfield 12, 3) := by decide +kernel
theorem dX4_road_15 : decode cX4_road 15 = .ok (.iload_n 2, 1) := by decide +kernel
theorem dX4_road_16 : decode cX4_road 16 = .ok (.invokevirtual 46, 3) := by decide +kernel
theorem dX4_road_19 : decode cX4_road 19 = .ok (.ifCond .eq 8, 3) := by decide +kernel
theorem dX4_road_22 : decode cX4_road 22 = .ok (.iload_n 1, 1) := by decide +kernel
theorem dX4_road_23 : decode cX4_road 23 = .ok (.iload_n 2, 1) := by decide +kernel
theorem dX4_road_24 : decode cX4_road 24 = .ok (.if_icmp .ne 6, 3) := by decide +kernel
theorem dX4_road_27 : decode cX4_road 27 = .ok (.bipush (-14), 2) := by decide +kernel
theorem dX4_road_29 : decode cX4_road 29 = .ok (.ireturn, 1) := by decide +kernel
theorem dX4_road_30 : decode cX4_road 30 = .ok (.iload_n 3, 1) := by decide +kernel
theorem dX4_road_31 : decode cX4_road 31 = .ok (.iconst 1, 1) := by decide +kernel
theorem dX4_road_32 : decode cX4_road 32 = .ok (.if_icmp .lt 9, 3) := by decide +kernel
theorem dX4_road_35 : decode cX4_road 35 = .ok (.iload_n 3, 1) := by decide +kernel
theorem dX4_road_36 : decode cX4_road 36 = .ok (.ldc 50, 2) := by decide +kernel
theorem dX4_road_38 : decode cX4_road 38 = .ok (.if_icmp .le 5, 3) := by decide +kernel
theorem dX4_road_41 : decode cX4_road 41 = .ok (.iconst (-1), 1) := by decide +kernel
theorem dX4_road_42 : decode cX4_road 42 = .ok (.ireturn, 1) := by decide +kernel
theorem dX4_road_43 : decode cX4_road 43 = .ok (.aload_n 0, 1) := by decide +kernel
theorem dX4_road_44 : decode cX4_road 44 = .ok (.getfield 12, 3) := by decide +kernel
theorem dX4_road_47 : decode cX4_road 47 = .ok (.iload_n 1, 1) := by decide +kernel
theorem dX4_road_48 : decode cX4_road 48 = .ok (.iload_n 2, 1) := by decide +kernel
theorem dX4_road_49 : decode cX4_road 49 = .ok (.invokevirtual 51, 3) := by decide +kernel
theorem dX4_road_52 : decode cX4_road 52 = .ok (.istore 4, 2) := by decide +kernel
theorem dX4_road_54 : decode cX4_road 54 = .ok (.iload 4, 2) := by decide +kernel
theorem dX4_road_56 : decode cX4_road 56 = .ok (.ifCond .eq 31, 3) := by decide +kernel
theorem dX4_road_59 : decode cX4_road 59 = .ok (.aload_n 0, 1) := by decide +kernel
theorem dX4_road_60 : decode cX4_road 60 = .ok (.getfield 12, 3) := by decide +kernel
theorem dX4_road_63 : decode cX4_road 63 = .ok (.iload_n 1, 1) := by decide +kernel
theorem dX4_road_64 : decode cX4_road 64 = .ok (.iload_n 2, 1) := by decide +kernel
theorem dX4_road_65 : decode cX4_road 65 = .ok (.iload 4, 2) := by decide +kernel
theorem dX4_road_67 : decode cX4_road 67 = .ok (.ifCond .ge 8, 3) := by decide +kernel
theorem dX4_road_70 : decode cX4_road 70 = .ok (.iload_n 3, 1) := by decide +kernel
theorem dX4_road_71 : decode cX4_road 71 = .ok (.ineg, 1) := by decide +kernel
theorem dX4_road_72 : decode cX4_road 72 = .ok (.goto 4, 3) := by decide +kernel
theorem dX4_road_75 : decode cX4_road 75 = .ok (.iload_n 3, 1) := by decide +kernel
theorem dX4_road_76 : decode cX4_road 76 = .ok (.invokevirtual 55, 3) := by decide +kernel
theorem dX4_road_79 : decode cX4_road 79 = .ok (.aload_n 0, 1) := by decide +kernel
theorem dX4_road_80 : decode cX4_road 80 = .ok (.getfield 12, 3) := by decide +kernel
theorem dX4_road_83 : decode cX4_road 83 = .ok (.invokevirtual 59, 3) := by decide +kernel
theorem dX4_road_86 : decode cX4_road 86 = .ok (.ireturn, 1) := by decide +kernel
theorem dX4_road_87 : decode cX4_road 87 = .ok (.aload_n 0, 1) := by decide +kernel
theorem dX4_road_88 : decode cX4_road 88 = .ok (.getfield 12, 3) := by decide +kernel
theorem dX4_road_91 : decode cX4_road 91 = .ok (.invokevirtual 59, 3) := by decide +kernel
theorem dX4_road_94 : decode cX4_road 94 = .ok (.sipush 2000, 3) := by decide +kernel
theorem dX4_road_97 : decode cX4_road 97 = .ok (.if_icmp .lt 6, 3) := by decide +kernel
theorem dX4_road_100 : decode cX4_road 100 = .ok (.bipush (-12), 2) := by decide +kernel
theorem dX4_road_102 : decode cX4_road 102 = .ok (.ireturn, 1) := by decide +kernel
theorem dX4_road_103 : decode cX4_road 103 = .ok (.aload_n 0, 1) := by decide +kernel
theorem dX4_road_104 : decode cX4_road 104 = .ok (.getfield 12, 3) := by decide +kernel
theorem dX4_road_107 : decode cX4_road 107 = .ok (.iload_n 1, 1) := by decide +kernel
theorem dX4_road_108 : decode cX4_road 108 = .ok (.iload_n 2, 1) := by decide +kernel
theorem dX4_road_109 : decode cX4_road 109 = .ok (.iload_n 3, 1) := by decide +kernel
theorem dX4_road_110 : decode cX4_road 110 = .ok (.invokevirtual 63, 3) := by decide +kernel
theorem dX4_road_113 : decode cX4_road 113 = .ok (.aload_n 0, 1) := by decide +kernel
theorem dX4_road_114 : decode cX4_road 114 = .ok (.getfield 12, 3) := by decide +kernel
theorem dX4_road_117 : decode cX4_road 117 = .ok (.invokevirtual 59, 3) := by decide +kernel
theorem dX4_road_120 : decode cX4_road 120 = .ok (.ireturn, 1) := by decide +kernel
set_option maxRecDepth 20000 in
theorem ggX4_close_X1_signedCost : GoodIn wsX4_close wsX1_signedCost := goodIn_r _ [6, 7, 8, 9, 10, 5, 11, 12, 13, 14, 15, 16, 17, 18, 19, 20, 21, 22, 23, 24, 25, 26, 27, 28, 38, 39, 40, 41, 42] (by decide +kernel) (by decide +kernel)
set_option maxRecDepth 20000 in
theorem gX4_close_X1_signedCost : GoodIn wsX4_close (wsV RX4 51 RX1 yX1_signedCost wsX1_signedCost) := goodIn_app (goodIn_of _ (by decide +kernel)) ggX4_close_X1_signedCost
set_option maxRecDepth 20000 in
theorem ggX4_close_X1_change : GoodIn wsX4_close wsX1_change := goodIn_r _ [32, 7, 8, 9, 10, 5, 11, 12, 13, 14, 15, 16, 17, 18, 19, 20, 21, 22, 23, 24, 25, 26, 27, 28, 38, 39, 40, 41, 42] (by decide +kernel) (by decide +kernel)
set_option maxRecDepth 20000 in
theorem gX4_close_X1_change : GoodIn wsX4_close (wsV RX4 55 RX1 yX1_change wsX1_change) := goodIn_app (goodIn_of _ (by decide +kernel)) ggX4_close_X1_change
theorem dX4_close_0 : decode cX4_close 0 = .ok (.aload_n 0, 1) := by decide +kernel
theorem dX4_close_1 : decode cX4_close 1 = .ok (.getfield 12, 3) := by decide +kernel
theorem dX4_close_4 : decode cX4_close 4 = .ok (.iload_n 1, 1) := by decide +kernel
theorem dX4_close_5 : decode cX4_close 5 = .ok (.iload_n 2, 1) := by decide +kernel
theorem dX4_close_6 : decode cX4_close 6 = .ok (.invokevirtual 51, 3) := by decide +kernel
theorem dX4_close_9 : decode cX4_close 9 = .ok (.istore 4, 2) := by decide +kernel
theorem dX4_close_11 : decode cX4_close 11 = .ok (.iload 4, 2) := by decide +kernel
theorem dX4_close_13 : decode cX4_close 13 = .ok (.ifCond .eq 17, 3) := by decide +kernel
theorem dX4_close_16 : decode cX4_close 16 = .ok (.iload 4, 2) := by decide +kernel
theorem dX4_close_18 : decode cX4_close 18 = .ok (.ifCond .ge 7, 3) := by decide +kernel
theorem dX4_close_21 : decode cX4_close 21 = .ok (.iconst 1, 1) := by decide +kernel
theorem dX4_close_22 : decode cX4_close 22 = .ok (.goto 4, 3) := by decide +kernel
theorem dX4_close_25 : decode cX4_close 25 = .ok (.iconst 0, 1) := by decide +kernel
theorem dX4_close_26 : decode cX4_close 26 = .ok (.iload_n 3, 1) := by decide +kernel
theorem dX4_close_27 : decode cX4_close 27 = .ok (.if_icmp .ne 5, 3) := by decide +kernel
theorem dX4_close_30 : decode cX4_close 30 = .ok (.iconst 0, 1) := by decide +kernel
theorem dX4_close_31 : decode cX4_close 31 = .ok (.ireturn, 1) := by decide +kernel
theorem dX4_close_32 : decode cX4_close 32 = .ok (.aload_n 0, 1) := by decide +kernel
theorem dX4_close_33 : decode cX4_close 33 = .ok (.getfield 12, 3) := by decide +kernel
theorem dX4_close_36 : decode cX4_close 36 = .ok (.iload_n 1, 1) := by decide +kernel
theorem dX4_close_37 : decode cX4_close 37 = .ok (.iload_n 2, 1) := by decide +kernel
theorem dX4_close_38 : decode cX4_close 38 = .ok (.iload 4, 2) := by decide +kernel
theorem dX4_close_40 : decode cX4_close 40 = .ok (.ineg, 1) := by decide +kernel
theorem dX4_close_41 : decode cX4_close 41 = .ok (.invokevirtual 55, 3) := by decide +kernel
theorem dX4_close_44 : decode cX4_close 44 = .ok (.iconst 1, 1) := by decide +kernel
theorem dX4_close_45 : decode cX4_close 45 = .ok (.ireturn, 1) := by decide +kernel
set_option maxRecDepth 20000 in
theorem ggX4_cost_X1_signedCost : GoodIn wsX4_cost wsX1_signedCost := goodIn_r _ [6, 7, 8, 9, 10, 5, 11, 12, 13, 14, 15, 16, 17, 18, 19, 20, 21, 22, 23, 24, 25, 26, 27, 28, 34, 35, 36, 37, 38] (by decide +kernel) (by decide +kernel)
set_option maxRecDepth 20000 in
theorem gX4_cost_X1_signedCost : GoodIn wsX4_cost (wsV RX4 51 RX1 yX1_signedCost wsX1_signedCost) := goodIn_app (goodIn_of _ (by decide +kernel)) ggX4_cost_X1_signedCost
theorem dX4_cost_0 : decode cX4_cost 0 = .ok (.aload_n 0, 1) := by decide +kernel
theorem dX4_cost_1 : decode cX4_cost 1 = .ok (.getfield 12, 3) := by decide +kernel
theorem dX4_cost_4 : decode cX4_cost 4 = .ok (.iload_n 1, 1) := by decide +kernel
theorem dX4_cost_5 : decode cX4_cost 5 = .ok (.iload_n 2, 1) := by decide +kernel
theorem dX4_cost_6 : decode cX4_cost 6 = .ok (.invokevirtual 51, 3) := by decide +kernel
theorem dX4_cost_9 : decode cX4_cost 9 = .ok (.ireturn, 1) := by decide +kernel
set_option maxRecDepth 20000 in
theorem ggX4_bar_X1_hasNode : GoodIn wsX4_bar wsX1_hasNode := goodIn_r _ [7, 8, 44, 45, 46, 47, 48] (by decide +kernel) (by decide +kernel)
set_option maxRecDepth 20000 in
theorem gX4_bar_X1_hasNode : GoodIn wsX4_bar (wsV RX4 46 RX1 yX1_hasNode wsX1_hasNode) := goodIn_app (goodIn_of _ (by decide +kernel)) ggX4_bar_X1_hasNode
set_option maxRecDepth 20000 in
theorem ggX4_bar_X3_isBarred : GoodIn wsX4_bar wsX3_isBarred := goodIn_r _ [13, 14, 15, 16, 17, 12, 18, 19, 20, 21, 42, 43] (by decide +kernel) (by decide +kernel)
set_option maxRecDepth 20000 in
theorem gX4_bar_X3_isBarred : GoodIn wsX4_bar (wsV RX4 66 RX3 yX3_isBarred wsX3_isBarred) := goodIn_app (goodIn_of _ (by decide +kernel)) ggX4_bar_X3_isBarred
set_option maxRecDepth 20000 in
theorem ggX4_bar_X3_remove : GoodIn wsX4_bar wsX3_remove := goodIn_r _ [25, 14, 15, 26, 27, 28, 29, 16, 17, 12, 18, 19, 20, 21, 42, 43] (by decide +kernel) (by decide +kernel)
set_option maxRecDepth 20000 in
theorem gX4_bar_X3_remove : GoodIn wsX4_bar (wsV RX4 72 RX3 yX3_remove wsX3_remove) := goodIn_app (goodIn_of _ (by decide +kernel)) ggX4_bar_X3_remove
set_option maxRecDepth 20000 in
theorem ggX4_bar_X3_add : GoodIn wsX4_bar wsX3_add := goodIn_r _ [33, 15, 14, 16, 17, 12, 18, 19, 20, 21, 34, 35, 36, 27, 28, 29, 42, 43] (by decide +kernel) (by decide +kernel)
set_option maxRecDepth 20000 in
theorem gX4_bar_X3_add : GoodIn wsX4_bar (wsV RX4 75 RX3 yX3_add wsX3_add) := goodIn_app (goodIn_of _ (by decide +kernel)) ggX4_bar_X3_add
theorem dX4_bar_0 : decode cX4_bar 0 = .ok (.aload_n 0, 1) := by decide +kernel
theorem dX4_bar_1 : decode cX4_bar 1 = .ok (.getfield 12, 3) := by decide +kernel
theorem dX4_bar_4 : decode cX4_bar 4 = .ok (.iload_n 1, 1) := by decide +kernel
theorem dX4_bar_5 : decode cX4_bar 5 = .ok (.invokevirtual 46, 3) := by decide +kernel
theorem dX4_bar_8 : decode cX4_bar 8 = .ok (.ifCond .eq 35, 3) := by decide +kernel
theorem dX4_bar_11 : decode cX4_bar 11 = .ok (.aload_n 0, 1) := by decide +kernel
theorem dX4_bar_12 : decode cX4_bar 12 = .ok (.getfield 12, 3) := by decide +kernel
theorem dX4_bar_15 : decode cX4_bar 15 = .ok (.iload_n 2, 1) := by decide +kernel
theorem dX4_bar_16 : decode cX4_bar 16 = .ok (.invokevirtual 46, 3) := by decide +kernel
theorem dX4_bar_19 : decode cX4_bar 19 = .ok (.ifCond .eq 24, 3) := by decide +kernel
theorem dX4_bar_22 : decode cX4_bar 22 = .ok (.aload_n 0, 1) := by decide +kernel
theorem dX4_bar_23 : decode cX4_bar 23 = .ok (.getfield 12, 3) := by decide +kernel
theorem dX4_bar_26 : decode cX4_bar 26 = .ok (.iload_n 3, 1) := by decide +kernel
theorem dX4_bar_27 : decode cX4_bar 27 = .ok (.invokevirtual 46, 3) := by decide +kernel
theorem dX4_bar_30 : decode cX4_bar 30 = .ok (.ifCond .eq 13, 3) := by decide +kernel
theorem dX4_bar_33 : decode cX4_bar 33 = .ok (.iload_n 1, 1) := by decide +kernel
theorem dX4_bar_34 : decode cX4_bar 34 = .ok (.iload_n 2, 1) := by decide +kernel
theorem dX4_bar_35 : decode cX4_bar 35 = .ok (.if_icmp .eq 8, 3) := by decide +kernel
theorem dX4_bar_38 : decode cX4_bar 38 = .ok (.iload_n 2, 1) := by decide +kernel
theorem dX4_bar_39 : decode cX4_bar 39 = .ok (.iload_n 3, 1) := by decide +kernel
theorem dX4_bar_40 : decode cX4_bar 40 = .ok (.if_icmp .ne 6, 3) := by decide +kernel
theorem dX4_bar_43 : decode cX4_bar 43 = .ok (.bipush (-14), 2) := by decide +kernel
theorem dX4_bar_45 : decode cX4_bar 45 = .ok (.ireturn, 1) := by decide +kernel
theorem dX4_bar_46 : decode cX4_bar 46 = .ok (.aload_n 0, 1) := by decide +kernel
theorem dX4_bar_47 : decode cX4_bar 47 = .ok (.getfield 19, 3) := by decide +kernel
theorem dX4_bar_50 : decode cX4_bar 50 = .ok (.iload_n 1, 1) := by decide +kernel
theorem dX4_bar_51 : decode cX4_bar 51 = .ok (.iload_n 2, 1) := by decide +kernel
theorem dX4_bar_52 : decode cX4_bar 52 = .ok (.iload_n 3, 1) := by decide +kernel
theorem dX4_bar_53 : decode cX4_bar 53 = .ok (.invokevirtual 66, 3) := by decide +kernel
theorem dX4_bar_56 : decode cX4_bar 56 = .ok (.iload 4, 2) := by decide +kernel
theorem dX4_bar_58 : decode cX4_bar 58 = .ok (.if_icmp .ne 11, 3) := by decide +kernel
theorem dX4_bar_61 : decode cX4_bar 61 = .ok (.aload_n 0, 1) := by decide +kernel
theorem dX4_bar_62 : decode cX4_bar 62 = .ok (.getfield 19, 3) := by decide +kernel
theorem dX4_bar_65 : decode cX4_bar 65 = .ok (.getfield 70, 3) := by decide +kernel
theorem dX4_bar_68 : decode cX4_bar 68 = .ok (.ireturn, 1) := by decide +kernel
theorem dX4_bar_69 : decode cX4_bar 69 = .ok (.iload 4, 2) := by decide +kernel
theorem dX4_bar_71 : decode cX4_bar 71 = .ok (.ifCond .ne 21, 3) := by decide +kernel
theorem dX4_bar_74 : decode cX4_bar 74 = .ok (.aload_n 0, 1) := by decide +kernel
theorem dX4_bar_75 : decode cX4_bar 75 = .ok (.getfield 19, 3) := by decide +kernel
theorem dX4_bar_78 : decode cX4_bar 78 = .ok (.iload_n 1, 1) := by decide +kernel
theorem dX4_bar_79 : decode cX4_bar 79 = .ok (.iload_n 2, 1) := by decide +kernel
theorem dX4_bar_80 : decode cX4_bar 80 = .ok (.iload_n 3, 1) := by decide +kernel
theorem dX4_bar_81 : decode cX4_bar 81 = .ok (.invokevirtual 72, 3) := by decide +kernel
theorem dX4_bar_84 : decode cX4_bar 84 = .ok (.aload_n 0, 1) := by decide +kernel
theorem dX4_bar_85 : decode cX4_bar 85 = .ok (.getfield 19, 3) := by decide +kernel
theorem dX4_bar_88 : decode cX4_bar 88 = .ok (.getfield 70, 3) := by decide +kernel
theorem dX4_bar_91 : decode cX4_bar 91 = .ok (.ireturn, 1) := by decide +kernel
theorem dX4_bar_92 : decode cX4_bar 92 = .ok (.aload_n 0, 1) := by decide +kernel
theorem dX4_bar_93 : decode cX4_bar 93 = .ok (.getfield 19, 3) := by decide +kernel
theorem dX4_bar_96 : decode cX4_bar 96 = .ok (.getfield 70, 3) := by decide +kernel
theorem dX4_bar_99 : decode cX4_bar 99 = .ok (.sipush 200, 3) := by decide +kernel
theorem dX4_bar_102 : decode cX4_bar 102 = .ok (.if_icmp .lt 6, 3) := by decide +kernel
theorem dX4_bar_105 : decode cX4_bar 105 = .ok (.bipush (-12), 2) := by decide +kernel
theorem dX4_bar_107 : decode cX4_bar 107 = .ok (.ireturn, 1) := by decide +kernel
theorem dX4_bar_108 : decode cX4_bar 108 = .ok (.aload_n 0, 1) := by decide +kernel
theorem dX4_bar_109 : decode cX4_bar 109 = .ok (.getfield 19, 3) := by decide +kernel
theorem dX4_bar_112 : decode cX4_bar 112 = .ok (.iload_n 1, 1) := by decide +kernel
theorem dX4_bar_113 : decode cX4_bar 113 = .ok (.iload_n 2, 1) := by decide +kernel
theorem dX4_bar_114 : decode cX4_bar 114 = .ok (.iload_n 3, 1) := by decide +kernel
theorem dX4_bar_115 : decode cX4_bar 115 = .ok (.invokevirtual 75, 3) := by decide +kernel
theorem dX4_bar_118 : decode cX4_bar 118 = .ok (.aload_n 0, 1) := by decide +kernel
theorem dX4_bar_119 : decode cX4_bar 119 = .ok (.getfield 19, 3) := by decide +kernel
theorem dX4_bar_122 : decode cX4_bar 122 = .ok (.getfield 70, 3) := by decide +kernel
theorem dX4_bar_125 : decode cX4_bar 125 = .ok (.ireturn, 1) := by decide +kernel
set_option maxRecDepth 20000 in
theorem ggX4_route_X1_hasNode : GoodIn wsX4_route wsX1_hasNode := goodIn_r _ [11, 12, 118, 119, 120, 121, 122] (by decide +kernel) (by decide +kernel)
set_option maxRecDepth 20000 in
theorem gX4_route_X1_hasNode : GoodIn wsX4_route (wsV RX4 46 RX1 yX1_hasNode wsX1_hasNode) := goodIn_app (goodIn_of _ (by decide +kernel)) ggX4_route_X1_hasNode
set_option maxRecDepth 20000 in
theorem ggX4_route_X4_append : GoodIn wsX4_route wsX4_append := goodIn_r _ [17, 1, 18, 113, 114, 115, 116, 117] (by decide +kernel) (by decide +kernel)
set_option maxRecDepth 20000 in
theorem gX4_route_X4_append : GoodIn wsX4_route (wsV RX4 78 RX4 yX4_append wsX4_append) := goodIn_app (goodIn_of _ (by decide +kernel)) ggX4_route_X4_append
set_option maxRecDepth 20000 in
theorem ggX4_route_X2_begin : GoodIn wsX4_route wsX2_begin := goodIn_r _ [23, 24, 25, 26, 27, 28, 29, 30, 31, 22, 32, 33, 34, 35, 36, 37, 38, 39, 40, 10, 41, 42, 43, 44, 45, 46, 47, 48, 49, 50, 51, 52, 53, 54, 55, 56, 57, 58, 59, 60, 61, 62, 63, 16, 64, 65, 66, 67, 68, 69, 70, 71, 72, 73, 74, 75, 76, 77, 123, 124, 125, 126, 127, 128, 129, 130, 131, 132, 118, 119, 120, 121, 122, 133, 134] (by decide +kernel) (by decide +kernel)
set_option maxRecDepth 20000 in
theorem gX4_route_X2_begin : GoodIn wsX4_route (wsV RX4 81 RX2 yX2_begin wsX2_begin) := goodIn_app (goodIn_of _ (by decide +kernel)) ggX4_route_X2_begin
set_option maxRecDepth 20000 in
theorem ggX4_route_X2_weightOfFirstArrival : GoodIn wsX4_route wsX2_weightOfFirstArrival := goodIn_r _ [81, 25, 26, 27, 82, 83, 84, 73, 85, 75, 76, 77, 43, 44, 45, 10, 46, 47, 86, 87, 88, 89, 29, 30, 31, 22, 32, 28, 33, 34, 35, 36, 37, 38, 39, 40, 41, 42, 48, 49, 50, 51, 24, 52, 53, 54, 55, 56, 57, 58, 59, 60, 61, 62, 63, 16, 64, 65, 66, 67, 68, 69, 70, 71, 72, 74, 123, 124, 125, 126, 127, 128, 129, 130, 131, 132, 118, 119, 120, 121, 122, 133, 134] (by decide +kernel) (by decide +kernel)
set_option maxRecDepth 20000 in
theorem gX4_route_X2_weightOfFirstArrival : GoodIn wsX4_route (wsV RX4 85 RX2 yX2_weightOfFirstArrival wsX2_weightOfFirstArrival) := goodIn_app (goodIn_of _ (by decide +kernel)) ggX4_route_X2_weightOfFirstArrival
set_option maxRecDepth 20000 in
theorem ggX4_route_X4_layWay : GoodIn wsX4_route wsX4_layWay := goodIn_r _ [93, 4, 2, 13, 14, 15, 16, 17, 1, 18, 94, 95, 96, 22, 97, 26, 27, 43, 44, 45, 10, 46, 47, 98, 99, 100, 101, 102, 103, 8, 9, 11, 12, 104, 105, 106, 107, 108, 109, 110, 63, 64, 48, 49, 50, 51, 24, 52, 53, 54, 55, 56, 57, 58, 59, 60, 61, 62, 111, 66, 67, 68, 42, 69, 112, 87, 88, 89, 113, 114, 115, 116, 117, 123, 124, 125, 126, 127, 128, 129, 118, 119, 120, 121, 122, 133, 134] (by decide +kernel) (by decide +kernel)
set_option maxRecDepth 20000 in
theorem gX4_route_X4_layWay : GoodIn wsX4_route (wsV RX4 91 RX4 yX4_layWay wsX4_layWay) := goodIn_app (goodIn_of _ (by decide +kernel)) ggX4_route_X4_layWay
theorem dX4_route_0 : decode cX4_route 0 = .ok (.aload_n 0, 1) := by decide +kernel
theorem dX4_route_1 : decode cX4_route 1 = .ok (.iconst 0, 1) := by decide +kernel
theorem dX4_route_2 : decode cX4_route 2 = .ok (.putfield 36, 3) := by decide +kernel
theorem dX4_route_5 : decode cX4_route 5 = .ok (.aload_n 0, 1) := by decide +kernel
theorem dX4_route_6 : decode cX4_route 6 = .ok (.getfield 12, 3) := by decide +kernel
theorem dX4_route_9 : decode cX4_route 9 = .ok (.iload_n 1, 1) := by decide +kernel
theorem dX4_route_10 : decode cX4_route 10 = .ok (.invokevirtual 46, 3) := by decide +kernel
theorem dX4_route_13 : decode cX4_route 13 = .ok (.ifCond .eq 14, 3) := by decide +kernel
theorem dX4_route_16 : decode cX4_route 16 = .ok (.aload_n 0, 1) := by decide +kernel
theorem dX4_route_17 : decode cX4_route 17 = .ok (.getfield 12, 3) := by decide +kernel
theorem dX4_route_20 : decode cX4_route 20 = .ok (.iload_n 2, 1) := by decide +kernel
theorem dX4_route_21 : decode cX4_route 21 = .ok (.invokevirtual 46, 3) := by decide +kernel
theorem dX4_route_24 : decode cX4_route 24 = .ok (.ifCond .ne 7, 3) := by decide +kernel
theorem dX4_route_27 : decode cX4_route 27 = .ok (.ldc2_w 76, 3) := by decide +kernel
theorem dX4_route_30 : decode cX4_route 30 = .ok (.lreturn, 1) := by decide +kernel
theorem dX4_route_31 : decode cX4_route 31 = .ok (.iload_n 1, 1) := by decide +kernel
theorem dX4_route_32 : decode cX4_route 32 = .ok (.iload_n 2, 1) := by decide +kernel
theorem dX4_route_33 : decode cX4_route 33 = .ok (.if_icmp .ne 10, 3) := by decide +kernel
theorem dX4_route_36 : decode cX4_route 36 = .ok (.aload_n 0, 1) := by decide +kernel
theorem dX4_route_37 : decode cX4_route 37 = .ok (.iload_n 1, 1) := by decide +kernel
theorem dX4_route_38 : decode cX4_route 38 = .ok (.invokevirtual 78, 3) := by decide +kernel
theorem dX4_route_41 : decode cX4_route 41 = .ok (.lconst 0, 1) := by decide +kernel
theorem dX4_route_42 : decode cX4_route 42 = .ok (.lreturn, 1) := by decide +kernel
theorem dX4_route_43 : decode cX4_route 43 = .ok (.aload_n 0, 1) := by decide +kernel
theorem dX4_route_44 : decode cX4_route 44 = .ok (.getfield 28, 3) := by decide +kernel
theorem dX4_route_47 : decode cX4_route 47 = .ok (.iload_n 2, 1) := by decide +kernel
theorem dX4_route_48 : decode cX4_route 48 = .ok (.iconst 1, 1) := by decide +kernel
theorem dX4_route_49 : decode cX4_route 49 = .ok (.invokevirtual 81, 3) := by decide +kernel
theorem dX4_route_52 : decode cX4_route 52 = .ok (.aload_n 0, 1) := by decide +kernel
theorem dX4_route_53 : decode cX4_route 53 = .ok (.getfield 28, 3) := by decide +kernel
theorem dX4_route_56 : decode cX4_route 56 = .ok (.iload_n 1, 1) := by decide +kernel
theorem dX4_route_57 : decode cX4_route 57 = .ok (.invokevirtual 85, 3) := by decide +kernel
theorem dX4_route_60 : decode cX4_route 60 = .ok (.lstore_n 3, 1) := by decide +kernel
theorem dX4_route_61 : decode cX4_route 61 = .ok (.lload_n 3, 1) := by decide +kernel
theorem dX4_route_62 : decode cX4_route 62 = .ok (.lconst 0, 1) := by decide +kernel
theorem dX4_route_63 : decode cX4_route 63 = .ok (.lcmp, 1) := by decide +kernel
theorem dX4_route_64 : decode cX4_route 64 = .ok (.ifCond .ne 7, 3) := by decide +kernel
theorem dX4_route_67 : decode cX4_route 67 = .ok (.ldc2_w 89, 3) := by decide +kernel
theorem dX4_route_70 : decode cX4_route 70 = .ok (.lreturn, 1) := by decide +kernel
theorem dX4_route_71 : decode cX4_route 71 = .ok (.aload_n 0, 1) := by decide +kernel
theorem dX4_route_72 : decode cX4_route 72 = .ok (.iload_n 1, 1) := by decide +kernel
theorem dX4_route_73 : decode cX4_route 73 = .ok (.lload_n 3, 1) := by decide +kernel
theorem dX4_route_74 : decode cX4_route 74 = .ok (.invokevirtual 91, 3) := by decide +kernel
theorem dX4_route_77 : decode cX4_route 77 = .ok (.lload_n 3, 1) := by decide +kernel
theorem dX4_route_78 : decode cX4_route 78 = .ok (.ldc2_w 95, 3) := by decide +kernel
theorem dX4_route_81 : decode cX4_route 81 = .ok (.ldiv, 1) := by decide +kernel
theorem dX4_route_82 : decode cX4_route 82 = .ok (.lreturn, 1) := by decide +kernel
theorem dX4_length_0 : decode cX4_length 0 = .ok (.aload_n 0, 1) := by decide +kernel
theorem dX4_length_1 : decode cX4_length 1 = .ok (.getfield 36, 3) := by decide +kernel
theorem dX4_length_4 : decode cX4_length 4 = .ok (.ireturn, 1) := by decide +kernel
theorem dX4_node_0 : decode cX4_node 0 = .ok (.iload_n 1, 1) := by decide +kernel
theorem dX4_node_1 : decode cX4_node 1 = .ok (.ifCond .lt 20, 3) := by decide +kernel
theorem dX4_node_4 : decode cX4_node 4 = .ok (.iload_n 1, 1) := by decide +kernel
theorem dX4_node_5 : decode cX4_node 5 = .ok (.aload_n 0, 1) := by decide +kernel
theorem dX4_node_6 : decode cX4_node 6 = .ok (.getfield 36, 3) := by decide +kernel
theorem dX4_node_9 : decode cX4_node 9 = .ok (.if_icmp .ge 12, 3) := by decide +kernel
theorem dX4_node_12 : decode cX4_node 12 = .ok (.aload_n 0, 1) := by decide +kernel
theorem dX4_node_13 : decode cX4_node 13 = .ok (.getfield 32, 3) := by decide +kernel
theorem dX4_node_16 : decode cX4_node 16 = .ok (.iload_n 1, 1) := by decide +kernel
theorem dX4_node_17 : decode cX4_node 17 = .ok (.iaload, 1) := by decide +kernel
theorem dX4_node_18 : decode cX4_node 18 = .ok (.goto 4, 3) := by decide +kernel
theorem dX4_node_21 : decode cX4_node 21 = .ok (.iconst (-1), 1) := by decide +kernel
theorem dX4_node_22 : decode cX4_node 22 = .ok (.ireturn, 1) := by decide +kernel
set_option maxRecDepth 20000 in
theorem ggX4_within_X1_hasNode : GoodIn wsX4_within wsX1_hasNode := goodIn_r _ [7, 8, 87, 88, 89, 90, 91] (by decide +kernel) (by decide +kernel)
set_option maxRecDepth 20000 in
theorem gX4_within_X1_hasNode : GoodIn wsX4_within (wsV RX4 46 RX1 yX1_hasNode wsX1_hasNode) := goodIn_app (goodIn_of _ (by decide +kernel)) ggX4_within_X1_hasNode
set_option maxRecDepth 20000 in
theorem ggX4_within_X2_begin : GoodIn wsX4_within wsX2_begin := goodIn_r _ [13, 14, 15, 16, 17, 18, 19, 20, 21, 12, 22, 23, 24, 25, 26, 27, 28, 29, 30, 6, 31, 32, 33, 34, 35, 36, 37, 38, 39, 40, 41, 42, 43, 44, 45, 46, 47, 48, 49, 50, 51, 52, 53, 54, 55, 56, 57, 58, 59, 60, 61, 62, 63, 64, 65, 66, 67, 68, 92, 93, 94, 95, 96, 97, 98, 99, 100, 101, 87, 88, 89, 90, 91, 102, 103] (by decide +kernel) (by decide +kernel)
set_option maxRecDepth 20000 in
theorem gX4_within_X2_begin : GoodIn wsX4_within (wsV RX4 81 RX2 yX2_begin wsX2_begin) := goodIn_app (goodIn_of _ (by decide +kernel)) ggX4_within_X2_begin
set_option maxRecDepth 20000 in
theorem ggX4_within_X2_countOtherNodes : GoodIn wsX4_within wsX2_countOtherNodes := goodIn_r _ [72, 15, 17, 73, 18, 16, 74, 75, 76, 64, 77, 66, 67, 68, 33, 34, 35, 6, 36, 37, 78, 79, 80, 81, 19, 20, 21, 12, 22, 23, 24, 25, 26, 27, 28, 29, 30, 31, 32, 38, 39, 40, 41, 14, 42, 43, 44, 45, 46, 47, 48, 49, 50, 51, 52, 53, 54, 55, 56, 57, 58, 59, 60, 61, 62, 63, 65, 92, 93, 94, 95, 96, 97, 98, 99, 100, 101, 87, 88, 89, 90, 91, 102, 103] (by decide +kernel) (by decide +kernel)
set_option maxRecDepth 20000 in
theorem gX4_within_X2_countOtherNodes : GoodIn wsX4_within (wsV RX4 97 RX2 yX2_countOtherNodes wsX2_countOtherNodes) := goodIn_app (goodIn_of _ (by decide +kernel)) ggX4_within_X2_countOtherNodes
theorem dX4_within_0 : decode cX4_within 0 = .ok (.aload_n 0, 1) := by decide +kernel
theorem dX4_within_1 : decode cX4_within 1 = .ok (.getfield 12, 3) := by decide +kernel
theorem dX4_within_4 : decode cX4_within 4 = .ok (.iload_n 1, 1) := by decide +kernel
theorem dX4_within_5 : decode cX4_within 5 = .ok (.invokevirtual 46, 3) := by decide +kernel
theorem dX4_within_8 : decode cX4_within 8 = .ok (.ifCond .ne 6, 3) := by decide +kernel
theorem dX4_within_11 : decode cX4_within 11 = .ok (.bipush (-14), 2) := by decide +kernel
theorem dX4_within_13 : decode cX4_within 13 = .ok (.ireturn, 1) := by decide +kernel
theorem dX4_within_14 : decode cX4_within 14 = .ok (.lload_n 2, 1) := by decide +kernel
theorem dX4_within_15 : decode cX4_within 15 = .ok (.lconst 0, 1) := by decide +kernel
theorem dX4_within_16 : decode cX4_within 16 = .ok (.lcmp, 1) := by decide +kernel
theorem dX4_within_17 : decode cX4_within 17 = .ok (.ifCond .ge 5, 3) := by decide +kernel
theorem dX4_within_20 : decode cX4_within 20 = .ok (.iconst 0, 1) := by decide +kernel
theorem dX4_within_21 : decode cX4_within 21 = .ok (.ireturn, 1) := by decide +kernel
theorem dX4_within_22 : decode cX4_within 22 = .ok (.aload_n 0, 1) := by decide +kernel
theorem dX4_within_23 : decode cX4_within 23 = .ok (.getfield 28, 3) := by decide +kernel
theorem dX4_within_26 : decode cX4_within 26 = .ok (.iload_n 1, 1) := by decide +kernel
theorem dX4_within_27 : decode cX4_within 27 = .ok (.iconst 0, 1) := by decide +kernel
theorem dX4_within_28 : decode cX4_within 28 = .ok (.invokevirtual 81, 3) := by decide +kernel
theorem dX4_within_31 : decode cX4_within 31 = .ok (.iconst 1, 1) := by decide +kernel
theorem dX4_within_32 : decode cX4_within 32 = .ok (.aload_n 0, 1) := by decide +kernel
theorem dX4_within_33 : decode cX4_within 33 = .ok (.getfield 28, 3) := by decide +kernel
theorem dX4_within_36 : decode cX4_within 36 = .ok (.lload_n 2, 1) := by decide +kernel
theorem dX4_within_37 : decode cX4_within 37 = .ok (.invokevirtual 97, 3) := by decide +kernel
theorem dX4_within_40 : decode cX4_within 40 = .ok (.iadd, 1) := by decide +kernel
theorem dX4_within_41 : decode cX4_within 41 = .ok (.ireturn, 1) := by decide +kernel
theorem dX4_append_0 : decode cX4_append 0 = .ok (.aload_n 0, 1) := by decide +kernel
theorem dX4_append_1 : decode cX4_append 1 = .ok (.getfield 36, 3) := by decide +kernel
theorem dX4_append_4 : decode cX4_append 4 = .ok (.aload_n 0, 1) := by decide +kernel
theorem dX4_append_5 : decode cX4_append 5 = .ok (.getfield 32, 3) := by decide +kernel
theorem dX4_append_8 : decode cX4_append 8 = .ok (.arraylength, 1) := by decide +kernel
theorem dX4_append_9 : decode cX4_append 9 = .ok (.if_icmp .ge 23, 3) := by decide +kernel
theorem dX4_append_12 : decode cX4_append 12 = .ok (.aload_n 0, 1) := by decide +kernel
theorem dX4_append_13 : decode cX4_append 13 = .ok (.getfield 32, 3) := by decide +kernel
theorem dX4_append_16 : decode cX4_append 16 = .ok (.aload_n 0, 1) := by decide +kernel
theorem dX4_append_17 : decode cX4_append 17 = .ok (.getfield 36, 3) := by decide +kernel
theorem dX4_append_20 : decode cX4_append 20 = .ok (.iload_n 1, 1) := by decide +kernel
theorem dX4_append_21 : decode cX4_append 21 = .ok (.iastore, 1) := by decide +kernel
theorem dX4_append_22 : decode cX4_append 22 = .ok (.aload_n 0, 1) := by decide +kernel
theorem dX4_append_23 : decode cX4_append 23 = .ok (.dup, 1) := by decide +kernel
theorem dX4_append_24 : decode cX4_append 24 = .ok (.getfield 36, 3) := by decide +kernel
theorem dX4_append_27 : decode cX4_append 27 = .ok (.iconst 1, 1) := by decide +kernel
theorem dX4_append_28 : decode cX4_append 28 = .ok (.iadd, 1) := by decide +kernel
theorem dX4_append_29 : decode cX4_append 29 = .ok (.putfield 36, 3) := by decide +kernel
theorem dX4_append_32 : decode cX4_append 32 = .ok (.return_, 1) := by decide +kernel
set_option maxRecDepth 20000 in
theorem ggX4_layWay_X4_append : GoodIn wsX4_layWay wsX4_append := goodIn_r _ [7, 8, 9, 68, 69, 70, 71, 72] (by decide +kernel) (by decide +kernel)
set_option maxRecDepth 20000 in
theorem gX4_layWay_X4_append : GoodIn wsX4_layWay (wsV RX4 78 RX4 yX4_append wsX4_append) := goodIn_app (goodIn_of _ (by decide +kernel)) ggX4_layWay_X4_append
set_option maxRecDepth 20000 in
theorem ggX4_layWay_X2_leastArcBackTo : GoodIn wsX4_layWay wsX2_leastArcBackTo := goodIn_r _ [14, 15, 16, 17, 18, 19, 20, 21, 22, 23, 24, 25, 26, 27, 28, 29, 30, 31, 32, 33, 34, 35, 36, 37, 38, 39, 40, 6, 41, 42, 43, 44, 13, 45, 46, 47, 48, 49, 50, 51, 52, 53, 54, 55, 56, 57, 73, 74, 75, 76, 77, 78, 79, 80, 81, 82, 83, 84, 85, 86] (by decide +kernel) (by decide +kernel)
set_option maxRecDepth 20000 in
theorem gX4_layWay_X2_leastArcBackTo : GoodIn wsX4_layWay (wsV RX4 101 RX2 yX2_leastArcBackTo wsX2_leastArcBackTo) := goodIn_app (goodIn_of _ (by decide +kernel)) ggX4_layWay_X2_leastArcBackTo
set_option maxRecDepth 20000 in
theorem ggX4_layWay_X1_weightOf : GoodIn wsX4_layWay wsX1_weightOf := goodIn_r _ [61, 62, 63, 80, 81, 82, 83, 84] (by decide +kernel) (by decide +kernel)
set_option maxRecDepth 20000 in
theorem gX4_layWay_X1_weightOf : GoodIn wsX4_layWay (wsV RX4 105 RX1 yX1_weightOf wsX1_weightOf) := goodIn_app (goodIn_of _ (by decide +kernel)) ggX4_layWay_X1_weightOf
set_option maxRecDepth 20000 in
theorem ggX4_layWay_X1_originOf : GoodIn wsX4_layWay wsX1_originOf := goodIn_r _ [67, 22, 80, 81, 82, 83, 84] (by decide +kernel) (by decide +kernel)
set_option maxRecDepth 20000 in
theorem gX4_layWay_X1_originOf : GoodIn wsX4_layWay (wsV RX4 108 RX1 yX1_originOf wsX1_originOf) := goodIn_app (goodIn_of _ (by decide +kernel)) ggX4_layWay_X1_originOf
theorem dX4_layWay_0 : decode cX4_layWay 0 = .ok (.iconst (-1), 1) := by decide +kernel
theorem dX4_layWay_1 : decode cX4_layWay 1 = .ok (.istore 4, 2) := by decide +kernel
theorem dX4_layWay_3 : decode cX4_layWay 3 = .ok (.iload_n 1, 1) := by decide +kernel
theorem dX4_layWay_4 : decode cX4_layWay 4 = .ok (.istore 5, 2) := by decide +kernel
theorem dX4_layWay_6 : decode cX4_layWay 6 = .ok (.lload_n 2, 1) := by decide +kernel
theorem dX4_layWay_7 : decode cX4_layWay 7 = .ok (.lstore 6, 2) := by decide +kernel
theorem dX4_layWay_9 : decode cX4_layWay 9 = .ok (.aload_n 0, 1) := by decide +kernel
theorem dX4_layWay_10 : decode cX4_layWay 10 = .ok (.iload 5, 2) := by decide +kernel
theorem dX4_layWay_12 : decode cX4_layWay 12 = .ok (.invokevirtual 78, 3) := by decide +kernel
theorem dX4_layWay_15 : decode cX4_layWay 15 = .ok (.iconst 0, 1) := by decide +kernel
theorem dX4_layWay_16 : decode cX4_layWay 16 = .ok (.istore 8, 2) := by decide +kernel
theorem dX4_layWay_18 : decode cX4_layWay 18 = .ok (.iload 8, 2) := by decide +kernel
theorem dX4_layWay_20 : decode cX4_layWay 20 = .ok (.sipush 4000, 3) := by decide +kernel
theorem dX4_layWay_23 : decode cX4_layWay 23 = .ok (.if_icmp .ge 73, 3) := by decide +kernel
theorem dX4_layWay_26 : decode cX4_layWay 26 = .ok (.lload 6, 2) := by decide +kernel
theorem dX4_layWay_28 : decode cX4_layWay 28 = .ok (.lconst 0, 1) := by decide +kernel
theorem dX4_layWay_29 : decode cX4_layWay 29 = .ok (.lcmp, 1) := by decide +kernel
theorem dX4_layWay_30 : decode cX4_layWay 30 = .ok (.ifCond .le 66, 3) := by decide +kernel
theorem dX4_layWay_33 : decode cX4_layWay 33 = .ok (.aload_n 0, 1) := by decide +kernel
theorem dX4_layWay_34 : decode cX4_layWay 34 = .ok (.getfield 28, 3) := by decide +kernel
theorem dX4_layWay_37 : decode cX4_layWay 37 = .ok (.iload 5, 2) := by decide +kernel
theorem dX4_layWay_39 : decode cX4_layWay 39 = .ok (.iload 4, 2) := by decide +kernel
theorem dX4_layWay_41 : decode cX4_layWay 41 = .ok (.lload 6, 2) := by decide +kernel
theorem dX4_layWay_43 : decode cX4_layWay 43 = .ok (.invokevirtual 101, 3) := by decide +kernel
theorem dX4_layWay_46 : decode cX4_layWay 46 = .ok (.istore 9, 2) := by decide +kernel
theorem dX4_layWay_48 : decode cX4_layWay 48 = .ok (.iload 9, 2) := by decide +kernel
theorem dX4_layWay_50 : decode cX4_layWay 50 = .ok (.iconst (-1), 1) := by decide +kernel
theorem dX4_layWay_51 : decode cX4_layWay 51 = .ok (.if_icmp .ne 4, 3) := by decide +kernel
theorem dX4_layWay_54 : decode cX4_layWay 54 = .ok (.return_, 1) := by decide +kernel
theorem dX4_layWay_55 : decode cX4_layWay 55 = .ok (.lload 6, 2) := by decide +kernel
theorem dX4_layWay_57 : decode cX4_layWay 57 = .ok (.aload_n 0, 1) := by decide +kernel
theorem dX4_layWay_58 : decode cX4_layWay 58 = .ok (.getfield 12, 3) := by decide +kernel
theorem dX4_layWay_61 : decode cX4_layWay 61 = .ok (.iload 9, 2) := by decide +kernel
theorem dX4_layWay_63 : decode cX4_layWay 63 = .ok (.invokevirtual 105, 3) := by decide +kernel
theorem dX4_layWay_66 : decode cX4_layWay 66 = .ok (.lsub, 1) := by decide +kernel
theorem dX4_layWay_67 : decode cX4_layWay 67 = .ok (.lstore 6, 2) := by decide +kernel
theorem dX4_layWay_69 : decode cX4_layWay 69 = .ok (.iload 5, 2) := by decide +kernel
theorem dX4_layWay_71 : decode cX4_layWay 71 = .ok (.istore 4, 2) := by decide +kernel
theorem dX4_layWay_73 : decode cX4_layWay 73 = .ok (.aload_n 0, 1) := by decide +kernel
theorem dX4_layWay_74 : decode cX4_layWay 74 = .ok (.getfield 12, 3) := by decide +kernel
theorem dX4_layWay_77 : decode cX4_layWay 77 = .ok (.iload 9, 2) := by decide +kernel
theorem dX4_layWay_79 : decode cX4_layWay 79 = .ok (.invokevirtual 108, 3) := by decide +kernel
theorem dX4_layWay_82 : decode cX4_layWay 82 = .ok (.istore 5, 2) := by decide +kernel
theorem dX4_layWay_84 : decode cX4_layWay 84 = .ok (.aload_n 0, 1) := by decide +kernel
theorem dX4_layWay_85 : decode cX4_layWay 85 = .ok (.iload 5, 2) := by decide +kernel
theorem dX4_layWay_87 : decode cX4_layWay 87 = .ok (.invokevirtual 78, 3) := by decide +kernel
theorem dX4_layWay_90 : decode cX4_layWay 90 = .ok (.iinc 8 1, 3) := by decide +kernel
theorem dX4_layWay_93 : decode cX4_layWay 93 = .ok (.goto (-75), 3) := by decide +kernel
theorem dX4_layWay_96 : decode cX4_layWay 96 = .ok (.return_, 1) := by decide +kernel
theorem dX4_placeIn_0 : decode cX4_placeIn 0 = .ok (.iload_n 1, 1) := by decide +kernel
theorem dX4_placeIn_1 : decode cX4_placeIn 1 = .ok (.istore 4, 2) := by decide +kernel
theorem dX4_placeIn_3 : decode cX4_placeIn 3 = .ok (.iload_n 2, 1) := by decide +kernel
theorem dX4_placeIn_4 : decode cX4_placeIn 4 = .ok (.istore 5, 2) := by decide +kernel
theorem dX4_placeIn_6 : decode cX4_placeIn 6 = .ok (.iload 4, 2) := by decide +kernel
theorem dX4_placeIn_8 : decode cX4_placeIn 8 = .ok (.iload 5, 2) := by decide +kernel
theorem dX4_placeIn_10 : decode cX4_placeIn 10 = .ok (.if_icmp .ge 39, 3) := by decide +kernel
theorem dX4_placeIn_13 : decode cX4_placeIn 13 = .ok (.iload 4, 2) := by decide +kernel
theorem dX4_placeIn_15 : decode cX4_placeIn 15 = .ok (.iload 5, 2) := by decide +kernel
theorem dX4_placeIn_17 : decode cX4_placeIn 17 = .ok (.iload 4, 2) := by decide +kernel
theorem dX4_placeIn_19 : decode cX4_placeIn 19 = .ok (.isub, 1) := by decide +kernel
theorem dX4_placeIn_20 : decode cX4_placeIn 20 = .ok (.iconst 2, 1) := by decide +kernel
theorem dX4_placeIn_21 : decode cX4_placeIn 21 = .ok (.idiv, 1) := by decide +kernel
theorem dX4_placeIn_22 : decode cX4_placeIn 22 = .ok (.iadd, 1) := by decide +kernel
theorem dX4_placeIn_23 : decode cX4_placeIn 23 = .ok (.istore 6, 2) := by decide +kernel
theorem dX4_placeIn_25 : decode cX4_placeIn 25 = .ok (.aload_n 0, 1) := by decide +kernel
theorem dX4_placeIn_26 : decode cX4_placeIn 26 = .ok (.iload 6, 2) := by decide +kernel
theorem dX4_placeIn_28 : decode cX4_placeIn 28 = .ok (.iaload, 1) := by decide +kernel
theorem dX4_placeIn_29 : decode cX4_placeIn 29 = .ok (.iload_n 3, 1) := by decide +kernel
theorem dX4_placeIn_30 : decode cX4_placeIn 30 = .ok (.if_icmp .ge 12, 3) := by decide +kernel
theorem dX4_placeIn_33 : decode cX4_placeIn 33 = .ok (.iload 6, 2) := by decide +kernel
theorem dX4_placeIn_35 : decode cX4_placeIn 35 = .ok (.iconst 1, 1) := by decide +kernel
theorem dX4_placeIn_36 : decode cX4_placeIn 36 = .ok (.iadd, 1) := by decide +kernel
theorem dX4_placeIn_37 : decode cX4_placeIn 37 = .ok (.istore 4, 2) := by decide +kernel
theorem dX4_placeIn_39 : decode cX4_placeIn 39 = .ok (.goto 7, 3) := by decide +kernel
theorem dX4_placeIn_42 : decode cX4_placeIn 42 = .ok (.iload 6, 2) := by decide +kernel
theorem dX4_placeIn_44 : decode cX4_placeIn 44 = .ok (.istore 5, 2) := by decide +kernel
theorem dX4_placeIn_46 : decode cX4_placeIn 46 = .ok (.goto (-40), 3) := by decide +kernel
theorem dX4_placeIn_49 : decode cX4_placeIn 49 = .ok (.iload 4, 2) := by decide +kernel
theorem dX4_placeIn_51 : decode cX4_placeIn 51 = .ok (.ireturn, 1) := by decide +kernel
theorem dX4_insert_0 : decode cX4_insert 0 = .ok (.iload_n 2, 1) := by decide +kernel
theorem dX4_insert_1 : decode cX4_insert 1 = .ok (.ifCond .lt 14, 3) := by decide +kernel
theorem dX4_insert_4 : decode cX4_insert 4 = .ok (.iload_n 2, 1) := by decide +kernel
theorem dX4_insert_5 : decode cX4_insert 5 = .ok (.iload_n 1, 1) := by decide +kernel
theorem dX4_insert_6 : decode cX4_insert 6 = .ok (.if_icmp .gt 9, 3) := by decide +kernel
theorem dX4_insert_9 : decode cX4_insert 9 = .ok (.iload_n 1, 1) := by decide +kernel
theorem dX4_insert_10 : decode cX4_insert 10 = .ok (.aload_n 0, 1) := by decide +kernel
theorem dX4_insert_11 : decode cX4_insert 11 = .ok (.arraylength, 1) := by decide +kernel
theorem dX4_insert_12 : decode cX4_insert 12 = .ok (.if_icmp .lt 4, 3) := by decide +kernel
theorem dX4_insert_15 : decode cX4_insert 15 = .ok (.return_, 1) := by decide +kernel
theorem dX4_insert_16 : decode cX4_insert 16 = .ok (.aload_n 0, 1) := by decide +kernel
theorem dX4_insert_17 : decode cX4_insert 17 = .ok (.iload_n 2, 1) := by decide +kernel
theorem dX4_insert_18 : decode cX4_insert 18 = .ok (.aload_n 0, 1) := by decide +kernel
theorem dX4_insert_19 : decode cX4_insert 19 = .ok (.iload_n 2, 1) := by decide +kernel
theorem dX4_insert_20 : decode cX4_insert 20 = .ok (.iconst 1, 1) := by decide +kernel
theorem dX4_insert_21 : decode cX4_insert 21 = .ok (.iadd, 1) := by decide +kernel
theorem dX4_insert_22 : decode cX4_insert 22 = .ok (.iload_n 1, 1) := by decide +kernel
theorem dX4_insert_23 : decode cX4_insert 23 = .ok (.iload_n 2, 1) := by decide +kernel
theorem dX4_insert_24 : decode cX4_insert 24 = .ok (.isub, 1) := by decide +kernel
theorem dX4_insert_25 : decode cX4_insert 25 = .ok (.invokestatic 112, 3) := by decide +kernel
theorem dX4_insert_28 : decode cX4_insert 28 = .ok (.aload_n 0, 1) := by decide +kernel
theorem dX4_insert_29 : decode cX4_insert 29 = .ok (.iload_n 2, 1) := by decide +kernel
theorem dX4_insert_30 : decode cX4_insert 30 = .ok (.iload_n 3, 1) := by decide +kernel
theorem dX4_insert_31 : decode cX4_insert 31 = .ok (.iastore, 1) := by decide +kernel
theorem dX4_insert_32 : decode cX4_insert 32 = .ok (.return_, 1) := by decide +kernel
theorem dX5_init_0 : decode cX5_init 0 = .ok (.aload_n 0, 1) := by decide +kernel
theorem dX5_init_1 : decode cX5_init 1 = .ok (.invokespecial 1, 3) := by decide +kernel
theorem dX5_init_4 : decode cX5_init 4 = .ok (.aload_n 0, 1) := by decide +kernel
theorem dX5_init_5 : decode cX5_init 5 = .ok (.iconst 1, 1) := by decide +kernel
theorem dX5_init_6 : decode cX5_init 6 = .ok (.putfield 7, 3) := by decide +kernel
theorem dX5_init_9 : decode cX5_init 9 = .ok (.aload_n 0, 1) := by decide +kernel
theorem dX5_init_10 : decode cX5_init 10 = .ok (.sipush 2000, 3) := by decide +kernel
theorem dX5_init_13 : decode cX5_init 13 = .ok (.newarray .int, 2) := by decide +kernel
theorem dX5_init_15 : decode cX5_init 15 = .ok (.putfield 13, 3) := by decide +kernel
theorem dX5_init_18 : decode cX5_init 18 = .ok (.aload_n 0, 1) := by decide +kernel
theorem dX5_init_19 : decode cX5_init 19 = .ok (.sipush 2000, 3) := by decide +kernel
theorem dX5_init_22 : decode cX5_init 22 = .ok (.newarray .int, 2) := by decide +kernel
theorem dX5_init_24 : decode cX5_init 24 = .ok (.putfield 17, 3) := by decide +kernel
theorem dX5_init_27 : decode cX5_init 27 = .ok (.aload_n 0, 1) := by decide +kernel
theorem dX5_init_28 : decode cX5_init 28 = .ok (.sipush 2000, 3) := by decide +kernel
theorem dX5_init_31 : decode cX5_init 31 = .ok (.newarray .int, 2) := by decide +kernel
theorem dX5_init_33 : decode cX5_init 33 = .ok (.putfield 20, 3) := by decide +kernel
theorem dX5_init_36 : decode cX5_init 36 = .ok (.aload_n 0, 1) := by decide +kernel
theorem dX5_init_37 : decode cX5_init 37 = .ok (.sipush 2000, 3) := by decide +kernel
theorem dX5_init_40 : decode cX5_init 40 = .ok (.newarray .boolean, 2) := by decide +kernel
theorem dX5_init_42 : decode cX5_init 42 = .ok (.putfield 23, 3) := by decide +kernel
theorem dX5_init_45 : decode cX5_init 45 = .ok (.aload_n 0, 1) := by decide +kernel
theorem dX5_init_46 : decode cX5_init 46 = .ok (.sipush 600, 3) := by decide +kernel
theorem dX5_init_49 : decode cX5_init 49 = .ok (.newarray .int, 2) := by decide +kernel
theorem dX5_init_51 : decode cX5_init 51 = .ok (.putfield 27, 3) := by decide +kernel
theorem dX5_init_54 : decode cX5_init 54 = .ok (.aload_n 0, 1) := by decide +kernel
theorem dX5_init_55 : decode cX5_init 55 = .ok (.sipush 4000, 3) := by decide +kernel
theorem dX5_init_58 : decode cX5_init 58 = .ok (.newarray .long, 2) := by decide +kernel
theorem dX5_init_60 : decode cX5_init 60 = .ok (.putfield 30, 3) := by decide +kernel
theorem dX5_init_63 : decode cX5_init 63 = .ok (.aload_n 0, 1) := by decide +kernel
theorem dX5_init_64 : decode cX5_init 64 = .ok (.sipush 4000, 3) := by decide +kernel
theorem dX5_init_67 : decode cX5_init 67 = .ok (.newarray .int, 2) := by decide +kernel
theorem dX5_init_69 : decode cX5_init 69 = .ok (.putfield 34, 3) := by decide +kernel
theorem dX5_init_72 : decode cX5_init 72 = .ok (.aload_n 0, 1) := by decide +kernel
theorem dX5_init_73 : decode cX5_init 73 = .ok (.sipush 4000, 3) := by decide +kernel
theorem dX5_init_76 : decode cX5_init 76 = .ok (.newarray .boolean, 2) := by decide +kernel
theorem dX5_init_78 : decode cX5_init 78 = .ok (.putfield 37, 3) := by decide +kernel
theorem dX5_init_81 : decode cX5_init 81 = .ok (.aload_n 0, 1) := by decide +kernel
theorem dX5_init_82 : decode cX5_init 82 = .ok (.sipush 300, 3) := by decide +kernel
theorem dX5_init_85 : decode cX5_init 85 = .ok (.newarray .int, 2) := by decide +kernel
theorem dX5_init_87 : decode cX5_init 87 = .ok (.putfield 40, 3) := by decide +kernel
theorem dX5_init_90 : decode cX5_init 90 = .ok (.aload_n 0, 1) := by decide +kernel
theorem dX5_init_91 : decode cX5_init 91 = .ok (.sipush 4000, 3) := by decide +kernel
theorem dX5_init_94 : decode cX5_init 94 = .ok (.newarray .int, 2) := by decide +kernel
theorem dX5_init_96 : decode cX5_init 96 = .ok (.putfield 43, 3) := by decide +kernel
theorem dX5_init_99 : decode cX5_init 99 = .ok (.aload_n 0, 1) := by decide +kernel
theorem dX5_init_100 : decode cX5_init 100 = .ok (.sipush 4000, 3) := by decide +kernel
theorem dX5_init_103 : decode cX5_init 103 = .ok (.newarray .int, 2) := by decide +kernel
theorem dX5_init_105 : decode cX5_init 105 = .ok (.putfield 46, 3) := by decide +kernel
theorem dX5_init_108 : decode cX5_init 108 = .ok (.aload_n 0, 1) := by decide +kernel
theorem dX5_init_109 : decode cX5_init 109 = .ok (.sipush 4001, 3) := by decide +kernel
theorem dX5_init_112 : decode cX5_init 112 = .ok (.newarray .int, 2) := by decide +kernel
theorem dX5_init_114 : decode cX5_init 114 = .ok (.putfield 49, 3) := by decide +kernel
theorem dX5_init_117 : decode cX5_init 117 = .ok (.return_, 1) := by decide +kernel
theorem dX5_size_0 : decode cX5_size 0 = .ok (.iload_n 1, 1) := by decide +kernel
theorem dX5_size_1 : decode cX5_size 1 = .ok (.iconst 1, 1) := by decide +kernel
theorem dX5_size_2 : decode cX5_size 2 = .ok (.if_icmp .lt 10, 3) := by decide +kernel
theorem dX5_size_5 : decode cX5_size 5 = .ok (.iload_n 1, 1) := by decide +kernel
theorem dX5_size_6 : decode cX5_size 6 = .ok (.sipush 300, 3) := by decide +kernel
theorem dX5_size_9 : decode cX5_size 9 = .ok (.if_icmp .le 5, 3) := by decide +kernel
theorem dX5_size_12 : decode cX5_size 12 = .ok (.iconst 0, 1) := by decide +kernel
theorem dX5_size_13 : decode cX5_size 13 = .ok (.ireturn, 1) := by decide +kernel
theorem dX5_size_14 : decode cX5_size 14 = .ok (.aload_n 0, 1) := by decide +kernel
theorem dX5_size_15 : decode cX5_size 15 = .ok (.iload_n 1, 1) := by decide +kernel
theorem dX5_size_16 : decode cX5_size 16 = .ok (.putfield 7, 3) := by decide +kernel
theorem dX5_size_19 : decode cX5_size 19 = .ok (.aload_n 0, 1) := by decide +kernel
theorem dX5_size_20 : decode cX5_size 20 = .ok (.iconst 0, 1) := by decide +kernel
theorem dX5_size_21 : decode cX5_size 21 = .ok (.putfield 52, 3) := by decide +kernel
theorem dX5_size_24 : decode cX5_size 24 = .ok (.aload_n 0, 1) := by decide +kernel
theorem dX5_size_25 : decode cX5_size 25 = .ok (.iconst 0, 1) := by decide +kernel
theorem dX5_size_26 : decode cX5_size 26 = .ok (.putfield 55, 3) := by decide +kernel
theorem dX5_size_29 : decode cX5_size 29 = .ok (.aload_n 0, 1) := by decide +kernel
theorem dX5_size_30 : decode cX5_size 30 = .ok (.iconst 0, 1) := by decide +kernel
theorem dX5_size_31 : decode cX5_size 31 = .ok (.putfield 58, 3) := by decide +kernel
theorem dX5_size_34 : decode cX5_size 34 = .ok (.iconst 1, 1) := by decide +kernel
theorem dX5_size_35 : decode cX5_size 35 = .ok (.ireturn, 1) := by decide +kernel
theorem dX5_isNode_0 : decode cX5_isNode 0 = .ok (.iload_n 1, 1) := by decide +kernel
theorem dX5_isNode_1 : decode cX5_isNode 1 = .ok (.ifCond .lt 15, 3) := by decide +kernel
theorem dX5_isNode_4 : decode cX5_isNode 4 = .ok (.iload_n 1, 1) := by decide +kernel
theorem dX5_isNode_5 : decode cX5_isNode 5 = .ok (.aload_n 0, 1) := by decide +kernel
theorem dX5_isNode_6 : decode cX5_isNode 6 = .ok (.getfield 7, 3) := by decide +kernel
theorem dX5_isNode_9 : decode cX5_isNode 9 = .ok (.if_icmp .ge 7, 3) := by decide +kernel
theorem dX5_isNode_12 : decode cX5_isNode 12 = .ok (.iconst 1, 1) := by decide +kernel
theorem dX5_isNode_13 : decode cX5_isNode 13 = .ok (.goto 4, 3) := by decide +kernel
theorem dX5_isNode_16 : decode cX5_isNode 16 = .ok (.iconst 0, 1) := by decide +kernel
theorem dX5_isNode_17 : decode cX5_isNode 17 = .ok (.ireturn, 1) := by decide +kernel
theorem dX5_isBefore_0 : decode cX5_isBefore 0 = .ok (.aload_n 0, 1) := by decide +kernel
theorem dX5_isBefore_1 : decode cX5_isBefore 1 = .ok (.getfield 13, 3) := by decide +kernel
theorem dX5_isBefore_4 : decode cX5_isBefore 4 = .ok (.iload_n 1, 1) := by decide +kernel
theorem dX5_isBefore_5 : decode cX5_isBefore 5 = .ok (.iaload, 1) := by decide +kernel
theorem dX5_isBefore_6 : decode cX5_isBefore 6 = .ok (.iload_n 2, 1) := by decide +kernel
end
section
theorem dX5_isBefore_7 : decode cX5_isBefore 7 = .ok (.if_icmp .eq 21, 3) := by decide +kernel
theorem dX5_isBefore_10 : decode cX5_isBefore 10 = .ok (.aload_n 0, 1) := by decide +kernel
theorem dX5_isBefore_11 : decode cX5_isBefore 11 = .ok (.getfield 13, 3) := by decide +kernel
theorem dX5_isBefore_14 : decode cX5_isBefore 14 = .ok (.iload_n 1, 1) := by decide +kernel
theorem dX5_isBefore_15 : decode cX5_isBefore 15 = .ok (.iaload, 1) := by decide +kernel
theorem dX5_isBefore_16 : decode cX5_isBefore 16 = .ok (.iload_n 2, 1) := by decide +kernel
theorem dX5_isBefore_17 : decode cX5_isBefore 17 = .ok (.if_icmp .ge 7, 3) := by decide +kernel
theorem dX5_isBefore_20 : decode cX5_isBefore 20 = .ok (.iconst 1, 1) := by decide +kernel
theorem dX5_isBefore_21 : decode cX5_isBefore 21 = .ok (.goto 22, 3) := by decide +kernel
theorem dX5_isBefore_24 : decode cX5_isBefore 24 = .ok (.iconst 0, 1) := by decide +kernel
theorem dX5_isBefore_25 : decode cX5_isBefore 25 = .ok (.goto 18, 3) := by decide +kernel
theorem dX5_isBefore_28 : decode cX5_isBefore 28 = .ok (.aload_n 0, 1) := by decide +kernel
theorem dX5_isBefore_29 : decode cX5_isBefore 29 = .ok (.getfield 17, 3) := by decide +kernel
theorem dX5_isBefore_32 : decode cX5_isBefore 32 = .ok (.iload_n 1, 1) := by decide +kernel
theorem dX5_isBefore_33 : decode cX5_isBefore 33 = .ok (.iaload, 1) := by decide +kernel
theorem dX5_isBefore_34 : decode cX5_isBefore 34 = .ok (.iload_n 3, 1) := by decide +kernel
theorem dX5_isBefore_35 : decode cX5_isBefore 35 = .ok (.if_icmp .ge 7, 3) := by decide +kernel
theorem dX5_isBefore_38 : decode cX5_isBefore 38 = .ok (.iconst 1, 1) := by decide +kernel
theorem dX5_isBefore_39 : decode cX5_isBefore 39 = .ok (.goto 4, 3) := by decide +kernel
theorem dX5_isBefore_42 : decode cX5_isBefore 42 = .ok (.iconst 0, 1) := by decide +kernel
theorem dX5_isBefore_43 : decode cX5_isBefore 43 = .ok (.ireturn, 1) := by decide +kernel
set_option maxRecDepth 20000 in
theorem ggX5_placeOf_X5_isBefore : GoodIn wsX5_placeOf wsX5_isBefore := goodIn_r _ [13, 14, 15, 16, 17, 18, 19, 20, 21, 22, 23, 24, 25, 26, 27, 28, 29, 30, 31, 32] (by decide +kernel) (by decide +kernel)
set_option maxRecDepth 20000 in
theorem gX5_placeOf_X5_isBefore : GoodIn wsX5_placeOf (wsV RX5 70 RX5 yX5_isBefore wsX5_isBefore) := goodIn_app (goodIn_of _ (by decide +kernel)) ggX5_placeOf_X5_isBefore
theorem dX5_placeOf_0 : decode cX5_placeOf 0 = .ok (.iconst 0, 1) := by decide +kernel
theorem dX5_placeOf_1 : decode cX5_placeOf 1 = .ok (.istore_n 3, 1) := by decide +kernel
theorem dX5_placeOf_2 : decode cX5_placeOf 2 = .ok (.aload_n 0, 1) := by decide +kernel
theorem dX5_placeOf_3 : decode cX5_placeOf 3 = .ok (.getfield 52, 3) := by decide +kernel
theorem dX5_placeOf_6 : decode cX5_placeOf 6 = .ok (.istore 4, 2) := by decide +kernel
theorem dX5_placeOf_8 : decode cX5_placeOf 8 = .ok (.iload_n 3, 1) := by decide +kernel
theorem dX5_placeOf_9 : decode cX5_placeOf 9 = .ok (.iload 4, 2) := by decide +kernel
theorem dX5_placeOf_11 : decode cX5_placeOf 11 = .ok (.if_icmp .ge 45, 3) := by decide +kernel
theorem dX5_placeOf_14 : decode cX5_placeOf 14 = .ok (.iload_n 3, 1) := by decide +kernel
theorem dX5_placeOf_15 : decode cX5_placeOf 15 = .ok (.iload 4, 2) := by decide +kernel
theorem dX5_placeOf_17 : decode cX5_placeOf 17 = .ok (.iadd, 1) := by decide +kernel
theorem dX5_placeOf_18 : decode cX5_placeOf 18 = .ok (.iconst 2, 1) := by decide +kernel
theorem dX5_placeOf_19 : decode cX5_placeOf 19 = .ok (.idiv, 1) := by decide +kernel
theorem dX5_placeOf_20 : decode cX5_placeOf 20 = .ok (.istore 5, 2) := by decide +kernel
theorem dX5_placeOf_22 : decode cX5_placeOf 22 = .ok (.aload_n 0, 1) := by decide +kernel
theorem dX5_placeOf_23 : decode cX5_placeOf 23 = .ok (.iload 5, 2) := by decide +kernel
theorem dX5_placeOf_25 : decode cX5_placeOf 25 = .ok (.iload_n 1, 1) := by decide +kernel
theorem dX5_placeOf_26 : decode cX5_placeOf 26 = .ok (.iload_n 2, 1) := by decide +kernel
theorem dX5_placeOf_27 : decode cX5_placeOf 27 = .ok (.invokestatic 61, 3) := by decide +kernel
theorem dX5_placeOf_30 : decode cX5_placeOf 30 = .ok (.iload_n 1, 1) := by decide +kernel
theorem dX5_placeOf_31 : decode cX5_placeOf 31 = .ok (.iload_n 2, 1) := by decide +kernel
theorem dX5_placeOf_32 : decode cX5_placeOf 32 = .ok (.invokestatic 67, 3) := by decide +kernel
theorem dX5_placeOf_35 : decode cX5_placeOf 35 = .ok (.invokevirtual 70, 3) := by decide +kernel
theorem dX5_placeOf_38 : decode cX5_placeOf 38 = .ok (.ifCond .eq 11, 3) := by decide +kernel
theorem dX5_placeOf_41 : decode cX5_placeOf 41 = .ok (.iload 5, 2) := by decide +kernel
theorem dX5_placeOf_43 : decode cX5_placeOf 43 = .ok (.iconst 1, 1) := by decide +kernel
theorem dX5_placeOf_44 : decode cX5_placeOf 44 = .ok (.iadd, 1) := by decide +kernel
theorem dX5_placeOf_45 : decode cX5_placeOf 45 = .ok (.istore_n 3, 1) := by decide +kernel
theorem dX5_placeOf_46 : decode cX5_placeOf 46 = .ok (.goto 7, 3) := by decide +kernel
theorem dX5_placeOf_49 : decode cX5_placeOf 49 = .ok (.iload 5, 2) := by decide +kernel
theorem dX5_placeOf_51 : decode cX5_placeOf 51 = .ok (.istore 4, 2) := by decide +kernel
theorem dX5_placeOf_53 : decode cX5_placeOf 53 = .ok (.goto (-45), 3) := by decide +kernel
theorem dX5_placeOf_56 : decode cX5_placeOf 56 = .ok (.iload_n 3, 1) := by decide +kernel
theorem dX5_placeOf_57 : decode cX5_placeOf 57 = .ok (.ireturn, 1) := by decide +kernel
set_option maxRecDepth 20000 in
theorem ggX5_find_X5_placeOf : GoodIn wsX5_find wsX5_placeOf := goodIn_r _ [15, 1, 3, 4, 5, 6, 8, 9, 10, 16, 17, 18, 14, 19, 2, 7, 20, 21, 22, 23, 24, 25, 26, 27, 28, 29, 30, 31, 32, 33, 34, 35, 36] (by decide +kernel) (by decide +kernel)
set_option maxRecDepth 20000 in
theorem gX5_find_X5_placeOf : GoodIn wsX5_find (wsV RX5 74 RX5 yX5_placeOf wsX5_placeOf) := goodIn_app (goodIn_of _ (by decide +kernel)) ggX5_find_X5_placeOf
theorem dX5_find_0 : decode cX5_find 0 = .ok (.aload_n 0, 1) := by decide +kernel
theorem dX5_find_1 : decode cX5_find 1 = .ok (.iload_n 1, 1) := by decide +kernel
theorem dX5_find_2 : decode cX5_find 2 = .ok (.iload_n 2, 1) := by decide +kernel
theorem dX5_find_3 : decode cX5_find 3 = .ok (.invokevirtual 74, 3) := by decide +kernel
theorem dX5_find_6 : decode cX5_find 6 = .ok (.istore_n 3, 1) := by decide +kernel
theorem dX5_find_7 : decode cX5_find 7 = .ok (.iload_n 3, 1) := by decide +kernel
theorem dX5_find_8 : decode cX5_find 8 = .ok (.aload_n 0, 1) := by decide +kernel
theorem dX5_find_9 : decode cX5_find 9 = .ok (.getfield 52, 3) := by decide +kernel
theorem dX5_find_12 : decode cX5_find 12 = .ok (.if_icmp .ge 35, 3) := by decide +kernel
theorem dX5_find_15 : decode cX5_find 15 = .ok (.aload_n 0, 1) := by decide +kernel
theorem dX5_find_16 : decode cX5_find 16 = .ok (.getfield 13, 3) := by decide +kernel
theorem dX5_find_19 : decode cX5_find 19 = .ok (.iload_n 3, 1) := by decide +kernel
theorem dX5_find_20 : decode cX5_find 20 = .ok (.iaload, 1) := by decide +kernel
theorem dX5_find_21 : decode cX5_find 21 = .ok (.iload_n 1, 1) := by decide +kernel
theorem dX5_find_22 : decode cX5_find 22 = .ok (.iload_n 2, 1) := by decide +kernel
theorem dX5_find_23 : decode cX5_find 23 = .ok (.invokestatic 61, 3) := by decide +kernel
theorem dX5_find_26 : decode cX5_find 26 = .ok (.if_icmp .ne 21, 3) := by decide +kernel
theorem dX5_find_29 : decode cX5_find 29 = .ok (.aload_n 0, 1) := by decide +kernel
theorem dX5_find_30 : decode cX5_find 30 = .ok (.getfield 17, 3) := by decide +kernel
theorem dX5_find_33 : decode cX5_find 33 = .ok (.iload_n 3, 1) := by decide +kernel
theorem dX5_find_34 : decode cX5_find 34 = .ok (.iaload, 1) := by decide +kernel
theorem dX5_find_35 : decode cX5_find 35 = .ok (.iload_n 1, 1) := by decide +kernel
theorem dX5_find_36 : decode cX5_find 36 = .ok (.iload_n 2, 1) := by decide +kernel
theorem dX5_find_37 : decode cX5_find 37 = .ok (.invokestatic 67, 3) := by decide +kernel
theorem dX5_find_40 : decode cX5_find 40 = .ok (.if_icmp .ne 7, 3) := by decide +kernel
theorem dX5_find_43 : decode cX5_find 43 = .ok (.iload_n 3, 1) := by decide +kernel
theorem dX5_find_44 : decode cX5_find 44 = .ok (.goto 4, 3) := by decide +kernel
theorem dX5_find_47 : decode cX5_find 47 = .ok (.iconst (-1), 1) := by decide +kernel
theorem dX5_find_48 : decode cX5_find 48 = .ok (.ireturn, 1) := by decide +kernel
set_option maxRecDepth 20000 in
theorem ggX5_road_X5_isNode : GoodIn wsX5_road wsX5_isNode := goodIn_r _ [18, 19, 32, 33, 34, 35, 36, 37, 38, 39, 40, 41, 42, 43, 44, 45, 46, 47, 48] (by decide +kernel) (by decide +kernel)
set_option maxRecDepth 20000 in
theorem gX5_road_X5_isNode : GoodIn wsX5_road (wsV RX5 77 RX5 yX5_isNode wsX5_isNode) := goodIn_app (goodIn_of _ (by decide +kernel)) ggX5_road_X5_isNode
set_option maxRecDepth 20000 in
theorem ggX5_road_X5_find : GoodIn wsX5_road wsX5_find := goodIn_r _ [23, 3, 4, 7, 8, 9, 10, 5, 11, 12, 13, 24, 25, 26, 17, 27, 28, 29, 30, 31, 32, 33, 34, 35, 36, 37, 38, 39, 40, 41, 42, 43, 44, 45, 46, 47, 48] (by decide +kernel) (by decide +kernel)
set_option maxRecDepth 20000 in
theorem gX5_road_X5_find : GoodIn wsX5_road (wsV RX5 82 RX5 yX5_find wsX5_find) := goodIn_app (goodIn_of _ (by decide +kernel)) ggX5_road_X5_find
set_option maxRecDepth 20000 in
theorem ggX5_road_X5_placeOf : GoodIn wsX5_road wsX5_placeOf := goodIn_r _ [27, 3, 7, 8, 9, 10, 11, 12, 13, 28, 29, 30, 17, 31, 4, 5, 32, 33, 34, 35, 36, 37, 38, 39, 40, 41, 42, 43, 44, 45, 46, 47, 48] (by decide +kernel) (by decide +kernel)
set_option maxRecDepth 20000 in
theorem gX5_road_X5_placeOf : GoodIn wsX5_road (wsV RX5 74 RX5 yX5_placeOf wsX5_placeOf) := goodIn_app (goodIn_of _ (by decide +kernel)) ggX5_road_X5_placeOf
theorem dX5_road_0 : decode cX5_road 0 = .ok (.aload_n 0, 1) := by decide +kernel
theorem dX5_road_1 : decode cX5_road 1 = .ok (.iload_n 1, 1) := by decide +kernel
theorem dX5_road_2 : decode cX5_road 2 = .ok (.invokevirtual 77, 3) := by decide +kernel
theorem dX5_road_5 : decode cX5_road 5 = .ok (.ifCond .eq 16, 3) := by decide +kernel
theorem dX5_road_8 : decode cX5_road 8 = .ok (.aload_n 0, 1) := by decide +kernel
theorem dX5_road_9 : decode cX5_road 9 = .ok (.iload_n 2, 1) := by decide +kernel
theorem dX5_road_10 : decode cX5_road 10 = .ok (.invokevirtual 77, 3) := by decide +kernel
theorem dX5_road_13 : decode cX5_road 13 = .ok (.ifCond .eq 8, 3) := by decide +kernel
theorem dX5_road_16 : decode cX5_road 16 = .ok (.iload_n 1, 1) := by decide +kernel
theorem dX5_road_17 : decode cX5_road 17 = .ok (.iload_n 2, 1) := by decide +kernel
theorem dX5_road_18 : decode cX5_road 18 = .ok (.if_icmp .ne 6, 3) := by decide +kernel
theorem dX5_road_21 : decode cX5_road 21 = .ok (.bipush (-14), 2) := by decide +kernel
theorem dX5_road_23 : decode cX5_road 23 = .ok (.ireturn, 1) := by decide +kernel
theorem dX5_road_24 : decode cX5_road 24 = .ok (.iload_n 3, 1) := by decide +kernel
theorem dX5_road_25 : decode cX5_road 25 = .ok (.iconst 1, 1) := by decide +kernel
theorem dX5_road_26 : decode cX5_road 26 = .ok (.if_icmp .lt 9, 3) := by decide +kernel
theorem dX5_road_29 : decode cX5_road 29 = .ok (.iload_n 3, 1) := by decide +kernel
theorem dX5_road_30 : decode cX5_road 30 = .ok (.ldc 81, 2) := by decide +kernel
theorem dX5_road_32 : decode cX5_road 32 = .ok (.if_icmp .le 5, 3) := by decide +kernel
theorem dX5_road_35 : decode cX5_road 35 = .ok (.iconst (-1), 1) := by decide +kernel
theorem dX5_road_36 : decode cX5_road 36 = .ok (.ireturn, 1) := by decide +kernel
theorem dX5_road_37 : decode cX5_road 37 = .ok (.aload_n 0, 1) := by decide +kernel
theorem dX5_road_38 : decode cX5_road 38 = .ok (.iload_n 1, 1) := by decide +kernel
theorem dX5_road_39 : decode cX5_road 39 = .ok (.iload_n 2, 1) := by decide +kernel
theorem dX5_road_40 : decode cX5_road 40 = .ok (.invokevirtual 82, 3) := by decide +kernel
theorem dX5_road_43 : decode cX5_road 43 = .ok (.istore 4, 2) := by decide +kernel
theorem dX5_road_45 : decode cX5_road 45 = .ok (.iload 4, 2) := by decide +kernel
theorem dX5_road_47 : decode cX5_road 47 = .ok (.ifCond .lt 16, 3) := by decide +kernel
theorem dX5_road_50 : decode cX5_road 50 = .ok (.aload_n 0, 1) := by decide +kernel
theorem dX5_road_51 : decode cX5_road 51 = .ok (.getfield 20, 3) := by decide +kernel
theorem dX5_road_54 : decode cX5_road 54 = .ok (.iload 4, 2) := by decide +kernel
theorem dX5_road_56 : decode cX5_road 56 = .ok (.iload_n 3, 1) := by decide +kernel
theorem dX5_road_57 : decode cX5_road 57 = .ok (.iastore, 1) := by decide +kernel
theorem dX5_road_58 : decode cX5_road 58 = .ok (.aload_n 0, 1) := by decide +kernel
theorem dX5_road_59 : decode cX5_road 59 = .ok (.getfield 52, 3) := by decide +kernel
theorem dX5_road_62 : decode cX5_road 62 = .ok (.ireturn, 1) := by decide +kernel
theorem dX5_road_63 : decode cX5_road 63 = .ok (.aload_n 0, 1) := by decide +kernel
theorem dX5_road_64 : decode cX5_road 64 = .ok (.getfield 52, 3) := by decide +kernel
theorem dX5_road_67 : decode cX5_road 67 = .ok (.sipush 2000, 3) := by decide +kernel
theorem dX5_road_70 : decode cX5_road 70 = .ok (.if_icmp .ne 6, 3) := by decide +kernel
theorem dX5_road_73 : decode cX5_road 73 = .ok (.bipush (-12), 2) := by decide +kernel
theorem dX5_road_75 : decode cX5_road 75 = .ok (.ireturn, 1) := by decide +kernel
theorem dX5_road_76 : decode cX5_road 76 = .ok (.aload_n 0, 1) := by decide +kernel
theorem dX5_road_77 : decode cX5_road 77 = .ok (.iload_n 1, 1) := by decide +kernel
theorem dX5_road_78 : decode cX5_road 78 = .ok (.iload_n 2, 1) := by decide +kernel
theorem dX5_road_79 : decode cX5_road 79 = .ok (.invokevirtual 74, 3) := by decide +kernel
theorem dX5_road_82 : decode cX5_road 82 = .ok (.istore 5, 2) := by decide +kernel
theorem dX5_road_84 : decode cX5_road 84 = .ok (.aload_n 0, 1) := by decide +kernel
theorem dX5_road_85 : decode cX5_road 85 = .ok (.getfield 52, 3) := by decide +kernel
theorem dX5_road_88 : decode cX5_road 88 = .ok (.istore 6, 2) := by decide +kernel
theorem dX5_road_90 : decode cX5_road 90 = .ok (.iload 6, 2) := by decide +kernel
theorem dX5_road_92 : decode cX5_road 92 = .ok (.iload 5, 2) := by decide +kernel
theorem dX5_road_94 : decode cX5_road 94 = .ok (.if_icmp .le 73, 3) := by decide +kernel
theorem dX5_road_97 : decode cX5_road 97 = .ok (.aload_n 0, 1) := by decide +kernel
theorem dX5_road_98 : decode cX5_road 98 = .ok (.getfield 13, 3) := by decide +kernel
theorem dX5_road_101 : decode cX5_road 101 = .ok (.iload 6, 2) := by decide +kernel
theorem dX5_road_103 : decode cX5_road 103 = .ok (.aload_n 0, 1) := by decide +kernel
theorem dX5_road_104 : decode cX5_road 104 = .ok (.getfield 13, 3) := by decide +kernel
theorem dX5_road_107 : decode cX5_road 107 = .ok (.iload 6, 2) := by decide +kernel
theorem dX5_road_109 : decode cX5_road 109 = .ok (.iconst 1, 1) := by decide +kernel
theorem dX5_road_110 : decode cX5_road 110 = .ok (.isub, 1) := by decide +kernel
theorem dX5_road_111 : decode cX5_road 111 = .ok (.iaload, 1) := by decide +kernel
theorem dX5_road_112 : decode cX5_road 112 = .ok (.iastore, 1) := by decide +kernel
theorem dX5_road_113 : decode cX5_road 113 = .ok (.aload_n 0, 1) := by decide +kernel
theorem dX5_road_114 : decode cX5_road 114 = .ok (.getfield 17, 3) := by decide +kernel
theorem dX5_road_117 : decode cX5_road 117 = .ok (.iload 6, 2) := by decide +kernel
theorem dX5_road_119 : decode cX5_road 119 = .ok (.aload_n 0, 1) := by decide +kernel
theorem dX5_road_120 : decode cX5_road 120 = .ok (.getfield 17, 3) := by decide +kernel
theorem dX5_road_123 : decode cX5_road 123 = .ok (.iload 6, 2) := by decide +kernel
theorem dX5_road_125 : decode cX5_road 125 = .ok (.iconst 1, 1) := by decide +kernel
theorem dX5_road_126 : decode cX5_road 126 = .ok (.isub, 1) := by decide +kernel
theorem dX5_road_127 : decode cX5_road 127 = .ok (.iaload, 1) := by decide +kernel
theorem dX5_road_128 : decode cX5_road 128 = .ok (.iastore, 1) := by decide +kernel
theorem dX5_road_129 : decode cX5_road 129 = .ok (.aload_n 0, 1) := by decide +kernel
theorem dX5_road_130 : decode cX5_road 130 = .ok (.getfield 20, 3) := by decide +kernel
theorem dX5_road_133 : decode cX5_road 133 = .ok (.iload 6, 2) := by decide +kernel
theorem dX5_road_135 : decode cX5_road 135 = .ok (.aload_n 0, 1) := by decide +kernel
theorem dX5_road_136 : decode cX5_road 136 = .ok (.getfield 20, 3) := by decide +kernel
theorem dX5_road_139 : decode cX5_road 139 = .ok (.iload 6, 2) := by decide +kernel
theorem dX5_road_141 : decode cX5_road 141 = .ok (.iconst 1, 1) := by decide +kernel
theorem dX5_road_142 : decode cX5_road 142 = .ok (.isub, 1) := by decide +kernel
theorem dX5_road_143 : decode cX5_road 143 = .ok (.iaload, 1) := by decide +kernel
theorem dX5_road_144 : decode cX5_road 144 = .ok (.iastore, 1) := by decide +kernel
theorem dX5_road_145 : decode cX5_road 145 = .ok (.aload_n 0, 1) := by decide +kernel
theorem dX5_road_146 : decode cX5_road 146 = .ok (.getfield 23, 3) := by decide +kernel
theorem dX5_road_149 : decode cX5_road 149 = .ok (.iload 6, 2) := by decide +kernel
theorem dX5_road_151 : decode cX5_road 151 = .ok (.aload_n 0, 1) := by decide +kernel
theorem dX5_road_152 : decode cX5_road 152 = .ok (.getfield 23, 3) := by decide +kernel
theorem dX5_road_155 : decode cX5_road 155 = .ok (.iload 6, 2) := by decide +kernel
theorem dX5_road_157 : decode cX5_road 157 = .ok (.iconst 1, 1) := by decide +kernel
theorem dX5_road_158 : decode cX5_road 158 = .ok (.isub, 1) := by decide +kernel
theorem dX5_road_159 : decode cX5_road 159 = .ok (.baload, 1) := by decide +kernel
theorem dX5_road_160 : decode cX5_road 160 = .ok (.bastore, 1) := by decide +kernel
theorem dX5_road_161 : decode cX5_road 161 = .ok (.iinc 6 (-1), 3) := by decide +kernel
theorem dX5_road_164 : decode cX5_road 164 = .ok (.goto (-74), 3) := by decide +kernel
theorem dX5_road_167 : decode cX5_road 167 = .ok (.aload_n 0, 1) := by decide +kernel
theorem dX5_road_168 : decode cX5_road 168 = .ok (.getfield 13, 3) := by decide +kernel
theorem dX5_road_171 : decode cX5_road 171 = .ok (.iload 5, 2) := by decide +kernel
theorem dX5_road_173 : decode cX5_road 173 = .ok (.iload_n 1, 1) := by decide +kernel
theorem dX5_road_174 : decode cX5_road 174 = .ok (.iload_n 2, 1) := by decide +kernel
theorem dX5_road_175 : decode cX5_road 175 = .ok (.invokestatic 61, 3) := by decide +kernel
theorem dX5_road_178 : decode cX5_road 178 = .ok (.iastore, 1) := by decide +kernel
theorem dX5_road_179 : decode cX5_road 179 = .ok (.aload_n 0, 1) := by decide +kernel
theorem dX5_road_180 : decode cX5_road 180 = .ok (.getfield 17, 3) := by decide +kernel
theorem dX5_road_183 : decode cX5_road 183 = .ok (.iload 5, 2) := by decide +kernel
theorem dX5_road_185 : decode cX5_road 185 = .ok (.iload_n 1, 1) := by decide +kernel
theorem dX5_road_186 : decode cX5_road 186 = .ok (.iload_n 2, 1) := by decide +kernel
theorem dX5_road_187 : decode cX5_road 187 = .ok (.invokestatic 67, 3) := by decide +kernel
theorem dX5_road_190 : decode cX5_road 190 = .ok (.iastore, 1) := by decide +kernel
theorem dX5_road_191 : decode cX5_road 191 = .ok (.aload_n 0, 1) := by decide +kernel
theorem dX5_road_192 : decode cX5_road 192 = .ok (.getfield 20, 3) := by decide +kernel
theorem dX5_road_195 : decode cX5_road 195 = .ok (.iload 5, 2) := by decide +kernel
theorem dX5_road_197 : decode cX5_road 197 = .ok (.iload_n 3, 1) := by decide +kernel
theorem dX5_road_198 : decode cX5_road 198 = .ok (.iastore, 1) := by decide +kernel
theorem dX5_road_199 : decode cX5_road 199 = .ok (.aload_n 0, 1) := by decide +kernel
theorem dX5_road_200 : decode cX5_road 200 = .ok (.getfield 23, 3) := by decide +kernel
theorem dX5_road_203 : decode cX5_road 203 = .ok (.iload 5, 2) := by decide +kernel
theorem dX5_road_205 : decode cX5_road 205 = .ok (.iconst 0, 1) := by decide +kernel
theorem dX5_road_206 : decode cX5_road 206 = .ok (.bastore, 1) := by decide +kernel
theorem dX5_road_207 : decode cX5_road 207 = .ok (.aload_n 0, 1) := by decide +kernel
theorem dX5_road_208 : decode cX5_road 208 = .ok (.dup, 1) := by decide +kernel
theorem dX5_road_209 : decode cX5_road 209 = .ok (.getfield 52, 3) := by decide +kernel
theorem dX5_road_212 : decode cX5_road 212 = .ok (.iconst 1, 1) := by decide +kernel
theorem dX5_road_213 : decode cX5_road 213 = .ok (.iadd, 1) := by decide +kernel
theorem dX5_road_214 : decode cX5_road 214 = .ok (.putfield 52, 3) := by decide +kernel
theorem dX5_road_217 : decode cX5_road 217 = .ok (.aload_n 0, 1) := by decide +kernel
theorem dX5_road_218 : decode cX5_road 218 = .ok (.getfield 52, 3) := by decide +kernel
theorem dX5_road_221 : decode cX5_road 221 = .ok (.ireturn, 1) := by decide +kernel
set_option maxRecDepth 20000 in
theorem ggX5_close_X5_find : GoodIn wsX5_close wsX5_find := goodIn_r _ [6, 7, 8, 9, 10, 11, 12, 13, 14, 15, 16, 17, 18, 19, 5, 20, 21, 22, 23, 24, 25, 26, 27, 28, 29, 30, 31, 32, 33, 34, 35, 36, 37, 38, 39, 40, 41] (by decide +kernel) (by decide +kernel)
set_option maxRecDepth 20000 in
theorem gX5_close_X5_find : GoodIn wsX5_close (wsV RX5 82 RX5 yX5_find wsX5_find) := goodIn_app (goodIn_of _ (by decide +kernel)) ggX5_close_X5_find
theorem dX5_close_0 : decode cX5_close 0 = .ok (.aload_n 0, 1) := by decide +kernel
theorem dX5_close_1 : decode cX5_close 1 = .ok (.iload_n 1, 1) := by decide +kernel
theorem dX5_close_2 : decode cX5_close 2 = .ok (.iload_n 2, 1) := by decide +kernel
theorem dX5_close_3 : decode cX5_close 3 = .ok (.invokevirtual 82, 3) := by decide +kernel
theorem dX5_close_6 : decode cX5_close 6 = .ok (.istore 4, 2) := by decide +kernel
theorem dX5_close_8 : decode cX5_close 8 = .ok (.iload 4, 2) := by decide +kernel
theorem dX5_close_10 : decode cX5_close 10 = .ok (.ifCond .lt 14, 3) := by decide +kernel
theorem dX5_close_13 : decode cX5_close 13 = .ok (.aload_n 0, 1) := by decide +kernel
theorem dX5_close_14 : decode cX5_close 14 = .ok (.getfield 23, 3) := by decide +kernel
theorem dX5_close_17 : decode cX5_close 17 = .ok (.iload 4, 2) := by decide +kernel
theorem dX5_close_19 : decode cX5_close 19 = .ok (.baload, 1) := by decide +kernel
theorem dX5_close_20 : decode cX5_close 20 = .ok (.iload_n 3, 1) := by decide +kernel
theorem dX5_close_21 : decode cX5_close 21 = .ok (.if_icmp .ne 5, 3) := by decide +kernel
theorem dX5_close_24 : decode cX5_close 24 = .ok (.iconst 0, 1) := by decide +kernel
theorem dX5_close_25 : decode cX5_close 25 = .ok (.ireturn, 1) := by decide +kernel
theorem dX5_close_26 : decode cX5_close 26 = .ok (.aload_n 0, 1) := by decide +kernel
theorem dX5_close_27 : decode cX5_close 27 = .ok (.getfield 23, 3) := by decide +kernel
theorem dX5_close_30 : decode cX5_close 30 = .ok (.iload 4, 2) := by decide +kernel
theorem dX5_close_32 : decode cX5_close 32 = .ok (.iload_n 3, 1) := by decide +kernel
theorem dX5_close_33 : decode cX5_close 33 = .ok (.bastore, 1) := by decide +kernel
theorem dX5_close_34 : decode cX5_close 34 = .ok (.iconst 1, 1) := by decide +kernel
theorem dX5_close_35 : decode cX5_close 35 = .ok (.ireturn, 1) := by decide +kernel
set_option maxRecDepth 20000 in
theorem ggX5_cost_X5_find : GoodIn wsX5_cost wsX5_find := goodIn_r _ [7, 8, 9, 10, 11, 12, 13, 14, 15, 16, 17, 18, 19, 20, 6, 21, 22, 23, 24, 25, 26, 27, 28, 29, 30, 31, 32, 33, 34, 35, 36, 37, 38, 39, 40, 41, 42] (by decide +kernel) (by decide +kernel)
set_option maxRecDepth 20000 in
theorem gX5_cost_X5_find : GoodIn wsX5_cost (wsV RX5 82 RX5 yX5_find wsX5_find) := goodIn_app (goodIn_of _ (by decide +kernel)) ggX5_cost_X5_find
theorem dX5_cost_0 : decode cX5_cost 0 = .ok (.aload_n 0, 1) := by decide +kernel
theorem dX5_cost_1 : decode cX5_cost 1 = .ok (.iload_n 1, 1) := by decide +kernel
theorem dX5_cost_2 : decode cX5_cost 2 = .ok (.iload_n 2, 1) := by decide +kernel
theorem dX5_cost_3 : decode cX5_cost 3 = .ok (.invokevirtual 82, 3) := by decide +kernel
theorem dX5_cost_6 : decode cX5_cost 6 = .ok (.istore_n 3, 1) := by decide +kernel
theorem dX5_cost_7 : decode cX5_cost 7 = .ok (.iload_n 3, 1) := by decide +kernel
theorem dX5_cost_8 : decode cX5_cost 8 = .ok (.ifCond .ge 7, 3) := by decide +kernel
theorem dX5_cost_11 : decode cX5_cost 11 = .ok (.iconst 0, 1) := by decide +kernel
theorem dX5_cost_12 : decode cX5_cost 12 = .ok (.goto 28, 3) := by decide +kernel
theorem dX5_cost_15 : decode cX5_cost 15 = .ok (.aload_n 0, 1) := by decide +kernel
theorem dX5_cost_16 : decode cX5_cost 16 = .ok (.getfield 23, 3) := by decide +kernel
theorem dX5_cost_19 : decode cX5_cost 19 = .ok (.iload_n 3, 1) := by decide +kernel
theorem dX5_cost_20 : decode cX5_cost 20 = .ok (.baload, 1) := by decide +kernel
theorem dX5_cost_21 : decode cX5_cost 21 = .ok (.ifCond .eq 13, 3) := by decide +kernel
theorem dX5_cost_24 : decode cX5_cost 24 = .ok (.aload_n 0, 1) := by decide +kernel
theorem dX5_cost_25 : decode cX5_cost 25 = .ok (.getfield 20, 3) := by decide +kernel
theorem dX5_cost_28 : decode cX5_cost 28 = .ok (.iload_n 3, 1) := by decide +kernel
theorem dX5_cost_29 : decode cX5_cost 29 = .ok (.iaload, 1) := by decide +kernel
theorem dX5_cost_30 : decode cX5_cost 30 = .ok (.ineg, 1) := by decide +kernel
theorem dX5_cost_31 : decode cX5_cost 31 = .ok (.goto 9, 3) := by decide +kernel
theorem dX5_cost_34 : decode cX5_cost 34 = .ok (.aload_n 0, 1) := by decide +kernel
theorem dX5_cost_35 : decode cX5_cost 35 = .ok (.getfield 20, 3) := by decide +kernel
theorem dX5_cost_38 : decode cX5_cost 38 = .ok (.iload_n 3, 1) := by decide +kernel
theorem dX5_cost_39 : decode cX5_cost 39 = .ok (.iaload, 1) := by decide +kernel
theorem dX5_cost_40 : decode cX5_cost 40 = .ok (.ireturn, 1) := by decide +kernel
theorem dX5_barAt_0 : decode cX5_barAt 0 = .ok (.iconst 0, 1) := by decide +kernel
theorem dX5_barAt_1 : decode cX5_barAt 1 = .ok (.istore 4, 2) := by decide +kernel
theorem dX5_barAt_3 : decode cX5_barAt 3 = .ok (.iload 4, 2) := by decide +kernel
theorem dX5_barAt_5 : decode cX5_barAt 5 = .ok (.aload_n 0, 1) := by decide +kernel
theorem dX5_barAt_6 : decode cX5_barAt 6 = .ok (.getfield 55, 3) := by decide +kernel
theorem dX5_barAt_9 : decode cX5_barAt 9 = .ok (.if_icmp .ge 55, 3) := by decide +kernel
theorem dX5_barAt_12 : decode cX5_barAt 12 = .ok (.aload_n 0, 1) := by decide +kernel
theorem dX5_barAt_13 : decode cX5_barAt 13 = .ok (.getfield 27, 3) := by decide +kernel
theorem dX5_barAt_16 : decode cX5_barAt 16 = .ok (.iconst 3, 1) := by decide +kernel
theorem dX5_barAt_17 : decode cX5_barAt 17 = .ok (.iload 4, 2) := by decide +kernel
theorem dX5_barAt_19 : decode cX5_barAt 19 = .ok (.imul, 1) := by decide +kernel
theorem dX5_barAt_20 : decode cX5_barAt 20 = .ok (.iaload, 1) := by decide +kernel
theorem dX5_barAt_21 : decode cX5_barAt 21 = .ok (.iload_n 1, 1) := by decide +kernel
theorem dX5_barAt_22 : decode cX5_barAt 22 = .ok (.if_icmp .ne 36, 3) := by decide +kernel
theorem dX5_barAt_25 : decode cX5_barAt 25 = .ok (.aload_n 0, 1) := by decide +kernel
theorem dX5_barAt_26 : decode cX5_barAt 26 = .ok (.getfield 27, 3) := by decide +kernel
theorem dX5_barAt_29 : decode cX5_barAt 29 = .ok (.iconst 3, 1) := by decide +kernel
theorem dX5_barAt_30 : decode cX5_barAt 30 = .ok (.iload 4, 2) := by decide +kernel
theorem dX5_barAt_32 : decode cX5_barAt 32 = .ok (.imul, 1) := by decide +kernel
theorem dX5_barAt_33 : decode cX5_barAt 33 = .ok (.iconst 1, 1) := by decide +kernel
theorem dX5_barAt_34 : decode cX5_barAt 34 = .ok (.iadd, 1) := by decide +kernel
theorem dX5_barAt_35 : decode cX5_barAt 35 = .ok (.iaload, 1) := by decide +kernel
theorem dX5_barAt_36 : decode cX5_barAt 36 = .ok (.iload_n 2, 1) := by decide +kernel
theorem dX5_barAt_37 : decode cX5_barAt 37 = .ok (.if_icmp .ne 21, 3) := by decide +kernel
theorem dX5_barAt_40 : decode cX5_barAt 40 = .ok (.aload_n 0, 1) := by decide +kernel
theorem dX5_barAt_41 : decode cX5_barAt 41 = .ok (.getfield 27, 3) := by decide +kernel
theorem dX5_barAt_44 : decode cX5_barAt 44 = .ok (.iconst 3, 1) := by decide +kernel
theorem dX5_barAt_45 : decode cX5_barAt 45 = .ok (.iload 4, 2) := by decide +kernel
theorem dX5_barAt_47 : decode cX5_barAt 47 = .ok (.imul, 1) := by decide +kernel
theorem dX5_barAt_48 : decode cX5_barAt 48 = .ok (.iconst 2, 1) := by decide +kernel
theorem dX5_barAt_49 : decode cX5_barAt 49 = .ok (.iadd, 1) := by decide +kernel
theorem dX5_barAt_50 : decode cX5_barAt 50 = .ok (.iaload, 1) := by decide +kernel
theorem dX5_barAt_51 : decode cX5_barAt 51 = .ok (.iload_n 3, 1) := by decide +kernel
theorem dX5_barAt_52 : decode cX5_barAt 52 = .ok (.if_icmp .ne 6, 3) := by decide +kernel
theorem dX5_barAt_55 : decode cX5_barAt 55 = .ok (.iload 4, 2) := by decide +kernel
theorem dX5_barAt_57 : decode cX5_barAt 57 = .ok (.ireturn, 1) := by decide +kernel
theorem dX5_barAt_58 : decode cX5_barAt 58 = .ok (.iinc 4 1, 3) := by decide +kernel
theorem dX5_barAt_61 : decode cX5_barAt 61 = .ok (.goto (-58), 3) := by decide +kernel
theorem dX5_barAt_64 : decode cX5_barAt 64 = .ok (.iconst (-1), 1) := by decide +kernel
theorem dX5_barAt_65 : decode cX5_barAt 65 = .ok (.ireturn, 1) := by decide +kernel
set_option maxRecDepth 20000 in
theorem ggX5_bar_X5_isNode : GoodIn wsX5_bar wsX5_isNode := goodIn_r _ [7, 8, 13, 14, 15, 16, 17, 18, 19, 20, 21, 22, 23, 24, 25, 26, 27, 28, 29] (by decide +kernel) (by decide +kernel)
set_option maxRecDepth 20000 in
theorem gX5_bar_X5_isNode : GoodIn wsX5_bar (wsV RX5 77 RX5 yX5_isNode wsX5_isNode) := goodIn_app (goodIn_of _ (by decide +kernel)) ggX5_bar_X5_isNode
set_option maxRecDepth 20000 in
theorem ggX5_bar_X5_barAt : GoodIn wsX5_bar wsX5_barAt := goodIn_r _ [12, 1, 2, 13, 14, 15, 16, 17, 18, 19, 20, 21, 22, 23, 24, 25, 26, 27, 28, 29] (by decide +kernel) (by decide +kernel)
set_option maxRecDepth 20000 in
theorem gX5_bar_X5_barAt : GoodIn wsX5_bar (wsV RX5 85 RX5 yX5_barAt wsX5_barAt) := goodIn_app (goodIn_of _ (by decide +kernel)) ggX5_bar_X5_barAt
theorem dX5_bar_0 : decode cX5_bar 0 = .ok (.aload_n 0, 1) := by decide +kernel
theorem dX5_bar_1 : decode cX5_bar 1 = .ok (.iload_n 1, 1) := by decide +kernel
theorem dX5_bar_2 : decode cX5_bar 2 = .ok (.invokevirtual 77, 3) := by decide +kernel
theorem dX5_bar_5 : decode cX5_bar 5 = .ok (.ifCond .eq 29, 3) := by decide +kernel
theorem dX5_bar_8 : decode cX5_bar 8 = .ok (.aload_n 0, 1) := by decide +kernel
theorem dX5_bar_9 : decode cX5_bar 9 = .ok (.iload_n 2, 1) := by decide +kernel
theorem dX5_bar_10 : decode cX5_bar 10 = .ok (.invokevirtual 77, 3) := by decide +kernel
theorem dX5_bar_13 : decode cX5_bar 13 = .ok (.ifCond .eq 21, 3) := by decide +kernel
theorem dX5_bar_16 : decode cX5_bar 16 = .ok (.aload_n 0, 1) := by decide +kernel
theorem dX5_bar_17 : decode cX5_bar 17 = .ok (.iload_n 3, 1) := by decide +kernel
theorem dX5_bar_18 : decode cX5_bar 18 = .ok (.invokevirtual 77, 3) := by decide +kernel
theorem dX5_bar_21 : decode cX5_bar 21 = .ok (.ifCond .eq 13, 3) := by decide +kernel
theorem dX5_bar_24 : decode cX5_bar 24 = .ok (.iload_n 1, 1) := by decide +kernel
theorem dX5_bar_25 : decode cX5_bar 25 = .ok (.iload_n 2, 1) := by decide +kernel
theorem dX5_bar_26 : decode cX5_bar 26 = .ok (.if_icmp .eq 8, 3) := by decide +kernel
theorem dX5_bar_29 : decode cX5_bar 29 = .ok (.iload_n 2, 1) := by decide +kernel
theorem dX5_bar_30 : decode cX5_bar 30 = .ok (.iload_n 3, 1) := by decide +kernel
theorem dX5_bar_31 : decode cX5_bar 31 = .ok (.if_icmp .ne 6, 3) := by decide +kernel
theorem dX5_bar_34 : decode cX5_bar 34 = .ok (.bipush (-14), 2) := by decide +kernel
theorem dX5_bar_36 : decode cX5_bar 36 = .ok (.ireturn, 1) := by decide +kernel
theorem dX5_bar_37 : decode cX5_bar 37 = .ok (.aload_n 0, 1) := by decide +kernel
theorem dX5_bar_38 : decode cX5_bar 38 = .ok (.iload_n 1, 1) := by decide +kernel
theorem dX5_bar_39 : decode cX5_bar 39 = .ok (.iload_n 2, 1) := by decide +kernel
theorem dX5_bar_40 : decode cX5_bar 40 = .ok (.iload_n 3, 1) := by decide +kernel
theorem dX5_bar_41 : decode cX5_bar 41 = .ok (.invokevirtual 85, 3) := by decide +kernel
theorem dX5_bar_44 : decode cX5_bar 44 = .ok (.istore 5, 2) := by decide +kernel
theorem dX5_bar_46 : decode cX5_bar 46 = .ok (.iload 5, 2) := by decide +kernel
theorem dX5_bar_48 : decode cX5_bar 48 = .ok (.ifCond .lt 7, 3) := by decide +kernel
theorem dX5_bar_51 : decode cX5_bar 51 = .ok (.iconst 1, 1) := by decide +kernel
theorem dX5_bar_52 : decode cX5_bar 52 = .ok (.goto 4, 3) := by decide +kernel
theorem dX5_bar_55 : decode cX5_bar 55 = .ok (.iconst 0, 1) := by decide +kernel
theorem dX5_bar_56 : decode cX5_bar 56 = .ok (.iload 4, 2) := by decide +kernel
theorem dX5_bar_58 : decode cX5_bar 58 = .ok (.if_icmp .ne 8, 3) := by decide +kernel
theorem dX5_bar_61 : decode cX5_bar 61 = .ok (.aload_n 0, 1) := by decide +kernel
theorem dX5_bar_62 : decode cX5_bar 62 = .ok (.getfield 55, 3) := by decide +kernel
theorem dX5_bar_65 : decode cX5_bar 65 = .ok (.ireturn, 1) := by decide +kernel
theorem dX5_bar_66 : decode cX5_bar 66 = .ok (.iload 4, 2) := by decide +kernel
theorem dX5_bar_68 : decode cX5_bar 68 = .ok (.ifCond .ne 59, 3) := by decide +kernel
theorem dX5_bar_71 : decode cX5_bar 71 = .ok (.aload_n 0, 1) := by decide +kernel
theorem dX5_bar_72 : decode cX5_bar 72 = .ok (.dup, 1) := by decide +kernel
theorem dX5_bar_73 : decode cX5_bar 73 = .ok (.getfield 55, 3) := by decide +kernel
theorem dX5_bar_76 : decode cX5_bar 76 = .ok (.iconst 1, 1) := by decide +kernel
theorem dX5_bar_77 : decode cX5_bar 77 = .ok (.isub, 1) := by decide +kernel
theorem dX5_bar_78 : decode cX5_bar 78 = .ok (.putfield 55, 3) := by decide +kernel
theorem dX5_bar_81 : decode cX5_bar 81 = .ok (.iconst 0, 1) := by decide +kernel
theorem dX5_bar_82 : decode cX5_bar 82 = .ok (.istore 6, 2) := by decide +kernel
theorem dX5_bar_84 : decode cX5_bar 84 = .ok (.iload 6, 2) := by decide +kernel
theorem dX5_bar_86 : decode cX5_bar 86 = .ok (.iconst 3, 1) := by decide +kernel
theorem dX5_bar_87 : decode cX5_bar 87 = .ok (.if_icmp .ge 35, 3) := by decide +kernel
theorem dX5_bar_90 : decode cX5_bar 90 = .ok (.aload_n 0, 1) := by decide +kernel
theorem dX5_bar_91 : decode cX5_bar 91 = .ok (.getfield 27, 3) := by decide +kernel
theorem dX5_bar_94 : decode cX5_bar 94 = .ok (.iconst 3, 1) := by decide +kernel
theorem dX5_bar_95 : decode cX5_bar 95 = .ok (.iload 5, 2) := by decide +kernel
theorem dX5_bar_97 : decode cX5_bar 97 = .ok (.imul, 1) := by decide +kernel
theorem dX5_bar_98 : decode cX5_bar 98 = .ok (.iload 6, 2) := by decide +kernel
theorem dX5_bar_100 : decode cX5_bar 100 = .ok (.iadd, 1) := by decide +kernel
theorem dX5_bar_101 : decode cX5_bar 101 = .ok (.aload_n 0, 1) := by decide +kernel
theorem dX5_bar_102 : decode cX5_bar 102 = .ok (.getfield 27, 3) := by decide +kernel
theorem dX5_bar_105 : decode cX5_bar 105 = .ok (.iconst 3, 1) := by decide +kernel
theorem dX5_bar_106 : decode cX5_bar 106 = .ok (.aload_n 0, 1) := by decide +kernel
theorem dX5_bar_107 : decode cX5_bar 107 = .ok (.getfield 55, 3) := by decide +kernel
theorem dX5_bar_110 : decode cX5_bar 110 = .ok (.imul, 1) := by decide +kernel
theorem dX5_bar_111 : decode cX5_bar 111 = .ok (.iload 6, 2) := by decide +kernel
theorem dX5_bar_113 : decode cX5_bar 113 = .ok (.iadd, 1) := by decide +kernel
theorem dX5_bar_114 : decode cX5_bar 114 = .ok (.iaload, 1) := by decide +kernel
theorem dX5_bar_115 : decode cX5_bar 115 = .ok (.iastore, 1) := by decide +kernel
theorem dX5_bar_116 : decode cX5_bar 116 = .ok (.iinc 6 1, 3) := by decide +kernel
theorem dX5_bar_119 : decode cX5_bar 119 = .ok (.goto (-35), 3) := by decide +kernel
theorem dX5_bar_122 : decode cX5_bar 122 = .ok (.aload_n 0, 1) := by decide +kernel
theorem dX5_bar_123 : decode cX5_bar 123 = .ok (.getfield 55, 3) := by decide +kernel
theorem dX5_bar_126 : decode cX5_bar 126 = .ok (.ireturn, 1) := by decide +kernel
theorem dX5_bar_127 : decode cX5_bar 127 = .ok (.aload_n 0, 1) := by decide +kernel
theorem dX5_bar_128 : decode cX5_bar 128 = .ok (.getfield 55, 3) := by decide +kernel
theorem dX5_bar_131 : decode cX5_bar 131 = .ok (.sipush 200, 3) := by decide +kernel
theorem dX5_bar_134 : decode cX5_bar 134 = .ok (.if_icmp .ne 6, 3) := by decide +kernel
theorem dX5_bar_137 : decode cX5_bar 137 = .ok (.bipush (-12), 2) := by decide +kernel
theorem dX5_bar_139 : decode cX5_bar 139 = .ok (.ireturn, 1) := by decide +kernel
theorem dX5_bar_140 : decode cX5_bar 140 = .ok (.aload_n 0, 1) := by decide +kernel
theorem dX5_bar_141 : decode cX5_bar 141 = .ok (.getfield 27, 3) := by decide +kernel
theorem dX5_bar_144 : decode cX5_bar 144 = .ok (.iconst 3, 1) := by decide +kernel
theorem dX5_bar_145 : decode cX5_bar 145 = .ok (.aload_n 0, 1) := by decide +kernel
theorem dX5_bar_146 : decode cX5_bar 146 = .ok (.getfield 55, 3) := by decide +kernel
theorem dX5_bar_149 : decode cX5_bar 149 = .ok (.imul, 1) := by decide +kernel
theorem dX5_bar_150 : decode cX5_bar 150 = .ok (.iload_n 1, 1) := by decide +kernel
theorem dX5_bar_151 : decode cX5_bar 151 = .ok (.iastore, 1) := by decide +kernel
theorem dX5_bar_152 : decode cX5_bar 152 = .ok (.aload_n 0, 1) := by decide +kernel
theorem dX5_bar_153 : decode cX5_bar 153 = .ok (.getfield 27, 3) := by decide +kernel
theorem dX5_bar_156 : decode cX5_bar 156 = .ok (.iconst 3, 1) := by decide +kernel
theorem dX5_bar_157 : decode cX5_bar 157 = .ok (.aload_n 0, 1) := by decide +kernel
theorem dX5_bar_158 : decode cX5_bar 158 = .ok (.getfield 55, 3) := by decide +kernel
theorem dX5_bar_161 : decode cX5_bar 161 = .ok (.imul, 1) := by decide +kernel
theorem dX5_bar_162 : decode cX5_bar 162 = .ok (.iconst 1, 1) := by decide +kernel
theorem dX5_bar_163 : decode cX5_bar 163 = .ok (.iadd, 1) := by decide +kernel
theorem dX5_bar_164 : decode cX5_bar 164 = .ok (.iload_n 2, 1) := by decide +kernel
theorem dX5_bar_165 : decode cX5_bar 165 = .ok (.iastore, 1) := by decide +kernel
theorem dX5_bar_166 : decode cX5_bar 166 = .ok (.aload_n 0, 1) := by decide +kernel
theorem dX5_bar_167 : decode cX5_bar 167 = .ok (.getfield 27, 3) := by decide +kernel
theorem dX5_bar_170 : decode cX5_bar 170 = .ok (.iconst 3, 1) := by decide +kernel
theorem dX5_bar_171 : decode cX5_bar 171 = .ok (.aload_n 0, 1) := by decide +kernel
theorem dX5_bar_172 : decode cX5_bar 172 = .ok (.getfield 55, 3) := by decide +kernel
theorem dX5_bar_175 : decode cX5_bar 175 = .ok (.imul, 1) := by decide +kernel
theorem dX5_bar_176 : decode cX5_bar 176 = .ok (.iconst 2, 1) := by decide +kernel
theorem dX5_bar_177 : decode cX5_bar 177 = .ok (.iadd, 1) := by decide +kernel
theorem dX5_bar_178 : decode cX5_bar 178 = .ok (.iload_n 3, 1) := by decide +kernel
theorem dX5_bar_179 : decode cX5_bar 179 = .ok (.iastore, 1) := by decide +kernel
theorem dX5_bar_180 : decode cX5_bar 180 = .ok (.aload_n 0, 1) := by decide +kernel
theorem dX5_bar_181 : decode cX5_bar 181 = .ok (.dup, 1) := by decide +kernel
theorem dX5_bar_182 : decode cX5_bar 182 = .ok (.getfield 55, 3) := by decide +kernel
theorem dX5_bar_185 : decode cX5_bar 185 = .ok (.iconst 1, 1) := by decide +kernel
theorem dX5_bar_186 : decode cX5_bar 186 = .ok (.iadd, 1) := by decide +kernel
theorem dX5_bar_187 : decode cX5_bar 187 = .ok (.putfield 55, 3) := by decide +kernel
theorem dX5_bar_190 : decode cX5_bar 190 = .ok (.aload_n 0, 1) := by decide +kernel
theorem dX5_bar_191 : decode cX5_bar 191 = .ok (.getfield 55, 3) := by decide +kernel
theorem dX5_bar_194 : decode cX5_bar 194 = .ok (.ireturn, 1) := by decide +kernel
theorem dX5_start_0 : decode cX5_start 0 = .ok (.iload_n 1, 1) := by decide +kernel
theorem dX5_start_1 : decode cX5_start 1 = .ok (.iconst 2, 1) := by decide +kernel
theorem dX5_start_2 : decode cX5_start 2 = .ok (.irem, 1) := by decide +kernel
theorem dX5_start_3 : decode cX5_start 3 = .ok (.ifCond .ne 14, 3) := by decide +kernel
theorem dX5_start_6 : decode cX5_start 6 = .ok (.aload_n 0, 1) := by decide +kernel
theorem dX5_start_7 : decode cX5_start 7 = .ok (.getfield 13, 3) := by decide +kernel
theorem dX5_start_10 : decode cX5_start 10 = .ok (.iload_n 1, 1) := by decide +kernel
theorem dX5_start_11 : decode cX5_start 11 = .ok (.iconst 2, 1) := by decide +kernel
theorem dX5_start_12 : decode cX5_start 12 = .ok (.idiv, 1) := by decide +kernel
theorem dX5_start_13 : decode cX5_start 13 = .ok (.iaload, 1) := by decide +kernel
theorem dX5_start_14 : decode cX5_start 14 = .ok (.goto 11, 3) := by decide +kernel
theorem dX5_start_17 : decode cX5_start 17 = .ok (.aload_n 0, 1) := by decide +kernel
theorem dX5_start_18 : decode cX5_start 18 = .ok (.getfield 17, 3) := by decide +kernel
theorem dX5_start_21 : decode cX5_start 21 = .ok (.iload_n 1, 1) := by decide +kernel
theorem dX5_start_22 : decode cX5_start 22 = .ok (.iconst 2, 1) := by decide +kernel
theorem dX5_start_23 : decode cX5_start 23 = .ok (.idiv, 1) := by decide +kernel
theorem dX5_start_24 : decode cX5_start 24 = .ok (.iaload, 1) := by decide +kernel
theorem dX5_start_25 : decode cX5_start 25 = .ok (.ireturn, 1) := by decide +kernel
set_option maxRecDepth 20000 in
theorem ggX5_end_X5_start : GoodIn wsX5_end wsX5_start := goodIn_r _ [5, 6, 7, 8, 9, 10, 11, 12, 13, 14, 15, 16, 17, 18, 19, 20, 21, 22, 23, 24] (by decide +kernel) (by decide +kernel)
set_option maxRecDepth 20000 in
theorem gX5_end_X5_start : GoodIn wsX5_end (wsV RX5 89 RX5 yX5_start wsX5_start) := goodIn_app (goodIn_of _ (by decide +kernel)) ggX5_end_X5_start
theorem dX5_end_0 : decode cX5_end 0 = .ok (.aload_n 0, 1) := by decide +kernel
theorem dX5_end_1 : decode cX5_end 1 = .ok (.iload_n 1, 1) := by decide +kernel
theorem dX5_end_2 : decode cX5_end 2 = .ok (.iconst 1, 1) := by decide +kernel
theorem dX5_end_3 : decode cX5_end 3 = .ok (.ixor, 1) := by decide +kernel
theorem dX5_end_4 : decode cX5_end 4 = .ok (.invokevirtual 89, 3) := by decide +kernel
theorem dX5_end_7 : decode cX5_end 7 = .ok (.ireturn, 1) := by decide +kernel
theorem dX5_isLess_0 : decode cX5_isLess 0 = .ok (.aload_n 0, 1) := by decide +kernel
theorem dX5_isLess_1 : decode cX5_isLess 1 = .ok (.getfield 30, 3) := by decide +kernel
theorem dX5_isLess_4 : decode cX5_isLess 4 = .ok (.iload_n 1, 1) := by decide +kernel
theorem dX5_isLess_5 : decode cX5_isLess 5 = .ok (.laload, 1) := by decide +kernel
theorem dX5_isLess_6 : decode cX5_isLess 6 = .ok (.aload_n 0, 1) := by decide +kernel
theorem dX5_isLess_7 : decode cX5_isLess 7 = .ok (.getfield 30, 3) := by decide +kernel
theorem dX5_isLess_10 : decode cX5_isLess 10 = .ok (.iload_n 2, 1) := by decide +kernel
theorem dX5_isLess_11 : decode cX5_isLess 11 = .ok (.laload, 1) := by decide +kernel
theorem dX5_isLess_12 : decode cX5_isLess 12 = .ok (.lcmp, 1) := by decide +kernel
theorem dX5_isLess_13 : decode cX5_isLess 13 = .ok (.ifCond .eq 27, 3) := by decide +kernel
theorem dX5_isLess_16 : decode cX5_isLess 16 = .ok (.aload_n 0, 1) := by decide +kernel
theorem dX5_isLess_17 : decode cX5_isLess 17 = .ok (.getfield 30, 3) := by decide +kernel
theorem dX5_isLess_20 : decode cX5_isLess 20 = .ok (.iload_n 1, 1) := by decide +kernel
theorem dX5_isLess_21 : decode cX5_isLess 21 = .ok (.laload, 1) := by decide +kernel
theorem dX5_isLess_22 : decode cX5_isLess 22 = .ok (.aload_n 0, 1) := by decide +kernel
theorem dX5_isLess_23 : decode cX5_isLess 23 = .ok (.getfield 30, 3) := by decide +kernel
theorem dX5_isLess_26 : decode cX5_isLess 26 = .ok (.iload_n 2, 1) := by decide +kernel
theorem dX5_isLess_27 : decode cX5_isLess 27 = .ok (.laload, 1) := by decide +kernel
theorem dX5_isLess_28 : decode cX5_isLess 28 = .ok (.lcmp, 1) := by decide +kernel
theorem dX5_isLess_29 : decode cX5_isLess 29 = .ok (.ifCond .ge 7, 3) := by decide +kernel
theorem dX5_isLess_32 : decode cX5_isLess 32 = .ok (.iconst 1, 1) := by decide +kernel
theorem dX5_isLess_33 : decode cX5_isLess 33 = .ok (.goto 27, 3) := by decide +kernel
theorem dX5_isLess_36 : decode cX5_isLess 36 = .ok (.iconst 0, 1) := by decide +kernel
theorem dX5_isLess_37 : decode cX5_isLess 37 = .ok (.goto 23, 3) := by decide +kernel
theorem dX5_isLess_40 : decode cX5_isLess 40 = .ok (.aload_n 0, 1) := by decide +kernel
theorem dX5_isLess_41 : decode cX5_isLess 41 = .ok (.getfield 34, 3) := by decide +kernel
theorem dX5_isLess_44 : decode cX5_isLess 44 = .ok (.iload_n 1, 1) := by decide +kernel
theorem dX5_isLess_45 : decode cX5_isLess 45 = .ok (.iaload, 1) := by decide +kernel
theorem dX5_isLess_46 : decode cX5_isLess 46 = .ok (.aload_n 0, 1) := by decide +kernel
theorem dX5_isLess_47 : decode cX5_isLess 47 = .ok (.getfield 34, 3) := by decide +kernel
theorem dX5_isLess_50 : decode cX5_isLess 50 = .ok (.iload_n 2, 1) := by decide +kernel
theorem dX5_isLess_51 : decode cX5_isLess 51 = .ok (.iaload, 1) := by decide +kernel
theorem dX5_isLess_52 : decode cX5_isLess 52 = .ok (.if_icmp .ge 7, 3) := by decide +kernel
theorem dX5_isLess_55 : decode cX5_isLess 55 = .ok (.iconst 1, 1) := by decide +kernel
theorem dX5_isLess_56 : decode cX5_isLess 56 = .ok (.goto 4, 3) := by decide +kernel
theorem dX5_isLess_59 : decode cX5_isLess 59 = .ok (.iconst 0, 1) := by decide +kernel
theorem dX5_isLess_60 : decode cX5_isLess 60 = .ok (.ireturn, 1) := by decide +kernel
set_option maxRecDepth 20000 in
theorem ggX5_known_X5_isLess : GoodIn wsX5_known wsX5_isLess := goodIn_r _ [11, 1, 3, 12, 13, 14, 15, 16, 17, 18, 19, 20, 21, 22, 23, 24, 25, 26, 27, 28] (by decide +kernel) (by decide +kernel)
set_option maxRecDepth 20000 in
theorem gX5_known_X5_isLess : GoodIn wsX5_known (wsV RX5 96 RX5 yX5_isLess wsX5_isLess) := goodIn_app (goodIn_of _ (by decide +kernel)) ggX5_known_X5_isLess
theorem dX5_known_0 : decode cX5_known 0 = .ok (.aload_n 0, 1) := by decide +kernel
theorem dX5_known_1 : decode cX5_known 1 = .ok (.getfield 30, 3) := by decide +kernel
theorem dX5_known_4 : decode cX5_known 4 = .ok (.iload_n 1, 1) := by decide +kernel
theorem dX5_known_5 : decode cX5_known 5 = .ok (.aload_n 0, 1) := by decide +kernel
theorem dX5_known_6 : decode cX5_known 6 = .ok (.getfield 20, 3) := by decide +kernel
theorem dX5_known_9 : decode cX5_known 9 = .ok (.iload_n 1, 1) := by decide +kernel
theorem dX5_known_10 : decode cX5_known 10 = .ok (.iconst 2, 1) := by decide +kernel
theorem dX5_known_11 : decode cX5_known 11 = .ok (.idiv, 1) := by decide +kernel
theorem dX5_known_12 : decode cX5_known 12 = .ok (.iaload, 1) := by decide +kernel
theorem dX5_known_13 : decode cX5_known 13 = .ok (.i2l, 1) := by decide +kernel
theorem dX5_known_14 : decode cX5_known 14 = .ok (.lload_n 2, 1) := by decide +kernel
theorem dX5_known_15 : decode cX5_known 15 = .ok (.ladd, 1) := by decide +kernel
theorem dX5_known_16 : decode cX5_known 16 = .ok (.lastore, 1) := by decide +kernel
theorem dX5_known_17 : decode cX5_known 17 = .ok (.aload_n 0, 1) := by decide +kernel
theorem dX5_known_18 : decode cX5_known 18 = .ok (.getfield 34, 3) := by decide +kernel
theorem dX5_known_21 : decode cX5_known 21 = .ok (.iload_n 1, 1) := by decide +kernel
theorem dX5_known_22 : decode cX5_known 22 = .ok (.iload 4, 2) := by decide +kernel
theorem dX5_known_24 : decode cX5_known 24 = .ok (.iconst 1, 1) := by decide +kernel
theorem dX5_known_25 : decode cX5_known 25 = .ok (.iadd, 1) := by decide +kernel
theorem dX5_known_26 : decode cX5_known 26 = .ok (.iastore, 1) := by decide +kernel
theorem dX5_known_27 : decode cX5_known 27 = .ok (.aload_n 0, 1) := by decide +kernel
theorem dX5_known_28 : decode cX5_known 28 = .ok (.getfield 37, 3) := by decide +kernel
theorem dX5_known_31 : decode cX5_known 31 = .ok (.iload_n 1, 1) := by decide +kernel
theorem dX5_known_32 : decode cX5_known 32 = .ok (.iconst 1, 1) := by decide +kernel
theorem dX5_known_33 : decode cX5_known 33 = .ok (.bastore, 1) := by decide +kernel
theorem dX5_known_34 : decode cX5_known 34 = .ok (.aload_n 0, 1) := by decide +kernel
theorem dX5_known_35 : decode cX5_known 35 = .ok (.getfield 93, 3) := by decide +kernel
theorem dX5_known_38 : decode cX5_known 38 = .ok (.istore 5, 2) := by decide +kernel
theorem dX5_known_40 : decode cX5_known 40 = .ok (.aload_n 0, 1) := by decide +kernel
theorem dX5_known_41 : decode cX5_known 41 = .ok (.dup, 1) := by decide +kernel
theorem dX5_known_42 : decode cX5_known 42 = .ok (.getfield 93, 3) := by decide +kernel
theorem dX5_known_45 : decode cX5_known 45 = .ok (.iconst 1, 1) := by decide +kernel
theorem dX5_known_46 : decode cX5_known 46 = .ok (.iadd, 1) := by decide +kernel
theorem dX5_known_47 : decode cX5_known 47 = .ok (.putfield 93, 3) := by decide +kernel
theorem dX5_known_50 : decode cX5_known 50 = .ok (.iload 5, 2) := by decide +kernel
theorem dX5_known_52 : decode cX5_known 52 = .ok (.ifCond .le 51, 3) := by decide +kernel
theorem dX5_known_55 : decode cX5_known 55 = .ok (.aload_n 0, 1) := by decide +kernel
theorem dX5_known_56 : decode cX5_known 56 = .ok (.iload_n 1, 1) := by decide +kernel
theorem dX5_known_57 : decode cX5_known 57 = .ok (.aload_n 0, 1) := by decide +kernel
theorem dX5_known_58 : decode cX5_known 58 = .ok (.getfield 46, 3) := by decide +kernel
theorem dX5_known_61 : decode cX5_known 61 = .ok (.iload 5, 2) := by decide +kernel
theorem dX5_known_63 : decode cX5_known 63 = .ok (.iconst 1, 1) := by decide +kernel
end
section
theorem dX5_known_64 : decode cX5_known 64 = .ok (.isub, 1) := by decide +kernel
theorem dX5_known_65 : decode cX5_known 65 = .ok (.iconst 2, 1) := by decide +kernel
theorem dX5_known_66 : decode cX5_known 66 = .ok (.idiv, 1) := by decide +kernel
theorem dX5_known_67 : decode cX5_known 67 = .ok (.iaload, 1) := by decide +kernel
theorem dX5_known_68 : decode cX5_known 68 = .ok (.invokevirtual 96, 3) := by decide +kernel
theorem dX5_known_71 : decode cX5_known 71 = .ok (.ifCond .eq 32, 3) := by decide +kernel
theorem dX5_known_74 : decode cX5_known 74 = .ok (.aload_n 0, 1) := by decide +kernel
theorem dX5_known_75 : decode cX5_known 75 = .ok (.getfield 46, 3) := by decide +kernel
theorem dX5_known_78 : decode cX5_known 78 = .ok (.iload 5, 2) := by decide +kernel
theorem dX5_known_80 : decode cX5_known 80 = .ok (.aload_n 0, 1) := by decide +kernel
theorem dX5_known_81 : decode cX5_known 81 = .ok (.getfield 46, 3) := by decide +kernel
theorem dX5_known_84 : decode cX5_known 84 = .ok (.iload 5, 2) := by decide +kernel
theorem dX5_known_86 : decode cX5_known 86 = .ok (.iconst 1, 1) := by decide +kernel
theorem dX5_known_87 : decode cX5_known 87 = .ok (.isub, 1) := by decide +kernel
theorem dX5_known_88 : decode cX5_known 88 = .ok (.iconst 2, 1) := by decide +kernel
theorem dX5_known_89 : decode cX5_known 89 = .ok (.idiv, 1) := by decide +kernel
theorem dX5_known_90 : decode cX5_known 90 = .ok (.iaload, 1) := by decide +kernel
theorem dX5_known_91 : decode cX5_known 91 = .ok (.iastore, 1) := by decide +kernel
theorem dX5_known_92 : decode cX5_known 92 = .ok (.iload 5, 2) := by decide +kernel
theorem dX5_known_94 : decode cX5_known 94 = .ok (.iconst 1, 1) := by decide +kernel
theorem dX5_known_95 : decode cX5_known 95 = .ok (.isub, 1) := by decide +kernel
theorem dX5_known_96 : decode cX5_known 96 = .ok (.iconst 2, 1) := by decide +kernel
theorem dX5_known_97 : decode cX5_known 97 = .ok (.idiv, 1) := by decide +kernel
theorem dX5_known_98 : decode cX5_known 98 = .ok (.istore 5, 2) := by decide +kernel
theorem dX5_known_100 : decode cX5_known 100 = .ok (.goto (-50), 3) := by decide +kernel
theorem dX5_known_103 : decode cX5_known 103 = .ok (.aload_n 0, 1) := by decide +kernel
theorem dX5_known_104 : decode cX5_known 104 = .ok (.getfield 46, 3) := by decide +kernel
theorem dX5_known_107 : decode cX5_known 107 = .ok (.iload 5, 2) := by decide +kernel
theorem dX5_known_109 : decode cX5_known 109 = .ok (.iload_n 1, 1) := by decide +kernel
theorem dX5_known_110 : decode cX5_known 110 = .ok (.iastore, 1) := by decide +kernel
theorem dX5_known_111 : decode cX5_known 111 = .ok (.return_, 1) := by decide +kernel
set_option maxRecDepth 20000 in
theorem ggX5_pull_X5_isLess : GoodIn wsX5_pull wsX5_isLess := goodIn_r _ [7, 8, 9, 10, 11, 12, 13, 14, 15, 16, 17, 18, 19, 20, 21, 22, 23, 24, 25, 26] (by decide +kernel) (by decide +kernel)
set_option maxRecDepth 20000 in
theorem gX5_pull_X5_isLess : GoodIn wsX5_pull (wsV RX5 96 RX5 yX5_isLess wsX5_isLess) := goodIn_app (goodIn_of _ (by decide +kernel)) ggX5_pull_X5_isLess
theorem dX5_pull_0 : decode cX5_pull 0 = .ok (.aload_n 0, 1) := by decide +kernel
theorem dX5_pull_1 : decode cX5_pull 1 = .ok (.getfield 46, 3) := by decide +kernel
theorem dX5_pull_4 : decode cX5_pull 4 = .ok (.iconst 0, 1) := by decide +kernel
theorem dX5_pull_5 : decode cX5_pull 5 = .ok (.iaload, 1) := by decide +kernel
theorem dX5_pull_6 : decode cX5_pull 6 = .ok (.istore_n 1, 1) := by decide +kernel
theorem dX5_pull_7 : decode cX5_pull 7 = .ok (.aload_n 0, 1) := by decide +kernel
theorem dX5_pull_8 : decode cX5_pull 8 = .ok (.dup, 1) := by decide +kernel
theorem dX5_pull_9 : decode cX5_pull 9 = .ok (.getfield 93, 3) := by decide +kernel
theorem dX5_pull_12 : decode cX5_pull 12 = .ok (.iconst 1, 1) := by decide +kernel
theorem dX5_pull_13 : decode cX5_pull 13 = .ok (.isub, 1) := by decide +kernel
theorem dX5_pull_14 : decode cX5_pull 14 = .ok (.putfield 93, 3) := by decide +kernel
theorem dX5_pull_17 : decode cX5_pull 17 = .ok (.aload_n 0, 1) := by decide +kernel
theorem dX5_pull_18 : decode cX5_pull 18 = .ok (.getfield 46, 3) := by decide +kernel
theorem dX5_pull_21 : decode cX5_pull 21 = .ok (.aload_n 0, 1) := by decide +kernel
theorem dX5_pull_22 : decode cX5_pull 22 = .ok (.getfield 93, 3) := by decide +kernel
theorem dX5_pull_25 : decode cX5_pull 25 = .ok (.iaload, 1) := by decide +kernel
theorem dX5_pull_26 : decode cX5_pull 26 = .ok (.istore_n 2, 1) := by decide +kernel
theorem dX5_pull_27 : decode cX5_pull 27 = .ok (.iconst 0, 1) := by decide +kernel
theorem dX5_pull_28 : decode cX5_pull 28 = .ok (.istore_n 3, 1) := by decide +kernel
theorem dX5_pull_29 : decode cX5_pull 29 = .ok (.iconst 1, 1) := by decide +kernel
theorem dX5_pull_30 : decode cX5_pull 30 = .ok (.aload_n 0, 1) := by decide +kernel
theorem dX5_pull_31 : decode cX5_pull 31 = .ok (.getfield 93, 3) := by decide +kernel
theorem dX5_pull_34 : decode cX5_pull 34 = .ok (.if_icmp .ge 7, 3) := by decide +kernel
theorem dX5_pull_37 : decode cX5_pull 37 = .ok (.iconst 1, 1) := by decide +kernel
theorem dX5_pull_38 : decode cX5_pull 38 = .ok (.goto 4, 3) := by decide +kernel
theorem dX5_pull_41 : decode cX5_pull 41 = .ok (.iconst 0, 1) := by decide +kernel
theorem dX5_pull_42 : decode cX5_pull 42 = .ok (.istore 4, 2) := by decide +kernel
theorem dX5_pull_44 : decode cX5_pull 44 = .ok (.iload 4, 2) := by decide +kernel
theorem dX5_pull_46 : decode cX5_pull 46 = .ok (.ifCond .eq 107, 3) := by decide +kernel
theorem dX5_pull_49 : decode cX5_pull 49 = .ok (.iconst 2, 1) := by decide +kernel
theorem dX5_pull_50 : decode cX5_pull 50 = .ok (.iload_n 3, 1) := by decide +kernel
theorem dX5_pull_51 : decode cX5_pull 51 = .ok (.imul, 1) := by decide +kernel
theorem dX5_pull_52 : decode cX5_pull 52 = .ok (.iconst 1, 1) := by decide +kernel
theorem dX5_pull_53 : decode cX5_pull 53 = .ok (.iadd, 1) := by decide +kernel
theorem dX5_pull_54 : decode cX5_pull 54 = .ok (.istore 5, 2) := by decide +kernel
theorem dX5_pull_56 : decode cX5_pull 56 = .ok (.iload 5, 2) := by decide +kernel
theorem dX5_pull_58 : decode cX5_pull 58 = .ok (.iconst 1, 1) := by decide +kernel
theorem dX5_pull_59 : decode cX5_pull 59 = .ok (.iadd, 1) := by decide +kernel
theorem dX5_pull_60 : decode cX5_pull 60 = .ok (.aload_n 0, 1) := by decide +kernel
theorem dX5_pull_61 : decode cX5_pull 61 = .ok (.getfield 93, 3) := by decide +kernel
theorem dX5_pull_64 : decode cX5_pull 64 = .ok (.if_icmp .ge 29, 3) := by decide +kernel
theorem dX5_pull_67 : decode cX5_pull 67 = .ok (.aload_n 0, 1) := by decide +kernel
theorem dX5_pull_68 : decode cX5_pull 68 = .ok (.aload_n 0, 1) := by decide +kernel
theorem dX5_pull_69 : decode cX5_pull 69 = .ok (.getfield 46, 3) := by decide +kernel
theorem dX5_pull_72 : decode cX5_pull 72 = .ok (.iload 5, 2) := by decide +kernel
theorem dX5_pull_74 : decode cX5_pull 74 = .ok (.iconst 1, 1) := by decide +kernel
theorem dX5_pull_75 : decode cX5_pull 75 = .ok (.iadd, 1) := by decide +kernel
theorem dX5_pull_76 : decode cX5_pull 76 = .ok (.iaload, 1) := by decide +kernel
theorem dX5_pull_77 : decode cX5_pull 77 = .ok (.aload_n 0, 1) := by decide +kernel
theorem dX5_pull_78 : decode cX5_pull 78 = .ok (.getfield 46, 3) := by decide +kernel
theorem dX5_pull_81 : decode cX5_pull 81 = .ok (.iload 5, 2) := by decide +kernel
theorem dX5_pull_83 : decode cX5_pull 83 = .ok (.iaload, 1) := by decide +kernel
theorem dX5_pull_84 : decode cX5_pull 84 = .ok (.invokevirtual 96, 3) := by decide +kernel
theorem dX5_pull_87 : decode cX5_pull 87 = .ok (.ifCond .eq 6, 3) := by decide +kernel
theorem dX5_pull_90 : decode cX5_pull 90 = .ok (.iinc 5 1, 3) := by decide +kernel
theorem dX5_pull_93 : decode cX5_pull 93 = .ok (.aload_n 0, 1) := by decide +kernel
theorem dX5_pull_94 : decode cX5_pull 94 = .ok (.aload_n 0, 1) := by decide +kernel
theorem dX5_pull_95 : decode cX5_pull 95 = .ok (.getfield 46, 3) := by decide +kernel
theorem dX5_pull_98 : decode cX5_pull 98 = .ok (.iload 5, 2) := by decide +kernel
theorem dX5_pull_100 : decode cX5_pull 100 = .ok (.iaload, 1) := by decide +kernel
theorem dX5_pull_101 : decode cX5_pull 101 = .ok (.iload_n 2, 1) := by decide +kernel
theorem dX5_pull_102 : decode cX5_pull 102 = .ok (.invokevirtual 96, 3) := by decide +kernel
theorem dX5_pull_105 : decode cX5_pull 105 = .ok (.istore 4, 2) := by decide +kernel
theorem dX5_pull_107 : decode cX5_pull 107 = .ok (.iload 4, 2) := by decide +kernel
theorem dX5_pull_109 : decode cX5_pull 109 = .ok (.ifCond .ne 6, 3) := by decide +kernel
theorem dX5_pull_112 : decode cX5_pull 112 = .ok (.goto (-68), 3) := by decide +kernel
theorem dX5_pull_115 : decode cX5_pull 115 = .ok (.aload_n 0, 1) := by decide +kernel
theorem dX5_pull_116 : decode cX5_pull 116 = .ok (.getfield 46, 3) := by decide +kernel
theorem dX5_pull_119 : decode cX5_pull 119 = .ok (.iload_n 3, 1) := by decide +kernel
theorem dX5_pull_120 : decode cX5_pull 120 = .ok (.aload_n 0, 1) := by decide +kernel
theorem dX5_pull_121 : decode cX5_pull 121 = .ok (.getfield 46, 3) := by decide +kernel
theorem dX5_pull_124 : decode cX5_pull 124 = .ok (.iload 5, 2) := by decide +kernel
theorem dX5_pull_126 : decode cX5_pull 126 = .ok (.iaload, 1) := by decide +kernel
theorem dX5_pull_127 : decode cX5_pull 127 = .ok (.iastore, 1) := by decide +kernel
theorem dX5_pull_128 : decode cX5_pull 128 = .ok (.iload 5, 2) := by decide +kernel
theorem dX5_pull_130 : decode cX5_pull 130 = .ok (.istore_n 3, 1) := by decide +kernel
theorem dX5_pull_131 : decode cX5_pull 131 = .ok (.iconst 2, 1) := by decide +kernel
theorem dX5_pull_132 : decode cX5_pull 132 = .ok (.iload_n 3, 1) := by decide +kernel
theorem dX5_pull_133 : decode cX5_pull 133 = .ok (.imul, 1) := by decide +kernel
theorem dX5_pull_134 : decode cX5_pull 134 = .ok (.iconst 1, 1) := by decide +kernel
theorem dX5_pull_135 : decode cX5_pull 135 = .ok (.iadd, 1) := by decide +kernel
theorem dX5_pull_136 : decode cX5_pull 136 = .ok (.aload_n 0, 1) := by decide +kernel
theorem dX5_pull_137 : decode cX5_pull 137 = .ok (.getfield 93, 3) := by decide +kernel
theorem dX5_pull_140 : decode cX5_pull 140 = .ok (.if_icmp .ge 7, 3) := by decide +kernel
theorem dX5_pull_143 : decode cX5_pull 143 = .ok (.iconst 1, 1) := by decide +kernel
theorem dX5_pull_144 : decode cX5_pull 144 = .ok (.goto 4, 3) := by decide +kernel
theorem dX5_pull_147 : decode cX5_pull 147 = .ok (.iconst 0, 1) := by decide +kernel
theorem dX5_pull_148 : decode cX5_pull 148 = .ok (.istore 4, 2) := by decide +kernel
theorem dX5_pull_150 : decode cX5_pull 150 = .ok (.goto (-106), 3) := by decide +kernel
theorem dX5_pull_153 : decode cX5_pull 153 = .ok (.aload_n 0, 1) := by decide +kernel
theorem dX5_pull_154 : decode cX5_pull 154 = .ok (.getfield 46, 3) := by decide +kernel
theorem dX5_pull_157 : decode cX5_pull 157 = .ok (.iload_n 3, 1) := by decide +kernel
theorem dX5_pull_158 : decode cX5_pull 158 = .ok (.iload_n 2, 1) := by decide +kernel
theorem dX5_pull_159 : decode cX5_pull 159 = .ok (.iastore, 1) := by decide +kernel
theorem dX5_pull_160 : decode cX5_pull 160 = .ok (.iload_n 1, 1) := by decide +kernel
theorem dX5_pull_161 : decode cX5_pull 161 = .ok (.ireturn, 1) := by decide +kernel
set_option maxRecDepth 20000 in
theorem ggX5_begin_X5_start : GoodIn wsX5_begin wsX5_start := goodIn_r _ [12, 13, 14, 15, 16, 17, 18, 19, 20, 21, 22, 23, 24, 25, 26, 27, 28, 29, 30, 31] (by decide +kernel) (by decide +kernel)
set_option maxRecDepth 20000 in
theorem gX5_begin_X5_start : GoodIn wsX5_begin (wsV RX5 89 RX5 yX5_start wsX5_start) := goodIn_app (goodIn_of _ (by decide +kernel)) ggX5_begin_X5_start
theorem dX5_begin_0 : decode cX5_begin 0 = .ok (.aload_n 0, 1) := by decide +kernel
theorem dX5_begin_1 : decode cX5_begin 1 = .ok (.iconst 0, 1) := by decide +kernel
theorem dX5_begin_2 : decode cX5_begin 2 = .ok (.putfield 93, 3) := by decide +kernel
theorem dX5_begin_5 : decode cX5_begin 5 = .ok (.iconst 0, 1) := by decide +kernel
theorem dX5_begin_6 : decode cX5_begin 6 = .ok (.istore_n 1, 1) := by decide +kernel
theorem dX5_begin_7 : decode cX5_begin 7 = .ok (.iload_n 1, 1) := by decide +kernel
theorem dX5_begin_8 : decode cX5_begin 8 = .ok (.aload_n 0, 1) := by decide +kernel
theorem dX5_begin_9 : decode cX5_begin 9 = .ok (.getfield 7, 3) := by decide +kernel
theorem dX5_begin_12 : decode cX5_begin 12 = .ok (.if_icmp .ge 16, 3) := by decide +kernel
theorem dX5_begin_15 : decode cX5_begin 15 = .ok (.aload_n 0, 1) := by decide +kernel
theorem dX5_begin_16 : decode cX5_begin 16 = .ok (.getfield 40, 3) := by decide +kernel
theorem dX5_begin_19 : decode cX5_begin 19 = .ok (.iload_n 1, 1) := by decide +kernel
theorem dX5_begin_20 : decode cX5_begin 20 = .ok (.iconst (-1), 1) := by decide +kernel
theorem dX5_begin_21 : decode cX5_begin 21 = .ok (.iastore, 1) := by decide +kernel
theorem dX5_begin_22 : decode cX5_begin 22 = .ok (.iinc 1 1, 3) := by decide +kernel
theorem dX5_begin_25 : decode cX5_begin 25 = .ok (.goto (-18), 3) := by decide +kernel
theorem dX5_begin_28 : decode cX5_begin 28 = .ok (.iconst 2, 1) := by decide +kernel
theorem dX5_begin_29 : decode cX5_begin 29 = .ok (.aload_n 0, 1) := by decide +kernel
theorem dX5_begin_30 : decode cX5_begin 30 = .ok (.getfield 52, 3) := by decide +kernel
theorem dX5_begin_33 : decode cX5_begin 33 = .ok (.imul, 1) := by decide +kernel
theorem dX5_begin_34 : decode cX5_begin 34 = .ok (.iconst 1, 1) := by decide +kernel
theorem dX5_begin_35 : decode cX5_begin 35 = .ok (.isub, 1) := by decide +kernel
theorem dX5_begin_36 : decode cX5_begin 36 = .ok (.istore_n 1, 1) := by decide +kernel
theorem dX5_begin_37 : decode cX5_begin 37 = .ok (.iload_n 1, 1) := by decide +kernel
theorem dX5_begin_38 : decode cX5_begin 38 = .ok (.ifCond .lt 57, 3) := by decide +kernel
theorem dX5_begin_41 : decode cX5_begin 41 = .ok (.aload_n 0, 1) := by decide +kernel
theorem dX5_begin_42 : decode cX5_begin 42 = .ok (.getfield 37, 3) := by decide +kernel
theorem dX5_begin_45 : decode cX5_begin 45 = .ok (.iload_n 1, 1) := by decide +kernel
theorem dX5_begin_46 : decode cX5_begin 46 = .ok (.iconst 0, 1) := by decide +kernel
theorem dX5_begin_47 : decode cX5_begin 47 = .ok (.bastore, 1) := by decide +kernel
theorem dX5_begin_48 : decode cX5_begin 48 = .ok (.aload_n 0, 1) := by decide +kernel
theorem dX5_begin_49 : decode cX5_begin 49 = .ok (.getfield 23, 3) := by decide +kernel
theorem dX5_begin_52 : decode cX5_begin 52 = .ok (.iload_n 1, 1) := by decide +kernel
theorem dX5_begin_53 : decode cX5_begin 53 = .ok (.iconst 2, 1) := by decide +kernel
theorem dX5_begin_54 : decode cX5_begin 54 = .ok (.idiv, 1) := by decide +kernel
theorem dX5_begin_55 : decode cX5_begin 55 = .ok (.baload, 1) := by decide +kernel
theorem dX5_begin_56 : decode cX5_begin 56 = .ok (.ifCond .eq 6, 3) := by decide +kernel
theorem dX5_begin_59 : decode cX5_begin 59 = .ok (.goto 30, 3) := by decide +kernel
theorem dX5_begin_62 : decode cX5_begin 62 = .ok (.aload_n 0, 1) := by decide +kernel
theorem dX5_begin_63 : decode cX5_begin 63 = .ok (.getfield 43, 3) := by decide +kernel
theorem dX5_begin_66 : decode cX5_begin 66 = .ok (.iload_n 1, 1) := by decide +kernel
theorem dX5_begin_67 : decode cX5_begin 67 = .ok (.aload_n 0, 1) := by decide +kernel
theorem dX5_begin_68 : decode cX5_begin 68 = .ok (.getfield 40, 3) := by decide +kernel
theorem dX5_begin_71 : decode cX5_begin 71 = .ok (.aload_n 0, 1) := by decide +kernel
theorem dX5_begin_72 : decode cX5_begin 72 = .ok (.iload_n 1, 1) := by decide +kernel
theorem dX5_begin_73 : decode cX5_begin 73 = .ok (.invokevirtual 89, 3) := by decide +kernel
theorem dX5_begin_76 : decode cX5_begin 76 = .ok (.iaload, 1) := by decide +kernel
theorem dX5_begin_77 : decode cX5_begin 77 = .ok (.iastore, 1) := by decide +kernel
theorem dX5_begin_78 : decode cX5_begin 78 = .ok (.aload_n 0, 1) := by decide +kernel
theorem dX5_begin_79 : decode cX5_begin 79 = .ok (.getfield 40, 3) := by decide +kernel
theorem dX5_begin_82 : decode cX5_begin 82 = .ok (.aload_n 0, 1) := by decide +kernel
theorem dX5_begin_83 : decode cX5_begin 83 = .ok (.iload_n 1, 1) := by decide +kernel
theorem dX5_begin_84 : decode cX5_begin 84 = .ok (.invokevirtual 89, 3) := by decide +kernel
theorem dX5_begin_87 : decode cX5_begin 87 = .ok (.iload_n 1, 1) := by decide +kernel
theorem dX5_begin_88 : decode cX5_begin 88 = .ok (.iastore, 1) := by decide +kernel
theorem dX5_begin_89 : decode cX5_begin 89 = .ok (.iinc 1 (-1), 3) := by decide +kernel
theorem dX5_begin_92 : decode cX5_begin 92 = .ok (.goto (-55), 3) := by decide +kernel
theorem dX5_begin_95 : decode cX5_begin 95 = .ok (.return_, 1) := by decide +kernel
set_option maxRecDepth 20000 in
theorem ggX5_spread_X5_begin : GoodIn wsX5_spread wsX5_begin := goodIn_r _ [11, 3, 12, 1, 13, 4, 14, 2, 15, 16, 17, 10, 18, 19, 20, 45, 46, 47, 48, 49, 50, 51, 52, 53, 54, 55, 56, 57, 58, 59, 60, 61] (by decide +kernel) (by decide +kernel)
set_option maxRecDepth 20000 in
theorem gX5_spread_X5_begin : GoodIn wsX5_spread (wsV RX5 100 RX5 yX5_begin wsX5_begin) := goodIn_app (goodIn_of _ (by decide +kernel)) ggX5_spread_X5_begin
set_option maxRecDepth 20000 in
theorem ggX5_spread_X5_known : GoodIn wsX5_spread wsX5_known := goodIn_r _ [24, 5, 25, 6, 4, 3, 26, 27, 28, 29, 10, 30, 45, 46, 47, 48, 49, 50, 51, 52, 53, 54, 55, 56, 57, 58, 59, 60, 61] (by decide +kernel) (by decide +kernel)
set_option maxRecDepth 20000 in
theorem gX5_spread_X5_known : GoodIn wsX5_spread (wsV RX5 103 RX5 yX5_known wsX5_known) := goodIn_app (goodIn_of _ (by decide +kernel)) ggX5_spread_X5_known
set_option maxRecDepth 20000 in
theorem ggX5_spread_X5_pull : GoodIn wsX5_spread wsX5_pull := goodIn_r _ [34, 26, 3, 27, 28, 29, 10, 30, 5, 6, 45, 46, 47, 48, 49, 50, 51, 52, 53, 54, 55, 56, 57, 58, 59, 60, 61] (by decide +kernel) (by decide +kernel)
set_option maxRecDepth 20000 in
theorem gX5_spread_X5_pull : GoodIn wsX5_spread (wsV RX5 107 RX5 yX5_pull wsX5_pull) := goodIn_app (goodIn_of _ (by decide +kernel)) ggX5_spread_X5_pull
set_option maxRecDepth 20000 in
theorem ggX5_spread_X5_start : GoodIn wsX5_spread wsX5_start := goodIn_r _ [18, 19, 20, 45, 46, 47, 48, 49, 50, 51, 52, 53, 54, 55, 56, 57, 58, 59, 60, 61] (by decide +kernel) (by decide +kernel)
set_option maxRecDepth 20000 in
theorem gX5_spread_X5_start : GoodIn wsX5_spread (wsV RX5 89 RX5 yX5_start wsX5_start) := goodIn_app (goodIn_of _ (by decide +kernel)) ggX5_spread_X5_start
set_option maxRecDepth 20000 in
theorem ggX5_spread_X5_end : GoodIn wsX5_spread wsX5_end := goodIn_r _ [38, 15, 16, 17, 10, 18, 19, 20, 45, 46, 47, 48, 49, 50, 51, 52, 53, 54, 55, 56, 57, 58, 59, 60, 61] (by decide +kernel) (by decide +kernel)
set_option maxRecDepth 20000 in
theorem gX5_spread_X5_end : GoodIn wsX5_spread (wsV RX5 111 RX5 yX5_end wsX5_end) := goodIn_app (goodIn_of _ (by decide +kernel)) ggX5_spread_X5_end
set_option maxRecDepth 20000 in
theorem ggX5_spread_X5_barAt : GoodIn wsX5_spread wsX5_barAt := goodIn_r _ [42, 43, 44, 45, 46, 47, 48, 49, 50, 51, 52, 53, 54, 55, 56, 57, 58, 59, 60, 61] (by decide +kernel) (by decide +kernel)
set_option maxRecDepth 20000 in
theorem gX5_spread_X5_barAt : GoodIn wsX5_spread (wsV RX5 85 RX5 yX5_barAt wsX5_barAt) := goodIn_app (goodIn_of _ (by decide +kernel)) ggX5_spread_X5_barAt
theorem dX5_spread_0 : decode cX5_spread 0 = .ok (.aload_n 0, 1) := by decide +kernel
theorem dX5_spread_1 : decode cX5_spread 1 = .ok (.invokevirtual 100, 3) := by decide +kernel
theorem dX5_spread_4 : decode cX5_spread 4 = .ok (.aload_n 0, 1) := by decide +kernel
theorem dX5_spread_5 : decode cX5_spread 5 = .ok (.getfield 40, 3) := by decide +kernel
theorem dX5_spread_8 : decode cX5_spread 8 = .ok (.iload_n 1, 1) := by decide +kernel
theorem dX5_spread_9 : decode cX5_spread 9 = .ok (.iaload, 1) := by decide +kernel
theorem dX5_spread_10 : decode cX5_spread 10 = .ok (.istore_n 2, 1) := by decide +kernel
theorem dX5_spread_11 : decode cX5_spread 11 = .ok (.iload_n 2, 1) := by decide +kernel
theorem dX5_spread_12 : decode cX5_spread 12 = .ok (.ifCond .lt 22, 3) := by decide +kernel
theorem dX5_spread_15 : decode cX5_spread 15 = .ok (.aload_n 0, 1) := by decide +kernel
theorem dX5_spread_16 : decode cX5_spread 16 = .ok (.iload_n 2, 1) := by decide +kernel
theorem dX5_spread_17 : decode cX5_spread 17 = .ok (.iconst 1, 1) := by decide +kernel
theorem dX5_spread_18 : decode cX5_spread 18 = .ok (.ixor, 1) := by decide +kernel
theorem dX5_spread_19 : decode cX5_spread 19 = .ok (.lconst 0, 1) := by decide +kernel
theorem dX5_spread_20 : decode cX5_spread 20 = .ok (.iconst 0, 1) := by decide +kernel
theorem dX5_spread_21 : decode cX5_spread 21 = .ok (.invokevirtual 103, 3) := by decide +kernel
theorem dX5_spread_24 : decode cX5_spread 24 = .ok (.aload_n 0, 1) := by decide +kernel
theorem dX5_spread_25 : decode cX5_spread 25 = .ok (.getfield 43, 3) := by decide +kernel
theorem dX5_spread_28 : decode cX5_spread 28 = .ok (.iload_n 2, 1) := by decide +kernel
theorem dX5_spread_29 : decode cX5_spread 29 = .ok (.iaload, 1) := by decide +kernel
theorem dX5_spread_30 : decode cX5_spread 30 = .ok (.istore_n 2, 1) := by decide +kernel
theorem dX5_spread_31 : decode cX5_spread 31 = .ok (.goto (-20), 3) := by decide +kernel
theorem dX5_spread_34 : decode cX5_spread 34 = .ok (.aload_n 0, 1) := by decide +kernel
theorem dX5_spread_35 : decode cX5_spread 35 = .ok (.getfield 93, 3) := by decide +kernel
theorem dX5_spread_38 : decode cX5_spread 38 = .ok (.ifCond .le 93, 3) := by decide +kernel
theorem dX5_spread_41 : decode cX5_spread 41 = .ok (.aload_n 0, 1) := by decide +kernel
theorem dX5_spread_42 : decode cX5_spread 42 = .ok (.invokevirtual 107, 3) := by decide +kernel
theorem dX5_spread_45 : decode cX5_spread 45 = .ok (.istore_n 2, 1) := by decide +kernel
theorem dX5_spread_46 : decode cX5_spread 46 = .ok (.aload_n 0, 1) := by decide +kernel
theorem dX5_spread_47 : decode cX5_spread 47 = .ok (.getfield 40, 3) := by decide +kernel
theorem dX5_spread_50 : decode cX5_spread 50 = .ok (.aload_n 0, 1) := by decide +kernel
theorem dX5_spread_51 : decode cX5_spread 51 = .ok (.iload_n 2, 1) := by decide +kernel
theorem dX5_spread_52 : decode cX5_spread 52 = .ok (.invokevirtual 89, 3) := by decide +kernel
theorem dX5_spread_55 : decode cX5_spread 55 = .ok (.iaload, 1) := by decide +kernel
theorem dX5_spread_56 : decode cX5_spread 56 = .ok (.istore_n 3, 1) := by decide +kernel
theorem dX5_spread_57 : decode cX5_spread 57 = .ok (.iload_n 3, 1) := by decide +kernel
theorem dX5_spread_58 : decode cX5_spread 58 = .ok (.ifCond .lt 70, 3) := by decide +kernel
theorem dX5_spread_61 : decode cX5_spread 61 = .ok (.iload_n 3, 1) := by decide +kernel
theorem dX5_spread_62 : decode cX5_spread 62 = .ok (.iconst 1, 1) := by decide +kernel
theorem dX5_spread_63 : decode cX5_spread 63 = .ok (.ixor, 1) := by decide +kernel
theorem dX5_spread_64 : decode cX5_spread 64 = .ok (.istore 4, 2) := by decide +kernel
theorem dX5_spread_66 : decode cX5_spread 66 = .ok (.aload_n 0, 1) := by decide +kernel
theorem dX5_spread_67 : decode cX5_spread 67 = .ok (.getfield 37, 3) := by decide +kernel
theorem dX5_spread_70 : decode cX5_spread 70 = .ok (.iload 4, 2) := by decide +kernel
theorem dX5_spread_72 : decode cX5_spread 72 = .ok (.baload, 1) := by decide +kernel
theorem dX5_spread_73 : decode cX5_spread 73 = .ok (.ifCond .ne 45, 3) := by decide +kernel
theorem dX5_spread_76 : decode cX5_spread 76 = .ok (.aload_n 0, 1) := by decide +kernel
theorem dX5_spread_77 : decode cX5_spread 77 = .ok (.aload_n 0, 1) := by decide +kernel
theorem dX5_spread_78 : decode cX5_spread 78 = .ok (.iload 4, 2) := by decide +kernel
theorem dX5_spread_80 : decode cX5_spread 80 = .ok (.invokevirtual 89, 3) := by decide +kernel
theorem dX5_spread_83 : decode cX5_spread 83 = .ok (.aload_n 0, 1) := by decide +kernel
theorem dX5_spread_84 : decode cX5_spread 84 = .ok (.iload 4, 2) := by decide +kernel
theorem dX5_spread_86 : decode cX5_spread 86 = .ok (.invokevirtual 111, 3) := by decide +kernel
theorem dX5_spread_89 : decode cX5_spread 89 = .ok (.aload_n 0, 1) := by decide +kernel
theorem dX5_spread_90 : decode cX5_spread 90 = .ok (.iload_n 2, 1) := by decide +kernel
theorem dX5_spread_91 : decode cX5_spread 91 = .ok (.invokevirtual 111, 3) := by decide +kernel
theorem dX5_spread_94 : decode cX5_spread 94 = .ok (.invokevirtual 85, 3) := by decide +kernel
theorem dX5_spread_97 : decode cX5_spread 97 = .ok (.ifCond .ge 21, 3) := by decide +kernel
theorem dX5_spread_100 : decode cX5_spread 100 = .ok (.aload_n 0, 1) := by decide +kernel
theorem dX5_spread_101 : decode cX5_spread 101 = .ok (.iload 4, 2) := by decide +kernel
theorem dX5_spread_103 : decode cX5_spread 103 = .ok (.aload_n 0, 1) := by decide +kernel
theorem dX5_spread_104 : decode cX5_spread 104 = .ok (.getfield 30, 3) := by decide +kernel
theorem dX5_spread_107 : decode cX5_spread 107 = .ok (.iload_n 2, 1) := by decide +kernel
theorem dX5_spread_108 : decode cX5_spread 108 = .ok (.laload, 1) := by decide +kernel
theorem dX5_spread_109 : decode cX5_spread 109 = .ok (.aload_n 0, 1) := by decide +kernel
theorem dX5_spread_110 : decode cX5_spread 110 = .ok (.getfield 34, 3) := by decide +kernel
theorem dX5_spread_113 : decode cX5_spread 113 = .ok (.iload_n 2, 1) := by decide +kernel
theorem dX5_spread_114 : decode cX5_spread 114 = .ok (.iaload, 1) := by decide +kernel
theorem dX5_spread_115 : decode cX5_spread 115 = .ok (.invokevirtual 103, 3) := by decide +kernel
theorem dX5_spread_118 : decode cX5_spread 118 = .ok (.aload_n 0, 1) := by decide +kernel
theorem dX5_spread_119 : decode cX5_spread 119 = .ok (.getfield 43, 3) := by decide +kernel
theorem dX5_spread_122 : decode cX5_spread 122 = .ok (.iload_n 3, 1) := by decide +kernel
theorem dX5_spread_123 : decode cX5_spread 123 = .ok (.iaload, 1) := by decide +kernel
theorem dX5_spread_124 : decode cX5_spread 124 = .ok (.istore_n 3, 1) := by decide +kernel
theorem dX5_spread_125 : decode cX5_spread 125 = .ok (.goto (-68), 3) := by decide +kernel
theorem dX5_spread_128 : decode cX5_spread 128 = .ok (.goto (-94), 3) := by decide +kernel
theorem dX5_spread_131 : decode cX5_spread 131 = .ok (.return_, 1) := by decide +kernel
set_option maxRecDepth 20000 in
theorem ggX5_better_X5_isLess : GoodIn wsX5_better wsX5_isLess := goodIn_r _ [6, 7, 8, 19, 20, 21, 22, 23, 24, 25, 26, 27, 28, 29, 30, 31, 32, 33, 34, 35] (by decide +kernel) (by decide +kernel)
set_option maxRecDepth 20000 in
theorem gX5_better_X5_isLess : GoodIn wsX5_better (wsV RX5 96 RX5 yX5_isLess wsX5_isLess) := goodIn_app (goodIn_of _ (by decide +kernel)) ggX5_better_X5_isLess
set_option maxRecDepth 20000 in
theorem ggX5_better_X5_end : GoodIn wsX5_better wsX5_end := goodIn_r _ [12, 13, 14, 15, 5, 16, 17, 18, 19, 20, 21, 22, 23, 24, 25, 26, 27, 28, 29, 30, 31, 32, 33, 34, 35] (by decide +kernel) (by decide +kernel)
set_option maxRecDepth 20000 in
theorem gX5_better_X5_end : GoodIn wsX5_better (wsV RX5 111 RX5 yX5_end wsX5_end) := goodIn_app (goodIn_of _ (by decide +kernel)) ggX5_better_X5_end
theorem dX5_better_0 : decode cX5_better 0 = .ok (.aload_n 0, 1) := by decide +kernel
theorem dX5_better_1 : decode cX5_better 1 = .ok (.getfield 37, 3) := by decide +kernel
theorem dX5_better_4 : decode cX5_better 4 = .ok (.iload_n 2, 1) := by decide +kernel
theorem dX5_better_5 : decode cX5_better 5 = .ok (.baload, 1) := by decide +kernel
theorem dX5_better_6 : decode cX5_better 6 = .ok (.ifCond .ne 5, 3) := by decide +kernel
theorem dX5_better_9 : decode cX5_better 9 = .ok (.iload_n 1, 1) := by decide +kernel
theorem dX5_better_10 : decode cX5_better 10 = .ok (.ireturn, 1) := by decide +kernel
theorem dX5_better_11 : decode cX5_better 11 = .ok (.iload_n 1, 1) := by decide +kernel
theorem dX5_better_12 : decode cX5_better 12 = .ok (.ifCond .lt 12, 3) := by decide +kernel
theorem dX5_better_15 : decode cX5_better 15 = .ok (.aload_n 0, 1) := by decide +kernel
theorem dX5_better_16 : decode cX5_better 16 = .ok (.iload_n 2, 1) := by decide +kernel
theorem dX5_better_17 : decode cX5_better 17 = .ok (.iload_n 1, 1) := by decide +kernel
theorem dX5_better_18 : decode cX5_better 18 = .ok (.invokevirtual 96, 3) := by decide +kernel
theorem dX5_better_21 : decode cX5_better 21 = .ok (.ifCond .eq 5, 3) := by decide +kernel
theorem dX5_better_24 : decode cX5_better 24 = .ok (.iload_n 2, 1) := by decide +kernel
theorem dX5_better_25 : decode cX5_better 25 = .ok (.ireturn, 1) := by decide +kernel
theorem dX5_better_26 : decode cX5_better 26 = .ok (.aload_n 0, 1) := by decide +kernel
theorem dX5_better_27 : decode cX5_better 27 = .ok (.iload_n 1, 1) := by decide +kernel
theorem dX5_better_28 : decode cX5_better 28 = .ok (.iload_n 2, 1) := by decide +kernel
theorem dX5_better_29 : decode cX5_better 29 = .ok (.invokevirtual 96, 3) := by decide +kernel
theorem dX5_better_32 : decode cX5_better 32 = .ok (.ifCond .ne 20, 3) := by decide +kernel
theorem dX5_better_35 : decode cX5_better 35 = .ok (.aload_n 0, 1) := by decide +kernel
theorem dX5_better_36 : decode cX5_better 36 = .ok (.iload_n 2, 1) := by decide +kernel
theorem dX5_better_37 : decode cX5_better 37 = .ok (.invokevirtual 111, 3) := by decide +kernel
theorem dX5_better_40 : decode cX5_better 40 = .ok (.aload_n 0, 1) := by decide +kernel
theorem dX5_better_41 : decode cX5_better 41 = .ok (.iload_n 1, 1) := by decide +kernel
theorem dX5_better_42 : decode cX5_better 42 = .ok (.invokevirtual 111, 3) := by decide +kernel
theorem dX5_better_45 : decode cX5_better 45 = .ok (.if_icmp .ge 7, 3) := by decide +kernel
theorem dX5_better_48 : decode cX5_better 48 = .ok (.iload_n 2, 1) := by decide +kernel
theorem dX5_better_49 : decode cX5_better 49 = .ok (.goto 4, 3) := by decide +kernel
theorem dX5_better_52 : decode cX5_better 52 = .ok (.iload_n 1, 1) := by decide +kernel
theorem dX5_better_53 : decode cX5_better 53 = .ok (.ireturn, 1) := by decide +kernel
set_option maxRecDepth 20000 in
theorem ggX5_route_X5_isNode : GoodIn wsX5_route wsX5_isNode := goodIn_r _ [12, 13, 61, 62, 63, 64, 65, 66, 67, 68, 69, 70, 71, 72, 73, 74, 75, 76, 77] (by decide +kernel) (by decide +kernel)
set_option maxRecDepth 20000 in
theorem gX5_route_X5_isNode : GoodIn wsX5_route (wsV RX5 77 RX5 yX5_isNode wsX5_isNode) := goodIn_app (goodIn_of _ (by decide +kernel)) ggX5_route_X5_isNode
set_option maxRecDepth 20000 in
theorem ggX5_route_X5_spread : GoodIn wsX5_route wsX5_spread := goodIn_r _ [17, 4, 5, 18, 19, 7, 20, 21, 22, 23, 11, 24, 13, 25, 26, 27, 28, 29, 30, 31, 32, 33, 34, 35, 36, 37, 38, 39, 40, 41, 42, 43, 44, 45, 46, 47, 48, 49, 50, 51, 52, 53, 54, 55, 56, 61, 62, 63, 64, 65, 66, 67, 68, 69, 70, 71, 72, 73, 74, 75, 76, 77] (by decide +kernel) (by decide +kernel)
set_option maxRecDepth 20000 in
theorem gX5_route_X5_spread : GoodIn wsX5_route (wsV RX5 116 RX5 yX5_spread wsX5_spread) := goodIn_app (goodIn_of _ (by decide +kernel)) ggX5_route_X5_spread
set_option maxRecDepth 20000 in
theorem ggX5_route_X5_better : GoodIn wsX5_route wsX5_better := goodIn_r _ [60, 19, 39, 40, 41, 11, 42, 7, 20, 47, 48, 49, 50, 27, 28, 29, 30, 31, 32, 61, 62, 63, 64, 65, 66, 67, 68, 69, 70, 71, 72, 73, 74, 75, 76, 77] (by decide +kernel) (by decide +kernel)
set_option maxRecDepth 20000 in
theorem gX5_route_X5_better : GoodIn wsX5_route (wsV RX5 120 RX5 yX5_better wsX5_better) := goodIn_app (goodIn_of _ (by decide +kernel)) ggX5_route_X5_better
set_option maxRecDepth 20000 in
theorem ggX5_route_X5_end : GoodIn wsX5_route wsX5_end := goodIn_r _ [50, 27, 28, 29, 11, 30, 31, 32, 61, 62, 63, 64, 65, 66, 67, 68, 69, 70, 71, 72, 73, 74, 75, 76, 77] (by decide +kernel) (by decide +kernel)
set_option maxRecDepth 20000 in
theorem gX5_route_X5_end : GoodIn wsX5_route (wsV RX5 111 RX5 yX5_end wsX5_end) := goodIn_app (goodIn_of _ (by decide +kernel)) ggX5_route_X5_end
set_option maxRecDepth 20000 in
theorem ggX5_route_X5_start : GoodIn wsX5_route wsX5_start := goodIn_r _ [30, 31, 32, 61, 62, 63, 64, 65, 66, 67, 68, 69, 70, 71, 72, 73, 74, 75, 76, 77] (by decide +kernel) (by decide +kernel)
set_option maxRecDepth 20000 in
theorem gX5_route_X5_start : GoodIn wsX5_route (wsV RX5 89 RX5 yX5_start wsX5_start) := goodIn_app (goodIn_of _ (by decide +kernel)) ggX5_route_X5_start
set_option maxRecDepth 20000 in
theorem ggX5_route_X5_barAt : GoodIn wsX5_route wsX5_barAt := goodIn_r _ [54, 55, 56, 61, 62, 63, 64, 65, 66, 67, 68, 69, 70, 71, 72, 73, 74, 75, 76, 77] (by decide +kernel) (by decide +kernel)
set_option maxRecDepth 20000 in
theorem gX5_route_X5_barAt : GoodIn wsX5_route (wsV RX5 85 RX5 yX5_barAt wsX5_barAt) := goodIn_app (goodIn_of _ (by decide +kernel)) ggX5_route_X5_barAt
theorem dX5_route_0 : decode cX5_route 0 = .ok (.aload_n 0, 1) := by decide +kernel
theorem dX5_route_1 : decode cX5_route 1 = .ok (.iconst 0, 1) := by decide +kernel
theorem dX5_route_2 : decode cX5_route 2 = .ok (.putfield 58, 3) := by decide +kernel
theorem dX5_route_5 : decode cX5_route 5 = .ok (.aload_n 0, 1) := by decide +kernel
theorem dX5_route_6 : decode cX5_route 6 = .ok (.iload_n 1, 1) := by decide +kernel
theorem dX5_route_7 : decode cX5_route 7 = .ok (.invokevirtual 77, 3) := by decide +kernel
theorem dX5_route_10 : decode cX5_route 10 = .ok (.ifCond .eq 11, 3) := by decide +kernel
theorem dX5_route_13 : decode cX5_route 13 = .ok (.aload_n 0, 1) := by decide +kernel
theorem dX5_route_14 : decode cX5_route 14 = .ok (.iload_n 2, 1) := by decide +kernel
theorem dX5_route_15 : decode cX5_route 15 = .ok (.invokevirtual 77, 3) := by decide +kernel
theorem dX5_route_18 : decode cX5_route 18 = .ok (.ifCond .ne 7, 3) := by decide +kernel
theorem dX5_route_21 : decode cX5_route 21 = .ok (.ldc2_w 114, 3) := by decide +kernel
theorem dX5_route_24 : decode cX5_route 24 = .ok (.lreturn, 1) := by decide +kernel
theorem dX5_route_25 : decode cX5_route 25 = .ok (.iload_n 1, 1) := by decide +kernel
theorem dX5_route_26 : decode cX5_route 26 = .ok (.iload_n 2, 1) := by decide +kernel
theorem dX5_route_27 : decode cX5_route 27 = .ok (.if_icmp .ne 17, 3) := by decide +kernel
theorem dX5_route_30 : decode cX5_route 30 = .ok (.aload_n 0, 1) := by decide +kernel
theorem dX5_route_31 : decode cX5_route 31 = .ok (.getfield 49, 3) := by decide +kernel
theorem dX5_route_34 : decode cX5_route 34 = .ok (.iconst 0, 1) := by decide +kernel
theorem dX5_route_35 : decode cX5_route 35 = .ok (.iload_n 1, 1) := by decide +kernel
theorem dX5_route_36 : decode cX5_route 36 = .ok (.iastore, 1) := by decide +kernel
theorem dX5_route_37 : decode cX5_route 37 = .ok (.aload_n 0, 1) := by decide +kernel
theorem dX5_route_38 : decode cX5_route 38 = .ok (.iconst 1, 1) := by decide +kernel
theorem dX5_route_39 : decode cX5_route 39 = .ok (.putfield 58, 3) := by decide +kernel
theorem dX5_route_42 : decode cX5_route 42 = .ok (.lconst 0, 1) := by decide +kernel
theorem dX5_route_43 : decode cX5_route 43 = .ok (.lreturn, 1) := by decide +kernel
theorem dX5_route_44 : decode cX5_route 44 = .ok (.aload_n 0, 1) := by decide +kernel
theorem dX5_route_45 : decode cX5_route 45 = .ok (.iload_n 2, 1) := by decide +kernel
theorem dX5_route_46 : decode cX5_route 46 = .ok (.invokevirtual 116, 3) := by decide +kernel
theorem dX5_route_49 : decode cX5_route 49 = .ok (.iconst (-1), 1) := by decide +kernel
theorem dX5_route_50 : decode cX5_route 50 = .ok (.istore_n 3, 1) := by decide +kernel
theorem dX5_route_51 : decode cX5_route 51 = .ok (.aload_n 0, 1) := by decide +kernel
theorem dX5_route_52 : decode cX5_route 52 = .ok (.getfield 40, 3) := by decide +kernel
theorem dX5_route_55 : decode cX5_route 55 = .ok (.iload_n 1, 1) := by decide +kernel
theorem dX5_route_56 : decode cX5_route 56 = .ok (.iaload, 1) := by decide +kernel
theorem dX5_route_57 : decode cX5_route 57 = .ok (.istore 4, 2) := by decide +kernel
theorem dX5_route_59 : decode cX5_route 59 = .ok (.iload 4, 2) := by decide +kernel
theorem dX5_route_61 : decode cX5_route 61 = .ok (.ifCond .lt 23, 3) := by decide +kernel
theorem dX5_route_64 : decode cX5_route 64 = .ok (.aload_n 0, 1) := by decide +kernel
theorem dX5_route_65 : decode cX5_route 65 = .ok (.iload_n 3, 1) := by decide +kernel
theorem dX5_route_66 : decode cX5_route 66 = .ok (.iload 4, 2) := by decide +kernel
theorem dX5_route_68 : decode cX5_route 68 = .ok (.invokevirtual 120, 3) := by decide +kernel
theorem dX5_route_71 : decode cX5_route 71 = .ok (.istore_n 3, 1) := by decide +kernel
theorem dX5_route_72 : decode cX5_route 72 = .ok (.aload_n 0, 1) := by decide +kernel
theorem dX5_route_73 : decode cX5_route 73 = .ok (.getfield 43, 3) := by decide +kernel
theorem dX5_route_76 : decode cX5_route 76 = .ok (.iload 4, 2) := by decide +kernel
theorem dX5_route_78 : decode cX5_route 78 = .ok (.iaload, 1) := by decide +kernel
theorem dX5_route_79 : decode cX5_route 79 = .ok (.istore 4, 2) := by decide +kernel
theorem dX5_route_81 : decode cX5_route 81 = .ok (.goto (-22), 3) := by decide +kernel
theorem dX5_route_84 : decode cX5_route 84 = .ok (.iload_n 3, 1) := by decide +kernel
theorem dX5_route_85 : decode cX5_route 85 = .ok (.ifCond .ge 7, 3) := by decide +kernel
theorem dX5_route_88 : decode cX5_route 88 = .ok (.ldc2_w 123, 3) := by decide +kernel
theorem dX5_route_91 : decode cX5_route 91 = .ok (.lreturn, 1) := by decide +kernel
theorem dX5_route_92 : decode cX5_route 92 = .ok (.aload_n 0, 1) := by decide +kernel
theorem dX5_route_93 : decode cX5_route 93 = .ok (.getfield 30, 3) := by decide +kernel
theorem dX5_route_96 : decode cX5_route 96 = .ok (.iload_n 3, 1) := by decide +kernel
theorem dX5_route_97 : decode cX5_route 97 = .ok (.laload, 1) := by decide +kernel
theorem dX5_route_98 : decode cX5_route 98 = .ok (.lstore 4, 2) := by decide +kernel
theorem dX5_route_100 : decode cX5_route 100 = .ok (.aload_n 0, 1) := by decide +kernel
theorem dX5_route_101 : decode cX5_route 101 = .ok (.getfield 49, 3) := by decide +kernel
theorem dX5_route_104 : decode cX5_route 104 = .ok (.iconst 0, 1) := by decide +kernel
theorem dX5_route_105 : decode cX5_route 105 = .ok (.iload_n 1, 1) := by decide +kernel
theorem dX5_route_106 : decode cX5_route 106 = .ok (.iastore, 1) := by decide +kernel
theorem dX5_route_107 : decode cX5_route 107 = .ok (.aload_n 0, 1) := by decide +kernel
theorem dX5_route_108 : decode cX5_route 108 = .ok (.getfield 49, 3) := by decide +kernel
theorem dX5_route_111 : decode cX5_route 111 = .ok (.iconst 1, 1) := by decide +kernel
theorem dX5_route_112 : decode cX5_route 112 = .ok (.aload_n 0, 1) := by decide +kernel
theorem dX5_route_113 : decode cX5_route 113 = .ok (.iload_n 3, 1) := by decide +kernel
theorem dX5_route_114 : decode cX5_route 114 = .ok (.invokevirtual 111, 3) := by decide +kernel
theorem dX5_route_117 : decode cX5_route 117 = .ok (.iastore, 1) := by decide +kernel
theorem dX5_route_118 : decode cX5_route 118 = .ok (.aload_n 0, 1) := by decide +kernel
theorem dX5_route_119 : decode cX5_route 119 = .ok (.iconst 2, 1) := by decide +kernel
theorem dX5_route_120 : decode cX5_route 120 = .ok (.putfield 58, 3) := by decide +kernel
theorem dX5_route_123 : decode cX5_route 123 = .ok (.aload_n 0, 1) := by decide +kernel
theorem dX5_route_124 : decode cX5_route 124 = .ok (.iload_n 3, 1) := by decide +kernel
theorem dX5_route_125 : decode cX5_route 125 = .ok (.invokevirtual 111, 3) := by decide +kernel
theorem dX5_route_128 : decode cX5_route 128 = .ok (.iload_n 2, 1) := by decide +kernel
theorem dX5_route_129 : decode cX5_route 129 = .ok (.if_icmp .eq 98, 3) := by decide +kernel
theorem dX5_route_132 : decode cX5_route 132 = .ok (.iconst (-1), 1) := by decide +kernel
theorem dX5_route_133 : decode cX5_route 133 = .ok (.istore 6, 2) := by decide +kernel
theorem dX5_route_135 : decode cX5_route 135 = .ok (.aload_n 0, 1) := by decide +kernel
theorem dX5_route_136 : decode cX5_route 136 = .ok (.getfield 40, 3) := by decide +kernel
theorem dX5_route_139 : decode cX5_route 139 = .ok (.aload_n 0, 1) := by decide +kernel
theorem dX5_route_140 : decode cX5_route 140 = .ok (.iload_n 3, 1) := by decide +kernel
theorem dX5_route_141 : decode cX5_route 141 = .ok (.invokevirtual 111, 3) := by decide +kernel
theorem dX5_route_144 : decode cX5_route 144 = .ok (.iaload, 1) := by decide +kernel
theorem dX5_route_145 : decode cX5_route 145 = .ok (.istore 7, 2) := by decide +kernel
theorem dX5_route_147 : decode cX5_route 147 = .ok (.iload 7, 2) := by decide +kernel
theorem dX5_route_149 : decode cX5_route 149 = .ok (.ifCond .lt 48, 3) := by decide +kernel
theorem dX5_route_152 : decode cX5_route 152 = .ok (.aload_n 0, 1) := by decide +kernel
theorem dX5_route_153 : decode cX5_route 153 = .ok (.aload_n 0, 1) := by decide +kernel
theorem dX5_route_154 : decode cX5_route 154 = .ok (.iload_n 3, 1) := by decide +kernel
theorem dX5_route_155 : decode cX5_route 155 = .ok (.invokevirtual 89, 3) := by decide +kernel
theorem dX5_route_158 : decode cX5_route 158 = .ok (.aload_n 0, 1) := by decide +kernel
theorem dX5_route_159 : decode cX5_route 159 = .ok (.iload_n 3, 1) := by decide +kernel
theorem dX5_route_160 : decode cX5_route 160 = .ok (.invokevirtual 111, 3) := by decide +kernel
theorem dX5_route_163 : decode cX5_route 163 = .ok (.aload_n 0, 1) := by decide +kernel
theorem dX5_route_164 : decode cX5_route 164 = .ok (.iload 7, 2) := by decide +kernel
theorem dX5_route_166 : decode cX5_route 166 = .ok (.invokevirtual 111, 3) := by decide +kernel
theorem dX5_route_169 : decode cX5_route 169 = .ok (.invokevirtual 85, 3) := by decide +kernel
theorem dX5_route_172 : decode cX5_route 172 = .ok (.ifCond .ge 13, 3) := by decide +kernel
theorem dX5_route_175 : decode cX5_route 175 = .ok (.aload_n 0, 1) := by decide +kernel
theorem dX5_route_176 : decode cX5_route 176 = .ok (.iload 6, 2) := by decide +kernel
theorem dX5_route_178 : decode cX5_route 178 = .ok (.iload 7, 2) := by decide +kernel
theorem dX5_route_180 : decode cX5_route 180 = .ok (.invokevirtual 120, 3) := by decide +kernel
theorem dX5_route_183 : decode cX5_route 183 = .ok (.istore 6, 2) := by decide +kernel
theorem dX5_route_185 : decode cX5_route 185 = .ok (.aload_n 0, 1) := by decide +kernel
theorem dX5_route_186 : decode cX5_route 186 = .ok (.getfield 43, 3) := by decide +kernel
theorem dX5_route_189 : decode cX5_route 189 = .ok (.iload 7, 2) := by decide +kernel
theorem dX5_route_191 : decode cX5_route 191 = .ok (.iaload, 1) := by decide +kernel
theorem dX5_route_192 : decode cX5_route 192 = .ok (.istore 7, 2) := by decide +kernel
theorem dX5_route_194 : decode cX5_route 194 = .ok (.goto (-47), 3) := by decide +kernel
theorem dX5_route_197 : decode cX5_route 197 = .ok (.iload 6, 2) := by decide +kernel
theorem dX5_route_199 : decode cX5_route 199 = .ok (.istore_n 3, 1) := by decide +kernel
theorem dX5_route_200 : decode cX5_route 200 = .ok (.aload_n 0, 1) := by decide +kernel
theorem dX5_route_201 : decode cX5_route 201 = .ok (.getfield 49, 3) := by decide +kernel
theorem dX5_route_204 : decode cX5_route 204 = .ok (.aload_n 0, 1) := by decide +kernel
theorem dX5_route_205 : decode cX5_route 205 = .ok (.getfield 58, 3) := by decide +kernel
theorem dX5_route_208 : decode cX5_route 208 = .ok (.aload_n 0, 1) := by decide +kernel
theorem dX5_route_209 : decode cX5_route 209 = .ok (.iload_n 3, 1) := by decide +kernel
theorem dX5_route_210 : decode cX5_route 210 = .ok (.invokevirtual 111, 3) := by decide +kernel
theorem dX5_route_213 : decode cX5_route 213 = .ok (.iastore, 1) := by decide +kernel
theorem dX5_route_214 : decode cX5_route 214 = .ok (.aload_n 0, 1) := by decide +kernel
theorem dX5_route_215 : decode cX5_route 215 = .ok (.dup, 1) := by decide +kernel
theorem dX5_route_216 : decode cX5_route 216 = .ok (.getfield 58, 3) := by decide +kernel
theorem dX5_route_219 : decode cX5_route 219 = .ok (.iconst 1, 1) := by decide +kernel
theorem dX5_route_220 : decode cX5_route 220 = .ok (.iadd, 1) := by decide +kernel
theorem dX5_route_221 : decode cX5_route 221 = .ok (.putfield 58, 3) := by decide +kernel
theorem dX5_route_224 : decode cX5_route 224 = .ok (.goto (-101), 3) := by decide +kernel
theorem dX5_route_227 : decode cX5_route 227 = .ok (.lload 4, 2) := by decide +kernel
theorem dX5_route_229 : decode cX5_route 229 = .ok (.lreturn, 1) := by decide +kernel
theorem dX5_length_0 : decode cX5_length 0 = .ok (.aload_n 0, 1) := by decide +kernel
theorem dX5_length_1 : decode cX5_length 1 = .ok (.getfield 58, 3) := by decide +kernel
theorem dX5_length_4 : decode cX5_length 4 = .ok (.ireturn, 1) := by decide +kernel
theorem dX5_node_0 : decode cX5_node 0 = .ok (.iload_n 1, 1) := by decide +kernel
theorem dX5_node_1 : decode cX5_node 1 = .ok (.ifCond .lt 20, 3) := by decide +kernel
theorem dX5_node_4 : decode cX5_node 4 = .ok (.iload_n 1, 1) := by decide +kernel
theorem dX5_node_5 : decode cX5_node 5 = .ok (.aload_n 0, 1) := by decide +kernel
theorem dX5_node_6 : decode cX5_node 6 = .ok (.getfield 58, 3) := by decide +kernel
theorem dX5_node_9 : decode cX5_node 9 = .ok (.if_icmp .ge 12, 3) := by decide +kernel
theorem dX5_node_12 : decode cX5_node 12 = .ok (.aload_n 0, 1) := by decide +kernel
theorem dX5_node_13 : decode cX5_node 13 = .ok (.getfield 49, 3) := by decide +kernel
theorem dX5_node_16 : decode cX5_node 16 = .ok (.iload_n 1, 1) := by decide +kernel
theorem dX5_node_17 : decode cX5_node 17 = .ok (.iaload, 1) := by decide +kernel
theorem dX5_node_18 : decode cX5_node 18 = .ok (.goto 4, 3) := by decide +kernel
theorem dX5_node_21 : decode cX5_node 21 = .ok (.iconst (-1), 1) := by decide +kernel
theorem dX5_node_22 : decode cX5_node 22 = .ok (.ireturn, 1) := by decide +kernel
set_option maxRecDepth 20000 in
theorem ggX5_within_X5_isNode : GoodIn wsX5_within wsX5_isNode := goodIn_r _ [13, 1, 50, 51, 52, 53, 54, 55, 56, 57, 58, 59, 60, 61, 62, 63, 64, 65, 66] (by decide +kernel) (by decide +kernel)
set_option maxRecDepth 20000 in
theorem gX5_within_X5_isNode : GoodIn wsX5_within (wsV RX5 77 RX5 yX5_isNode wsX5_isNode) := goodIn_app (goodIn_of _ (by decide +kernel)) ggX5_within_X5_isNode
set_option maxRecDepth 20000 in
theorem ggX5_within_X5_begin : GoodIn wsX5_within wsX5_begin := goodIn_r _ [17, 5, 1, 3, 18, 7, 19, 4, 20, 21, 22, 12, 23, 24, 25, 50, 51, 52, 53, 54, 55, 56, 57, 58, 59, 60, 61, 62, 63, 64, 65, 66] (by decide +kernel) (by decide +kernel)
set_option maxRecDepth 20000 in
theorem gX5_within_X5_begin : GoodIn wsX5_within (wsV RX5 100 RX5 yX5_begin wsX5_begin) := goodIn_app (goodIn_of _ (by decide +kernel)) ggX5_within_X5_begin
set_option maxRecDepth 20000 in
theorem ggX5_within_X5_known : GoodIn wsX5_within wsX5_known := goodIn_r _ [29, 6, 30, 8, 7, 5, 31, 32, 33, 34, 12, 35, 50, 51, 52, 53, 54, 55, 56, 57, 58, 59, 60, 61, 62, 63, 64, 65, 66] (by decide +kernel) (by decide +kernel)
set_option maxRecDepth 20000 in
theorem gX5_within_X5_known : GoodIn wsX5_within (wsV RX5 103 RX5 yX5_known wsX5_known) := goodIn_app (goodIn_of _ (by decide +kernel)) ggX5_within_X5_known
set_option maxRecDepth 20000 in
theorem ggX5_within_X5_pull : GoodIn wsX5_within wsX5_pull := goodIn_r _ [39, 31, 5, 32, 33, 34, 12, 35, 6, 8, 50, 51, 52, 53, 54, 55, 56, 57, 58, 59, 60, 61, 62, 63, 64, 65, 66] (by decide +kernel) (by decide +kernel)
set_option maxRecDepth 20000 in
theorem gX5_within_X5_pull : GoodIn wsX5_within (wsV RX5 107 RX5 yX5_pull wsX5_pull) := goodIn_app (goodIn_of _ (by decide +kernel)) ggX5_within_X5_pull
set_option maxRecDepth 20000 in
theorem ggX5_within_X5_end : GoodIn wsX5_within wsX5_end := goodIn_r _ [43, 20, 21, 22, 12, 23, 24, 25, 50, 51, 52, 53, 54, 55, 56, 57, 58, 59, 60, 61, 62, 63, 64, 65, 66] (by decide +kernel) (by decide +kernel)
set_option maxRecDepth 20000 in
theorem gX5_within_X5_end : GoodIn wsX5_within (wsV RX5 111 RX5 yX5_end wsX5_end) := goodIn_app (goodIn_of _ (by decide +kernel)) ggX5_within_X5_end
set_option maxRecDepth 20000 in
theorem ggX5_within_X5_start : GoodIn wsX5_within wsX5_start := goodIn_r _ [23, 24, 25, 50, 51, 52, 53, 54, 55, 56, 57, 58, 59, 60, 61, 62, 63, 64, 65, 66] (by decide +kernel) (by decide +kernel)
set_option maxRecDepth 20000 in
theorem gX5_within_X5_start : GoodIn wsX5_within (wsV RX5 89 RX5 yX5_start wsX5_start) := goodIn_app (goodIn_of _ (by decide +kernel)) ggX5_within_X5_start
set_option maxRecDepth 20000 in
theorem ggX5_within_X5_barAt : GoodIn wsX5_within wsX5_barAt := goodIn_r _ [47, 48, 49, 50, 51, 52, 53, 54, 55, 56, 57, 58, 59, 60, 61, 62, 63, 64, 65, 66] (by decide +kernel) (by decide +kernel)
set_option maxRecDepth 20000 in
theorem gX5_within_X5_barAt : GoodIn wsX5_within (wsV RX5 85 RX5 yX5_barAt wsX5_barAt) := goodIn_app (goodIn_of _ (by decide +kernel)) ggX5_within_X5_barAt
theorem dX5_within_0 : decode cX5_within 0 = .ok (.aload_n 0, 1) := by decide +kernel
theorem dX5_within_1 : decode cX5_within 1 = .ok (.iload_n 1, 1) := by decide +kernel
theorem dX5_within_2 : decode cX5_within 2 = .ok (.invokevirtual 77, 3) := by decide +kernel
theorem dX5_within_5 : decode cX5_within 5 = .ok (.ifCond .ne 6, 3) := by decide +kernel
theorem dX5_within_8 : decode cX5_within 8 = .ok (.bipush (-14), 2) := by decide +kernel
theorem dX5_within_10 : decode cX5_within 10 = .ok (.ireturn, 1) := by decide +kernel
theorem dX5_within_11 : decode cX5_within 11 = .ok (.lload_n 2, 1) := by decide +kernel
theorem dX5_within_12 : decode cX5_within 12 = .ok (.lconst 0, 1) := by decide +kernel
theorem dX5_within_13 : decode cX5_within 13 = .ok (.lcmp, 1) := by decide +kernel
theorem dX5_within_14 : decode cX5_within 14 = .ok (.ifCond .ge 5, 3) := by decide +kernel
theorem dX5_within_17 : decode cX5_within 17 = .ok (.iconst 0, 1) := by decide +kernel
theorem dX5_within_18 : decode cX5_within 18 = .ok (.ireturn, 1) := by decide +kernel
theorem dX5_within_19 : decode cX5_within 19 = .ok (.aload_n 0, 1) := by decide +kernel
theorem dX5_within_20 : decode cX5_within 20 = .ok (.getfield 7, 3) := by decide +kernel
theorem dX5_within_23 : decode cX5_within 23 = .ok (.newarray .boolean, 2) := by decide +kernel
theorem dX5_within_25 : decode cX5_within 25 = .ok (.astore 4, 2) := by decide +kernel
theorem dX5_within_27 : decode cX5_within 27 = .ok (.aload 4, 2) := by decide +kernel
theorem dX5_within_29 : decode cX5_within 29 = .ok (.iload_n 1, 1) := by decide +kernel
theorem dX5_within_30 : decode cX5_within 30 = .ok (.iconst 1, 1) := by decide +kernel
theorem dX5_within_31 : decode cX5_within 31 = .ok (.bastore, 1) := by decide +kernel
theorem dX5_within_32 : decode cX5_within 32 = .ok (.iconst 1, 1) := by decide +kernel
theorem dX5_within_33 : decode cX5_within 33 = .ok (.istore 5, 2) := by decide +kernel
theorem dX5_within_35 : decode cX5_within 35 = .ok (.aload_n 0, 1) := by decide +kernel
theorem dX5_within_36 : decode cX5_within 36 = .ok (.invokevirtual 100, 3) := by decide +kernel
theorem dX5_within_39 : decode cX5_within 39 = .ok (.aload_n 0, 1) := by decide +kernel
theorem dX5_within_40 : decode cX5_within 40 = .ok (.getfield 40, 3) := by decide +kernel
theorem dX5_within_43 : decode cX5_within 43 = .ok (.iload_n 1, 1) := by decide +kernel
end
section
theorem dX5_within_44 : decode cX5_within 44 = .ok (.iaload, 1) := by decide +kernel
theorem dX5_within_45 : decode cX5_within 45 = .ok (.istore 6, 2) := by decide +kernel
theorem dX5_within_47 : decode cX5_within 47 = .ok (.iload 6, 2) := by decide +kernel
theorem dX5_within_49 : decode cX5_within 49 = .ok (.ifCond .lt 23, 3) := by decide +kernel
theorem dX5_within_52 : decode cX5_within 52 = .ok (.aload_n 0, 1) := by decide +kernel
theorem dX5_within_53 : decode cX5_within 53 = .ok (.iload 6, 2) := by decide +kernel
theorem dX5_within_55 : decode cX5_within 55 = .ok (.lconst 0, 1) := by decide +kernel
theorem dX5_within_56 : decode cX5_within 56 = .ok (.iconst 0, 1) := by decide +kernel
theorem dX5_within_57 : decode cX5_within 57 = .ok (.invokevirtual 103, 3) := by decide +kernel
theorem dX5_within_60 : decode cX5_within 60 = .ok (.aload_n 0, 1) := by decide +kernel
theorem dX5_within_61 : decode cX5_within 61 = .ok (.getfield 43, 3) := by decide +kernel
theorem dX5_within_64 : decode cX5_within 64 = .ok (.iload 6, 2) := by decide +kernel
theorem dX5_within_66 : decode cX5_within 66 = .ok (.iaload, 1) := by decide +kernel
theorem dX5_within_67 : decode cX5_within 67 = .ok (.istore 6, 2) := by decide +kernel
theorem dX5_within_69 : decode cX5_within 69 = .ok (.goto (-22), 3) := by decide +kernel
theorem dX5_within_72 : decode cX5_within 72 = .ok (.aload_n 0, 1) := by decide +kernel
theorem dX5_within_73 : decode cX5_within 73 = .ok (.getfield 93, 3) := by decide +kernel
theorem dX5_within_76 : decode cX5_within 76 = .ok (.ifCond .le 137, 3) := by decide +kernel
theorem dX5_within_79 : decode cX5_within 79 = .ok (.aload_n 0, 1) := by decide +kernel
theorem dX5_within_80 : decode cX5_within 80 = .ok (.invokevirtual 107, 3) := by decide +kernel
theorem dX5_within_83 : decode cX5_within 83 = .ok (.istore 6, 2) := by decide +kernel
theorem dX5_within_85 : decode cX5_within 85 = .ok (.aload_n 0, 1) := by decide +kernel
theorem dX5_within_86 : decode cX5_within 86 = .ok (.getfield 30, 3) := by decide +kernel
theorem dX5_within_89 : decode cX5_within 89 = .ok (.iload 6, 2) := by decide +kernel
theorem dX5_within_91 : decode cX5_within 91 = .ok (.laload, 1) := by decide +kernel
theorem dX5_within_92 : decode cX5_within 92 = .ok (.lload_n 2, 1) := by decide +kernel
theorem dX5_within_93 : decode cX5_within 93 = .ok (.lcmp, 1) := by decide +kernel
theorem dX5_within_94 : decode cX5_within 94 = .ok (.ifCond .le 6, 3) := by decide +kernel
theorem dX5_within_97 : decode cX5_within 97 = .ok (.goto (-25), 3) := by decide +kernel
theorem dX5_within_100 : decode cX5_within 100 = .ok (.aload 4, 2) := by decide +kernel
theorem dX5_within_102 : decode cX5_within 102 = .ok (.aload_n 0, 1) := by decide +kernel
theorem dX5_within_103 : decode cX5_within 103 = .ok (.iload 6, 2) := by decide +kernel
theorem dX5_within_105 : decode cX5_within 105 = .ok (.invokevirtual 111, 3) := by decide +kernel
theorem dX5_within_108 : decode cX5_within 108 = .ok (.baload, 1) := by decide +kernel
theorem dX5_within_109 : decode cX5_within 109 = .ok (.ifCond .ne 6, 3) := by decide +kernel
theorem dX5_within_112 : decode cX5_within 112 = .ok (.iinc 5 1, 3) := by decide +kernel
theorem dX5_within_115 : decode cX5_within 115 = .ok (.aload 4, 2) := by decide +kernel
theorem dX5_within_117 : decode cX5_within 117 = .ok (.aload_n 0, 1) := by decide +kernel
theorem dX5_within_118 : decode cX5_within 118 = .ok (.iload 6, 2) := by decide +kernel
theorem dX5_within_120 : decode cX5_within 120 = .ok (.invokevirtual 111, 3) := by decide +kernel
theorem dX5_within_123 : decode cX5_within 123 = .ok (.iconst 1, 1) := by decide +kernel
theorem dX5_within_124 : decode cX5_within 124 = .ok (.bastore, 1) := by decide +kernel
theorem dX5_within_125 : decode cX5_within 125 = .ok (.aload_n 0, 1) := by decide +kernel
theorem dX5_within_126 : decode cX5_within 126 = .ok (.getfield 40, 3) := by decide +kernel
theorem dX5_within_129 : decode cX5_within 129 = .ok (.aload_n 0, 1) := by decide +kernel
theorem dX5_within_130 : decode cX5_within 130 = .ok (.iload 6, 2) := by decide +kernel
theorem dX5_within_132 : decode cX5_within 132 = .ok (.invokevirtual 111, 3) := by decide +kernel
theorem dX5_within_135 : decode cX5_within 135 = .ok (.iaload, 1) := by decide +kernel
theorem dX5_within_136 : decode cX5_within 136 = .ok (.istore 7, 2) := by decide +kernel
theorem dX5_within_138 : decode cX5_within 138 = .ok (.iload 7, 2) := by decide +kernel
theorem dX5_within_140 : decode cX5_within 140 = .ok (.ifCond .lt 70, 3) := by decide +kernel
theorem dX5_within_143 : decode cX5_within 143 = .ok (.aload_n 0, 1) := by decide +kernel
theorem dX5_within_144 : decode cX5_within 144 = .ok (.getfield 37, 3) := by decide +kernel
theorem dX5_within_147 : decode cX5_within 147 = .ok (.iload 7, 2) := by decide +kernel
theorem dX5_within_149 : decode cX5_within 149 = .ok (.baload, 1) := by decide +kernel
theorem dX5_within_150 : decode cX5_within 150 = .ok (.ifCond .ne 48, 3) := by decide +kernel
theorem dX5_within_153 : decode cX5_within 153 = .ok (.aload_n 0, 1) := by decide +kernel
theorem dX5_within_154 : decode cX5_within 154 = .ok (.aload_n 0, 1) := by decide +kernel
theorem dX5_within_155 : decode cX5_within 155 = .ok (.iload 6, 2) := by decide +kernel
theorem dX5_within_157 : decode cX5_within 157 = .ok (.invokevirtual 89, 3) := by decide +kernel
theorem dX5_within_160 : decode cX5_within 160 = .ok (.aload_n 0, 1) := by decide +kernel
theorem dX5_within_161 : decode cX5_within 161 = .ok (.iload 7, 2) := by decide +kernel
theorem dX5_within_163 : decode cX5_within 163 = .ok (.invokevirtual 89, 3) := by decide +kernel
theorem dX5_within_166 : decode cX5_within 166 = .ok (.aload_n 0, 1) := by decide +kernel
theorem dX5_within_167 : decode cX5_within 167 = .ok (.iload 7, 2) := by decide +kernel
theorem dX5_within_169 : decode cX5_within 169 = .ok (.invokevirtual 111, 3) := by decide +kernel
theorem dX5_within_172 : decode cX5_within 172 = .ok (.invokevirtual 85, 3) := by decide +kernel
theorem dX5_within_175 : decode cX5_within 175 = .ok (.ifCond .ge 23, 3) := by decide +kernel
theorem dX5_within_178 : decode cX5_within 178 = .ok (.aload_n 0, 1) := by decide +kernel
theorem dX5_within_179 : decode cX5_within 179 = .ok (.iload 7, 2) := by decide +kernel
theorem dX5_within_181 : decode cX5_within 181 = .ok (.aload_n 0, 1) := by decide +kernel
theorem dX5_within_182 : decode cX5_within 182 = .ok (.getfield 30, 3) := by decide +kernel
theorem dX5_within_185 : decode cX5_within 185 = .ok (.iload 6, 2) := by decide +kernel
theorem dX5_within_187 : decode cX5_within 187 = .ok (.laload, 1) := by decide +kernel
theorem dX5_within_188 : decode cX5_within 188 = .ok (.aload_n 0, 1) := by decide +kernel
theorem dX5_within_189 : decode cX5_within 189 = .ok (.getfield 34, 3) := by decide +kernel
theorem dX5_within_192 : decode cX5_within 192 = .ok (.iload 6, 2) := by decide +kernel
theorem dX5_within_194 : decode cX5_within 194 = .ok (.iaload, 1) := by decide +kernel
theorem dX5_within_195 : decode cX5_within 195 = .ok (.invokevirtual 103, 3) := by decide +kernel
theorem dX5_within_198 : decode cX5_within 198 = .ok (.aload_n 0, 1) := by decide +kernel
theorem dX5_within_199 : decode cX5_within 199 = .ok (.getfield 43, 3) := by decide +kernel
theorem dX5_within_202 : decode cX5_within 202 = .ok (.iload 7, 2) := by decide +kernel
theorem dX5_within_204 : decode cX5_within 204 = .ok (.iaload, 1) := by decide +kernel
theorem dX5_within_205 : decode cX5_within 205 = .ok (.istore 7, 2) := by decide +kernel
theorem dX5_within_207 : decode cX5_within 207 = .ok (.goto (-69), 3) := by decide +kernel
theorem dX5_within_210 : decode cX5_within 210 = .ok (.goto (-138), 3) := by decide +kernel
theorem dX5_within_213 : decode cX5_within 213 = .ok (.iload 5, 2) := by decide +kernel
theorem dX5_within_215 : decode cX5_within 215 = .ok (.ireturn, 1) := by decide +kernel
theorem dJ9_max_7cf53_0 : decode cJ9_max_7cf53 0 = .ok (.iload_n 0, 1) := by decide +kernel
theorem dJ9_max_7cf53_1 : decode cJ9_max_7cf53 1 = .ok (.iload_n 1, 1) := by decide +kernel
theorem dJ9_max_7cf53_2 : decode cJ9_max_7cf53 2 = .ok (.if_icmp .lt 7, 3) := by decide +kernel
theorem dJ9_max_7cf53_5 : decode cJ9_max_7cf53 5 = .ok (.iload_n 0, 1) := by decide +kernel
theorem dJ9_max_7cf53_6 : decode cJ9_max_7cf53 6 = .ok (.goto 4, 3) := by decide +kernel
theorem dJ9_max_7cf53_9 : decode cJ9_max_7cf53 9 = .ok (.iload_n 1, 1) := by decide +kernel
theorem dJ9_max_7cf53_10 : decode cJ9_max_7cf53 10 = .ok (.ireturn, 1) := by decide +kernel
theorem dJ9_min_7cf53_0 : decode cJ9_min_7cf53 0 = .ok (.iload_n 0, 1) := by decide +kernel
theorem dJ9_min_7cf53_1 : decode cJ9_min_7cf53 1 = .ok (.iload_n 1, 1) := by decide +kernel
theorem dJ9_min_7cf53_2 : decode cJ9_min_7cf53 2 = .ok (.if_icmp .gt 7, 3) := by decide +kernel
theorem dJ9_min_7cf53_5 : decode cJ9_min_7cf53 5 = .ok (.iload_n 0, 1) := by decide +kernel
theorem dJ9_min_7cf53_6 : decode cJ9_min_7cf53 6 = .ok (.goto 4, 3) := by decide +kernel
theorem dJ9_min_7cf53_9 : decode cJ9_min_7cf53 9 = .ok (.iload_n 1, 1) := by decide +kernel
theorem dJ9_min_7cf53_10 : decode cJ9_min_7cf53 10 = .ok (.ireturn, 1) := by decide +kernel
set_option maxRecDepth 20000 in
theorem ggL_law_X4_init : GoodIn wsL_law wsX4_init := goodIn_r _ [9, 10, 11, 12, 13, 14, 15, 16, 17, 18, 19, 20, 21, 22, 23, 24, 25, 26, 27, 28, 29, 30, 31, 32, 33, 34, 35, 36, 37, 38, 39, 40, 41, 42, 43, 44, 45, 46, 47, 48, 49, 50, 51, 52, 53, 54, 55, 56, 57, 58, 59, 60, 61, 62, 63, 64, 381, 382, 383, 384, 385, 359, 360, 361, 362, 363, 386, 387, 388, 389, 390, 391, 392, 393, 394, 395, 396, 397] (by decide +kernel) (by decide +kernel)
set_option maxRecDepth 20000 in
theorem gL_law_X4_init : GoodIn wsL_law (wsX4_init) := ggL_law_X4_init
set_option maxRecDepth 20000 in
theorem ggL_law_X5_init : GoodIn wsL_law wsX5_init := goodIn_r _ [67, 68, 11, 12, 69, 25, 70, 71, 72, 73, 74, 75, 49, 76, 77, 78, 79, 80, 81, 82, 364, 365, 366, 367, 368, 369, 370, 371, 372, 373, 374, 375, 376, 377, 378, 379, 380] (by decide +kernel) (by decide +kernel)
set_option maxRecDepth 20000 in
theorem gL_law_X5_init : GoodIn wsL_law (wsX5_init) := ggL_law_X5_init
set_option maxRecDepth 20000 in
theorem ggL_law_X4_size : GoodIn wsL_law wsX4_size := goodIn_r _ [86, 16, 20, 27, 87, 88, 89, 15, 90, 32, 33, 36, 91, 92, 93, 19, 94, 41, 359, 360, 361, 362, 363, 381, 382, 383, 384, 385, 386, 387] (by decide +kernel) (by decide +kernel)
set_option maxRecDepth 20000 in
theorem gL_law_X4_size : GoodIn wsL_law (wsV RL 13 RX4 yX4_size wsX4_size) := goodIn_app (goodIn_of _ (by decide +kernel)) ggL_law_X4_size
set_option maxRecDepth 20000 in
theorem ggL_law_X5_size : GoodIn wsL_law wsX5_size := goodIn_r _ [98, 69, 99, 100, 101, 364, 365, 366, 367, 368, 369, 370, 371, 372, 373, 374, 375, 376, 377, 378, 379, 380] (by decide +kernel) (by decide +kernel)
set_option maxRecDepth 20000 in
theorem gL_law_X5_size : GoodIn wsL_law (wsV RL 17 RX5 yX5_size wsX5_size) := goodIn_app (goodIn_of _ (by decide +kernel)) ggL_law_X5_size
set_option maxRecDepth 20000 in
theorem ggL_law_X4_road : GoodIn wsL_law wsX4_road := goodIn_r _ [105, 16, 106, 107, 108, 109, 15, 110, 32, 111, 112, 113, 114, 35, 115, 116, 117, 118, 36, 34, 119, 120, 121, 122, 123, 124, 125, 126, 127, 2, 128, 129, 130, 131, 132, 133, 134, 135, 136, 33, 137, 138, 139, 140, 141, 142, 143, 144, 145, 146, 147, 148, 149, 150, 359, 360, 361, 362, 363, 381, 382, 383, 384, 385] (by decide +kernel) (by decide +kernel)
set_option maxRecDepth 20000 in
theorem gL_law_X4_road : GoodIn wsL_law (wsV RL 18 RX4 yX4_road wsX4_road) := goodIn_app (goodIn_of _ (by decide +kernel)) ggL_law_X4_road
set_option maxRecDepth 20000 in
theorem ggL_law_X5_road : GoodIn wsL_law wsX5_road := goodIn_r _ [154, 155, 72, 99, 70, 71, 74, 156, 157, 158, 159, 160, 161, 162, 163, 164, 165, 5, 166, 69, 167, 168, 169, 170, 171, 172, 173, 174, 175, 176, 177, 178, 364, 365, 366, 367, 368, 369, 370, 371, 372, 373, 374, 375, 376, 377, 378, 379, 380] (by decide +kernel) (by decide +kernel)
set_option maxRecDepth 20000 in
theorem gL_law_X5_road : GoodIn wsL_law (wsV RL 22 RX5 yX5_road wsX5_road) := goodIn_app (goodIn_of _ (by decide +kernel)) ggL_law_X5_road
set_option maxRecDepth 20000 in
theorem ggL_law_X4_close : GoodIn wsL_law wsX4_close := goodIn_r _ [182, 16, 111, 112, 113, 15, 114, 35, 115, 116, 117, 118, 36, 34, 119, 108, 109, 110, 32, 120, 121, 122, 123, 124, 125, 126, 127, 2, 128, 129, 130, 131, 132, 359, 360, 361, 362, 363, 381, 382, 383, 384, 385] (by decide +kernel) (by decide +kernel)
set_option maxRecDepth 20000 in
theorem gL_law_X4_close : GoodIn wsL_law (wsV RL 23 RX4 yX4_close wsX4_close) := goodIn_app (goodIn_of _ (by decide +kernel)) ggL_law_X4_close
set_option maxRecDepth 20000 in
theorem ggL_law_X5_close : GoodIn wsL_law wsX5_close := goodIn_r _ [186, 74, 167, 168, 169, 5, 170, 99, 70, 156, 157, 158, 159, 71, 160, 161, 162, 171, 172, 173, 174, 175, 176, 177, 178, 364, 365, 366, 367, 368, 369, 370, 371, 372, 373, 374, 375, 376, 377, 378, 379, 380] (by decide +kernel) (by decide +kernel)
set_option maxRecDepth 20000 in
theorem gL_law_X5_close : GoodIn wsL_law (wsV RL 27 RX5 yX5_close wsX5_close) := goodIn_app (goodIn_of _ (by decide +kernel)) ggL_law_X5_close
set_option maxRecDepth 20000 in
theorem ggL_law_X4_cost : GoodIn wsL_law wsX4_cost := goodIn_r _ [190, 16, 111, 112, 113, 15, 114, 35, 115, 116, 117, 118, 36, 34, 119, 108, 109, 110, 32, 120, 121, 122, 123, 124, 125, 126, 127, 2, 128, 359, 360, 361, 362, 363, 381, 382, 383, 384, 385] (by decide +kernel) (by decide +kernel)
set_option maxRecDepth 20000 in
theorem gL_law_X4_cost : GoodIn wsL_law (wsV RL 28 RX4 yX4_cost wsX4_cost) := goodIn_app (goodIn_of _ (by decide +kernel)) ggL_law_X4_cost
set_option maxRecDepth 20000 in
theorem ggL_law_X5_cost : GoodIn wsL_law wsX5_cost := goodIn_r _ [194, 74, 72, 167, 168, 169, 5, 170, 99, 70, 156, 157, 158, 159, 71, 160, 161, 162, 171, 172, 173, 174, 175, 176, 177, 178, 364, 365, 366, 367, 368, 369, 370, 371, 372, 373, 374, 375, 376, 377, 378, 379, 380] (by decide +kernel) (by decide +kernel)
set_option maxRecDepth 20000 in
theorem gL_law_X5_cost : GoodIn wsL_law (wsV RL 32 RX5 yX5_cost wsX5_cost) := goodIn_app (goodIn_of _ (by decide +kernel)) ggL_law_X5_cost
set_option maxRecDepth 20000 in
theorem ggL_law_X4_bar : GoodIn wsL_law wsX4_bar := goodIn_r _ [198, 16, 20, 107, 108, 109, 15, 110, 32, 199, 200, 201, 19, 202, 42, 41, 203, 204, 205, 127, 2, 128, 206, 207, 208, 209, 210, 148, 149, 150, 211, 212, 213, 214, 145, 146, 147, 359, 360, 361, 362, 363, 386, 387, 381, 382, 383, 384, 385] (by decide +kernel) (by decide +kernel)
set_option maxRecDepth 20000 in
theorem gL_law_X4_bar : GoodIn wsL_law (wsV RL 33 RX4 yX4_bar wsX4_bar) := goodIn_app (goodIn_of _ (by decide +kernel)) ggL_law_X4_bar
set_option maxRecDepth 20000 in
theorem ggL_law_X5_bar : GoodIn wsL_law wsX5_bar := goodIn_r _ [218, 100, 75, 163, 164, 165, 5, 166, 69, 219, 220, 221, 222, 364, 365, 366, 367, 368, 369, 370, 371, 372, 373, 374, 375, 376, 377, 378, 379, 380] (by decide +kernel) (by decide +kernel)
set_option maxRecDepth 20000 in
theorem gL_law_X5_bar : GoodIn wsL_law (wsV RL 37 RX5 yX5_bar wsX5_bar) := goodIn_app (goodIn_of _ (by decide +kernel)) ggL_law_X5_bar
set_option maxRecDepth 20000 in
theorem ggL_law_X4_route : GoodIn wsL_law wsX4_route := goodIn_r _ [226, 27, 16, 227, 24, 228, 229, 107, 108, 109, 15, 110, 32, 230, 231, 232, 2, 233, 26, 234, 235, 236, 23, 237, 57, 54, 47, 50, 56, 238, 239, 240, 241, 55, 242, 243, 244, 245, 246, 247, 248, 249, 35, 250, 251, 252, 253, 34, 254, 255, 256, 257, 48, 258, 200, 201, 19, 202, 42, 41, 203, 204, 205, 127, 128, 259, 260, 261, 262, 263, 264, 265, 266, 53, 267, 64, 63, 62, 268, 269, 270, 271, 272, 273, 274, 275, 276, 277, 278, 279, 280, 281, 282, 283, 284, 285, 286, 287, 288, 116, 117, 118, 36, 119, 120, 121, 122, 123, 124, 125, 126, 289, 290, 359, 360, 361, 362, 363, 381, 382, 383, 384, 385, 388, 389, 390, 391, 392, 393, 394, 395, 396, 397, 386, 387] (by decide +kernel) (by decide +kernel)
set_option maxRecDepth 20000 in
theorem gL_law_X4_route : GoodIn wsL_law (wsV RL 38 RX4 yX4_route wsX4_route) := goodIn_app (goodIn_of _ (by decide +kernel)) ggL_law_X4_route
set_option maxRecDepth 20000 in
theorem ggL_law_X5_route : GoodIn wsL_law wsX5_route := goodIn_r _ [294, 101, 295, 82, 79, 80, 296, 76, 163, 164, 165, 5, 166, 69, 297, 298, 299, 300, 301, 78, 77, 302, 303, 304, 305, 99, 74, 306, 307, 308, 309, 70, 71, 310, 311, 312, 313, 72, 81, 314, 315, 316, 317, 318, 319, 320, 321, 322, 323, 324, 325, 219, 220, 221, 222, 100, 75, 326, 327, 328, 329, 364, 365, 366, 367, 368, 369, 370, 371, 372, 373, 374, 375, 376, 377, 378, 379, 380] (by decide +kernel) (by decide +kernel)
set_option maxRecDepth 20000 in
theorem gL_law_X5_route : GoodIn wsL_law (wsV RL 42 RX5 yX5_route wsX5_route) := goodIn_app (goodIn_of _ (by decide +kernel)) ggL_law_X5_route
set_option maxRecDepth 20000 in
theorem ggL_law_X4_length : GoodIn wsL_law wsX4_length := goodIn_r _ [333, 27, 359, 360, 361, 362, 363] (by decide +kernel) (by decide +kernel)
set_option maxRecDepth 20000 in
theorem gL_law_X4_length : GoodIn wsL_law (wsV RL 43 RX4 yX4_length wsX4_length) := goodIn_app (goodIn_of _ (by decide +kernel)) ggL_law_X4_length
set_option maxRecDepth 20000 in
theorem ggL_law_X5_length : GoodIn wsL_law wsX5_length := goodIn_r _ [337, 101, 364, 365, 366, 367, 368, 369, 370, 371, 372, 373, 374, 375, 376, 377, 378, 379, 380] (by decide +kernel) (by decide +kernel)
set_option maxRecDepth 20000 in
theorem gL_law_X5_length : GoodIn wsL_law (wsV RL 47 RX5 yX5_length wsX5_length) := goodIn_app (goodIn_of _ (by decide +kernel)) ggL_law_X5_length
set_option maxRecDepth 20000 in
theorem ggL_law_X4_node : GoodIn wsL_law wsX4_node := goodIn_r _ [341, 27, 26, 359, 360, 361, 362, 363] (by decide +kernel) (by decide +kernel)
set_option maxRecDepth 20000 in
theorem gL_law_X4_node : GoodIn wsL_law (wsV RL 48 RX4 yX4_node wsX4_node) := goodIn_app (goodIn_of _ (by decide +kernel)) ggL_law_X4_node
set_option maxRecDepth 20000 in
theorem ggL_law_X5_node : GoodIn wsL_law wsX5_node := goodIn_r _ [345, 101, 82, 364, 365, 366, 367, 368, 369, 370, 371, 372, 373, 374, 375, 376, 377, 378, 379, 380] (by decide +kernel) (by decide +kernel)
set_option maxRecDepth 20000 in
theorem gL_law_X5_node : GoodIn wsL_law (wsV RL 52 RX5 yX5_node wsX5_node) := goodIn_app (goodIn_of _ (by decide +kernel)) ggL_law_X5_node
set_option maxRecDepth 20000 in
theorem ggL_law_X4_within : GoodIn wsL_law wsX4_within := goodIn_r _ [349, 16, 24, 107, 108, 109, 15, 110, 32, 234, 235, 236, 23, 237, 57, 54, 47, 50, 56, 238, 239, 240, 241, 55, 242, 243, 244, 245, 246, 247, 248, 249, 35, 250, 251, 252, 253, 34, 254, 255, 256, 257, 48, 258, 200, 201, 19, 202, 42, 41, 203, 204, 205, 127, 2, 128, 259, 260, 261, 262, 263, 264, 265, 266, 53, 267, 64, 63, 62, 350, 351, 352, 353, 354, 272, 273, 274, 275, 276, 277, 278, 279, 359, 360, 361, 362, 363, 381, 382, 383, 384, 385, 388, 389, 390, 391, 392, 393, 394, 395, 396, 397, 386, 387] (by decide +kernel) (by decide +kernel)
set_option maxRecDepth 20000 in
theorem gL_law_X4_within : GoodIn wsL_law (wsV RL 55 RX4 yX4_within wsX4_within) := goodIn_app (goodIn_of _ (by decide +kernel)) ggL_law_X4_within
set_option maxRecDepth 20000 in
theorem ggL_law_X5_within : GoodIn wsL_law wsX5_within := goodIn_r _ [358, 69, 73, 79, 80, 301, 76, 78, 77, 163, 164, 165, 5, 166, 302, 303, 304, 305, 99, 74, 306, 307, 308, 309, 70, 71, 310, 311, 312, 313, 72, 81, 314, 315, 316, 317, 318, 319, 320, 321, 322, 323, 324, 325, 219, 220, 221, 222, 100, 75, 364, 365, 366, 367, 368, 369, 370, 371, 372, 373, 374, 375, 376, 377, 378, 379, 380] (by decide +kernel) (by decide +kernel)
set_option maxRecDepth 20000 in
theorem gL_law_X5_within : GoodIn wsL_law (wsV RL 59 RX5 yX5_within wsX5_within) := goodIn_app (goodIn_of _ (by decide +kernel)) ggL_law_X5_within
theorem dL_law_0 : decode cL_law 0 = .ok (.new 7, 3) := by decide +kernel
theorem dL_law_3 : decode cL_law 3 = .ok (.dup, 1) := by decide +kernel
theorem dL_law_4 : decode cL_law 4 = .ok (.invokespecial 9, 3) := by decide +kernel
theorem dL_law_7 : decode cL_law 7 = .ok (.astore_n 1, 1) := by decide +kernel
theorem dL_law_8 : decode cL_law 8 = .ok (.new 10, 3) := by decide +kernel
theorem dL_law_11 : decode cL_law 11 = .ok (.dup, 1) := by decide +kernel
theorem dL_law_12 : decode cL_law 12 = .ok (.invokespecial 12, 3) := by decide +kernel
theorem dL_law_15 : decode cL_law 15 = .ok (.astore_n 2, 1) := by decide +kernel
theorem dL_law_16 : decode cL_law 16 = .ok (.iconst 0, 1) := by decide +kernel
theorem dL_law_17 : decode cL_law 17 = .ok (.istore_n 3, 1) := by decide +kernel
theorem dL_law_18 : decode cL_law 18 = .ok (.iload_n 3, 1) := by decide +kernel
theorem dL_law_19 : decode cL_law 19 = .ok (.aload_n 0, 1) := by decide +kernel
theorem dL_law_20 : decode cL_law 20 = .ok (.arraylength, 1) := by decide +kernel
theorem dL_law_21 : decode cL_law 21 = .ok (.iconst 5, 1) := by decide +kernel
theorem dL_law_22 : decode cL_law 22 = .ok (.isub, 1) := by decide +kernel
theorem dL_law_23 : decode cL_law 23 = .ok (.if_icmp .gt 427, 3) := by decide +kernel
theorem dL_law_26 : decode cL_law 26 = .ok (.aload_n 0, 1) := by decide +kernel
theorem dL_law_27 : decode cL_law 27 = .ok (.iload_n 3, 1) := by decide +kernel
theorem dL_law_28 : decode cL_law 28 = .ok (.iaload, 1) := by decide +kernel
theorem dL_law_29 : decode cL_law 29 = .ok (.bipush 15, 2) := by decide +kernel
theorem dL_law_31 : decode cL_law 31 = .ok (.iand, 1) := by decide +kernel
theorem dL_law_32 : decode cL_law 32 = .ok (.tableswitch 412 0 8 #[52, 75, 118, 177, 210, 279, 313, 326, 349], 52) := by decide +kernel
theorem dL_law_84 : decode cL_law 84 = .ok (.aload_n 1, 1) := by decide +kernel
theorem dL_law_85 : decode cL_law 85 = .ok (.aload_n 0, 1) := by decide +kernel
theorem dL_law_86 : decode cL_law 86 = .ok (.iload_n 3, 1) := by decide +kernel
theorem dL_law_87 : decode cL_law 87 = .ok (.iconst 1, 1) := by decide +kernel
theorem dL_law_88 : decode cL_law 88 = .ok (.iadd, 1) := by decide +kernel
theorem dL_law_89 : decode cL_law 89 = .ok (.iaload, 1) := by decide +kernel
theorem dL_law_90 : decode cL_law 90 = .ok (.invokevirtual 13, 3) := by decide +kernel
theorem dL_law_93 : decode cL_law 93 = .ok (.aload_n 2, 1) := by decide +kernel
theorem dL_law_94 : decode cL_law 94 = .ok (.aload_n 0, 1) := by decide +kernel
theorem dL_law_95 : decode cL_law 95 = .ok (.iload_n 3, 1) := by decide +kernel
theorem dL_law_96 : decode cL_law 96 = .ok (.iconst 1, 1) := by decide +kernel
theorem dL_law_97 : decode cL_law 97 = .ok (.iadd, 1) := by decide +kernel
theorem dL_law_98 : decode cL_law 98 = .ok (.iaload, 1) := by decide +kernel
theorem dL_law_99 : decode cL_law 99 = .ok (.invokevirtual 17, 3) := by decide +kernel
theorem dL_law_102 : decode cL_law 102 = .ok (.if_icmp .eq 342, 3) := by decide +kernel
theorem dL_law_105 : decode cL_law 105 = .ok (.iconst 0, 1) := by decide +kernel
theorem dL_law_106 : decode cL_law 106 = .ok (.ireturn, 1) := by decide +kernel
theorem dL_law_107 : decode cL_law 107 = .ok (.aload_n 1, 1) := by decide +kernel
theorem dL_law_108 : decode cL_law 108 = .ok (.aload_n 0, 1) := by decide +kernel
theorem dL_law_109 : decode cL_law 109 = .ok (.iload_n 3, 1) := by decide +kernel
theorem dL_law_110 : decode cL_law 110 = .ok (.iconst 1, 1) := by decide +kernel
theorem dL_law_111 : decode cL_law 111 = .ok (.iadd, 1) := by decide +kernel
theorem dL_law_112 : decode cL_law 112 = .ok (.iaload, 1) := by decide +kernel
theorem dL_law_113 : decode cL_law 113 = .ok (.aload_n 0, 1) := by decide +kernel
theorem dL_law_114 : decode cL_law 114 = .ok (.iload_n 3, 1) := by decide +kernel
theorem dL_law_115 : decode cL_law 115 = .ok (.iconst 2, 1) := by decide +kernel
theorem dL_law_116 : decode cL_law 116 = .ok (.iadd, 1) := by decide +kernel
theorem dL_law_117 : decode cL_law 117 = .ok (.iaload, 1) := by decide +kernel
theorem dL_law_118 : decode cL_law 118 = .ok (.aload_n 0, 1) := by decide +kernel
theorem dL_law_119 : decode cL_law 119 = .ok (.iload_n 3, 1) := by decide +kernel
theorem dL_law_120 : decode cL_law 120 = .ok (.iconst 3, 1) := by decide +kernel
theorem dL_law_121 : decode cL_law 121 = .ok (.iadd, 1) := by decide +kernel
theorem dL_law_122 : decode cL_law 122 = .ok (.iaload, 1) := by decide +kernel
theorem dL_law_123 : decode cL_law 123 = .ok (.invokevirtual 18, 3) := by decide +kernel
theorem dL_law_126 : decode cL_law 126 = .ok (.aload_n 2, 1) := by decide +kernel
theorem dL_law_127 : decode cL_law 127 = .ok (.aload_n 0, 1) := by decide +kernel
theorem dL_law_128 : decode cL_law 128 = .ok (.iload_n 3, 1) := by decide +kernel
theorem dL_law_129 : decode cL_law 129 = .ok (.iconst 1, 1) := by decide +kernel
theorem dL_law_130 : decode cL_law 130 = .ok (.iadd, 1) := by decide +kernel
theorem dL_law_131 : decode cL_law 131 = .ok (.iaload, 1) := by decide +kernel
theorem dL_law_132 : decode cL_law 132 = .ok (.aload_n 0, 1) := by decide +kernel
theorem dL_law_133 : decode cL_law 133 = .ok (.iload_n 3, 1) := by decide +kernel
theorem dL_law_134 : decode cL_law 134 = .ok (.iconst 2, 1) := by decide +kernel
theorem dL_law_135 : decode cL_law 135 = .ok (.iadd, 1) := by decide +kernel
theorem dL_law_136 : decode cL_law 136 = .ok (.iaload, 1) := by decide +kernel
theorem dL_law_137 : decode cL_law 137 = .ok (.aload_n 0, 1) := by decide +kernel
theorem dL_law_138 : decode cL_law 138 = .ok (.iload_n 3, 1) := by decide +kernel
theorem dL_law_139 : decode cL_law 139 = .ok (.iconst 3, 1) := by decide +kernel
theorem dL_law_140 : decode cL_law 140 = .ok (.iadd, 1) := by decide +kernel
theorem dL_law_141 : decode cL_law 141 = .ok (.iaload, 1) := by decide +kernel
theorem dL_law_142 : decode cL_law 142 = .ok (.invokevirtual 22, 3) := by decide +kernel
theorem dL_law_145 : decode cL_law 145 = .ok (.if_icmp .eq 299, 3) := by decide +kernel
theorem dL_law_148 : decode cL_law 148 = .ok (.iconst 0, 1) := by decide +kernel
theorem dL_law_149 : decode cL_law 149 = .ok (.ireturn, 1) := by decide +kernel
theorem dL_law_150 : decode cL_law 150 = .ok (.aload_n 1, 1) := by decide +kernel
theorem dL_law_151 : decode cL_law 151 = .ok (.aload_n 0, 1) := by decide +kernel
theorem dL_law_152 : decode cL_law 152 = .ok (.iload_n 3, 1) := by decide +kernel
theorem dL_law_153 : decode cL_law 153 = .ok (.iconst 1, 1) := by decide +kernel
theorem dL_law_154 : decode cL_law 154 = .ok (.iadd, 1) := by decide +kernel
theorem dL_law_155 : decode cL_law 155 = .ok (.iaload, 1) := by decide +kernel
theorem dL_law_156 : decode cL_law 156 = .ok (.aload_n 0, 1) := by decide +kernel
theorem dL_law_157 : decode cL_law 157 = .ok (.iload_n 3, 1) := by decide +kernel
theorem dL_law_158 : decode cL_law 158 = .ok (.iconst 2, 1) := by decide +kernel
theorem dL_law_159 : decode cL_law 159 = .ok (.iadd, 1) := by decide +kernel
theorem dL_law_160 : decode cL_law 160 = .ok (.iaload, 1) := by decide +kernel
theorem dL_law_161 : decode cL_law 161 = .ok (.aload_n 0, 1) := by decide +kernel
theorem dL_law_162 : decode cL_law 162 = .ok (.iload_n 3, 1) := by decide +kernel
theorem dL_law_163 : decode cL_law 163 = .ok (.iconst 3, 1) := by decide +kernel
theorem dL_law_164 : decode cL_law 164 = .ok (.iadd, 1) := by decide +kernel
theorem dL_law_165 : decode cL_law 165 = .ok (.iaload, 1) := by decide +kernel
theorem dL_law_166 : decode cL_law 166 = .ok (.ifCond .eq 7, 3) := by decide +kernel
theorem dL_law_169 : decode cL_law 169 = .ok (.iconst 1, 1) := by decide +kernel
theorem dL_law_170 : decode cL_law 170 = .ok (.goto 4, 3) := by decide +kernel
theorem dL_law_173 : decode cL_law 173 = .ok (.iconst 0, 1) := by decide +kernel
theorem dL_law_174 : decode cL_law 174 = .ok (.invokevirtual 23, 3) := by decide +kernel
theorem dL_law_177 : decode cL_law 177 = .ok (.aload_n 2, 1) := by decide +kernel
theorem dL_law_178 : decode cL_law 178 = .ok (.aload_n 0, 1) := by decide +kernel
theorem dL_law_179 : decode cL_law 179 = .ok (.iload_n 3, 1) := by decide +kernel
theorem dL_law_180 : decode cL_law 180 = .ok (.iconst 1, 1) := by decide +kernel
theorem dL_law_181 : decode cL_law 181 = .ok (.iadd, 1) := by decide +kernel
theorem dL_law_182 : decode cL_law 182 = .ok (.iaload, 1) := by decide +kernel
theorem dL_law_183 : decode cL_law 183 = .ok (.aload_n 0, 1) := by decide +kernel
theorem dL_law_184 : decode cL_law 184 = .ok (.iload_n 3, 1) := by decide +kernel
theorem dL_law_185 : decode cL_law 185 = .ok (.iconst 2, 1) := by decide +kernel
theorem dL_law_186 : decode cL_law 186 = .ok (.iadd, 1) := by decide +kernel
theorem dL_law_187 : decode cL_law 187 = .ok (.iaload, 1) := by decide +kernel
theorem dL_law_188 : decode cL_law 188 = .ok (.aload_n 0, 1) := by decide +kernel
theorem dL_law_189 : decode cL_law 189 = .ok (.iload_n 3, 1) := by decide +kernel
theorem dL_law_190 : decode cL_law 190 = .ok (.iconst 3, 1) := by decide +kernel
theorem dL_law_191 : decode cL_law 191 = .ok (.iadd, 1) := by decide +kernel
theorem dL_law_192 : decode cL_law 192 = .ok (.iaload, 1) := by decide +kernel
theorem dL_law_193 : decode cL_law 193 = .ok (.ifCond .eq 7, 3) := by decide +kernel
theorem dL_law_196 : decode cL_law 196 = .ok (.iconst 1, 1) := by decide +kernel
theorem dL_law_197 : decode cL_law 197 = .ok (.goto 4, 3) := by decide +kernel
theorem dL_law_200 : decode cL_law 200 = .ok (.iconst 0, 1) := by decide +kernel
theorem dL_law_201 : decode cL_law 201 = .ok (.invokevirtual 27, 3) := by decide +kernel
theorem dL_law_204 : decode cL_law 204 = .ok (.if_icmp .eq 240, 3) := by decide +kernel
theorem dL_law_207 : decode cL_law 207 = .ok (.iconst 0, 1) := by decide +kernel
theorem dL_law_208 : decode cL_law 208 = .ok (.ireturn, 1) := by decide +kernel
theorem dL_law_209 : decode cL_law 209 = .ok (.aload_n 1, 1) := by decide +kernel
theorem dL_law_210 : decode cL_law 210 = .ok (.aload_n 0, 1) := by decide +kernel
theorem dL_law_211 : decode cL_law 211 = .ok (.iload_n 3, 1) := by decide +kernel
theorem dL_law_212 : decode cL_law 212 = .ok (.iconst 1, 1) := by decide +kernel
theorem dL_law_213 : decode cL_law 213 = .ok (.iadd, 1) := by decide +kernel
theorem dL_law_214 : decode cL_law 214 = .ok (.iaload, 1) := by decide +kernel
theorem dL_law_215 : decode cL_law 215 = .ok (.aload_n 0, 1) := by decide +kernel
theorem dL_law_216 : decode cL_law 216 = .ok (.iload_n 3, 1) := by decide +kernel
theorem dL_law_217 : decode cL_law 217 = .ok (.iconst 2, 1) := by decide +kernel
theorem dL_law_218 : decode cL_law 218 = .ok (.iadd, 1) := by decide +kernel
theorem dL_law_219 : decode cL_law 219 = .ok (.iaload, 1) := by decide +kernel
theorem dL_law_220 : decode cL_law 220 = .ok (.invokevirtual 28, 3) := by decide +kernel
theorem dL_law_223 : decode cL_law 223 = .ok (.aload_n 2, 1) := by decide +kernel
theorem dL_law_224 : decode cL_law 224 = .ok (.aload_n 0, 1) := by decide +kernel
theorem dL_law_225 : decode cL_law 225 = .ok (.iload_n 3, 1) := by decide +kernel
theorem dL_law_226 : decode cL_law 226 = .ok (.iconst 1, 1) := by decide +kernel
theorem dL_law_227 : decode cL_law 227 = .ok (.iadd, 1) := by decide +kernel
theorem dL_law_228 : decode cL_law 228 = .ok (.iaload, 1) := by decide +kernel
theorem dL_law_229 : decode cL_law 229 = .ok (.aload_n 0, 1) := by decide +kernel
theorem dL_law_230 : decode cL_law 230 = .ok (.iload_n 3, 1) := by decide +kernel
theorem dL_law_231 : decode cL_law 231 = .ok (.iconst 2, 1) := by decide +kernel
theorem dL_law_232 : decode cL_law 232 = .ok (.iadd, 1) := by decide +kernel
theorem dL_law_233 : decode cL_law 233 = .ok (.iaload, 1) := by decide +kernel
theorem dL_law_234 : decode cL_law 234 = .ok (.invokevirtual 32, 3) := by decide +kernel
theorem dL_law_237 : decode cL_law 237 = .ok (.if_icmp .eq 207, 3) := by decide +kernel
theorem dL_law_240 : decode cL_law 240 = .ok (.iconst 0, 1) := by decide +kernel
theorem dL_law_241 : decode cL_law 241 = .ok (.ireturn, 1) := by decide +kernel
theorem dL_law_242 : decode cL_law 242 = .ok (.aload_n 1, 1) := by decide +kernel
theorem dL_law_243 : decode cL_law 243 = .ok (.aload_n 0, 1) := by decide +kernel
theorem dL_law_244 : decode cL_law 244 = .ok (.iload_n 3, 1) := by decide +kernel
theorem dL_law_245 : decode cL_law 245 = .ok (.iconst 1, 1) := by decide +kernel
theorem dL_law_246 : decode cL_law 246 = .ok (.iadd, 1) := by decide +kernel
theorem dL_law_247 : decode cL_law 247 = .ok (.iaload, 1) := by decide +kernel
theorem dL_law_248 : decode cL_law 248 = .ok (.aload_n 0, 1) := by decide +kernel
theorem dL_law_249 : decode cL_law 249 = .ok (.iload_n 3, 1) := by decide +kernel
theorem dL_law_250 : decode cL_law 250 = .ok (.iconst 2, 1) := by decide +kernel
theorem dL_law_251 : decode cL_law 251 = .ok (.iadd, 1) := by decide +kernel
theorem dL_law_252 : decode cL_law 252 = .ok (.iaload, 1) := by decide +kernel
theorem dL_law_253 : decode cL_law 253 = .ok (.aload_n 0, 1) := by decide +kernel
theorem dL_law_254 : decode cL_law 254 = .ok (.iload_n 3, 1) := by decide +kernel
theorem dL_law_255 : decode cL_law 255 = .ok (.iconst 3, 1) := by decide +kernel
theorem dL_law_256 : decode cL_law 256 = .ok (.iadd, 1) := by decide +kernel
theorem dL_law_257 : decode cL_law 257 = .ok (.iaload, 1) := by decide +kernel
theorem dL_law_258 : decode cL_law 258 = .ok (.aload_n 0, 1) := by decide +kernel
theorem dL_law_259 : decode cL_law 259 = .ok (.iload_n 3, 1) := by decide +kernel
theorem dL_law_260 : decode cL_law 260 = .ok (.iconst 4, 1) := by decide +kernel
theorem dL_law_261 : decode cL_law 261 = .ok (.iadd, 1) := by decide +kernel
theorem dL_law_262 : decode cL_law 262 = .ok (.iaload, 1) := by decide +kernel
theorem dL_law_263 : decode cL_law 263 = .ok (.ifCond .eq 7, 3) := by decide +kernel
theorem dL_law_266 : decode cL_law 266 = .ok (.iconst 1, 1) := by decide +kernel
theorem dL_law_267 : decode cL_law 267 = .ok (.goto 4, 3) := by decide +kernel
theorem dL_law_270 : decode cL_law 270 = .ok (.iconst 0, 1) := by decide +kernel
theorem dL_law_271 : decode cL_law 271 = .ok (.invokevirtual 33, 3) := by decide +kernel
theorem dL_law_274 : decode cL_law 274 = .ok (.aload_n 2, 1) := by decide +kernel
theorem dL_law_275 : decode cL_law 275 = .ok (.aload_n 0, 1) := by decide +kernel
theorem dL_law_276 : decode cL_law 276 = .ok (.iload_n 3, 1) := by decide +kernel
theorem dL_law_277 : decode cL_law 277 = .ok (.iconst 1, 1) := by decide +kernel
theorem dL_law_278 : decode cL_law 278 = .ok (.iadd, 1) := by decide +kernel
theorem dL_law_279 : decode cL_law 279 = .ok (.iaload, 1) := by decide +kernel
theorem dL_law_280 : decode cL_law 280 = .ok (.aload_n 0, 1) := by decide +kernel
theorem dL_law_281 : decode cL_law 281 = .ok (.iload_n 3, 1) := by decide +kernel
theorem dL_law_282 : decode cL_law 282 = .ok (.iconst 2, 1) := by decide +kernel
theorem dL_law_283 : decode cL_law 283 = .ok (.iadd, 1) := by decide +kernel
theorem dL_law_284 : decode cL_law 284 = .ok (.iaload, 1) := by decide +kernel
theorem dL_law_285 : decode cL_law 285 = .ok (.aload_n 0, 1) := by decide +kernel
theorem dL_law_286 : decode cL_law 286 = .ok (.iload_n 3, 1) := by decide +kernel
theorem dL_law_287 : decode cL_law 287 = .ok (.iconst 3, 1) := by decide +kernel
theorem dL_law_288 : decode cL_law 288 = .ok (.iadd, 1) := by decide +kernel
theorem dL_law_289 : decode cL_law 289 = .ok (.iaload, 1) := by decide +kernel
theorem dL_law_290 : decode cL_law 290 = .ok (.aload_n 0, 1) := by decide +kernel
theorem dL_law_291 : decode cL_law 291 = .ok (.iload_n 3, 1) := by decide +kernel
theorem dL_law_292 : decode cL_law 292 = .ok (.iconst 4, 1) := by decide +kernel
theorem dL_law_293 : decode cL_law 293 = .ok (.iadd, 1) := by decide +kernel
theorem dL_law_294 : decode cL_law 294 = .ok (.iaload, 1) := by decide +kernel
theorem dL_law_295 : decode cL_law 295 = .ok (.ifCond .eq 7, 3) := by decide +kernel
theorem dL_law_298 : decode cL_law 298 = .ok (.iconst 1, 1) := by decide +kernel
theorem dL_law_299 : decode cL_law 299 = .ok (.goto 4, 3) := by decide +kernel
theorem dL_law_302 : decode cL_law 302 = .ok (.iconst 0, 1) := by decide +kernel
theorem dL_law_303 : decode cL_law 303 = .ok (.invokevirtual 37, 3) := by decide +kernel
theorem dL_law_306 : decode cL_law 306 = .ok (.if_icmp .eq 138, 3) := by decide +kernel
theorem dL_law_309 : decode cL_law 309 = .ok (.iconst 0, 1) := by decide +kernel
theorem dL_law_310 : decode cL_law 310 = .ok (.ireturn, 1) := by decide +kernel
theorem dL_law_311 : decode cL_law 311 = .ok (.aload_n 1, 1) := by decide +kernel
theorem dL_law_312 : decode cL_law 312 = .ok (.aload_n 0, 1) := by decide +kernel
theorem dL_law_313 : decode cL_law 313 = .ok (.iload_n 3, 1) := by decide +kernel
theorem dL_law_314 : decode cL_law 314 = .ok (.iconst 1, 1) := by decide +kernel
theorem dL_law_315 : decode cL_law 315 = .ok (.iadd, 1) := by decide +kernel
theorem dL_law_316 : decode cL_law 316 = .ok (.iaload, 1) := by decide +kernel
theorem dL_law_317 : decode cL_law 317 = .ok (.aload_n 0, 1) := by decide +kernel
theorem dL_law_318 : decode cL_law 318 = .ok (.iload_n 3, 1) := by decide +kernel
theorem dL_law_319 : decode cL_law 319 = .ok (.iconst 2, 1) := by decide +kernel
theorem dL_law_320 : decode cL_law 320 = .ok (.iadd, 1) := by decide +kernel
theorem dL_law_321 : decode cL_law 321 = .ok (.iaload, 1) := by decide +kernel
theorem dL_law_322 : decode cL_law 322 = .ok (.invokevirtual 38, 3) := by decide +kernel
theorem dL_law_325 : decode cL_law 325 = .ok (.aload_n 2, 1) := by decide +kernel
theorem dL_law_326 : decode cL_law 326 = .ok (.aload_n 0, 1) := by decide +kernel
theorem dL_law_327 : decode cL_law 327 = .ok (.iload_n 3, 1) := by decide +kernel
theorem dL_law_328 : decode cL_law 328 = .ok (.iconst 1, 1) := by decide +kernel
theorem dL_law_329 : decode cL_law 329 = .ok (.iadd, 1) := by decide +kernel
theorem dL_law_330 : decode cL_law 330 = .ok (.iaload, 1) := by decide +kernel
theorem dL_law_331 : decode cL_law 331 = .ok (.aload_n 0, 1) := by decide +kernel
theorem dL_law_332 : decode cL_law 332 = .ok (.iload_n 3, 1) := by decide +kernel
theorem dL_law_333 : decode cL_law 333 = .ok (.iconst 2, 1) := by decide +kernel
theorem dL_law_334 : decode cL_law 334 = .ok (.iadd, 1) := by decide +kernel
theorem dL_law_335 : decode cL_law 335 = .ok (.iaload, 1) := by decide +kernel
theorem dL_law_336 : decode cL_law 336 = .ok (.invokevirtual 42, 3) := by decide +kernel
theorem dL_law_339 : decode cL_law 339 = .ok (.lcmp, 1) := by decide +kernel
theorem dL_law_340 : decode cL_law 340 = .ok (.ifCond .eq 104, 3) := by decide +kernel
theorem dL_law_343 : decode cL_law 343 = .ok (.iconst 0, 1) := by decide +kernel
theorem dL_law_344 : decode cL_law 344 = .ok (.ireturn, 1) := by decide +kernel
theorem dL_law_345 : decode cL_law 345 = .ok (.aload_n 1, 1) := by decide +kernel
theorem dL_law_346 : decode cL_law 346 = .ok (.invokevirtual 43, 3) := by decide +kernel
theorem dL_law_349 : decode cL_law 349 = .ok (.aload_n 2, 1) := by decide +kernel
theorem dL_law_350 : decode cL_law 350 = .ok (.invokevirtual 47, 3) := by decide +kernel
theorem dL_law_353 : decode cL_law 353 = .ok (.if_icmp .eq 91, 3) := by decide +kernel
theorem dL_law_356 : decode cL_law 356 = .ok (.iconst 0, 1) := by decide +kernel
theorem dL_law_357 : decode cL_law 357 = .ok (.ireturn, 1) := by decide +kernel
theorem dL_law_358 : decode cL_law 358 = .ok (.aload_n 1, 1) := by decide +kernel
theorem dL_law_359 : decode cL_law 359 = .ok (.aload_n 0, 1) := by decide +kernel
theorem dL_law_360 : decode cL_law 360 = .ok (.iload_n 3, 1) := by decide +kernel
theorem dL_law_361 : decode cL_law 361 = .ok (.iconst 1, 1) := by decide +kernel
theorem dL_law_362 : decode cL_law 362 = .ok (.iadd, 1) := by decide +kernel
theorem dL_law_363 : decode cL_law 363 = .ok (.iaload, 1) := by decide +kernel
theorem dL_law_364 : decode cL_law 364 = .ok (.invokevirtual 48, 3) := by decide +kernel
theorem dL_law_367 : decode cL_law 367 = .ok (.aload_n 2, 1) := by decide +kernel
theorem dL_law_368 : decode cL_law 368 = .ok (.aload_n 0, 1) := by decide +kernel
theorem dL_law_369 : decode cL_law 369 = .ok (.iload_n 3, 1) := by decide +kernel
theorem dL_law_370 : decode cL_law 370 = .ok (.iconst 1, 1) := by decide +kernel
theorem dL_law_371 : decode cL_law 371 = .ok (.iadd, 1) := by decide +kernel
theorem dL_law_372 : decode cL_law 372 = .ok (.iaload, 1) := by decide +kernel
theorem dL_law_373 : decode cL_law 373 = .ok (.invokevirtual 52, 3) := by decide +kernel
theorem dL_law_376 : decode cL_law 376 = .ok (.if_icmp .eq 68, 3) := by decide +kernel
theorem dL_law_379 : decode cL_law 379 = .ok (.iconst 0, 1) := by decide +kernel
theorem dL_law_380 : decode cL_law 380 = .ok (.ireturn, 1) := by decide +kernel
theorem dL_law_381 : decode cL_law 381 = .ok (.aload_n 1, 1) := by decide +kernel
theorem dL_law_382 : decode cL_law 382 = .ok (.aload_n 0, 1) := by decide +kernel
theorem dL_law_383 : decode cL_law 383 = .ok (.iload_n 3, 1) := by decide +kernel
theorem dL_law_384 : decode cL_law 384 = .ok (.iconst 1, 1) := by decide +kernel
theorem dL_law_385 : decode cL_law 385 = .ok (.iadd, 1) := by decide +kernel
theorem dL_law_386 : decode cL_law 386 = .ok (.iaload, 1) := by decide +kernel
theorem dL_law_387 : decode cL_law 387 = .ok (.aload_n 0, 1) := by decide +kernel
theorem dL_law_388 : decode cL_law 388 = .ok (.iload_n 3, 1) := by decide +kernel
theorem dL_law_389 : decode cL_law 389 = .ok (.iconst 2, 1) := by decide +kernel
theorem dL_law_390 : decode cL_law 390 = .ok (.iadd, 1) := by decide +kernel
theorem dL_law_391 : decode cL_law 391 = .ok (.iaload, 1) := by decide +kernel
theorem dL_law_392 : decode cL_law 392 = .ok (.i2l, 1) := by decide +kernel
theorem dL_law_393 : decode cL_law 393 = .ok (.bipush 32, 2) := by decide +kernel
theorem dL_law_395 : decode cL_law 395 = .ok (.lshl, 1) := by decide +kernel
theorem dL_law_396 : decode cL_law 396 = .ok (.aload_n 0, 1) := by decide +kernel
theorem dL_law_397 : decode cL_law 397 = .ok (.iload_n 3, 1) := by decide +kernel
theorem dL_law_398 : decode cL_law 398 = .ok (.iconst 3, 1) := by decide +kernel
theorem dL_law_399 : decode cL_law 399 = .ok (.iadd, 1) := by decide +kernel
theorem dL_law_400 : decode cL_law 400 = .ok (.iaload, 1) := by decide +kernel
theorem dL_law_401 : decode cL_law 401 = .ok (.i2l, 1) := by decide +kernel
theorem dL_law_402 : decode cL_law 402 = .ok (.ldc2_w 53, 3) := by decide +kernel
theorem dL_law_405 : decode cL_law 405 = .ok (.land, 1) := by decide +kernel
theorem dL_law_406 : decode cL_law 406 = .ok (.lor, 1) := by decide +kernel
theorem dL_law_407 : decode cL_law 407 = .ok (.invokevirtual 55, 3) := by decide +kernel
theorem dL_law_410 : decode cL_law 410 = .ok (.aload_n 2, 1) := by decide +kernel
theorem dL_law_411 : decode cL_law 411 = .ok (.aload_n 0, 1) := by decide +kernel
theorem dL_law_412 : decode cL_law 412 = .ok (.iload_n 3, 1) := by decide +kernel
theorem dL_law_413 : decode cL_law 413 = .ok (.iconst 1, 1) := by decide +kernel
theorem dL_law_414 : decode cL_law 414 = .ok (.iadd, 1) := by decide +kernel
theorem dL_law_415 : decode cL_law 415 = .ok (.iaload, 1) := by decide +kernel
theorem dL_law_416 : decode cL_law 416 = .ok (.aload_n 0, 1) := by decide +kernel
theorem dL_law_417 : decode cL_law 417 = .ok (.iload_n 3, 1) := by decide +kernel
theorem dL_law_418 : decode cL_law 418 = .ok (.iconst 2, 1) := by decide +kernel
theorem dL_law_419 : decode cL_law 419 = .ok (.iadd, 1) := by decide +kernel
theorem dL_law_420 : decode cL_law 420 = .ok (.iaload, 1) := by decide +kernel
theorem dL_law_421 : decode cL_law 421 = .ok (.i2l, 1) := by decide +kernel
theorem dL_law_422 : decode cL_law 422 = .ok (.bipush 32, 2) := by decide +kernel
theorem dL_law_424 : decode cL_law 424 = .ok (.lshl, 1) := by decide +kernel
theorem dL_law_425 : decode cL_law 425 = .ok (.aload_n 0, 1) := by decide +kernel
theorem dL_law_426 : decode cL_law 426 = .ok (.iload_n 3, 1) := by decide +kernel
theorem dL_law_427 : decode cL_law 427 = .ok (.iconst 3, 1) := by decide +kernel
theorem dL_law_428 : decode cL_law 428 = .ok (.iadd, 1) := by decide +kernel
theorem dL_law_429 : decode cL_law 429 = .ok (.iaload, 1) := by decide +kernel
theorem dL_law_430 : decode cL_law 430 = .ok (.i2l, 1) := by decide +kernel
theorem dL_law_431 : decode cL_law 431 = .ok (.ldc2_w 53, 3) := by decide +kernel
theorem dL_law_434 : decode cL_law 434 = .ok (.land, 1) := by decide +kernel
theorem dL_law_435 : decode cL_law 435 = .ok (.lor, 1) := by decide +kernel
theorem dL_law_436 : decode cL_law 436 = .ok (.invokevirtual 59, 3) := by decide +kernel
theorem dL_law_439 : decode cL_law 439 = .ok (.if_icmp .eq 5, 3) := by decide +kernel
theorem dL_law_442 : decode cL_law 442 = .ok (.iconst 0, 1) := by decide +kernel
theorem dL_law_443 : decode cL_law 443 = .ok (.ireturn, 1) := by decide +kernel
theorem dL_law_444 : decode cL_law 444 = .ok (.iinc 3 5, 3) := by decide +kernel
theorem dL_law_447 : decode cL_law 447 = .ok (.goto (-429), 3) := by decide +kernel
theorem dL_law_450 : decode cL_law 450 = .ok (.iconst 1, 1) := by decide +kernel
theorem dL_law_451 : decode cL_law 451 = .ok (.ireturn, 1) := by decide +kernel
end
section
/-! the nest's links, and what they say of a state -/
def nwL : List Cond := [.fieldLinkNest "RoadTurns" 70 "RoadTurns$Turns" "count" "I" "RoadTurns", .fieldLinkNest "RoadTurns$Search" 43 "RoadTurns$ArcHeap" "count" "I" "RoadTurns", .fieldLinkNest "RoadTurns$Search" 47 "RoadTurns$Roads" "arcs" "I" "RoadTurns", .fieldLinkNest "RoadTurns$Search" 52 "RoadTurns$Roads" "nodes" "I" "RoadTurns", .fieldLinkNest "RoadTurns$Search" 72 "RoadTurns$Roads" "firstArc" "[I" "RoadTurns", .methodLinkNest "RoadTurns$Roads" 48 yX4_insert "RoadTurns", .methodLinkNest "RoadTurns$Roads" 52 yX4_placeIn "RoadTurns", .methodLinkNest "RoadTurns$Turns" 23 yX4_placeIn "RoadTurns", .methodLinkNest "RoadTurns$Turns" 27 yX4_insert "RoadTurns"]
def nw_ok (U : State) : Prop := ∀ w ∈ nwL, va_Nw w U
theorem nwL_onT : ∀ w ∈ nwL, w.onTables = true := by
  intro w hw
  simp only [nwL, List.mem_cons, List.not_mem_nil, or_false] at hw
  rcases hw with rfl | rfl | rfl | rfl | rfl | rfl | rfl | rfl | rfl <;> rfl
theorem nw_ok.same {u U : State} (h : u.vm = U.vm) (hn : nw_ok u) : nw_ok U := fun w hw => va_Nw.same (nwL_onT w hw) h (hn w hw)
theorem nw_ok.warm {s U : State} (hW : s.WarmedH U.vm) (h : nw_ok s) : nw_ok U := by
  intro w hw
  have h1 := h w hw
  simp only [nwL, List.mem_cons, List.not_mem_nil, or_false] at hw
  rcases hw with rfl | rfl | rfl | rfl | rfl | rfl | rfl | rfl | rfl
  · exact va_Nw.warmF hW h1
  · exact va_Nw.warmF hW h1
  · exact va_Nw.warmF hW h1
  · exact va_Nw.warmF hW h1
  · exact va_Nw.warmF hW h1
  · exact va_Nw.warmM hW h1
  · exact va_Nw.warmM hW h1
  · exact va_Nw.warmM hW h1
  · exact va_Nw.warmM hW h1
abbrev tyL (cI cJ cZ : ClassId) : List (ClassId × FieldType) := [(cI, .int), (cJ, .long), (cZ, .boolean)]
def vz (v : Int32) : Prop := v = 0 ∨ v = 1
theorem vz_n {v : Int32} (h : vz v) : narrow .boolean (.int v) = .int v := by rcases h with rfl | rfl <;> rfl
theorem vz_f {v : Int32} (h : vz v) : fits .boolean (.int v) = true := by rcases h with rfl | rfl <;> rfl
/-! a contract's start and end -/
def kPc (G : va_G) (tys : List (ClassId × FieldType)) (av : List Value) (sz : Nat) (w : va_W) : Array Value → State → Prop := va_Pc av (fun U => U.heap.size = sz ∧ va_P G vwCl w U.heap ∧ va_K G vwCl tys U ∧ va_D (fun _ => True) w ∧ nw_ok U)
def kB (G : va_G) (tys : List (ClassId × FieldType)) (A : Nat → Prop) {S : Type} (wf : S → va_W) : S → State → Prop := fun u t => va_P G vwCl (wf u) t.heap ∧ va_K G vwCl tys t ∧ va_D A (wf u)
theorem kPc_blind (G : va_G) (tys : List (ClassId × FieldType)) (av : List Value) (sz : Nat) (w : va_W) : FrameBlind (kPc G tys av sz w) := by
  intro a U g mk q
  obtain ⟨q0, q1, qP, qK, qD, qN⟩ := q
  exact ⟨q0, q1, qP, va_K.moved (u := U) (U := U.calling g mk a) (Vm.Alike.refl U.vm) qK, qD, nw_ok.same (u := U) (U := U.calling g mk a) rfl qN⟩

theorem km_i {l : Launch} {y : MethodName} {ws ws' : List Cond} {rm : Room} {cc : ByteArray} {maxL mc ms sz : Nat} {G : va_G} {tys : List (ClassId × FieldType)} {av : List Value} {w0 : va_W} {S : Type} {post : Int32 → S → Prop} {wf : S → va_W}
    (hy : plainName y.cls = true) (hw : ws = Cond.code y cc maxL (some .int) :: ws') (hlen : (lg_sl av).length ≤ maxL)
    (body : ∀ (p : Program) (e : Env) (s : State) (m : MethodId) (below : List Frame) (meth : Method) (c : Code) (A : Nat → Prop) (Q : State → Prop) (ls : Array Slot),
      p.tables.exec = Jvm.exec → c.code = cc → c.maxLocals = maxL → (∀ w ∈ ws, w.before av.toArray s = true) → s.vm.findClass y.cls = some m.cls → meth.name = y.name →
      va_K G vwCl tys s → nw_ok s → (∀ q : Nat, s.heap.size ≤ q → A q) → va_P G vwCl w0 s.heap → va_D A w0 → va_S A s.heap s.heap [] → lv_has ls maxL (lv_args 0 av) →
      (∀ (pc : Nat) (r : Int32) (u : S) (H : Heap) (locs : List Loc) (ls : Array Slot), decode cc pc = .ok (.ireturn, 1) → post r u → va_P G vwCl (wf u) H → va_D A (wf u) → va_S A s.heap H locs → W p l e rm s m av.toArray below meth c H locs mc ms Q (F0 m pc ls [.int r])) →
      W p l e rm s m av.toArray below meth c s.heap [] 0 0 Q (F0 m 0 ls [])) :
    Met l y ws rm (kPc G tys av sz w0) (va_Qi post (kB G tys (va_A w0 sz) wf) (va_A w0 sz)) mc ms (va_A w0 sz) := by
  refine Met.ofW (cc := cc) (maxL := maxL) (ret := some .int) hy hw ?_
  intro p e s m args below meth c s₁ B hml hv
  obtain ⟨rfl, hsz, hP, hK, hD0, hN⟩ := hv
  have hx := B.exec
  have hb := B.bytes
  have hr := B.returns
  have hts := atoms_spec (ws := ws) B.pre
  have hown : s.vm.findClass y.cls = some m.cls := findClass_of_methodNamed B.named
  have hlocks := B.notSynchronized
  have hnm := (name_of_methodNamed B.named B.method).1
  subst hsz
  have hD := hD0.self (sz := s.heap.size)
  have hl := lv_entry av (n := maxL) hlen
  rw [lg_entry_eq]
  generalize (lg_sl av ++ List.replicate (maxL - (lg_sl av).length) Slot.unset).toArray = ls at hl ⊢
  exact body p e s m below meth c (va_A w0 s.heap.size) _ ls hx hb hml hts hown hnm hK hN (fun q h => Or.inr h) hP hD va_S.rf hl (fun pc r u H locs ls hd hp hP hD hS => W.iret hx hb hr (fun t ht hW => ⟨⟨r, u, rfl, hp, by rw [ht]; exact hP, va_K.moved hW.alike hK, hD⟩, hS.F ht⟩) hS.2.2 hd hlocks)

theorem km_z {l : Launch} {y : MethodName} {ws ws' : List Cond} {rm : Room} {cc : ByteArray} {maxL mc ms sz : Nat} {G : va_G} {tys : List (ClassId × FieldType)} {av : List Value} {w0 : va_W} {S : Type} {post : Int32 → S → Prop} {wf : S → va_W}
    (hy : plainName y.cls = true) (hw : ws = Cond.code y cc maxL (some .boolean) :: ws') (hlen : (lg_sl av).length ≤ maxL)
    (body : ∀ (p : Program) (e : Env) (s : State) (m : MethodId) (below : List Frame) (meth : Method) (c : Code) (A : Nat → Prop) (Q : State → Prop) (ls : Array Slot),
      p.tables.exec = Jvm.exec → c.code = cc → c.maxLocals = maxL → (∀ w ∈ ws, w.before av.toArray s = true) → s.vm.findClass y.cls = some m.cls → meth.name = y.name →
      va_K G vwCl tys s → nw_ok s → (∀ q : Nat, s.heap.size ≤ q → A q) → va_P G vwCl w0 s.heap → va_D A w0 → va_S A s.heap s.heap [] → lv_has ls maxL (lv_args 0 av) →
      (∀ (pc : Nat) (r : Int32) (u : S) (H : Heap) (locs : List Loc) (ls : Array Slot), decode cc pc = .ok (.ireturn, 1) → narrow .boolean (.int r) = .int r → post r u → va_P G vwCl (wf u) H → va_D A (wf u) → va_S A s.heap H locs → W p l e rm s m av.toArray below meth c H locs mc ms Q (F0 m pc ls [.int r])) →
      W p l e rm s m av.toArray below meth c s.heap [] 0 0 Q (F0 m 0 ls [])) :
    Met l y ws rm (kPc G tys av sz w0) (va_Qi post (kB G tys (va_A w0 sz) wf) (va_A w0 sz)) mc ms (va_A w0 sz) := by
  refine Met.ofW (cc := cc) (maxL := maxL) (ret := some .boolean) hy hw ?_
  intro p e s m args below meth c s₁ B hml hv
  obtain ⟨rfl, hsz, hP, hK, hD0, hN⟩ := hv
  have hx := B.exec
  have hb := B.bytes
  have hr := B.returns
  have hts := atoms_spec (ws := ws) B.pre
  have hown : s.vm.findClass y.cls = some m.cls := findClass_of_methodNamed B.named
  have hlocks := B.notSynchronized
  have hnm := (name_of_methodNamed B.named B.method).1
  subst hsz
  have hD := hD0.self (sz := s.heap.size)
  have hl := lv_entry av (n := maxL) hlen
  rw [lg_entry_eq]
  generalize (lg_sl av ++ List.replicate (maxL - (lg_sl av).length) Slot.unset).toArray = ls at hl ⊢
  exact body p e s m below meth c (va_A w0 s.heap.size) _ ls hx hb hml hts hown hnm hK hN (fun q h => Or.inr h) hP hD va_S.rf hl (fun pc r u H locs ls hd hnr hp hP hD hS => W.zret hx hb hr hnr (fun t ht hW => ⟨⟨r, u, rfl, hp, by rw [ht]; exact hP, va_K.moved hW.alike hK, hD⟩, hS.F ht⟩) hS.2.2 hd hlocks)

theorem km_l {l : Launch} {y : MethodName} {ws ws' : List Cond} {rm : Room} {cc : ByteArray} {maxL mc ms sz : Nat} {G : va_G} {tys : List (ClassId × FieldType)} {av : List Value} {w0 : va_W} {S : Type} {post : Int64 → S → Prop} {wf : S → va_W}
    (hy : plainName y.cls = true) (hw : ws = Cond.code y cc maxL (some .long) :: ws') (hlen : (lg_sl av).length ≤ maxL)
    (body : ∀ (p : Program) (e : Env) (s : State) (m : MethodId) (below : List Frame) (meth : Method) (c : Code) (A : Nat → Prop) (Q : State → Prop) (ls : Array Slot),
      p.tables.exec = Jvm.exec → c.code = cc → c.maxLocals = maxL → (∀ w ∈ ws, w.before av.toArray s = true) → s.vm.findClass y.cls = some m.cls → meth.name = y.name →
      va_K G vwCl tys s → nw_ok s → (∀ q : Nat, s.heap.size ≤ q → A q) → va_P G vwCl w0 s.heap → va_D A w0 → va_S A s.heap s.heap [] → lv_has ls maxL (lv_args 0 av) →
      (∀ (pc : Nat) (r : Int64) (u : S) (H : Heap) (locs : List Loc) (ls : Array Slot), decode cc pc = .ok (.lreturn, 1) → post r u → va_P G vwCl (wf u) H → va_D A (wf u) → va_S A s.heap H locs → W p l e rm s m av.toArray below meth c H locs mc ms Q (F0 m pc ls [.long r])) →
      W p l e rm s m av.toArray below meth c s.heap [] 0 0 Q (F0 m 0 ls [])) :
    Met l y ws rm (kPc G tys av sz w0) (va_Ql post (kB G tys (va_A w0 sz) wf) (va_A w0 sz)) mc ms (va_A w0 sz) := by
  refine Met.ofW (cc := cc) (maxL := maxL) (ret := some .long) hy hw ?_
  intro p e s m args below meth c s₁ B hml hv
  obtain ⟨rfl, hsz, hP, hK, hD0, hN⟩ := hv
  have hx := B.exec
  have hb := B.bytes
  have hr := B.returns
  have hts := atoms_spec (ws := ws) B.pre
  have hown : s.vm.findClass y.cls = some m.cls := findClass_of_methodNamed B.named
  have hlocks := B.notSynchronized
  have hnm := (name_of_methodNamed B.named B.method).1
  subst hsz
  have hD := hD0.self (sz := s.heap.size)
  have hl := lv_entry av (n := maxL) hlen
  rw [lg_entry_eq]
  generalize (lg_sl av ++ List.replicate (maxL - (lg_sl av).length) Slot.unset).toArray = ls at hl ⊢
  exact body p e s m below meth c (va_A w0 s.heap.size) _ ls hx hb hml hts hown hnm hK hN (fun q h => Or.inr h) hP hD va_S.rf hl (fun pc r u H locs ls hd hp hP hD hS => W.lret hx hb hr (fun t ht hW => ⟨⟨r, u, rfl, hp, by rw [ht]; exact hP, va_K.moved hW.alike hK, hD⟩, hS.F ht⟩) hS.2.2 hd hlocks)

theorem km_v {l : Launch} {y : MethodName} {ws ws' : List Cond} {rm : Room} {cc : ByteArray} {maxL mc ms sz : Nat} {G : va_G} {tys : List (ClassId × FieldType)} {av : List Value} {w0 : va_W} {S : Type} {post : S → Prop} {wf : S → va_W}
    (hy : plainName y.cls = true) (hw : ws = Cond.code y cc maxL (none) :: ws') (hlen : (lg_sl av).length ≤ maxL)
    (body : ∀ (p : Program) (e : Env) (s : State) (m : MethodId) (below : List Frame) (meth : Method) (c : Code) (A : Nat → Prop) (Q : State → Prop) (ls : Array Slot),
      p.tables.exec = Jvm.exec → c.code = cc → c.maxLocals = maxL → (∀ w ∈ ws, w.before av.toArray s = true) → s.vm.findClass y.cls = some m.cls → meth.name = y.name →
      va_K G vwCl tys s → nw_ok s → (∀ q : Nat, s.heap.size ≤ q → A q) → va_P G vwCl w0 s.heap → va_D A w0 → va_S A s.heap s.heap [] → lv_has ls maxL (lv_args 0 av) →
      (∀ (pc : Nat) (u : S) (H : Heap) (locs : List Loc) (ls : Array Slot), decode cc pc = .ok (.return_, 1) → post u → va_P G vwCl (wf u) H → va_D A (wf u) → va_S A s.heap H locs → W p l e rm s m av.toArray below meth c H locs mc ms Q (F0 m pc ls [])) →
      W p l e rm s m av.toArray below meth c s.heap [] 0 0 Q (F0 m 0 ls [])) :
    Met l y ws rm (kPc G tys av sz w0) (va_Qv post (kB G tys (va_A w0 sz) wf) (va_A w0 sz)) mc ms (va_A w0 sz) := by
  refine Met.ofW (cc := cc) (maxL := maxL) (ret := none) hy hw ?_
  intro p e s m args below meth c s₁ B hml hv
  obtain ⟨rfl, hsz, hP, hK, hD0, hN⟩ := hv
  have hx := B.exec
  have hb := B.bytes
  have hr := B.returns
  have hts := atoms_spec (ws := ws) B.pre
  have hown : s.vm.findClass y.cls = some m.cls := findClass_of_methodNamed B.named
  have hlocks := B.notSynchronized
  have hnm := (name_of_methodNamed B.named B.method).1
  subst hsz
  have hD := hD0.self (sz := s.heap.size)
  have hl := lv_entry av (n := maxL) hlen
  rw [lg_entry_eq]
  generalize (lg_sl av ++ List.replicate (maxL - (lg_sl av).length) Slot.unset).toArray = ls at hl ⊢
  exact body p e s m below meth c (va_A w0 s.heap.size) _ ls hx hb hml hts hown hnm hK hN (fun q h => Or.inr h) hP hD va_S.rf hl (fun pc u H locs ls hd hp hP hD hS => W.vret hx hb hr (fun t ht hW => ⟨⟨u, rfl, hp, by rw [ht]; exact hP, va_K.moved hW.alike hK, hD⟩, hS.F ht⟩) hS.2.2 hd hlocks)

theorem kc_Vi {p : Program} {l : Launch} {e : Env} {R : Room} {s : State} {m : MethodId} {args : Array Value} {below : List Frame} {meth : Method} {c : Code} {H H0 : Heap} {locs : List Loc} {cells slots : Nat} {Q : State → Prop} {y : MethodName} {bytes cc : ByteArray} {maxL nL mc ms n index pc : Nat} {ws : List Cond} {rm : Room} {Ts : List Cond} {own : String} {b : Addr} {C : String} {ret : Option FieldType} {As rest stk : List Value} {ls : Array Slot} {G : va_G} {tys : List (ClassId × FieldType)} {A : Nat → Prop} {wa wc wr : va_W} {S : Type} {post : Int32 → S → Prop} {wf : S → va_W}
    (S0 : CallFix p m c cc nL s args Ts own) (cw : CallW R s args own C index y bytes maxL ret ws rm mc ms n) (hK : va_K G vwCl tys s) (hN : nw_ok s) (hA : ∀ q, H0.size ≤ q → A q) (hP : va_P G vwCl wa H) (hD : va_D A wa) (hS : va_S A H0 H locs)
    (isC isR : List Nat) (hC : isC.map (fun i => wa[i]?) = wc.map some) (hR : isR.map (fun i => wa[i]?) = wr.map some) (hn1 : va_nd isC = true) (hn2 : va_nd isR = true) (hdis : ∀ i ∈ isR, i ∉ isC) (q0 : Nat) {ci NN : Nat} {TT : u_T} {fs : List Value} (he : wc[q0]? = some (b, .inr (ci, fs))) (hc : vwCl[ci]? = some (C, TT, NN)) 
    (hM : Met l y ws rm (kPc G tys (.ref b :: As) H.size wc) (va_Qi post (kB G tys (va_A wc H.size) wf) (va_A wc H.size)) mc ms (va_A wc H.size)) (hlen : As.length = n) (hsize : ls.size = nL) (hst : stk = As.reverse ++ .ref b :: rest) (hW : (rest.map fun v => v.category).sum ≤ 8) (hdg : decode cc pc = .ok (.invokevirtual index, 3)) (hf : cells + mc ≤ R.cells ∧ slots + ms ≤ R.slots)
    (kk : ∀ (r : Int32) (u : S) (H1 : Heap) (locs1 : List Loc), post r u → va_P G vwCl (wr ++ wf u) H1 → va_D A (wr ++ wf u) → va_S A H0 H1 locs1 → W p l e R s m args below meth c H1 locs1 (cells + mc) (slots + ms) Q (F0 m (pc + 3) ls (.int r :: rest))) :
    W p l e R s m args below meth c H locs cells slots Q (F0 m pc ls stk) := by
  subst hst
  have hPc : va_P G vwCl wc H := by
    intro k q hk
    have h1 : (isC.map (fun i => wa[i]?))[k]? = some (some q) := by rw [hC, List.getElem?_map, hk]; rfl
    rw [List.getElem?_map] at h1
    cases hi : isC[k]? with
    | none => rw [hi] at h1; cases h1
    | some i => rw [hi] at h1; exact hP i q (Option.some.inj h1)
  have hDc : va_D A wc := hD.sub isC hn1 hC
  have hFc := va_free hD hS hA isC hC
  refine va_calli (va_runV (As := As) (rest := rest) S0 hM cw ⟨kPc_blind _ _ _ _ _, va_recv hK hPc hc he, fun U hU hW1 => ⟨rfl, by rw [hU], by rw [hU]; exact hPc, va_K.moved hW1.alike hK, hDc.weaken (fun _ _ _ _ => trivial), hN.warm hW1⟩⟩ rfl hlen hsize rfl (lv_room hW) hdg hf) hS (fun q _ h => hFc q h) hFc (fun r u t H1 locs1 ht hvm hp hB hz1 hk1 hS1 => ?_)
  obtain ⟨hP1, hK1, hD1⟩ := hB
  rw [ht] at hP1
  obtain ⟨hP2, hD2⟩ := va_join (wr := wr) (w1 := wf u) hP hD isC isR hC hR hn2 hdis hk1 hFc hP1 hD1
  exact kk r u H1 locs1 hp hP2 hD2 hS1

theorem kc_Si {p : Program} {l : Launch} {e : Env} {R : Room} {s : State} {m : MethodId} {args : Array Value} {below : List Frame} {meth : Method} {c : Code} {H H0 : Heap} {locs : List Loc} {cells slots : Nat} {Q : State → Prop} {y : MethodName} {bytes cc : ByteArray} {maxL nL mc ms n index pc : Nat} {ws : List Cond} {rm : Room} {Ts : List Cond} {own : String} {ret : Option FieldType} {As rest stk : List Value} {ls : Array Slot} {G : va_G} {tys : List (ClassId × FieldType)} {A : Nat → Prop} {wa wc wr : va_W} {S : Type} {post : Int32 → S → Prop} {wf : S → va_W}
    (S0 : CallFix p m c cc nL s args Ts own) (cw : CallB R s args own index y bytes maxL ret ws rm mc ms n ∧ (Cond.static y).before args s = true) (hK : va_K G vwCl tys s) (hN : nw_ok s) (hA : ∀ q, H0.size ≤ q → A q) (hP : va_P G vwCl wa H) (hD : va_D A wa) (hS : va_S A H0 H locs)
    (isC isR : List Nat) (hC : isC.map (fun i => wa[i]?) = wc.map some) (hR : isR.map (fun i => wa[i]?) = wr.map some) (hn1 : va_nd isC = true) (hn2 : va_nd isR = true) (hdis : ∀ i ∈ isR, i ∉ isC) 
    (hM : Met l y ws rm (kPc G tys (As) H.size wc) (va_Qi post (kB G tys (va_A wc H.size) wf) (va_A wc H.size)) mc ms (va_A wc H.size)) (hlen : As.length = n) (hsize : ls.size = nL) (hst : stk = As.reverse ++ rest) (hW : (rest.map fun v => v.category).sum ≤ 8) (hdg : decode cc pc = .ok (.invokestatic index, 3)) (hf : cells + mc ≤ R.cells ∧ slots + ms ≤ R.slots)
    (kk : ∀ (r : Int32) (u : S) (H1 : Heap) (locs1 : List Loc), post r u → va_P G vwCl (wr ++ wf u) H1 → va_D A (wr ++ wf u) → va_S A H0 H1 locs1 → W p l e R s m args below meth c H1 locs1 (cells + mc) (slots + ms) Q (F0 m (pc + 3) ls (.int r :: rest))) :
    W p l e R s m args below meth c H locs cells slots Q (F0 m pc ls stk) := by
  subst hst
  have hPc : va_P G vwCl wc H := by
    intro k q hk
    have h1 : (isC.map (fun i => wa[i]?))[k]? = some (some q) := by rw [hC, List.getElem?_map, hk]; rfl
    rw [List.getElem?_map] at h1
    cases hi : isC[k]? with
    | none => rw [hi] at h1; cases h1
    | some i => rw [hi] at h1; exact hP i q (Option.some.inj h1)
  have hDc : va_D A wc := hD.sub isC hn1 hC
  have hFc := va_free hD hS hA isC hC
  refine va_calli (va_runS (As := As) (rest := rest) S0 hM cw ⟨kPc_blind _ _ _ _ _, fun U hU hW1 => ⟨rfl, by rw [hU], by rw [hU]; exact hPc, va_K.moved hW1.alike hK, hDc.weaken (fun _ _ _ _ => trivial), hN.warm hW1⟩⟩ rfl hlen hsize rfl (lv_room hW) hdg hf) hS (fun q _ h => hFc q h) hFc (fun r u t H1 locs1 ht hvm hp hB hz1 hk1 hS1 => ?_)
  obtain ⟨hP1, hK1, hD1⟩ := hB
  rw [ht] at hP1
  obtain ⟨hP2, hD2⟩ := va_join (wr := wr) (w1 := wf u) hP hD isC isR hC hR hn2 hdis hk1 hFc hP1 hD1
  exact kk r u H1 locs1 hp hP2 hD2 hS1

theorem kc_SNi {p : Program} {l : Launch} {e : Env} {R : Room} {s : State} {m : MethodId} {args : Array Value} {below : List Frame} {meth : Method} {c : Code} {H H0 : Heap} {locs : List Loc} {cells slots : Nat} {Q : State → Prop} {y : MethodName} {bytes cc : ByteArray} {maxL nL mc ms n index pc : Nat} {ws : List Cond} {rm : Room} {Ts : List Cond} {own : String} {host : String} {ret : Option FieldType} {As rest stk : List Value} {ls : Array Slot} {G : va_G} {tys : List (ClassId × FieldType)} {A : Nat → Prop} {wa wc wr : va_W} {S : Type} {post : Int32 → S → Prop} {wf : S → va_W}
    (S0 : CallFix p m c cc nL s args Ts own) (cw : va_CN R s args own index y host bytes maxL ret ws rm mc ms n ∧ (Cond.static y).before args s = true ∧ True) (hK : va_K G vwCl tys s) (hN : nw_ok s) (hA : ∀ q, H0.size ≤ q → A q) (hP : va_P G vwCl wa H) (hD : va_D A wa) (hS : va_S A H0 H locs)
    (isC isR : List Nat) (hC : isC.map (fun i => wa[i]?) = wc.map some) (hR : isR.map (fun i => wa[i]?) = wr.map some) (hn1 : va_nd isC = true) (hn2 : va_nd isR = true) (hdis : ∀ i ∈ isR, i ∉ isC) 
    (hM : Met l y ws rm (kPc G tys (As) H.size wc) (va_Qi post (kB G tys (va_A wc H.size) wf) (va_A wc H.size)) mc ms (va_A wc H.size)) (hlen : As.length = n) (hsize : ls.size = nL) (hst : stk = As.reverse ++ rest) (hW : (rest.map fun v => v.category).sum ≤ 8) (hdg : decode cc pc = .ok (.invokestatic index, 3)) (hf : cells + mc ≤ R.cells ∧ slots + ms ≤ R.slots)
    (kk : ∀ (r : Int32) (u : S) (H1 : Heap) (locs1 : List Loc), post r u → va_P G vwCl (wr ++ wf u) H1 → va_D A (wr ++ wf u) → va_S A H0 H1 locs1 → W p l e R s m args below meth c H1 locs1 (cells + mc) (slots + ms) Q (F0 m (pc + 3) ls (.int r :: rest))) :
    W p l e R s m args below meth c H locs cells slots Q (F0 m pc ls stk) := by
  subst hst
  have hPc : va_P G vwCl wc H := by
    intro k q hk
    have h1 : (isC.map (fun i => wa[i]?))[k]? = some (some q) := by rw [hC, List.getElem?_map, hk]; rfl
    rw [List.getElem?_map] at h1
    cases hi : isC[k]? with
    | none => rw [hi] at h1; cases h1
    | some i => rw [hi] at h1; exact hP i q (Option.some.inj h1)
  have hDc : va_D A wc := hD.sub isC hn1 hC
  have hFc := va_free hD hS hA isC hC
  refine va_calli (va_runSN (As := As) (rest := rest) S0 hM cw ⟨kPc_blind _ _ _ _ _, fun U hU hW1 => ⟨rfl, by rw [hU], by rw [hU]; exact hPc, va_K.moved hW1.alike hK, hDc.weaken (fun _ _ _ _ => trivial), hN.warm hW1⟩⟩ rfl hlen hsize rfl (lv_room hW) hdg hf) hS (fun q _ h => hFc q h) hFc (fun r u t H1 locs1 ht hvm hp hB hz1 hk1 hS1 => ?_)
  obtain ⟨hP1, hK1, hD1⟩ := hB
  rw [ht] at hP1
  obtain ⟨hP2, hD2⟩ := va_join (wr := wr) (w1 := wf u) hP hD isC isR hC hR hn2 hdis hk1 hFc hP1 hD1
  exact kk r u H1 locs1 hp hP2 hD2 hS1

theorem kc_Vl {p : Program} {l : Launch} {e : Env} {R : Room} {s : State} {m : MethodId} {args : Array Value} {below : List Frame} {meth : Method} {c : Code} {H H0 : Heap} {locs : List Loc} {cells slots : Nat} {Q : State → Prop} {y : MethodName} {bytes cc : ByteArray} {maxL nL mc ms n index pc : Nat} {ws : List Cond} {rm : Room} {Ts : List Cond} {own : String} {b : Addr} {C : String} {ret : Option FieldType} {As rest stk : List Value} {ls : Array Slot} {G : va_G} {tys : List (ClassId × FieldType)} {A : Nat → Prop} {wa wc wr : va_W} {S : Type} {post : Int64 → S → Prop} {wf : S → va_W}
    (S0 : CallFix p m c cc nL s args Ts own) (cw : CallW R s args own C index y bytes maxL ret ws rm mc ms n) (hK : va_K G vwCl tys s) (hN : nw_ok s) (hA : ∀ q, H0.size ≤ q → A q) (hP : va_P G vwCl wa H) (hD : va_D A wa) (hS : va_S A H0 H locs)
    (isC isR : List Nat) (hC : isC.map (fun i => wa[i]?) = wc.map some) (hR : isR.map (fun i => wa[i]?) = wr.map some) (hn1 : va_nd isC = true) (hn2 : va_nd isR = true) (hdis : ∀ i ∈ isR, i ∉ isC) (q0 : Nat) {ci NN : Nat} {TT : u_T} {fs : List Value} (he : wc[q0]? = some (b, .inr (ci, fs))) (hc : vwCl[ci]? = some (C, TT, NN)) 
    (hM : Met l y ws rm (kPc G tys (.ref b :: As) H.size wc) (va_Ql post (kB G tys (va_A wc H.size) wf) (va_A wc H.size)) mc ms (va_A wc H.size)) (hlen : As.length = n) (hsize : ls.size = nL) (hst : stk = As.reverse ++ .ref b :: rest) (hW : (rest.map fun v => v.category).sum ≤ 8) (hdg : decode cc pc = .ok (.invokevirtual index, 3)) (hf : cells + mc ≤ R.cells ∧ slots + ms ≤ R.slots)
    (kk : ∀ (r : Int64) (u : S) (H1 : Heap) (locs1 : List Loc), post r u → va_P G vwCl (wr ++ wf u) H1 → va_D A (wr ++ wf u) → va_S A H0 H1 locs1 → W p l e R s m args below meth c H1 locs1 (cells + mc) (slots + ms) Q (F0 m (pc + 3) ls (.long r :: rest))) :
    W p l e R s m args below meth c H locs cells slots Q (F0 m pc ls stk) := by
  subst hst
  have hPc : va_P G vwCl wc H := by
    intro k q hk
    have h1 : (isC.map (fun i => wa[i]?))[k]? = some (some q) := by rw [hC, List.getElem?_map, hk]; rfl
    rw [List.getElem?_map] at h1
    cases hi : isC[k]? with
    | none => rw [hi] at h1; cases h1
    | some i => rw [hi] at h1; exact hP i q (Option.some.inj h1)
  have hDc : va_D A wc := hD.sub isC hn1 hC
  have hFc := va_free hD hS hA isC hC
  refine va_calll (va_runV (As := As) (rest := rest) S0 hM cw ⟨kPc_blind _ _ _ _ _, va_recv hK hPc hc he, fun U hU hW1 => ⟨rfl, by rw [hU], by rw [hU]; exact hPc, va_K.moved hW1.alike hK, hDc.weaken (fun _ _ _ _ => trivial), hN.warm hW1⟩⟩ rfl hlen hsize rfl (lv_room hW) hdg hf) hS (fun q _ h => hFc q h) hFc (fun r u t H1 locs1 ht hvm hp hB hz1 hk1 hS1 => ?_)
  obtain ⟨hP1, hK1, hD1⟩ := hB
  rw [ht] at hP1
  obtain ⟨hP2, hD2⟩ := va_join (wr := wr) (w1 := wf u) hP hD isC isR hC hR hn2 hdis hk1 hFc hP1 hD1
  exact kk r u H1 locs1 hp hP2 hD2 hS1

theorem kc_Vv {p : Program} {l : Launch} {e : Env} {R : Room} {s : State} {m : MethodId} {args : Array Value} {below : List Frame} {meth : Method} {c : Code} {H H0 : Heap} {locs : List Loc} {cells slots : Nat} {Q : State → Prop} {y : MethodName} {bytes cc : ByteArray} {maxL nL mc ms n index pc : Nat} {ws : List Cond} {rm : Room} {Ts : List Cond} {own : String} {b : Addr} {C : String} {ret : Option FieldType} {As rest stk : List Value} {ls : Array Slot} {G : va_G} {tys : List (ClassId × FieldType)} {A : Nat → Prop} {wa wc wr : va_W} {S : Type} {post : S → Prop} {wf : S → va_W}
    (S0 : CallFix p m c cc nL s args Ts own) (cw : CallW R s args own C index y bytes maxL ret ws rm mc ms n) (hK : va_K G vwCl tys s) (hN : nw_ok s) (hA : ∀ q, H0.size ≤ q → A q) (hP : va_P G vwCl wa H) (hD : va_D A wa) (hS : va_S A H0 H locs)
    (isC isR : List Nat) (hC : isC.map (fun i => wa[i]?) = wc.map some) (hR : isR.map (fun i => wa[i]?) = wr.map some) (hn1 : va_nd isC = true) (hn2 : va_nd isR = true) (hdis : ∀ i ∈ isR, i ∉ isC) (q0 : Nat) {ci NN : Nat} {TT : u_T} {fs : List Value} (he : wc[q0]? = some (b, .inr (ci, fs))) (hc : vwCl[ci]? = some (C, TT, NN)) 
    (hM : Met l y ws rm (kPc G tys (.ref b :: As) H.size wc) (va_Qv post (kB G tys (va_A wc H.size) wf) (va_A wc H.size)) mc ms (va_A wc H.size)) (hlen : As.length = n) (hsize : ls.size = nL) (hst : stk = As.reverse ++ .ref b :: rest) (hW : (rest.map fun v => v.category).sum ≤ 8) (hdg : decode cc pc = .ok (.invokevirtual index, 3)) (hf : cells + mc ≤ R.cells ∧ slots + ms ≤ R.slots)
    (kk : ∀ (u : S) (H1 : Heap) (locs1 : List Loc), post u → va_P G vwCl (wr ++ wf u) H1 → va_D A (wr ++ wf u) → va_S A H0 H1 locs1 → W p l e R s m args below meth c H1 locs1 (cells + mc) (slots + ms) Q (F0 m (pc + 3) ls (rest))) :
    W p l e R s m args below meth c H locs cells slots Q (F0 m pc ls stk) := by
  subst hst
  have hPc : va_P G vwCl wc H := by
    intro k q hk
    have h1 : (isC.map (fun i => wa[i]?))[k]? = some (some q) := by rw [hC, List.getElem?_map, hk]; rfl
    rw [List.getElem?_map] at h1
    cases hi : isC[k]? with
    | none => rw [hi] at h1; cases h1
    | some i => rw [hi] at h1; exact hP i q (Option.some.inj h1)
  have hDc : va_D A wc := hD.sub isC hn1 hC
  have hFc := va_free hD hS hA isC hC
  refine va_callv (va_runV (As := As) (rest := rest) S0 hM cw ⟨kPc_blind _ _ _ _ _, va_recv hK hPc hc he, fun U hU hW1 => ⟨rfl, by rw [hU], by rw [hU]; exact hPc, va_K.moved hW1.alike hK, hDc.weaken (fun _ _ _ _ => trivial), hN.warm hW1⟩⟩ rfl hlen hsize rfl (lv_room hW) hdg hf) hS (fun q _ h => hFc q h) hFc (fun u t H1 locs1 ht hvm hp hB hz1 hk1 hS1 => ?_)
  obtain ⟨hP1, hK1, hD1⟩ := hB
  rw [ht] at hP1
  obtain ⟨hP2, hD2⟩ := va_join (wr := wr) (w1 := wf u) hP hD isC isR hC hR hn2 hdis hk1 hFc hP1 hD1
  exact kk u H1 locs1 hp hP2 hD2 hS1

theorem kc_Sv {p : Program} {l : Launch} {e : Env} {R : Room} {s : State} {m : MethodId} {args : Array Value} {below : List Frame} {meth : Method} {c : Code} {H H0 : Heap} {locs : List Loc} {cells slots : Nat} {Q : State → Prop} {y : MethodName} {bytes cc : ByteArray} {maxL nL mc ms n index pc : Nat} {ws : List Cond} {rm : Room} {Ts : List Cond} {own : String} {ret : Option FieldType} {As rest stk : List Value} {ls : Array Slot} {G : va_G} {tys : List (ClassId × FieldType)} {A : Nat → Prop} {wa wc wr : va_W} {S : Type} {post : S → Prop} {wf : S → va_W}
    (S0 : CallFix p m c cc nL s args Ts own) (cw : CallB R s args own index y bytes maxL ret ws rm mc ms n ∧ (Cond.static y).before args s = true) (hK : va_K G vwCl tys s) (hN : nw_ok s) (hA : ∀ q, H0.size ≤ q → A q) (hP : va_P G vwCl wa H) (hD : va_D A wa) (hS : va_S A H0 H locs)
    (isC isR : List Nat) (hC : isC.map (fun i => wa[i]?) = wc.map some) (hR : isR.map (fun i => wa[i]?) = wr.map some) (hn1 : va_nd isC = true) (hn2 : va_nd isR = true) (hdis : ∀ i ∈ isR, i ∉ isC) 
    (hM : Met l y ws rm (kPc G tys (As) H.size wc) (va_Qv post (kB G tys (va_A wc H.size) wf) (va_A wc H.size)) mc ms (va_A wc H.size)) (hlen : As.length = n) (hsize : ls.size = nL) (hst : stk = As.reverse ++ rest) (hW : (rest.map fun v => v.category).sum ≤ 8) (hdg : decode cc pc = .ok (.invokestatic index, 3)) (hf : cells + mc ≤ R.cells ∧ slots + ms ≤ R.slots)
    (kk : ∀ (u : S) (H1 : Heap) (locs1 : List Loc), post u → va_P G vwCl (wr ++ wf u) H1 → va_D A (wr ++ wf u) → va_S A H0 H1 locs1 → W p l e R s m args below meth c H1 locs1 (cells + mc) (slots + ms) Q (F0 m (pc + 3) ls (rest))) :
    W p l e R s m args below meth c H locs cells slots Q (F0 m pc ls stk) := by
  subst hst
  have hPc : va_P G vwCl wc H := by
    intro k q hk
    have h1 : (isC.map (fun i => wa[i]?))[k]? = some (some q) := by rw [hC, List.getElem?_map, hk]; rfl
    rw [List.getElem?_map] at h1
    cases hi : isC[k]? with
    | none => rw [hi] at h1; cases h1
    | some i => rw [hi] at h1; exact hP i q (Option.some.inj h1)
  have hDc : va_D A wc := hD.sub isC hn1 hC
  have hFc := va_free hD hS hA isC hC
  refine va_callv (va_runS (As := As) (rest := rest) S0 hM cw ⟨kPc_blind _ _ _ _ _, fun U hU hW1 => ⟨rfl, by rw [hU], by rw [hU]; exact hPc, va_K.moved hW1.alike hK, hDc.weaken (fun _ _ _ _ => trivial), hN.warm hW1⟩⟩ rfl hlen hsize rfl (lv_room hW) hdg hf) hS (fun q _ h => hFc q h) hFc (fun u t H1 locs1 ht hvm hp hB hz1 hk1 hS1 => ?_)
  obtain ⟨hP1, hK1, hD1⟩ := hB
  rw [ht] at hP1
  obtain ⟨hP2, hD2⟩ := va_join (wr := wr) (w1 := wf u) hP hD isC isR hC hR hn2 hdis hk1 hFc hP1 hD1
  exact kk u H1 locs1 hp hP2 hD2 hS1

theorem kc_SNv {p : Program} {l : Launch} {e : Env} {R : Room} {s : State} {m : MethodId} {args : Array Value} {below : List Frame} {meth : Method} {c : Code} {H H0 : Heap} {locs : List Loc} {cells slots : Nat} {Q : State → Prop} {y : MethodName} {bytes cc : ByteArray} {maxL nL mc ms n index pc : Nat} {ws : List Cond} {rm : Room} {Ts : List Cond} {own : String} {host : String} {ret : Option FieldType} {As rest stk : List Value} {ls : Array Slot} {G : va_G} {tys : List (ClassId × FieldType)} {A : Nat → Prop} {wa wc wr : va_W} {S : Type} {post : S → Prop} {wf : S → va_W}
    (S0 : CallFix p m c cc nL s args Ts own) (cw : va_CN R s args own index y host bytes maxL ret ws rm mc ms n ∧ (Cond.static y).before args s = true ∧ True) (hK : va_K G vwCl tys s) (hN : nw_ok s) (hA : ∀ q, H0.size ≤ q → A q) (hP : va_P G vwCl wa H) (hD : va_D A wa) (hS : va_S A H0 H locs)
    (isC isR : List Nat) (hC : isC.map (fun i => wa[i]?) = wc.map some) (hR : isR.map (fun i => wa[i]?) = wr.map some) (hn1 : va_nd isC = true) (hn2 : va_nd isR = true) (hdis : ∀ i ∈ isR, i ∉ isC) 
    (hM : Met l y ws rm (kPc G tys (As) H.size wc) (va_Qv post (kB G tys (va_A wc H.size) wf) (va_A wc H.size)) mc ms (va_A wc H.size)) (hlen : As.length = n) (hsize : ls.size = nL) (hst : stk = As.reverse ++ rest) (hW : (rest.map fun v => v.category).sum ≤ 8) (hdg : decode cc pc = .ok (.invokestatic index, 3)) (hf : cells + mc ≤ R.cells ∧ slots + ms ≤ R.slots)
    (kk : ∀ (u : S) (H1 : Heap) (locs1 : List Loc), post u → va_P G vwCl (wr ++ wf u) H1 → va_D A (wr ++ wf u) → va_S A H0 H1 locs1 → W p l e R s m args below meth c H1 locs1 (cells + mc) (slots + ms) Q (F0 m (pc + 3) ls (rest))) :
    W p l e R s m args below meth c H locs cells slots Q (F0 m pc ls stk) := by
  subst hst
  have hPc : va_P G vwCl wc H := by
    intro k q hk
    have h1 : (isC.map (fun i => wa[i]?))[k]? = some (some q) := by rw [hC, List.getElem?_map, hk]; rfl
    rw [List.getElem?_map] at h1
    cases hi : isC[k]? with
    | none => rw [hi] at h1; cases h1
    | some i => rw [hi] at h1; exact hP i q (Option.some.inj h1)
  have hDc : va_D A wc := hD.sub isC hn1 hC
  have hFc := va_free hD hS hA isC hC
  refine va_callv (va_runSN (As := As) (rest := rest) S0 hM cw ⟨kPc_blind _ _ _ _ _, fun U hU hW1 => ⟨rfl, by rw [hU], by rw [hU]; exact hPc, va_K.moved hW1.alike hK, hDc.weaken (fun _ _ _ _ => trivial), hN.warm hW1⟩⟩ rfl hlen hsize rfl (lv_room hW) hdg hf) hS (fun q _ h => hFc q h) hFc (fun u t H1 locs1 ht hvm hp hB hz1 hk1 hS1 => ?_)
  obtain ⟨hP1, hK1, hD1⟩ := hB
  rw [ht] at hP1
  obtain ⟨hP2, hD2⟩ := va_join (wr := wr) (w1 := wf u) hP hD isC isR hC hR hn2 hdis hk1 hFc hP1 hD1
  exact kk u H1 locs1 hp hP2 hD2 hS1

theorem kc_Iv {p : Program} {l : Launch} {e : Env} {R : Room} {s : State} {m : MethodId} {args : Array Value} {below : List Frame} {meth : Method} {c : Code} {H H0 : Heap} {locs : List Loc} {cells slots : Nat} {Q : State → Prop} {y : MethodName} {bytes cc : ByteArray} {maxL nL mc ms n index pc : Nat} {ws : List Cond} {rm : Room} {Ts : List Cond} {own : String} {b : Addr} {As rest stk : List Value} {ls : Array Slot} {G : va_G} {tys : List (ClassId × FieldType)} {A : Nat → Prop} {wa wc wr : va_W} {S : Type} {post : S → Prop} {wf : S → va_W}
    (S0 : CallFix p m c cc nL s args Ts own) (cw : CallB R s args own index y bytes maxL none ws rm mc ms n ∧ y.name = "<init>" ∧ (Cond.instanceMethod y).before args s = true) (hK : va_K G vwCl tys s) (hN : nw_ok s) (hA : ∀ q, H0.size ≤ q → A q) (hP : va_P G vwCl wa H) (hD : va_D A wa) (hS : va_S A H0 H locs)
    (isC isR : List Nat) (hC : isC.map (fun i => wa[i]?) = wc.map some) (hR : isR.map (fun i => wa[i]?) = wr.map some) (hn1 : va_nd isC = true) (hn2 : va_nd isR = true) (hdis : ∀ i ∈ isR, i ∉ isC) 
    (hM : Met l y ws rm (kPc G tys (.ref b :: As) H.size wc) (va_Qv post (kB G tys (va_A wc H.size) wf) (va_A wc H.size)) mc ms (va_A wc H.size)) (hlen : As.length = n) (hsize : ls.size = nL) (hst : stk = As.reverse ++ .ref b :: rest) (hW : (rest.map fun v => v.category).sum ≤ 8) (hdg : decode cc pc = .ok (.invokespecial index, 3)) (hf : cells + mc ≤ R.cells ∧ slots + ms ≤ R.slots)
    (kk : ∀ (u : S) (H1 : Heap) (locs1 : List Loc), post u → va_P G vwCl (wr ++ wf u) H1 → va_D A (wr ++ wf u) → va_S A H0 H1 locs1 → W p l e R s m args below meth c H1 locs1 (cells + mc) (slots + ms) Q (F0 m (pc + 3) ls (rest))) :
    W p l e R s m args below meth c H locs cells slots Q (F0 m pc ls stk) := by
  subst hst
  have hPc : va_P G vwCl wc H := by
    intro k q hk
    have h1 : (isC.map (fun i => wa[i]?))[k]? = some (some q) := by rw [hC, List.getElem?_map, hk]; rfl
    rw [List.getElem?_map] at h1
    cases hi : isC[k]? with
    | none => rw [hi] at h1; cases h1
    | some i => rw [hi] at h1; exact hP i q (Option.some.inj h1)
  have hDc : va_D A wc := hD.sub isC hn1 hC
  have hFc := va_free hD hS hA isC hC
  refine va_callv (va_runI (As := As) (rest := rest) S0 hM cw ⟨kPc_blind _ _ _ _ _, fun U hU hW1 => ⟨rfl, by rw [hU], by rw [hU]; exact hPc, va_K.moved hW1.alike hK, hDc.weaken (fun _ _ _ _ => trivial), hN.warm hW1⟩⟩ rfl hlen hsize rfl (lv_room hW) hdg hf) hS (fun q _ h => hFc q h) hFc (fun u t H1 locs1 ht hvm hp hB hz1 hk1 hS1 => ?_)
  obtain ⟨hP1, hK1, hD1⟩ := hB
  rw [ht] at hP1
  obtain ⟨hP2, hD2⟩ := va_join (wr := wr) (w1 := wf u) hP hD isC isR hC hR hn2 hdis hk1 hFc hP1 hD1
  exact kk u H1 locs1 hp hP2 hD2 hS1

/-! a new array whose class is known -/
theorem kn_cls {G : va_G} {cl : List vw_C} {tys : List (ClassId × FieldType)} {s : State} {k j : Nat} {cA cB : ClassId} {ty : FieldType} (hK : va_K G cl tys s) (h1 : tys[k]? = some (cA, ty)) (h2 : tys[j]? = some (cB, ty)) (hty : ty = .int ∨ ty = .long ∨ ty = .boolean) : cA = cB := by
  have e1 := (hK.2 k _ h1).2
  have e2 := (hK.2 j _ h2).2
  rcases hty with rfl | rfl | rfl <;> exact Option.some.inj (e1.symm.trans e2)

theorem kn_cI {p : Program} {l : Launch} {e : Env} {R : Room} {s : State} {m : MethodId} {args : Array Value} {below : List Frame} {meth : Method} {c : Code} {H : Heap} {locs : List Loc} {cells slots : Nat} {Q : State → Prop} {cc : ByteArray} {pc : Nat} {ls : Array Slot} {rest : List Value} {G : va_G} {A : Nat → Prop} {cI cJ cZ : ClassId} {ws : va_W} {H0 : Heap}
    (hexec : p.tables.exec = Jvm.exec) (hb : c.code = cc) (harr : (Cond.arrayClass .int).before args s = true) (hK : va_K G vwCl (tyL cI cJ cZ) s) (hP : va_P G vwCl ws H) (hD : va_D A ws) (hS : va_S A H0 H locs) (hA : ∀ q, H0.size ≤ q → A q)
    {n : Int32} {N' : Nat} (hn : ¬ n < 0) (hN : n.toNatClampNeg = N') (hbytes : N' * 8 ≤ 536870912) (hcells : cells + 1 ≤ R.cells) (hslots : slots + N' ≤ R.slots) (hdg : decode cc pc = .ok (.newarray .int, 2))
    (kk : ∀ (q : Nat) (H1 : Heap), va_P G vwCl (ws ++ [(q, .inl (cI, N', .inl (fun _ => 0)))]) H1 → va_D A (ws ++ [(q, .inl (cI, N', .inl (fun _ => 0)))]) → va_S A H0 H1 locs →
      W p l e R s m args below meth c H1 locs (cells + 1) (slots + N') Q (F0 m (pc + 2) ls (.ref q :: rest))) : W p l e R s m args below meth c H locs cells slots Q (F0 m pc ls (.int n :: rest)) := by
  refine va_newa (a0 := (N', .inl (fun _ => 0))) (ty := .int) hexec hb (atype := .int) harr rfl hK hP hD hS hA (fun cA => rfl) hn hN (Nat.le_trans (Nat.mul_le_mul_left N' (by decide)) hbytes) hcells hslots hdg (fun q cA H1 hK1 hP1 hD1 hS1 => ?_)
  have e : cA = cI := kn_cls hK1 (k := 3) (j := 0) (ty := .int) rfl rfl (by simp)
  subst e
  exact kk q H1 hP1 hD1 hS1

theorem kn_cJ {p : Program} {l : Launch} {e : Env} {R : Room} {s : State} {m : MethodId} {args : Array Value} {below : List Frame} {meth : Method} {c : Code} {H : Heap} {locs : List Loc} {cells slots : Nat} {Q : State → Prop} {cc : ByteArray} {pc : Nat} {ls : Array Slot} {rest : List Value} {G : va_G} {A : Nat → Prop} {cI cJ cZ : ClassId} {ws : va_W} {H0 : Heap}
    (hexec : p.tables.exec = Jvm.exec) (hb : c.code = cc) (harr : (Cond.arrayClass .long).before args s = true) (hK : va_K G vwCl (tyL cI cJ cZ) s) (hP : va_P G vwCl ws H) (hD : va_D A ws) (hS : va_S A H0 H locs) (hA : ∀ q, H0.size ≤ q → A q)
    {n : Int32} {N' : Nat} (hn : ¬ n < 0) (hN : n.toNatClampNeg = N') (hbytes : N' * 8 ≤ 536870912) (hcells : cells + 1 ≤ R.cells) (hslots : slots + N' ≤ R.slots) (hdg : decode cc pc = .ok (.newarray .long, 2))
    (kk : ∀ (q : Nat) (H1 : Heap), va_P G vwCl (ws ++ [(q, .inl (cJ, N', .inr (.inl (fun _ => 0))))]) H1 → va_D A (ws ++ [(q, .inl (cJ, N', .inr (.inl (fun _ => 0))))]) → va_S A H0 H1 locs →
      W p l e R s m args below meth c H1 locs (cells + 1) (slots + N') Q (F0 m (pc + 2) ls (.ref q :: rest))) : W p l e R s m args below meth c H locs cells slots Q (F0 m pc ls (.int n :: rest)) := by
  refine va_newa (a0 := (N', .inr (.inl (fun _ => 0)))) (ty := .long) hexec hb (atype := .long) harr rfl hK hP hD hS hA (fun cA => rfl) hn hN (Nat.le_trans (Nat.mul_le_mul_left N' (by decide)) hbytes) hcells hslots hdg (fun q cA H1 hK1 hP1 hD1 hS1 => ?_)
  have e : cA = cJ := kn_cls hK1 (k := 3) (j := 1) (ty := .long) rfl rfl (by simp)
  subst e
  exact kk q H1 hP1 hD1 hS1

theorem kn_cZ {p : Program} {l : Launch} {e : Env} {R : Room} {s : State} {m : MethodId} {args : Array Value} {below : List Frame} {meth : Method} {c : Code} {H : Heap} {locs : List Loc} {cells slots : Nat} {Q : State → Prop} {cc : ByteArray} {pc : Nat} {ls : Array Slot} {rest : List Value} {G : va_G} {A : Nat → Prop} {cI cJ cZ : ClassId} {ws : va_W} {H0 : Heap}
    (hexec : p.tables.exec = Jvm.exec) (hb : c.code = cc) (harr : (Cond.arrayClass .boolean).before args s = true) (hK : va_K G vwCl (tyL cI cJ cZ) s) (hP : va_P G vwCl ws H) (hD : va_D A ws) (hS : va_S A H0 H locs) (hA : ∀ q, H0.size ≤ q → A q)
    {n : Int32} {N' : Nat} (hn : ¬ n < 0) (hN : n.toNatClampNeg = N') (hbytes : N' * 8 ≤ 536870912) (hcells : cells + 1 ≤ R.cells) (hslots : slots + N' ≤ R.slots) (hdg : decode cc pc = .ok (.newarray .boolean, 2))
    (kk : ∀ (q : Nat) (H1 : Heap), va_P G vwCl (ws ++ [(q, .inl (cZ, N', .inl (fun _ => 0)))]) H1 → va_D A (ws ++ [(q, .inl (cZ, N', .inl (fun _ => 0)))]) → va_S A H0 H1 locs →
      W p l e R s m args below meth c H1 locs (cells + 1) (slots + N') Q (F0 m (pc + 2) ls (.ref q :: rest))) : W p l e R s m args below meth c H locs cells slots Q (F0 m pc ls (.int n :: rest)) := by
  refine va_newa (a0 := (N', .inl (fun _ => 0))) (ty := .boolean) hexec hb (atype := .boolean) harr rfl hK hP hD hS hA (fun cA => rfl) hn hN (Nat.le_trans (Nat.mul_le_mul_left N' (by decide)) hbytes) hcells hslots hdg (fun q cA H1 hK1 hP1 hD1 hS1 => ?_)
  have e : cA = cZ := kn_cls hK1 (k := 3) (j := 2) (ty := .boolean) rfl rfl (by simp)
  subst e
  exact kk q H1 hP1 hD1 hS1
end
