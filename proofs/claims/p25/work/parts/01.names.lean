-- ===== PART A: goes FIRST, ahead of the names: the tables' words, and 'selects' of the private methods out of them =====
/-- a private method of a class that the tables say can be made, by its rows of tables_1 -/
def lw_okq (q : MethodName × Nat) : Prop := (q.1.cls ≠ "java/lang/invoke/MethodHandle" ∧ q.1.cls ≠ "java/lang/invoke/VarHandle") ∧ Cond.instantiable q.1.cls q.2 ∈ tables_1 ∧ Cond.privateMethod q.1 ∈ tables_1 ∧ Cond.instanceMethod q.1 ∈ tables_1
theorem lw_p0 : lw_okq (⟨"LearningRepeater$Row", "fits", "(II)Z"⟩, 1) := ⟨⟨by decide +kernel, by decide +kernel⟩, List.mem_of_getElem? (i := 30) (by decide +kernel), List.mem_of_getElem? (i := 58) (by decide +kernel), List.mem_of_getElem? (i := 59) (by decide +kernel)⟩
theorem lw_p1 : lw_okq (⟨"LearningRepeater$History", "stateAt", "(I)LLearningRepeater$State;"⟩, 3) := ⟨⟨by decide +kernel, by decide +kernel⟩, List.mem_of_getElem? (i := 177) (by decide +kernel), List.mem_of_getElem? (i := 273) (by decide +kernel), List.mem_of_getElem? (i := 274) (by decide +kernel)⟩
theorem lw_p2 : lw_okq (⟨"LearningRepeater$Table", "oldest", "()I"⟩, 3) := ⟨⟨by decide +kernel, by decide +kernel⟩, List.mem_of_getElem? (i := 107) (by decide +kernel), List.mem_of_getElem? (i := 360) (by decide +kernel), List.mem_of_getElem? (i := 361) (by decide +kernel)⟩
theorem lw_p3 : lw_okq (⟨"LearningRepeater$State", "quarantine", "(II)V"⟩, 8) := ⟨⟨by decide +kernel, by decide +kernel⟩, List.mem_of_getElem? (i := 24) (by decide +kernel), List.mem_of_getElem? (i := 382) (by decide +kernel), List.mem_of_getElem? (i := 383) (by decide +kernel)⟩
theorem lw_p4 : lw_okq (⟨"LearningRepeater$State", "goOut", "(IIII)V"⟩, 8) := ⟨⟨by decide +kernel, by decide +kernel⟩, List.mem_of_getElem? (i := 24) (by decide +kernel), List.mem_of_getElem? (i := 405) (by decide +kernel), List.mem_of_getElem? (i := 406) (by decide +kernel)⟩
theorem lw_p5 : lw_okq (⟨"LearningRepeater$State", "sendFrom", "(ILLearningRepeater$Arrivals;)I"⟩, 8) := ⟨⟨by decide +kernel, by decide +kernel⟩, List.mem_of_getElem? (i := 24) (by decide +kernel), List.mem_of_getElem? (i := 446) (by decide +kernel), List.mem_of_getElem? (i := 447) (by decide +kernel)⟩
theorem lw_p6 : lw_okq (⟨"LearningRepeater$Text", "readFrame", "(LLearningRepeater$Arrivals;)Z"⟩, 3) := ⟨⟨by decide +kernel, by decide +kernel⟩, List.mem_of_getElem? (i := 197) (by decide +kernel), List.mem_of_getElem? (i := 497) (by decide +kernel), List.mem_of_getElem? (i := 498) (by decide +kernel)⟩
theorem lw_p7 : lw_okq (⟨"LearningRepeater$Text", "readAddress", "()I"⟩, 3) := ⟨⟨by decide +kernel, by decide +kernel⟩, List.mem_of_getElem? (i := 197) (by decide +kernel), List.mem_of_getElem? (i := 501) (by decide +kernel), List.mem_of_getElem? (i := 502) (by decide +kernel)⟩
theorem lw_p8 : lw_okq (⟨"LearningRepeater$Text", "readDigit", "(II)I"⟩, 3) := ⟨⟨by decide +kernel, by decide +kernel⟩, List.mem_of_getElem? (i := 197) (by decide +kernel), List.mem_of_getElem? (i := 505) (by decide +kernel), List.mem_of_getElem? (i := 506) (by decide +kernel)⟩
theorem lw_p9 : lw_okq (⟨"LearningRepeater$Text", "signAt", "(I)I"⟩, 3) := ⟨⟨by decide +kernel, by decide +kernel⟩, List.mem_of_getElem? (i := 197) (by decide +kernel), List.mem_of_getElem? (i := 509) (by decide +kernel), List.mem_of_getElem? (i := 510) (by decide +kernel)⟩
theorem lw_p10 : lw_okq (⟨"LearningRepeater$Text", "skip", "(C)Z"⟩, 3) := ⟨⟨by decide +kernel, by decide +kernel⟩, List.mem_of_getElem? (i := 197) (by decide +kernel), List.mem_of_getElem? (i := 513) (by decide +kernel), List.mem_of_getElem? (i := 514) (by decide +kernel)⟩
def lw_privs_1 : List (MethodName × Nat) := [(⟨"LearningRepeater$Row", "fits", "(II)Z"⟩, 1), (⟨"LearningRepeater$History", "stateAt", "(I)LLearningRepeater$State;"⟩, 3), (⟨"LearningRepeater$Table", "oldest", "()I"⟩, 3), (⟨"LearningRepeater$State", "quarantine", "(II)V"⟩, 8), (⟨"LearningRepeater$State", "goOut", "(IIII)V"⟩, 8), (⟨"LearningRepeater$State", "sendFrom", "(ILLearningRepeater$Arrivals;)I"⟩, 8), (⟨"LearningRepeater$Text", "readFrame", "(LLearningRepeater$Arrivals;)Z"⟩, 3), (⟨"LearningRepeater$Text", "readAddress", "()I"⟩, 3), (⟨"LearningRepeater$Text", "readDigit", "(II)I"⟩, 3), (⟨"LearningRepeater$Text", "signAt", "(I)I"⟩, 3), (⟨"LearningRepeater$Text", "skip", "(C)Z"⟩, 3)]
theorem lw_r1 : ∀ q ∈ lw_privs_1, lw_okq q := List.forall_mem_cons.mpr ⟨lw_p0, List.forall_mem_cons.mpr ⟨lw_p1, List.forall_mem_cons.mpr ⟨lw_p2, List.forall_mem_cons.mpr ⟨lw_p3, List.forall_mem_cons.mpr ⟨lw_p4, List.forall_mem_cons.mpr ⟨lw_p5, List.forall_mem_cons.mpr ⟨lw_p6, List.forall_mem_cons.mpr ⟨lw_p7, List.forall_mem_cons.mpr ⟨lw_p8, List.forall_mem_cons.mpr ⟨lw_p9, List.forall_mem_cons.mpr ⟨lw_p10, fun _ h => absurd h List.not_mem_nil⟩⟩⟩⟩⟩⟩⟩⟩⟩⟩⟩
def lw_privs : List (MethodName × Nat) := lw_privs_1
def lw_tbl : List Cond := k2_sels lw_privs ++ tables_1
theorem lw_privs_ok : ∀ q ∈ lw_privs, lw_okq q := lw_r1

def RX0 : String := "LearningRepeater$Arrivals"
def TX0 : u_T := fun k => match k with
  | 0 => ("LearningRepeater$Arrivals", "parts", "LLearningRepeater$Row;", true)
  | _ => ("LearningRepeater$Arrivals", "size", "I", false)
def tyX0 : Nat → FieldType := fun k => match k with
  | 0 => .object "LearningRepeater$Row"
  | _ => .int
theorem nmX0 : ∀ a, a < 2 → ∀ b, b < 2 → a ≠ b → (TX0 a).2.1 ≠ (TX0 b).2.1 := by decide +kernel
theorem tyX0_ok : ∀ k, k < 2 → parseFieldDescriptor (TX0 k).2.2.1 = some (tyX0 k) := by decide +kernel
abbrev cX0_init : ByteArray := prog_2_method_1_code
def yX0_init : MethodName := ⟨RX0, "<init>", "()V"⟩
abbrev cX0_append : ByteArray := prog_2_method_2_code
def yX0_append : MethodName := ⟨RX0, "append", "(IIII)V"⟩
abbrev cX0_partOf : ByteArray := prog_2_method_3_code
def yX0_partOf : MethodName := ⟨RX0, "partOf", "(II)I"⟩
def RX1 : String := "LearningRepeater$History"
def TX1 : u_T := fun k => match k with
  | 0 => ("LearningRepeater$History", "states", "[LLearningRepeater$State;", true)
  | 1 => ("LearningRepeater$History", "next", "I", false)
  | _ => ("LearningRepeater$History", "size", "I", false)
def tyX1 : Nat → FieldType := fun k => match k with
  | 0 => .array (.object "LearningRepeater$State")
  | 1 => .int
  | _ => .int
theorem nmX1 : ∀ a, a < 3 → ∀ b, b < 3 → a ≠ b → (TX1 a).2.1 ≠ (TX1 b).2.1 := by decide +kernel
theorem tyX1_ok : ∀ k, k < 3 → parseFieldDescriptor (TX1 k).2.2.1 = some (tyX1 k) := by decide +kernel
abbrev cX1_init : ByteArray := prog_3_method_1_code
def yX1_init : MethodName := ⟨RX1, "<init>", "()V"⟩
abbrev cX1_stateAt : ByteArray := prog_3_method_2_code
def yX1_stateAt : MethodName := ⟨RX1, "stateAt", "(I)LLearningRepeater$State;"⟩
abbrev cX1_record : ByteArray := prog_3_method_3_code
def yX1_record : MethodName := ⟨RX1, "record", "(LLearningRepeater$State;)V"⟩
abbrev cX1_takeBack : ByteArray := prog_3_method_4_code
def yX1_takeBack : MethodName := ⟨RX1, "takeBack", "(LLearningRepeater$State;)Z"⟩
def RX2 : String := "LearningRepeater$Moves"
def TX2 : u_T := fun k => match k with
  | _ => ("LearningRepeater$Moves", "times", "LLearningRepeater$Row;", true)
def tyX2 : Nat → FieldType := fun k => match k with
  | _ => .object "LearningRepeater$Row"
theorem nmX2 : ∀ a, a < 1 → ∀ b, b < 1 → a ≠ b → (TX2 a).2.1 ≠ (TX2 b).2.1 := by decide +kernel
theorem tyX2_ok : ∀ k, k < 1 → parseFieldDescriptor (TX2 k).2.2.1 = some (tyX2 k) := by decide +kernel
abbrev cX2_init : ByteArray := prog_4_method_1_code
def yX2_init : MethodName := ⟨RX2, "<init>", "()V"⟩
abbrev cX2_copyFrom : ByteArray := prog_4_method_2_code
def yX2_copyFrom : MethodName := ⟨RX2, "copyFrom", "(LLearningRepeater$Moves;)V"⟩
abbrev cX2_add : ByteArray := prog_4_method_3_code
def yX2_add : MethodName := ⟨RX2, "add", "(II)V"⟩
abbrev cX2_latelyOf : ByteArray := prog_4_method_4_code
def yX2_latelyOf : MethodName := ⟨RX2, "latelyOf", "(I)I"⟩
abbrev cX2_beginSecond : ByteArray := prog_4_method_5_code
def yX2_beginSecond : MethodName := ⟨RX2, "beginSecond", "(I)V"⟩
def RX3 : String := "LearningRepeater$Ports"
def TX3 : u_T := fun k => match k with
  | 0 => ("LearningRepeater$Ports", "ups", "LLearningRepeater$Row;", true)
  | 1 => ("LearningRepeater$Ports", "lefts", "LLearningRepeater$Row;", true)
  | 2 => ("LearningRepeater$Ports", "reasons", "LLearningRepeater$Row;", true)
  | 3 => ("LearningRepeater$Ports", "farEnds", "LLearningRepeater$Row;", true)
  | 4 => ("LearningRepeater$Ports", "floods", "LLearningRepeater$Row;", true)
  | _ => ("LearningRepeater$Ports", "credits", "LLearningRepeater$Row;", true)
def tyX3 : Nat → FieldType := fun k => match k with
  | 0 => .object "LearningRepeater$Row"
  | 1 => .object "LearningRepeater$Row"
  | 2 => .object "LearningRepeater$Row"
  | 3 => .object "LearningRepeater$Row"
  | 4 => .object "LearningRepeater$Row"
  | _ => .object "LearningRepeater$Row"
theorem nmX3 : ∀ a, a < 6 → ∀ b, b < 6 → a ≠ b → (TX3 a).2.1 ≠ (TX3 b).2.1 := by decide +kernel
theorem tyX3_ok : ∀ k, k < 6 → parseFieldDescriptor (TX3 k).2.2.1 = some (tyX3 k) := by decide +kernel
abbrev cX3_init : ByteArray := prog_5_method_1_code
def yX3_init : MethodName := ⟨RX3, "<init>", "()V"⟩
abbrev cX3_copyFrom : ByteArray := prog_5_method_2_code
def yX3_copyFrom : MethodName := ⟨RX3, "copyFrom", "(LLearningRepeater$Ports;)V"⟩
abbrev cX3_isUp : ByteArray := prog_5_method_3_code
def yX3_isUp : MethodName := ⟨RX3, "isUp", "(I)Z"⟩
abbrev cX3_isOpen : ByteArray := prog_5_method_4_code
def yX3_isOpen : MethodName := ⟨RX3, "isOpen", "(I)Z"⟩
abbrev cX3_turn : ByteArray := prog_5_method_5_code
def yX3_turn : MethodName := ⟨RX3, "turn", "(IZ)V"⟩
abbrev cX3_openOnes : ByteArray := prog_5_method_6_code
def yX3_openOnes : MethodName := ⟨RX3, "openOnes", "()I"⟩
abbrev cX3_secondsLeft : ByteArray := prog_5_method_7_code
def yX3_secondsLeft : MethodName := ⟨RX3, "secondsLeft", "(I)I"⟩
abbrev cX3_beginQuarantine : ByteArray := prog_5_method_8_code
def yX3_beginQuarantine : MethodName := ⟨RX3, "beginQuarantine", "(III)V"⟩
abbrev cX3_endQuarantine : ByteArray := prog_5_method_9_code
def yX3_endQuarantine : MethodName := ⟨RX3, "endQuarantine", "(I)V"⟩
abbrev cX3_quarantined : ByteArray := prog_5_method_10_code
def yX3_quarantined : MethodName := ⟨RX3, "quarantined", "()I"⟩
abbrev cX3_farEnd : ByteArray := prog_5_method_11_code
def yX3_farEnd : MethodName := ⟨RX3, "farEnd", "(I)I"⟩
abbrev cX3_tie : ByteArray := prog_5_method_12_code
def yX3_tie : MethodName := ⟨RX3, "tie", "(II)V"⟩
abbrev cX3_untie : ByteArray := prog_5_method_13_code
def yX3_untie : MethodName := ⟨RX3, "untie", "(II)V"⟩
abbrev cX3_cables : ByteArray := prog_5_method_14_code
def yX3_cables : MethodName := ⟨RX3, "cables", "()I"⟩
abbrev cX3_credit : ByteArray := prog_5_method_15_code
def yX3_credit : MethodName := ⟨RX3, "credit", "(III)V"⟩
abbrev cX3_credited : ByteArray := prog_5_method_16_code
def yX3_credited : MethodName := ⟨RX3, "credited", "(II)I"⟩
abbrev cX3_allCameIn : ByteArray := prog_5_method_17_code
def yX3_allCameIn : MethodName := ⟨RX3, "allCameIn", "()I"⟩
abbrev cX3_endSecond : ByteArray := prog_5_method_18_code
def yX3_endSecond : MethodName := ⟨RX3, "endSecond", "()V"⟩
def RX4 : String := "LearningRepeater$Queues"
def TX4 : u_T := fun k => match k with
  | 0 => ("LearningRepeater$Queues", "sizes", "LLearningRepeater$Row;", true)
  | _ => ("LearningRepeater$Queues", "parts", "LLearningRepeater$Row;", true)
def tyX4 : Nat → FieldType := fun k => match k with
  | 0 => .object "LearningRepeater$Row"
  | _ => .object "LearningRepeater$Row"
theorem nmX4 : ∀ a, a < 2 → ∀ b, b < 2 → a ≠ b → (TX4 a).2.1 ≠ (TX4 b).2.1 := by decide +kernel
theorem tyX4_ok : ∀ k, k < 2 → parseFieldDescriptor (TX4 k).2.2.1 = some (tyX4 k) := by decide +kernel
abbrev cX4_init : ByteArray := prog_6_method_1_code
def yX4_init : MethodName := ⟨RX4, "<init>", "()V"⟩
abbrev cX4_copyFrom : ByteArray := prog_6_method_2_code
def yX4_copyFrom : MethodName := ⟨RX4, "copyFrom", "(LLearningRepeater$Queues;)V"⟩
abbrev cX4_cellOf : ByteArray := prog_6_method_3_code
def yX4_cellOf : MethodName := ⟨RX4, "cellOf", "(II)I"⟩
abbrev cX4_partOf : ByteArray := prog_6_method_4_code
def yX4_partOf : MethodName := ⟨RX4, "partOf", "(III)I"⟩
abbrev cX4_isFull : ByteArray := prog_6_method_5_code
def yX4_isFull : MethodName := ⟨RX4, "isFull", "(I)Z"⟩
abbrev cX4_insert : ByteArray := prog_6_method_6_code
def yX4_insert : MethodName := ⟨RX4, "insert", "(IIIII)V"⟩
abbrev cX4_removeFirst : ByteArray := prog_6_method_7_code
def yX4_removeFirst : MethodName := ⟨RX4, "removeFirst", "(II)V"⟩
def RX5 : String := "LearningRepeater$Row"
def TX5 : u_T := fun k => match k with
  | _ => ("LearningRepeater$Row", "cells", "[I", true)
def tyX5 : Nat → FieldType := fun k => match k with
  | _ => .array .int
theorem nmX5 : ∀ a, a < 1 → ∀ b, b < 1 → a ≠ b → (TX5 a).2.1 ≠ (TX5 b).2.1 := by decide +kernel
theorem tyX5_ok : ∀ k, k < 1 → parseFieldDescriptor (TX5 k).2.2.1 = some (tyX5 k) := by decide +kernel
abbrev cX5_init : ByteArray := prog_7_method_1_code
def yX5_init : MethodName := ⟨RX5, "<init>", "(I)V"⟩
abbrev cX5_at : ByteArray := prog_7_method_2_code
def yX5_at : MethodName := ⟨RX5, "at", "(I)I"⟩
abbrev cX5_put : ByteArray := prog_7_method_3_code
def yX5_put : MethodName := ⟨RX5, "put", "(II)V"⟩
abbrev cX5_add : ByteArray := prog_7_method_4_code
def yX5_add : MethodName := ⟨RX5, "add", "(II)V"⟩
abbrev cX5_sum : ByteArray := prog_7_method_5_code
def yX5_sum : MethodName := ⟨RX5, "sum", "()I"⟩
abbrev cX5_fill : ByteArray := prog_7_method_6_code
def yX5_fill : MethodName := ⟨RX5, "fill", "(III)V"⟩
abbrev cX5_slide : ByteArray := prog_7_method_7_code
def yX5_slide : MethodName := ⟨RX5, "slide", "(III)V"⟩
abbrev cX5_fits : ByteArray := prog_7_method_8_code
def yX5_fits : MethodName := ⟨RX5, "fits", "(II)Z"⟩
abbrev cX5_copyFrom : ByteArray := prog_7_method_9_code
def yX5_copyFrom : MethodName := ⟨RX5, "copyFrom", "(LLearningRepeater$Row;)V"⟩
def RX6 : String := "LearningRepeater$State"
def TX6 : u_T := fun k => match k with
  | 0 => ("LearningRepeater$State", "settings", "LLearningRepeater$Row;", true)
  | 1 => ("LearningRepeater$State", "ports", "LLearningRepeater$Ports;", true)
  | 2 => ("LearningRepeater$State", "queues", "LLearningRepeater$Queues;", true)
  | 3 => ("LearningRepeater$State", "table", "LLearningRepeater$Table;", true)
  | 4 => ("LearningRepeater$State", "moves", "LLearningRepeater$Moves;", true)
  | 5 => ("LearningRepeater$State", "clock", "I", false)
  | 6 => ("LearningRepeater$State", "nextNumber", "I", false)
  | _ => ("LearningRepeater$State", "quarantinesBegun", "I", false)
def tyX6 : Nat → FieldType := fun k => match k with
  | 0 => .object "LearningRepeater$Row"
  | 1 => .object "LearningRepeater$Ports"
  | 2 => .object "LearningRepeater$Queues"
  | 3 => .object "LearningRepeater$Table"
  | 4 => .object "LearningRepeater$Moves"
  | 5 => .int
  | 6 => .int
  | _ => .int
theorem nmX6 : ∀ a, a < 8 → ∀ b, b < 8 → a ≠ b → (TX6 a).2.1 ≠ (TX6 b).2.1 := by decide +kernel
theorem tyX6_ok : ∀ k, k < 8 → parseFieldDescriptor (TX6 k).2.2.1 = some (tyX6 k) := by decide +kernel
abbrev cX6_init : ByteArray := prog_8_method_1_code
def yX6_init : MethodName := ⟨RX6, "<init>", "()V"⟩
abbrev cX6_copyFrom : ByteArray := prog_8_method_2_code
def yX6_copyFrom : MethodName := ⟨RX6, "copyFrom", "(LLearningRepeater$State;)V"⟩
abbrev cX6_dropQueue : ByteArray := prog_8_method_3_code
def yX6_dropQueue : MethodName := ⟨RX6, "dropQueue", "(I)V"⟩
abbrev cX6_comeIn : ByteArray := prog_8_method_4_code
def yX6_comeIn : MethodName := ⟨RX6, "comeIn", "(IIII)I"⟩
abbrev cX6_learnAndDecide : ByteArray := prog_8_method_5_code
def yX6_learnAndDecide : MethodName := ⟨RX6, "learnAndDecide", "(III)I"⟩
abbrev cX6_quarantine : ByteArray := prog_8_method_6_code
def yX6_quarantine : MethodName := ⟨RX6, "quarantine", "(II)V"⟩
abbrev cX6_waysOut : ByteArray := prog_8_method_7_code
def yX6_waysOut : MethodName := ⟨RX6, "waysOut", "(III)I"⟩
abbrev cX6_goOut : ByteArray := prog_8_method_8_code
def yX6_goOut : MethodName := ⟨RX6, "goOut", "(IIII)V"⟩
abbrev cX6_accountOf : ByteArray := prog_8_method_9_code
def yX6_accountOf : MethodName := ⟨RX6, "accountOf", "(I)I"⟩
abbrev cX6_letIn : ByteArray := prog_8_method_10_code
def yX6_letIn : MethodName := ⟨RX6, "letIn", "(LLearningRepeater$Arrivals;)I"⟩
abbrev cX6_sendInto : ByteArray := prog_8_method_11_code
def yX6_sendInto : MethodName := ⟨RX6, "sendInto", "(LLearningRepeater$Arrivals;)I"⟩
abbrev cX6_sendFrom : ByteArray := prog_8_method_12_code
def yX6_sendFrom : MethodName := ⟨RX6, "sendFrom", "(ILLearningRepeater$Arrivals;)I"⟩
abbrev cX6_endSecond : ByteArray := prog_8_method_13_code
def yX6_endSecond : MethodName := ⟨RX6, "endSecond", "()V"⟩
def RX7 : String := "LearningRepeater$Table"
def TX7 : u_T := fun k => match k with
  | 0 => ("LearningRepeater$Table", "ports", "LLearningRepeater$Row;", true)
  | 1 => ("LearningRepeater$Table", "times", "LLearningRepeater$Row;", true)
  | _ => ("LearningRepeater$Table", "size", "I", false)
def tyX7 : Nat → FieldType := fun k => match k with
  | 0 => .object "LearningRepeater$Row"
  | 1 => .object "LearningRepeater$Row"
  | _ => .int
theorem nmX7 : ∀ a, a < 3 → ∀ b, b < 3 → a ≠ b → (TX7 a).2.1 ≠ (TX7 b).2.1 := by decide +kernel
theorem tyX7_ok : ∀ k, k < 3 → parseFieldDescriptor (TX7 k).2.2.1 = some (tyX7 k) := by decide +kernel
abbrev cX7_init : ByteArray := prog_9_method_1_code
def yX7_init : MethodName := ⟨RX7, "<init>", "()V"⟩
abbrev cX7_copyFrom : ByteArray := prog_9_method_2_code
def yX7_copyFrom : MethodName := ⟨RX7, "copyFrom", "(LLearningRepeater$Table;)V"⟩
abbrev cX7_portOf : ByteArray := prog_9_method_3_code
def yX7_portOf : MethodName := ⟨RX7, "portOf", "(I)I"⟩
abbrev cX7_learn : ByteArray := prog_9_method_4_code
def yX7_learn : MethodName := ⟨RX7, "learn", "(III)V"⟩
abbrev cX7_remove : ByteArray := prog_9_method_5_code
def yX7_remove : MethodName := ⟨RX7, "remove", "(I)V"⟩
abbrev cX7_oldest : ByteArray := prog_9_method_6_code
def yX7_oldest : MethodName := ⟨RX7, "oldest", "()I"⟩
abbrev cX7_removeAllWith : ByteArray := prog_9_method_7_code
def yX7_removeAllWith : MethodName := ⟨RX7, "removeAllWith", "(I)V"⟩
abbrev cX7_removeUntil : ByteArray := prog_9_method_8_code
def yX7_removeUntil : MethodName := ⟨RX7, "removeUntil", "(I)V"⟩
abbrev cX7_entriesWith : ByteArray := prog_9_method_9_code
def yX7_entriesWith : MethodName := ⟨RX7, "entriesWith", "(I)I"⟩
abbrev cX7_addressOf : ByteArray := prog_9_method_10_code
def yX7_addressOf : MethodName := ⟨RX7, "addressOf", "(I)I"⟩
def RX8 : String := "LearningRepeater$Text"
def TX8 : u_T := fun k => match k with
  | 0 => ("LearningRepeater$Text", "signs", "[C", true)
  | 1 => ("LearningRepeater$Text", "length", "I", false)
  | _ => ("LearningRepeater$Text", "place", "I", false)
def tyX8 : Nat → FieldType := fun k => match k with
  | 0 => .array .char
  | 1 => .int
  | _ => .int
theorem nmX8 : ∀ a, a < 3 → ∀ b, b < 3 → a ≠ b → (TX8 a).2.1 ≠ (TX8 b).2.1 := by decide +kernel
theorem tyX8_ok : ∀ k, k < 3 → parseFieldDescriptor (TX8 k).2.2.1 = some (tyX8 k) := by decide +kernel
abbrev cX8_init : ByteArray := prog_10_method_1_code
def yX8_init : MethodName := ⟨RX8, "<init>", "()V"⟩
abbrev cX8_readInto : ByteArray := prog_10_method_3_code
def yX8_readInto : MethodName := ⟨RX8, "readInto", "(LLearningRepeater$Arrivals;)I"⟩
abbrev cX8_readFrame : ByteArray := prog_10_method_4_code
def yX8_readFrame : MethodName := ⟨RX8, "readFrame", "(LLearningRepeater$Arrivals;)Z"⟩
abbrev cX8_readAddress : ByteArray := prog_10_method_5_code
def yX8_readAddress : MethodName := ⟨RX8, "readAddress", "()I"⟩
abbrev cX8_readDigit : ByteArray := prog_10_method_6_code
def yX8_readDigit : MethodName := ⟨RX8, "readDigit", "(II)I"⟩
abbrev cX8_skip : ByteArray := prog_10_method_7_code
def yX8_skip : MethodName := ⟨RX8, "skip", "(C)Z"⟩
abbrev cX8_signAt : ByteArray := prog_10_method_8_code
def yX8_signAt : MethodName := ⟨RX8, "signAt", "(I)I"⟩
def RX9 : String := "LearningRepeater"
def TX9 : u_T := fun k => match k with
  | 0 => ("LearningRepeater", "present", "LLearningRepeater$State;", true)
  | 1 => ("LearningRepeater", "snapshot", "LLearningRepeater$State;", true)
  | 2 => ("LearningRepeater", "imagined", "LLearningRepeater$State;", true)
  | 3 => ("LearningRepeater", "history", "LLearningRepeater$History;", true)
  | 4 => ("LearningRepeater", "text", "LLearningRepeater$Text;", true)
  | 5 => ("LearningRepeater", "arrivals", "LLearningRepeater$Arrivals;", true)
  | _ => ("LearningRepeater", "hasSnapshot", "Z", false)
def tyX9 : Nat → FieldType := fun k => match k with
  | 0 => .object "LearningRepeater$State"
  | 1 => .object "LearningRepeater$State"
  | 2 => .object "LearningRepeater$State"
  | 3 => .object "LearningRepeater$History"
  | 4 => .object "LearningRepeater$Text"
  | 5 => .object "LearningRepeater$Arrivals"
  | _ => .boolean
theorem nmX9 : ∀ a, a < 7 → ∀ b, b < 7 → a ≠ b → (TX9 a).2.1 ≠ (TX9 b).2.1 := by decide +kernel
theorem tyX9_ok : ∀ k, k < 7 → parseFieldDescriptor (TX9 k).2.2.1 = some (tyX9 k) := by decide +kernel
abbrev cX9_init : ByteArray := prog_1_method_1_code
def yX9_init : MethodName := ⟨RX9, "<init>", "()V"⟩
abbrev cX9_setPort : ByteArray := prog_1_method_2_code
def yX9_setPort : MethodName := ⟨RX9, "setPort", "(IZ)I"⟩
abbrev cX9_join : ByteArray := prog_1_method_3_code
def yX9_join : MethodName := ⟨RX9, "join", "(II)I"⟩
abbrev cX9_part : ByteArray := prog_1_method_4_code
def yX9_part : MethodName := ⟨RX9, "part", "(I)I"⟩
abbrev cX9_release : ByteArray := prog_1_method_5_code
def yX9_release : MethodName := ⟨RX9, "release", "(I)I"⟩
abbrev cX9_set : ByteArray := prog_1_method_6_code
def yX9_set : MethodName := ⟨RX9, "set", "(II)I"⟩
abbrev cX9_frame : ByteArray := prog_1_method_7_code
def yX9_frame : MethodName := ⟨RX9, "frame", "(IIII)I"⟩
abbrev cX9_forget : ByteArray := prog_1_method_8_code
def yX9_forget : MethodName := ⟨RX9, "forget", "(I)I"⟩
abbrev cX9_pass : ByteArray := prog_1_method_9_code
def yX9_pass : MethodName := ⟨RX9, "pass", "(I)I"⟩
abbrev cX9_readFrames : ByteArray := prog_1_method_12_code
def yX9_readFrames : MethodName := ⟨RX9, "readFrames", "()I"⟩
abbrev cX9_undo : ByteArray := prog_1_method_13_code
def yX9_undo : MethodName := ⟨RX9, "undo", "()I"⟩
abbrev cX9_keep : ByteArray := prog_1_method_14_code
def yX9_keep : MethodName := ⟨RX9, "keep", "()I"⟩
abbrev cX9_restore : ByteArray := prog_1_method_15_code
def yX9_restore : MethodName := ⟨RX9, "restore", "()I"⟩
abbrev cX9_port : ByteArray := prog_1_method_16_code
def yX9_port : MethodName := ⟨RX9, "port", "(II)I"⟩
abbrev cX9_account : ByteArray := prog_1_method_17_code
def yX9_account : MethodName := ⟨RX9, "account", "(II)I"⟩
abbrev cX9_entry : ByteArray := prog_1_method_18_code
def yX9_entry : MethodName := ⟨RX9, "entry", "(II)I"⟩
abbrev cX9_where : ByteArray := prog_1_method_19_code
def yX9_where : MethodName := ⟨RX9, "where", "(I)I"⟩
abbrev cX9_queued : ByteArray := prog_1_method_20_code
def yX9_queued : MethodName := ⟨RX9, "queued", "(III)I"⟩
abbrev cX9_wouldGo : ByteArray := prog_1_method_21_code
def yX9_wouldGo : MethodName := ⟨RX9, "wouldGo", "(III)I"⟩
abbrev cX9_loops : ByteArray := prog_1_method_22_code
def yX9_loops : MethodName := ⟨RX9, "loops", "()I"⟩
abbrev cX9_count : ByteArray := prog_1_method_23_code
def yX9_count : MethodName := ⟨RX9, "count", "(I)I"⟩
abbrev cX9_isPort : ByteArray := prog_1_method_24_code
def yX9_isPort : MethodName := ⟨RX9, "isPort", "(I)Z"⟩
abbrev cX9_isAddress : ByteArray := prog_1_method_25_code
def yX9_isAddress : MethodName := ⟨RX9, "isAddress", "(I)Z"⟩
abbrev cX9_isDestination : ByteArray := prog_1_method_26_code
def yX9_isDestination : MethodName := ⟨RX9, "isDestination", "(I)Z"⟩
abbrev cX9_isSetting : ByteArray := prog_1_method_27_code
def yX9_isSetting : MethodName := ⟨RX9, "isSetting", "(I)Z"⟩
def RX10 : String := "LearningRepeaterModel"
def TX10 : u_T := fun k => match k with
  | _ => ("", "", "", false)
def tyX10 : Nat → FieldType := fun k => match k with
  | _ => .int
theorem nmX10 : ∀ a, a < 0 → ∀ b, b < 0 → a ≠ b → (TX10 a).2.1 ≠ (TX10 b).2.1 := by decide +kernel
theorem tyX10_ok : ∀ k, k < 0 → parseFieldDescriptor (TX10 k).2.2.1 = some (tyX10 k) := by decide +kernel
def RJ6 : String := "java/lang/Integer"
def TJ6 : u_T := fun k => match k with
  | _ => ("", "", "", false)
def tyJ6 : Nat → FieldType := fun k => match k with
  | _ => .int
abbrev cJ6_bitCount_0f7a4 : ByteArray := prog_13_method_49_code
def yJ6_bitCount_0f7a4 : MethodName := ⟨RJ6, "bitCount", "(I)I"⟩
def RJ9 : String := "java/lang/Math"
def TJ9 : u_T := fun k => match k with
  | _ => ("", "", "", false)
def tyJ9 : Nat → FieldType := fun k => match k with
  | _ => .int
abbrev cJ9_max_7cf53 : ByteArray := prog_14_method_65_code
def yJ9_max_7cf53 : MethodName := ⟨RJ9, "max", "(II)I"⟩
abbrev cJ9_min_7cf53 : ByteArray := prog_14_method_69_code
def yJ9_min_7cf53 : MethodName := ⟨RJ9, "min", "(II)I"⟩
def RJ10 : String := "java/lang/System"
def TJ10 : u_T := fun k => match k with
  | _ => ("", "", "", false)
def tyJ10 : Nat → FieldType := fun k => match k with
  | _ => .int
def RJ7 : String := "java/util/Arrays"
def TJ7 : u_T := fun k => match k with
  | _ => ("", "", "", false)
def tyJ7 : Nat → FieldType := fun k => match k with
  | _ => .int
abbrev cJ7_rangeCheck_23922 : ByteArray := prog_16_method_30_code
def yJ7_rangeCheck_23922 : MethodName := ⟨RJ7, "rangeCheck", "(III)V"⟩
abbrev cJ7_fill_fda19 : ByteArray := prog_16_method_104_code
def yJ7_fill_fda19 : MethodName := ⟨RJ7, "fill", "([IIII)V"⟩
def RL : String := "LearningRepeaterLaw"
abbrev cL_cell : ByteArray := method_2_code
def yL_cell : MethodName := ⟨RL, "cell", "([II)I"⟩
abbrev cL_low : ByteArray := method_3_code
def yL_low : MethodName := ⟨RL, "low", "(II)I"⟩
abbrev cL_digest : ByteArray := method_4_code
def yL_digest : MethodName := ⟨RL, "digest", "(LLearningRepeater;)J"⟩
abbrev cL_openSet : ByteArray := method_5_code
def yL_openSet : MethodName := ⟨RL, "openSet", "(LLearningRepeater;)I"⟩
abbrev cL_ports : ByteArray := method_6_code
def yL_ports : MethodName := ⟨RL, "ports", "(LLearningRepeater;I)Z"⟩
abbrev cL_table : ByteArray := method_7_code
def yL_table : MethodName := ⟨RL, "table", "(LLearningRepeater;)Z"⟩
abbrev cL_sound : ByteArray := method_8_code
def yL_sound : MethodName := ⟨RL, "sound", "(LLearningRepeater;)Z"⟩
abbrev cL_frames : ByteArray := method_9_code
def yL_frames : MethodName := ⟨RL, "frames", "(LLearningRepeater;IIII)Z"⟩
abbrev cL_parts : ByteArray := method_10_code
def yL_parts : MethodName := ⟨RL, "parts", "(LLearningRepeater;II)Z"⟩
abbrev cL_cables : ByteArray := method_11_code
def yL_cables : MethodName := ⟨RL, "cables", "(LLearningRepeater;II)Z"⟩
abbrev cL_sets : ByteArray := method_12_code
def yL_sets : MethodName := ⟨RL, "sets", "(LLearningRepeater;III)Z"⟩
abbrev cL_law : ByteArray := code
def yL_law : MethodName := ⟨RL, "law", "([I)Z"⟩
abbrev vwCl : List vw_C := [(RX0, TX0, 2), (RX1, TX1, 3), (RX2, TX2, 1), (RX3, TX3, 6), (RX4, TX4, 2), (RX5, TX5, 1), (RX6, TX6, 8), (RX7, TX7, 3), (RX8, TX8, 3), (RX9, TX9, 7)]
