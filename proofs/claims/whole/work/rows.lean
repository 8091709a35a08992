section
-- ===== PART A: goes FIRST, ahead of the names: the tables' words, and 'selects' of the private methods out of them =====
/-- a private method of a class that the tables say can be made, by its rows of tables_1 -/
def lw_okq (q : MethodName × Nat) : Prop := (q.1.cls ≠ "java/lang/invoke/MethodHandle" ∧ q.1.cls ≠ "java/lang/invoke/VarHandle") ∧ Cond.instantiable q.1.cls q.2 ∈ tables_1 ∧ Cond.privateMethod q.1 ∈ tables_1 ∧ Cond.instanceMethod q.1 ∈ tables_1
theorem lw_p0 : lw_okq (⟨"LearningRepeater$Row", "fits", "(II)Z"⟩, 1) := ⟨⟨by decide +kernel, by decide +kernel⟩, List.mem_of_getElem? (i := 31) (by decide +kernel), List.mem_of_getElem? (i := 59) (by decide +kernel), List.mem_of_getElem? (i := 60) (by decide +kernel)⟩
theorem lw_p1 : lw_okq (⟨"LearningRepeater$History", "stateAt", "(I)LLearningRepeater$State;"⟩, 3) := ⟨⟨by decide +kernel, by decide +kernel⟩, List.mem_of_getElem? (i := 178) (by decide +kernel), List.mem_of_getElem? (i := 274) (by decide +kernel), List.mem_of_getElem? (i := 275) (by decide +kernel)⟩
theorem lw_p2 : lw_okq (⟨"LearningRepeater$Table", "oldest", "()I"⟩, 3) := ⟨⟨by decide +kernel, by decide +kernel⟩, List.mem_of_getElem? (i := 108) (by decide +kernel), List.mem_of_getElem? (i := 433) (by decide +kernel), List.mem_of_getElem? (i := 434) (by decide +kernel)⟩
theorem lw_p3 : lw_okq (⟨"LearningRepeater$State", "quarantine", "(II)V"⟩, 8) := ⟨⟨by decide +kernel, by decide +kernel⟩, List.mem_of_getElem? (i := 25) (by decide +kernel), List.mem_of_getElem? (i := 452) (by decide +kernel), List.mem_of_getElem? (i := 453) (by decide +kernel)⟩
theorem lw_p4 : lw_okq (⟨"LearningRepeater$State", "goOut", "(IIII)V"⟩, 8) := ⟨⟨by decide +kernel, by decide +kernel⟩, List.mem_of_getElem? (i := 25) (by decide +kernel), List.mem_of_getElem? (i := 470) (by decide +kernel), List.mem_of_getElem? (i := 471) (by decide +kernel)⟩
theorem lw_p5 : lw_okq (⟨"LearningRepeater$State", "sendFrom", "(ILLearningRepeater$Arrivals;)I"⟩, 8) := ⟨⟨by decide +kernel, by decide +kernel⟩, List.mem_of_getElem? (i := 25) (by decide +kernel), List.mem_of_getElem? (i := 503) (by decide +kernel), List.mem_of_getElem? (i := 504) (by decide +kernel)⟩
theorem lw_p6 : lw_okq (⟨"LearningRepeater$Text", "readFrame", "(LLearningRepeater$Arrivals;)Z"⟩, 3) := ⟨⟨by decide +kernel, by decide +kernel⟩, List.mem_of_getElem? (i := 198) (by decide +kernel), List.mem_of_getElem? (i := 562) (by decide +kernel), List.mem_of_getElem? (i := 563) (by decide +kernel)⟩
theorem lw_p7 : lw_okq (⟨"LearningRepeater$Text", "readAddress", "()I"⟩, 3) := ⟨⟨by decide +kernel, by decide +kernel⟩, List.mem_of_getElem? (i := 198) (by decide +kernel), List.mem_of_getElem? (i := 566) (by decide +kernel), List.mem_of_getElem? (i := 567) (by decide +kernel)⟩
theorem lw_p8 : lw_okq (⟨"LearningRepeater$Text", "readDigit", "(II)I"⟩, 3) := ⟨⟨by decide +kernel, by decide +kernel⟩, List.mem_of_getElem? (i := 198) (by decide +kernel), List.mem_of_getElem? (i := 570) (by decide +kernel), List.mem_of_getElem? (i := 571) (by decide +kernel)⟩
theorem lw_p9 : lw_okq (⟨"LearningRepeater$Text", "signAt", "(I)I"⟩, 3) := ⟨⟨by decide +kernel, by decide +kernel⟩, List.mem_of_getElem? (i := 198) (by decide +kernel), List.mem_of_getElem? (i := 574) (by decide +kernel), List.mem_of_getElem? (i := 575) (by decide +kernel)⟩
theorem lw_p10 : lw_okq (⟨"LearningRepeater$Text", "skip", "(C)Z"⟩, 3) := ⟨⟨by decide +kernel, by decide +kernel⟩, List.mem_of_getElem? (i := 198) (by decide +kernel), List.mem_of_getElem? (i := 578) (by decide +kernel), List.mem_of_getElem? (i := 579) (by decide +kernel)⟩
theorem lw_p11 : lw_okq (⟨"LearningRepeaterModel", "to", "(III)V"⟩, 14) := ⟨⟨by decide +kernel, by decide +kernel⟩, List.mem_of_getElem? (i := 662) (by decide +kernel), List.mem_of_getElem? (i := 668) (by decide +kernel), List.mem_of_getElem? (i := 669) (by decide +kernel)⟩
theorem lw_p12 : lw_okq (⟨"LearningRepeaterModel", "of", "(II)I"⟩, 14) := ⟨⟨by decide +kernel, by decide +kernel⟩, List.mem_of_getElem? (i := 662) (by decide +kernel), List.mem_of_getElem? (i := 725) (by decide +kernel), List.mem_of_getElem? (i := 726) (by decide +kernel)⟩
theorem lw_p13 : lw_okq (⟨"LearningRepeaterModel", "record", "()V"⟩, 14) := ⟨⟨by decide +kernel, by decide +kernel⟩, List.mem_of_getElem? (i := 662) (by decide +kernel), List.mem_of_getElem? (i := 729) (by decide +kernel), List.mem_of_getElem? (i := 730) (by decide +kernel)⟩
theorem lw_p14 : lw_okq (⟨"LearningRepeaterModel", "openPorts", "()I"⟩, 14) := ⟨⟨by decide +kernel, by decide +kernel⟩, List.mem_of_getElem? (i := 662) (by decide +kernel), List.mem_of_getElem? (i := 733) (by decide +kernel), List.mem_of_getElem? (i := 734) (by decide +kernel)⟩
theorem lw_p15 : lw_okq (⟨"LearningRepeaterModel", "isOpen", "(I)Z"⟩, 14) := ⟨⟨by decide +kernel, by decide +kernel⟩, List.mem_of_getElem? (i := 662) (by decide +kernel), List.mem_of_getElem? (i := 737) (by decide +kernel), List.mem_of_getElem? (i := 738) (by decide +kernel)⟩
def lw_privs_1 : List (MethodName × Nat) := [(⟨"LearningRepeater$Row", "fits", "(II)Z"⟩, 1), (⟨"LearningRepeater$History", "stateAt", "(I)LLearningRepeater$State;"⟩, 3), (⟨"LearningRepeater$Table", "oldest", "()I"⟩, 3), (⟨"LearningRepeater$State", "quarantine", "(II)V"⟩, 8), (⟨"LearningRepeater$State", "goOut", "(IIII)V"⟩, 8), (⟨"LearningRepeater$State", "sendFrom", "(ILLearningRepeater$Arrivals;)I"⟩, 8), (⟨"LearningRepeater$Text", "readFrame", "(LLearningRepeater$Arrivals;)Z"⟩, 3), (⟨"LearningRepeater$Text", "readAddress", "()I"⟩, 3), (⟨"LearningRepeater$Text", "readDigit", "(II)I"⟩, 3), (⟨"LearningRepeater$Text", "signAt", "(I)I"⟩, 3), (⟨"LearningRepeater$Text", "skip", "(C)Z"⟩, 3), (⟨"LearningRepeaterModel", "to", "(III)V"⟩, 14), (⟨"LearningRepeaterModel", "of", "(II)I"⟩, 14), (⟨"LearningRepeaterModel", "record", "()V"⟩, 14), (⟨"LearningRepeaterModel", "openPorts", "()I"⟩, 14), (⟨"LearningRepeaterModel", "isOpen", "(I)Z"⟩, 14)]
theorem lw_r1 : ∀ q ∈ lw_privs_1, lw_okq q := List.forall_mem_cons.mpr ⟨lw_p0, List.forall_mem_cons.mpr ⟨lw_p1, List.forall_mem_cons.mpr ⟨lw_p2, List.forall_mem_cons.mpr ⟨lw_p3, List.forall_mem_cons.mpr ⟨lw_p4, List.forall_mem_cons.mpr ⟨lw_p5, List.forall_mem_cons.mpr ⟨lw_p6, List.forall_mem_cons.mpr ⟨lw_p7, List.forall_mem_cons.mpr ⟨lw_p8, List.forall_mem_cons.mpr ⟨lw_p9, List.forall_mem_cons.mpr ⟨lw_p10, List.forall_mem_cons.mpr ⟨lw_p11, List.forall_mem_cons.mpr ⟨lw_p12, List.forall_mem_cons.mpr ⟨lw_p13, List.forall_mem_cons.mpr ⟨lw_p14, List.forall_mem_cons.mpr ⟨lw_p15, fun _ h => absurd h List.not_mem_nil⟩⟩⟩⟩⟩⟩⟩⟩⟩⟩⟩⟩⟩⟩⟩⟩
theorem lw_p16 : lw_okq (⟨"LearningRepeaterModel", "cables", "()I"⟩, 14) := ⟨⟨by decide +kernel, by decide +kernel⟩, List.mem_of_getElem? (i := 662) (by decide +kernel), List.mem_of_getElem? (i := 745) (by decide +kernel), List.mem_of_getElem? (i := 746) (by decide +kernel)⟩
theorem lw_p17 : lw_okq (⟨"LearningRepeaterModel", "holdLeft", "(I)I"⟩, 14) := ⟨⟨by decide +kernel, by decide +kernel⟩, List.mem_of_getElem? (i := 662) (by decide +kernel), List.mem_of_getElem? (i := 757) (by decide +kernel), List.mem_of_getElem? (i := 758) (by decide +kernel)⟩
theorem lw_p18 : lw_okq (⟨"LearningRepeaterModel", "comesIn", "(IIII)I"⟩, 14) := ⟨⟨by decide +kernel, by decide +kernel⟩, List.mem_of_getElem? (i := 662) (by decide +kernel), List.mem_of_getElem? (i := 775) (by decide +kernel), List.mem_of_getElem? (i := 776) (by decide +kernel)⟩
theorem lw_p19 : lw_okq (⟨"LearningRepeaterModel", "becomes", "(IIII)I"⟩, 14) := ⟨⟨by decide +kernel, by decide +kernel⟩, List.mem_of_getElem? (i := 662) (by decide +kernel), List.mem_of_getElem? (i := 779) (by decide +kernel), List.mem_of_getElem? (i := 780) (by decide +kernel)⟩
theorem lw_p20 : lw_okq (⟨"LearningRepeaterModel", "movesOf", "(I)I"⟩, 14) := ⟨⟨by decide +kernel, by decide +kernel⟩, List.mem_of_getElem? (i := 662) (by decide +kernel), List.mem_of_getElem? (i := 783) (by decide +kernel), List.mem_of_getElem? (i := 784) (by decide +kernel)⟩
theorem lw_p21 : lw_okq (⟨"LearningRepeaterModel", "quarantine", "(II)V"⟩, 14) := ⟨⟨by decide +kernel, by decide +kernel⟩, List.mem_of_getElem? (i := 662) (by decide +kernel), List.mem_of_getElem? (i := 787) (by decide +kernel), List.mem_of_getElem? (i := 788) (by decide +kernel)⟩
theorem lw_p22 : lw_okq (⟨"LearningRepeaterModel", "removeEntries", "(I)V"⟩, 14) := ⟨⟨by decide +kernel, by decide +kernel⟩, List.mem_of_getElem? (i := 662) (by decide +kernel), List.mem_of_getElem? (i := 791) (by decide +kernel), List.mem_of_getElem? (i := 792) (by decide +kernel)⟩
theorem lw_p23 : lw_okq (⟨"LearningRepeaterModel", "entries", "()I"⟩, 14) := ⟨⟨by decide +kernel, by decide +kernel⟩, List.mem_of_getElem? (i := 662) (by decide +kernel), List.mem_of_getElem? (i := 795) (by decide +kernel), List.mem_of_getElem? (i := 796) (by decide +kernel)⟩
theorem lw_p24 : lw_okq (⟨"LearningRepeaterModel", "removeOldest", "()V"⟩, 14) := ⟨⟨by decide +kernel, by decide +kernel⟩, List.mem_of_getElem? (i := 662) (by decide +kernel), List.mem_of_getElem? (i := 799) (by decide +kernel), List.mem_of_getElem? (i := 800) (by decide +kernel)⟩
theorem lw_p25 : lw_okq (⟨"LearningRepeaterModel", "goesOut", "(IIII)V"⟩, 14) := ⟨⟨by decide +kernel, by decide +kernel⟩, List.mem_of_getElem? (i := 662) (by decide +kernel), List.mem_of_getElem? (i := 803) (by decide +kernel), List.mem_of_getElem? (i := 804) (by decide +kernel)⟩
theorem lw_p26 : lw_okq (⟨"LearningRepeaterModel", "more", "(II)V"⟩, 14) := ⟨⟨by decide +kernel, by decide +kernel⟩, List.mem_of_getElem? (i := 662) (by decide +kernel), List.mem_of_getElem? (i := 807) (by decide +kernel), List.mem_of_getElem? (i := 808) (by decide +kernel)⟩
theorem lw_p27 : lw_okq (⟨"LearningRepeaterModel", "queueCell", "(II)I"⟩, 14) := ⟨⟨by decide +kernel, by decide +kernel⟩, List.mem_of_getElem? (i := 662) (by decide +kernel), List.mem_of_getElem? (i := 811) (by decide +kernel), List.mem_of_getElem? (i := 812) (by decide +kernel)⟩
theorem lw_p28 : lw_okq (⟨"LearningRepeaterModel", "goesOn", "()I"⟩, 14) := ⟨⟨by decide +kernel, by decide +kernel⟩, List.mem_of_getElem? (i := 662) (by decide +kernel), List.mem_of_getElem? (i := 827) (by decide +kernel), List.mem_of_getElem? (i := 828) (by decide +kernel)⟩
theorem lw_p29 : lw_okq (⟨"LearningRepeaterModel", "sends", "(I)V"⟩, 14) := ⟨⟨by decide +kernel, by decide +kernel⟩, List.mem_of_getElem? (i := 662) (by decide +kernel), List.mem_of_getElem? (i := 831) (by decide +kernel), List.mem_of_getElem? (i := 832) (by decide +kernel)⟩
theorem lw_p30 : lw_okq (⟨"LearningRepeaterModel", "atPlace", "(II)I"⟩, 14) := ⟨⟨by decide +kernel, by decide +kernel⟩, List.mem_of_getElem? (i := 662) (by decide +kernel), List.mem_of_getElem? (i := 835) (by decide +kernel), List.mem_of_getElem? (i := 836) (by decide +kernel)⟩
theorem lw_p31 : lw_okq (⟨"LearningRepeaterModel", "readsFrame", "()Z"⟩, 14) := ⟨⟨by decide +kernel, by decide +kernel⟩, List.mem_of_getElem? (i := 662) (by decide +kernel), List.mem_of_getElem? (i := 851) (by decide +kernel), List.mem_of_getElem? (i := 852) (by decide +kernel)⟩
def lw_privs_2 : List (MethodName × Nat) := [(⟨"LearningRepeaterModel", "cables", "()I"⟩, 14), (⟨"LearningRepeaterModel", "holdLeft", "(I)I"⟩, 14), (⟨"LearningRepeaterModel", "comesIn", "(IIII)I"⟩, 14), (⟨"LearningRepeaterModel", "becomes", "(IIII)I"⟩, 14), (⟨"LearningRepeaterModel", "movesOf", "(I)I"⟩, 14), (⟨"LearningRepeaterModel", "quarantine", "(II)V"⟩, 14), (⟨"LearningRepeaterModel", "removeEntries", "(I)V"⟩, 14), (⟨"LearningRepeaterModel", "entries", "()I"⟩, 14), (⟨"LearningRepeaterModel", "removeOldest", "()V"⟩, 14), (⟨"LearningRepeaterModel", "goesOut", "(IIII)V"⟩, 14), (⟨"LearningRepeaterModel", "more", "(II)V"⟩, 14), (⟨"LearningRepeaterModel", "queueCell", "(II)I"⟩, 14), (⟨"LearningRepeaterModel", "goesOn", "()I"⟩, 14), (⟨"LearningRepeaterModel", "sends", "(I)V"⟩, 14), (⟨"LearningRepeaterModel", "atPlace", "(II)I"⟩, 14), (⟨"LearningRepeaterModel", "readsFrame", "()Z"⟩, 14)]
theorem lw_r2 : ∀ q ∈ lw_privs_2, lw_okq q := List.forall_mem_cons.mpr ⟨lw_p16, List.forall_mem_cons.mpr ⟨lw_p17, List.forall_mem_cons.mpr ⟨lw_p18, List.forall_mem_cons.mpr ⟨lw_p19, List.forall_mem_cons.mpr ⟨lw_p20, List.forall_mem_cons.mpr ⟨lw_p21, List.forall_mem_cons.mpr ⟨lw_p22, List.forall_mem_cons.mpr ⟨lw_p23, List.forall_mem_cons.mpr ⟨lw_p24, List.forall_mem_cons.mpr ⟨lw_p25, List.forall_mem_cons.mpr ⟨lw_p26, List.forall_mem_cons.mpr ⟨lw_p27, List.forall_mem_cons.mpr ⟨lw_p28, List.forall_mem_cons.mpr ⟨lw_p29, List.forall_mem_cons.mpr ⟨lw_p30, List.forall_mem_cons.mpr ⟨lw_p31, fun _ h => absurd h List.not_mem_nil⟩⟩⟩⟩⟩⟩⟩⟩⟩⟩⟩⟩⟩⟩⟩⟩
theorem lw_p32 : lw_okq (⟨"LearningRepeaterModel", "address", "()I"⟩, 14) := ⟨⟨by decide +kernel, by decide +kernel⟩, List.mem_of_getElem? (i := 662) (by decide +kernel), List.mem_of_getElem? (i := 855) (by decide +kernel), List.mem_of_getElem? (i := 856) (by decide +kernel)⟩
theorem lw_p33 : lw_okq (⟨"LearningRepeaterModel", "digit", "(II)I"⟩, 14) := ⟨⟨by decide +kernel, by decide +kernel⟩, List.mem_of_getElem? (i := 662) (by decide +kernel), List.mem_of_getElem? (i := 859) (by decide +kernel), List.mem_of_getElem? (i := 860) (by decide +kernel)⟩
theorem lw_p34 : lw_okq (⟨"LearningRepeaterModel", "takes", "(C)Z"⟩, 14) := ⟨⟨by decide +kernel, by decide +kernel⟩, List.mem_of_getElem? (i := 662) (by decide +kernel), List.mem_of_getElem? (i := 863) (by decide +kernel), List.mem_of_getElem? (i := 864) (by decide +kernel)⟩
theorem lw_p35 : lw_okq (⟨"LearningRepeaterModel", "entriesWith", "(I)I"⟩, 14) := ⟨⟨by decide +kernel, by decide +kernel⟩, List.mem_of_getElem? (i := 662) (by decide +kernel), List.mem_of_getElem? (i := 883) (by decide +kernel), List.mem_of_getElem? (i := 884) (by decide +kernel)⟩
theorem lw_p36 : lw_okq (⟨"LearningRepeaterModel", "held", "()I"⟩, 14) := ⟨⟨by decide +kernel, by decide +kernel⟩, List.mem_of_getElem? (i := 662) (by decide +kernel), List.mem_of_getElem? (i := 911) (by decide +kernel), List.mem_of_getElem? (i := 912) (by decide +kernel)⟩
theorem lw_p37 : lw_okq (⟨"LearningRepeaterModel", "inAll", "(I)I"⟩, 14) := ⟨⟨by decide +kernel, by decide +kernel⟩, List.mem_of_getElem? (i := 662) (by decide +kernel), List.mem_of_getElem? (i := 915) (by decide +kernel), List.mem_of_getElem? (i := 916) (by decide +kernel)⟩
def lw_privs_3 : List (MethodName × Nat) := [(⟨"LearningRepeaterModel", "address", "()I"⟩, 14), (⟨"LearningRepeaterModel", "digit", "(II)I"⟩, 14), (⟨"LearningRepeaterModel", "takes", "(C)Z"⟩, 14), (⟨"LearningRepeaterModel", "entriesWith", "(I)I"⟩, 14), (⟨"LearningRepeaterModel", "held", "()I"⟩, 14), (⟨"LearningRepeaterModel", "inAll", "(I)I"⟩, 14)]
theorem lw_r3 : ∀ q ∈ lw_privs_3, lw_okq q := List.forall_mem_cons.mpr ⟨lw_p32, List.forall_mem_cons.mpr ⟨lw_p33, List.forall_mem_cons.mpr ⟨lw_p34, List.forall_mem_cons.mpr ⟨lw_p35, List.forall_mem_cons.mpr ⟨lw_p36, List.forall_mem_cons.mpr ⟨lw_p37, fun _ h => absurd h List.not_mem_nil⟩⟩⟩⟩⟩⟩
def lw_privs : List (MethodName × Nat) := lw_privs_1 ++ (lw_privs_2 ++ (lw_privs_3))
def lw_tbl : List Cond := k2_sels lw_privs ++ tables_1
theorem lw_privs_ok : ∀ q ∈ lw_privs, lw_okq q := by
  show ∀ q ∈ lw_privs_1 ++ (lw_privs_2 ++ (lw_privs_3)), lw_okq q
  exact List.forall_mem_append.mpr ⟨lw_r1, List.forall_mem_append.mpr ⟨lw_r2, lw_r3⟩⟩

def RX0 : String := "LearningRepeater$Arrivals"
def TX0 : u_T := fun k => match k with
  | 0 => ("LearningRepeater$Arrivals", "parts", "LLearningRepeater$Row;", true)
  | _ => ("LearningRepeater$Arrivals", "size", "I", false)
def tyX0 : Nat → FieldType := fun k => match k with
  | 0 => .object "LearningRepeater$Row"
  | _ => .int
theorem nmX0 : ∀ a, a < 2 → ∀ b, b < 2 → a ≠ b → (TX0 a).2.1 ≠ (TX0 b).2.1 := by decide +kernel
theorem tyX0_ok : ∀ k, k < 2 → parseFieldDescriptor (TX0 k).2.2.1 = some (tyX0 k) := by decide +kernel
abbrev cX0_init : ByteArray := prog_2_method_1_code
def yX0_init : MethodName := ⟨RX0, "<init>", "()V"⟩
abbrev cX0_append : ByteArray := prog_2_method_2_code
def yX0_append : MethodName := ⟨RX0, "append", "(IIII)V"⟩
abbrev cX0_partOf : ByteArray := prog_2_method_3_code
def yX0_partOf : MethodName := ⟨RX0, "partOf", "(II)I"⟩
def RX1 : String := "LearningRepeater$History"
def TX1 : u_T := fun k => match k with
  | 0 => ("LearningRepeater$History", "states", "[LLearningRepeater$State;", true)
  | 1 => ("LearningRepeater$History", "next", "I", false)
  | _ => ("LearningRepeater$History", "size", "I", false)
def tyX1 : Nat → FieldType := fun k => match k with
  | 0 => .array (.object "LearningRepeater$State")
  | 1 => .int
  | _ => .int
theorem nmX1 : ∀ a, a < 3 → ∀ b, b < 3 → a ≠ b → (TX1 a).2.1 ≠ (TX1 b).2.1 := by decide +kernel
theorem tyX1_ok : ∀ k, k < 3 → parseFieldDescriptor (TX1 k).2.2.1 = some (tyX1 k) := by decide +kernel
abbrev cX1_init : ByteArray := prog_3_method_1_code
def yX1_init : MethodName := ⟨RX1, "<init>", "()V"⟩
abbrev cX1_stateAt : ByteArray := prog_3_method_2_code
def yX1_stateAt : MethodName := ⟨RX1, "stateAt", "(I)LLearningRepeater$State;"⟩
abbrev cX1_record : ByteArray := prog_3_method_3_code
def yX1_record : MethodName := ⟨RX1, "record", "(LLearningRepeater$State;)V"⟩
abbrev cX1_takeBack : ByteArray := prog_3_method_4_code
def yX1_takeBack : MethodName := ⟨RX1, "takeBack", "(LLearningRepeater$State;)Z"⟩
def RX2 : String := "LearningRepeater$Moves"
def TX2 : u_T := fun k => match k with
  | _ => ("LearningRepeater$Moves", "times", "LLearningRepeater$Row;", true)
def tyX2 : Nat → FieldType := fun k => match k with
  | _ => .object "LearningRepeater$Row"
theorem nmX2 : ∀ a, a < 1 → ∀ b, b < 1 → a ≠ b → (TX2 a).2.1 ≠ (TX2 b).2.1 := by decide +kernel
theorem tyX2_ok : ∀ k, k < 1 → parseFieldDescriptor (TX2 k).2.2.1 = some (tyX2 k) := by decide +kernel
abbrev cX2_init : ByteArray := prog_4_method_1_code
def yX2_init : MethodName := ⟨RX2, "<init>", "()V"⟩
abbrev cX2_copyFrom : ByteArray := prog_4_method_2_code
def yX2_copyFrom : MethodName := ⟨RX2, "copyFrom", "(LLearningRepeater$Moves;)V"⟩
abbrev cX2_add : ByteArray := prog_4_method_3_code
def yX2_add : MethodName := ⟨RX2, "add", "(II)V"⟩
abbrev cX2_latelyOf : ByteArray := prog_4_method_4_code
def yX2_latelyOf : MethodName := ⟨RX2, "latelyOf", "(I)I"⟩
abbrev cX2_beginSecond : ByteArray := prog_4_method_5_code
def yX2_beginSecond : MethodName := ⟨RX2, "beginSecond", "(I)V"⟩
def RX3 : String := "LearningRepeater$Ports"
def TX3 : u_T := fun k => match k with
  | 0 => ("LearningRepeater$Ports", "ups", "LLearningRepeater$Row;", true)
  | 1 => ("LearningRepeater$Ports", "lefts", "LLearningRepeater$Row;", true)
  | 2 => ("LearningRepeater$Ports", "reasons", "LLearningRepeater$Row;", true)
  | 3 => ("LearningRepeater$Ports", "farEnds", "LLearningRepeater$Row;", true)
  | 4 => ("LearningRepeater$Ports", "floods", "LLearningRepeater$Row;", true)
  | _ => ("LearningRepeater$Ports", "credits", "LLearningRepeater$Row;", true)
def tyX3 : Nat → FieldType := fun k => match k with
  | 0 => .object "LearningRepeater$Row"
  | 1 => .object "LearningRepeater$Row"
  | 2 => .object "LearningRepeater$Row"
  | 3 => .object "LearningRepeater$Row"
  | 4 => .object "LearningRepeater$Row"
  | _ => .object "LearningRepeater$Row"
theorem nmX3 : ∀ a, a < 6 → ∀ b, b < 6 → a ≠ b → (TX3 a).2.1 ≠ (TX3 b).2.1 := by decide +kernel
theorem tyX3_ok : ∀ k, k < 6 → parseFieldDescriptor (TX3 k).2.2.1 = some (tyX3 k) := by decide +kernel
abbrev cX3_init : ByteArray := prog_5_method_1_code
def yX3_init : MethodName := ⟨RX3, "<init>", "()V"⟩
abbrev cX3_copyFrom : ByteArray := prog_5_method_2_code
def yX3_copyFrom : MethodName := ⟨RX3, "copyFrom", "(LLearningRepeater$Ports;)V"⟩
abbrev cX3_isUp : ByteArray := prog_5_method_3_code
def yX3_isUp : MethodName := ⟨RX3, "isUp", "(I)Z"⟩
abbrev cX3_isOpen : ByteArray := prog_5_method_4_code
def yX3_isOpen : MethodName := ⟨RX3, "isOpen", "(I)Z"⟩
abbrev cX3_turn : ByteArray := prog_5_method_5_code
def yX3_turn : MethodName := ⟨RX3, "turn", "(IZ)V"⟩
abbrev cX3_openOnes : ByteArray := prog_5_method_6_code
def yX3_openOnes : MethodName := ⟨RX3, "openOnes", "()I"⟩
abbrev cX3_secondsLeft : ByteArray := prog_5_method_7_code
def yX3_secondsLeft : MethodName := ⟨RX3, "secondsLeft", "(I)I"⟩
abbrev cX3_beginQuarantine : ByteArray := prog_5_method_8_code
def yX3_beginQuarantine : MethodName := ⟨RX3, "beginQuarantine", "(III)V"⟩
abbrev cX3_endQuarantine : ByteArray := prog_5_method_9_code
def yX3_endQuarantine : MethodName := ⟨RX3, "endQuarantine", "(I)V"⟩
abbrev cX3_quarantined : ByteArray := prog_5_method_10_code
def yX3_quarantined : MethodName := ⟨RX3, "quarantined", "()I"⟩
abbrev cX3_farEnd : ByteArray := prog_5_method_11_code
def yX3_farEnd : MethodName := ⟨RX3, "farEnd", "(I)I"⟩
abbrev cX3_tie : ByteArray := prog_5_method_12_code
def yX3_tie : MethodName := ⟨RX3, "tie", "(II)V"⟩
abbrev cX3_untie : ByteArray := prog_5_method_13_code
def yX3_untie : MethodName := ⟨RX3, "untie", "(II)V"⟩
abbrev cX3_cables : ByteArray := prog_5_method_14_code
def yX3_cables : MethodName := ⟨RX3, "cables", "()I"⟩
abbrev cX3_credit : ByteArray := prog_5_method_15_code
def yX3_credit : MethodName := ⟨RX3, "credit", "(III)V"⟩
abbrev cX3_credited : ByteArray := prog_5_method_16_code
def yX3_credited : MethodName := ⟨RX3, "credited", "(II)I"⟩
abbrev cX3_allCameIn : ByteArray := prog_5_method_17_code
def yX3_allCameIn : MethodName := ⟨RX3, "allCameIn", "()I"⟩
abbrev cX3_endSecond : ByteArray := prog_5_method_18_code
def yX3_endSecond : MethodName := ⟨RX3, "endSecond", "()V"⟩
def RX4 : String := "LearningRepeater$Queues"
def TX4 : u_T := fun k => match k with
  | 0 => ("LearningRepeater$Queues", "sizes", "LLearningRepeater$Row;", true)
  | _ => ("LearningRepeater$Queues", "parts", "LLearningRepeater$Row;", true)
def tyX4 : Nat → FieldType := fun k => match k with
  | 0 => .object "LearningRepeater$Row"
  | _ => .object "LearningRepeater$Row"
theorem nmX4 : ∀ a, a < 2 → ∀ b, b < 2 → a ≠ b → (TX4 a).2.1 ≠ (TX4 b).2.1 := by decide +kernel
theorem tyX4_ok : ∀ k, k < 2 → parseFieldDescriptor (TX4 k).2.2.1 = some (tyX4 k) := by decide +kernel
abbrev cX4_init : ByteArray := prog_6_method_1_code
def yX4_init : MethodName := ⟨RX4, "<init>", "()V"⟩
abbrev cX4_copyFrom : ByteArray := prog_6_method_2_code
def yX4_copyFrom : MethodName := ⟨RX4, "copyFrom", "(LLearningRepeater$Queues;)V"⟩
abbrev cX4_cellOf : ByteArray := prog_6_method_3_code
def yX4_cellOf : MethodName := ⟨RX4, "cellOf", "(II)I"⟩
abbrev cX4_partOf : ByteArray := prog_6_method_4_code
def yX4_partOf : MethodName := ⟨RX4, "partOf", "(III)I"⟩
abbrev cX4_isFull : ByteArray := prog_6_method_5_code
def yX4_isFull : MethodName := ⟨RX4, "isFull", "(I)Z"⟩
abbrev cX4_insert : ByteArray := prog_6_method_6_code
def yX4_insert : MethodName := ⟨RX4, "insert", "(IIIII)V"⟩
abbrev cX4_removeFirst : ByteArray := prog_6_method_7_code
def yX4_removeFirst : MethodName := ⟨RX4, "removeFirst", "(II)V"⟩
def RX5 : String := "LearningRepeater$Row"
def TX5 : u_T := fun k => match k with
  | _ => ("LearningRepeater$Row", "cells", "[I", true)
def tyX5 : Nat → FieldType := fun k => match k with
  | _ => .array .int
theorem nmX5 : ∀ a, a < 1 → ∀ b, b < 1 → a ≠ b → (TX5 a).2.1 ≠ (TX5 b).2.1 := by decide +kernel
theorem tyX5_ok : ∀ k, k < 1 → parseFieldDescriptor (TX5 k).2.2.1 = some (tyX5 k) := by decide +kernel
abbrev cX5_init : ByteArray := prog_7_method_1_code
def yX5_init : MethodName := ⟨RX5, "<init>", "(I)V"⟩
abbrev cX5_at : ByteArray := prog_7_method_2_code
def yX5_at : MethodName := ⟨RX5, "at", "(I)I"⟩
abbrev cX5_put : ByteArray := prog_7_method_3_code
def yX5_put : MethodName := ⟨RX5, "put", "(II)V"⟩
abbrev cX5_add : ByteArray := prog_7_method_4_code
def yX5_add : MethodName := ⟨RX5, "add", "(II)V"⟩
abbrev cX5_sum : ByteArray := prog_7_method_5_code
def yX5_sum : MethodName := ⟨RX5, "sum", "()I"⟩
abbrev cX5_fill : ByteArray := prog_7_method_6_code
def yX5_fill : MethodName := ⟨RX5, "fill", "(III)V"⟩
abbrev cX5_slide : ByteArray := prog_7_method_7_code
def yX5_slide : MethodName := ⟨RX5, "slide", "(III)V"⟩
abbrev cX5_fits : ByteArray := prog_7_method_8_code
def yX5_fits : MethodName := ⟨RX5, "fits", "(II)Z"⟩
abbrev cX5_copyFrom : ByteArray := prog_7_method_9_code
def yX5_copyFrom : MethodName := ⟨RX5, "copyFrom", "(LLearningRepeater$Row;)V"⟩
def RX6 : String := "LearningRepeater$State"
def TX6 : u_T := fun k => match k with
  | 0 => ("LearningRepeater$State", "settings", "LLearningRepeater$Row;", true)
  | 1 => ("LearningRepeater$State", "ports", "LLearningRepeater$Ports;", true)
  | 2 => ("LearningRepeater$State", "queues", "LLearningRepeater$Queues;", true)
  | 3 => ("LearningRepeater$State", "table", "LLearningRepeater$Table;", true)
  | 4 => ("LearningRepeater$State", "moves", "LLearningRepeater$Moves;", true)
  | 5 => ("LearningRepeater$State", "clock", "I", false)
  | 6 => ("LearningRepeater$State", "nextNumber", "I", false)
  | _ => ("LearningRepeater$State", "quarantinesBegun", "I", false)
def tyX6 : Nat → FieldType := fun k => match k with
  | 0 => .object "LearningRepeater$Row"
  | 1 => .object "LearningRepeater$Ports"
  | 2 => .object "LearningRepeater$Queues"
  | 3 => .object "LearningRepeater$Table"
  | 4 => .object "LearningRepeater$Moves"
  | 5 => .int
  | 6 => .int
  | _ => .int
theorem nmX6 : ∀ a, a < 8 → ∀ b, b < 8 → a ≠ b → (TX6 a).2.1 ≠ (TX6 b).2.1 := by decide +kernel
theorem tyX6_ok : ∀ k, k < 8 → parseFieldDescriptor (TX6 k).2.2.1 = some (tyX6 k) := by decide +kernel
abbrev cX6_init : ByteArray := prog_8_method_1_code
def yX6_init : MethodName := ⟨RX6, "<init>", "()V"⟩
abbrev cX6_copyFrom : ByteArray := prog_8_method_2_code
def yX6_copyFrom : MethodName := ⟨RX6, "copyFrom", "(LLearningRepeater$State;)V"⟩
abbrev cX6_dropQueue : ByteArray := prog_8_method_3_code
def yX6_dropQueue : MethodName := ⟨RX6, "dropQueue", "(I)V"⟩
abbrev cX6_comeIn : ByteArray := prog_8_method_4_code
def yX6_comeIn : MethodName := ⟨RX6, "comeIn", "(IIII)I"⟩
abbrev cX6_learnAndDecide : ByteArray := prog_8_method_5_code
def yX6_learnAndDecide : MethodName := ⟨RX6, "learnAndDecide", "(III)I"⟩
abbrev cX6_quarantine : ByteArray := prog_8_method_6_code
def yX6_quarantine : MethodName := ⟨RX6, "quarantine", "(II)V"⟩
abbrev cX6_waysOut : ByteArray := prog_8_method_7_code
def yX6_waysOut : MethodName := ⟨RX6, "waysOut", "(III)I"⟩
abbrev cX6_goOut : ByteArray := prog_8_method_8_code
def yX6_goOut : MethodName := ⟨RX6, "goOut", "(IIII)V"⟩
abbrev cX6_accountOf : ByteArray := prog_8_method_9_code
def yX6_accountOf : MethodName := ⟨RX6, "accountOf", "(I)I"⟩
abbrev cX6_letIn : ByteArray := prog_8_method_10_code
def yX6_letIn : MethodName := ⟨RX6, "letIn", "(LLearningRepeater$Arrivals;)I"⟩
abbrev cX6_sendInto : ByteArray := prog_8_method_11_code
def yX6_sendInto : MethodName := ⟨RX6, "sendInto", "(LLearningRepeater$Arrivals;)I"⟩
abbrev cX6_sendFrom : ByteArray := prog_8_method_12_code
def yX6_sendFrom : MethodName := ⟨RX6, "sendFrom", "(ILLearningRepeater$Arrivals;)I"⟩
abbrev cX6_endSecond : ByteArray := prog_8_method_13_code
def yX6_endSecond : MethodName := ⟨RX6, "endSecond", "()V"⟩
def RX7 : String := "LearningRepeater$Table"
def TX7 : u_T := fun k => match k with
  | 0 => ("LearningRepeater$Table", "ports", "LLearningRepeater$Row;", true)
  | 1 => ("LearningRepeater$Table", "times", "LLearningRepeater$Row;", true)
  | _ => ("LearningRepeater$Table", "size", "I", false)
def tyX7 : Nat → FieldType := fun k => match k with
  | 0 => .object "LearningRepeater$Row"
  | 1 => .object "LearningRepeater$Row"
  | _ => .int
theorem nmX7 : ∀ a, a < 3 → ∀ b, b < 3 → a ≠ b → (TX7 a).2.1 ≠ (TX7 b).2.1 := by decide +kernel
theorem tyX7_ok : ∀ k, k < 3 → parseFieldDescriptor (TX7 k).2.2.1 = some (tyX7 k) := by decide +kernel
abbrev cX7_init : ByteArray := prog_9_method_1_code
def yX7_init : MethodName := ⟨RX7, "<init>", "()V"⟩
abbrev cX7_copyFrom : ByteArray := prog_9_method_2_code
def yX7_copyFrom : MethodName := ⟨RX7, "copyFrom", "(LLearningRepeater$Table;)V"⟩
abbrev cX7_portOf : ByteArray := prog_9_method_3_code
def yX7_portOf : MethodName := ⟨RX7, "portOf", "(I)I"⟩
abbrev cX7_learn : ByteArray := prog_9_method_4_code
def yX7_learn : MethodName := ⟨RX7, "learn", "(III)V"⟩
abbrev cX7_remove : ByteArray := prog_9_method_5_code
def yX7_remove : MethodName := ⟨RX7, "remove", "(I)V"⟩
abbrev cX7_oldest : ByteArray := prog_9_method_6_code
def yX7_oldest : MethodName := ⟨RX7, "oldest", "()I"⟩
abbrev cX7_removeAllWith : ByteArray := prog_9_method_7_code
def yX7_removeAllWith : MethodName := ⟨RX7, "removeAllWith", "(I)V"⟩
abbrev cX7_removeUntil : ByteArray := prog_9_method_8_code
def yX7_removeUntil : MethodName := ⟨RX7, "removeUntil", "(I)V"⟩
abbrev cX7_entriesWith : ByteArray := prog_9_method_9_code
def yX7_entriesWith : MethodName := ⟨RX7, "entriesWith", "(I)I"⟩
abbrev cX7_addressOf : ByteArray := prog_9_method_10_code
def yX7_addressOf : MethodName := ⟨RX7, "addressOf", "(I)I"⟩
def RX8 : String := "LearningRepeater$Text"
def TX8 : u_T := fun k => match k with
  | 0 => ("LearningRepeater$Text", "signs", "[C", true)
  | 1 => ("LearningRepeater$Text", "length", "I", false)
  | _ => ("LearningRepeater$Text", "place", "I", false)
def tyX8 : Nat → FieldType := fun k => match k with
  | 0 => .array .char
  | 1 => .int
  | _ => .int
theorem nmX8 : ∀ a, a < 3 → ∀ b, b < 3 → a ≠ b → (TX8 a).2.1 ≠ (TX8 b).2.1 := by decide +kernel
theorem tyX8_ok : ∀ k, k < 3 → parseFieldDescriptor (TX8 k).2.2.1 = some (tyX8 k) := by decide +kernel
abbrev cX8_init : ByteArray := prog_10_method_1_code
def yX8_init : MethodName := ⟨RX8, "<init>", "()V"⟩
abbrev cX8_append : ByteArray := prog_10_method_2_code
def yX8_append : MethodName := ⟨RX8, "append", "(C)Z"⟩
abbrev cX8_readInto : ByteArray := prog_10_method_3_code
def yX8_readInto : MethodName := ⟨RX8, "readInto", "(LLearningRepeater$Arrivals;)I"⟩
abbrev cX8_readFrame : ByteArray := prog_10_method_4_code
def yX8_readFrame : MethodName := ⟨RX8, "readFrame", "(LLearningRepeater$Arrivals;)Z"⟩
abbrev cX8_readAddress : ByteArray := prog_10_method_5_code
def yX8_readAddress : MethodName := ⟨RX8, "readAddress", "()I"⟩
abbrev cX8_readDigit : ByteArray := prog_10_method_6_code
def yX8_readDigit : MethodName := ⟨RX8, "readDigit", "(II)I"⟩
abbrev cX8_skip : ByteArray := prog_10_method_7_code
def yX8_skip : MethodName := ⟨RX8, "skip", "(C)Z"⟩
abbrev cX8_signAt : ByteArray := prog_10_method_8_code
def yX8_signAt : MethodName := ⟨RX8, "signAt", "(I)I"⟩
def RX9 : String := "LearningRepeater"
def TX9 : u_T := fun k => match k with
  | 0 => ("LearningRepeater", "present", "LLearningRepeater$State;", true)
  | 1 => ("LearningRepeater", "snapshot", "LLearningRepeater$State;", true)
  | 2 => ("LearningRepeater", "imagined", "LLearningRepeater$State;", true)
  | 3 => ("LearningRepeater", "history", "LLearningRepeater$History;", true)
  | 4 => ("LearningRepeater", "text", "LLearningRepeater$Text;", true)
  | 5 => ("LearningRepeater", "arrivals", "LLearningRepeater$Arrivals;", true)
  | _ => ("LearningRepeater", "hasSnapshot", "Z", false)
def tyX9 : Nat → FieldType := fun k => match k with
  | 0 => .object "LearningRepeater$State"
  | 1 => .object "LearningRepeater$State"
  | 2 => .object "LearningRepeater$State"
  | 3 => .object "LearningRepeater$History"
  | 4 => .object "LearningRepeater$Text"
  | 5 => .object "LearningRepeater$Arrivals"
  | _ => .boolean
theorem nmX9 : ∀ a, a < 7 → ∀ b, b < 7 → a ≠ b → (TX9 a).2.1 ≠ (TX9 b).2.1 := by decide +kernel
theorem tyX9_ok : ∀ k, k < 7 → parseFieldDescriptor (TX9 k).2.2.1 = some (tyX9 k) := by decide +kernel
abbrev cX9_init : ByteArray := prog_1_method_1_code
def yX9_init : MethodName := ⟨RX9, "<init>", "()V"⟩
abbrev cX9_setPort : ByteArray := prog_1_method_2_code
def yX9_setPort : MethodName := ⟨RX9, "setPort", "(IZ)I"⟩
abbrev cX9_join : ByteArray := prog_1_method_3_code
def yX9_join : MethodName := ⟨RX9, "join", "(II)I"⟩
abbrev cX9_part : ByteArray := prog_1_method_4_code
def yX9_part : MethodName := ⟨RX9, "part", "(I)I"⟩
abbrev cX9_release : ByteArray := prog_1_method_5_code
def yX9_release : MethodName := ⟨RX9, "release", "(I)I"⟩
abbrev cX9_set : ByteArray := prog_1_method_6_code
def yX9_set : MethodName := ⟨RX9, "set", "(II)I"⟩
abbrev cX9_frame : ByteArray := prog_1_method_7_code
def yX9_frame : MethodName := ⟨RX9, "frame", "(IIII)I"⟩
abbrev cX9_forget : ByteArray := prog_1_method_8_code
def yX9_forget : MethodName := ⟨RX9, "forget", "(I)I"⟩
abbrev cX9_pass : ByteArray := prog_1_method_9_code
def yX9_pass : MethodName := ⟨RX9, "pass", "(I)I"⟩
abbrev cX9_type : ByteArray := prog_1_method_10_code
def yX9_type : MethodName := ⟨RX9, "type", "(C)I"⟩
abbrev cX9_clearText : ByteArray := prog_1_method_11_code
def yX9_clearText : MethodName := ⟨RX9, "clearText", "()I"⟩
abbrev cX9_readFrames : ByteArray := prog_1_method_12_code
def yX9_readFrames : MethodName := ⟨RX9, "readFrames", "()I"⟩
abbrev cX9_undo : ByteArray := prog_1_method_13_code
def yX9_undo : MethodName := ⟨RX9, "undo", "()I"⟩
abbrev cX9_keep : ByteArray := prog_1_method_14_code
def yX9_keep : MethodName := ⟨RX9, "keep", "()I"⟩
abbrev cX9_restore : ByteArray := prog_1_method_15_code
def yX9_restore : MethodName := ⟨RX9, "restore", "()I"⟩
abbrev cX9_port : ByteArray := prog_1_method_16_code
def yX9_port : MethodName := ⟨RX9, "port", "(II)I"⟩
abbrev cX9_account : ByteArray := prog_1_method_17_code
def yX9_account : MethodName := ⟨RX9, "account", "(II)I"⟩
abbrev cX9_entry : ByteArray := prog_1_method_18_code
def yX9_entry : MethodName := ⟨RX9, "entry", "(II)I"⟩
abbrev cX9_where : ByteArray := prog_1_method_19_code
def yX9_where : MethodName := ⟨RX9, "where", "(I)I"⟩
abbrev cX9_queued : ByteArray := prog_1_method_20_code
def yX9_queued : MethodName := ⟨RX9, "queued", "(III)I"⟩
abbrev cX9_wouldGo : ByteArray := prog_1_method_21_code
def yX9_wouldGo : MethodName := ⟨RX9, "wouldGo", "(III)I"⟩
abbrev cX9_loops : ByteArray := prog_1_method_22_code
def yX9_loops : MethodName := ⟨RX9, "loops", "()I"⟩
abbrev cX9_count : ByteArray := prog_1_method_23_code
def yX9_count : MethodName := ⟨RX9, "count", "(I)I"⟩
abbrev cX9_isPort : ByteArray := prog_1_method_24_code
def yX9_isPort : MethodName := ⟨RX9, "isPort", "(I)Z"⟩
abbrev cX9_isAddress : ByteArray := prog_1_method_25_code
def yX9_isAddress : MethodName := ⟨RX9, "isAddress", "(I)Z"⟩
abbrev cX9_isDestination : ByteArray := prog_1_method_26_code
def yX9_isDestination : MethodName := ⟨RX9, "isDestination", "(I)Z"⟩
abbrev cX9_isSetting : ByteArray := prog_1_method_27_code
def yX9_isSetting : MethodName := ⟨RX9, "isSetting", "(I)Z"⟩
def RX10 : String := "LearningRepeaterModel"
def TX10 : u_T := fun k => match k with
  | 0 => ("LearningRepeaterModel", "now", "[I", true)
  | 1 => ("LearningRepeaterModel", "history", "[I", true)
  | 2 => ("LearningRepeaterModel", "kept", "I", false)
  | 3 => ("LearningRepeaterModel", "slot", "[I", true)
  | 4 => ("LearningRepeaterModel", "isFilled", "Z", false)
  | 5 => ("LearningRepeaterModel", "spare", "[I", true)
  | 6 => ("LearningRepeaterModel", "outs", "I", false)
  | 7 => ("LearningRepeaterModel", "onWay", "I", false)
  | 8 => ("LearningRepeaterModel", "way", "[I", true)
  | 9 => ("LearningRepeaterModel", "typed", "I", false)
  | 10 => ("LearningRepeaterModel", "text", "[C", true)
  | 11 => ("LearningRepeaterModel", "at", "I", false)
  | 12 => ("LearningRepeaterModel", "readMany", "I", false)
  | _ => ("LearningRepeaterModel", "readFrame", "[I", true)
def tyX10 : Nat → FieldType := fun k => match k with
  | 0 => .array .int
  | 1 => .array .int
  | 2 => .int
  | 3 => .array .int
  | 4 => .boolean
  | 5 => .array .int
  | 6 => .int
  | 7 => .int
  | 8 => .array .int
  | 9 => .int
  | 10 => .array .char
  | 11 => .int
  | 12 => .int
  | _ => .array .int
theorem nmX10 : ∀ a, a < 14 → ∀ b, b < 14 → a ≠ b → (TX10 a).2.1 ≠ (TX10 b).2.1 := by decide +kernel
theorem tyX10_ok : ∀ k, k < 14 → parseFieldDescriptor (TX10 k).2.2.1 = some (tyX10 k) := by decide +kernel
abbrev cX10_init : ByteArray := prog_12_method_1_code
def yX10_init : MethodName := ⟨RX10, "<init>", "()V"⟩
abbrev cX10_in : ByteArray := prog_12_method_2_code
def yX10_in : MethodName := ⟨RX10, "in", "(III)Z"⟩
abbrev cX10_noPort : ByteArray := prog_12_method_3_code
def yX10_noPort : MethodName := ⟨RX10, "noPort", "(I)Z"⟩
abbrev cX10_noAddress : ByteArray := prog_12_method_4_code
def yX10_noAddress : MethodName := ⟨RX10, "noAddress", "(I)Z"⟩
abbrev cX10_of : ByteArray := prog_12_method_5_code
def yX10_of : MethodName := ⟨RX10, "of", "(II)I"⟩
abbrev cX10_to : ByteArray := prog_12_method_6_code
def yX10_to : MethodName := ⟨RX10, "to", "(III)V"⟩
abbrev cX10_more : ByteArray := prog_12_method_7_code
def yX10_more : MethodName := ⟨RX10, "more", "(II)V"⟩
abbrev cX10_record : ByteArray := prog_12_method_8_code
def yX10_record : MethodName := ⟨RX10, "record", "()V"⟩
abbrev cX10_isOpen : ByteArray := prog_12_method_9_code
def yX10_isOpen : MethodName := ⟨RX10, "isOpen", "(I)Z"⟩
abbrev cX10_openPorts : ByteArray := prog_12_method_10_code
def yX10_openPorts : MethodName := ⟨RX10, "openPorts", "()I"⟩
abbrev cX10_removeEntries : ByteArray := prog_12_method_11_code
def yX10_removeEntries : MethodName := ⟨RX10, "removeEntries", "(I)V"⟩
abbrev cX10_setPort : ByteArray := prog_12_method_12_code
def yX10_setPort : MethodName := ⟨RX10, "setPort", "(IZ)I"⟩
abbrev cX10_cables : ByteArray := prog_12_method_13_code
def yX10_cables : MethodName := ⟨RX10, "cables", "()I"⟩
abbrev cX10_join : ByteArray := prog_12_method_14_code
def yX10_join : MethodName := ⟨RX10, "join", "(II)I"⟩
abbrev cX10_part : ByteArray := prog_12_method_15_code
def yX10_part : MethodName := ⟨RX10, "part", "(I)I"⟩
abbrev cX10_holdLeft : ByteArray := prog_12_method_16_code
def yX10_holdLeft : MethodName := ⟨RX10, "holdLeft", "(I)I"⟩
abbrev cX10_release : ByteArray := prog_12_method_17_code
def yX10_release : MethodName := ⟨RX10, "release", "(I)I"⟩
abbrev cX10_mostOf : ByteArray := prog_12_method_18_code
def yX10_mostOf : MethodName := ⟨RX10, "mostOf", "(I)I"⟩
abbrev cX10_set : ByteArray := prog_12_method_19_code
def yX10_set : MethodName := ⟨RX10, "set", "(II)I"⟩
abbrev cX10_entries : ByteArray := prog_12_method_20_code
def yX10_entries : MethodName := ⟨RX10, "entries", "()I"⟩
abbrev cX10_movesOf : ByteArray := prog_12_method_21_code
def yX10_movesOf : MethodName := ⟨RX10, "movesOf", "(I)I"⟩
abbrev cX10_removeOldest : ByteArray := prog_12_method_22_code
def yX10_removeOldest : MethodName := ⟨RX10, "removeOldest", "()V"⟩
abbrev cX10_quarantine : ByteArray := prog_12_method_23_code
def yX10_quarantine : MethodName := ⟨RX10, "quarantine", "(II)V"⟩
abbrev cX10_queueCell : ByteArray := prog_12_method_24_code
def yX10_queueCell : MethodName := ⟨RX10, "queueCell", "(II)I"⟩
abbrev cX10_goesOut : ByteArray := prog_12_method_25_code
def yX10_goesOut : MethodName := ⟨RX10, "goesOut", "(IIII)V"⟩
abbrev cX10_comesIn : ByteArray := prog_12_method_26_code
def yX10_comesIn : MethodName := ⟨RX10, "comesIn", "(IIII)I"⟩
abbrev cX10_becomes : ByteArray := prog_12_method_27_code
def yX10_becomes : MethodName := ⟨RX10, "becomes", "(IIII)I"⟩
abbrev cX10_frame : ByteArray := prog_12_method_28_code
def yX10_frame : MethodName := ⟨RX10, "frame", "(IIII)I"⟩
abbrev cX10_forget : ByteArray := prog_12_method_29_code
def yX10_forget : MethodName := ⟨RX10, "forget", "(I)I"⟩
abbrev cX10_wouldGo : ByteArray := prog_12_method_30_code
def yX10_wouldGo : MethodName := ⟨RX10, "wouldGo", "(III)I"⟩
abbrev cX10_atPlace : ByteArray := prog_12_method_31_code
def yX10_atPlace : MethodName := ⟨RX10, "atPlace", "(II)I"⟩
abbrev cX10_sends : ByteArray := prog_12_method_32_code
def yX10_sends : MethodName := ⟨RX10, "sends", "(I)V"⟩
abbrev cX10_goesOn : ByteArray := prog_12_method_33_code
def yX10_goesOn : MethodName := ⟨RX10, "goesOn", "()I"⟩
abbrev cX10_pass : ByteArray := prog_12_method_34_code
def yX10_pass : MethodName := ⟨RX10, "pass", "(I)I"⟩
abbrev cX10_type : ByteArray := prog_12_method_35_code
def yX10_type : MethodName := ⟨RX10, "type", "(C)I"⟩
abbrev cX10_clearText : ByteArray := prog_12_method_36_code
def yX10_clearText : MethodName := ⟨RX10, "clearText", "()I"⟩
abbrev cX10_takes : ByteArray := prog_12_method_37_code
def yX10_takes : MethodName := ⟨RX10, "takes", "(C)Z"⟩
abbrev cX10_digit : ByteArray := prog_12_method_38_code
def yX10_digit : MethodName := ⟨RX10, "digit", "(II)I"⟩
abbrev cX10_address : ByteArray := prog_12_method_39_code
def yX10_address : MethodName := ⟨RX10, "address", "()I"⟩
abbrev cX10_readsFrame : ByteArray := prog_12_method_40_code
def yX10_readsFrame : MethodName := ⟨RX10, "readsFrame", "()Z"⟩
abbrev cX10_readFrames : ByteArray := prog_12_method_41_code
def yX10_readFrames : MethodName := ⟨RX10, "readFrames", "()I"⟩
abbrev cX10_undo : ByteArray := prog_12_method_42_code
def yX10_undo : MethodName := ⟨RX10, "undo", "()I"⟩
abbrev cX10_keep : ByteArray := prog_12_method_43_code
def yX10_keep : MethodName := ⟨RX10, "keep", "()I"⟩
abbrev cX10_restore : ByteArray := prog_12_method_44_code
def yX10_restore : MethodName := ⟨RX10, "restore", "()I"⟩
abbrev cX10_entriesWith : ByteArray := prog_12_method_45_code
def yX10_entriesWith : MethodName := ⟨RX10, "entriesWith", "(I)I"⟩
abbrev cX10_port : ByteArray := prog_12_method_46_code
def yX10_port : MethodName := ⟨RX10, "port", "(II)I"⟩
abbrev cX10_account : ByteArray := prog_12_method_47_code
def yX10_account : MethodName := ⟨RX10, "account", "(II)I"⟩
abbrev cX10_entry : ByteArray := prog_12_method_48_code
def yX10_entry : MethodName := ⟨RX10, "entry", "(II)I"⟩
abbrev cX10_where : ByteArray := prog_12_method_49_code
def yX10_where : MethodName := ⟨RX10, "where", "(I)I"⟩
abbrev cX10_queued : ByteArray := prog_12_method_50_code
def yX10_queued : MethodName := ⟨RX10, "queued", "(III)I"⟩
abbrev cX10_loops : ByteArray := prog_12_method_51_code
def yX10_loops : MethodName := ⟨RX10, "loops", "()I"⟩
abbrev cX10_inAll : ByteArray := prog_12_method_52_code
def yX10_inAll : MethodName := ⟨RX10, "inAll", "(I)I"⟩
abbrev cX10_held : ByteArray := prog_12_method_53_code
def yX10_held : MethodName := ⟨RX10, "held", "()I"⟩
abbrev cX10_count : ByteArray := prog_12_method_54_code
def yX10_count : MethodName := ⟨RX10, "count", "(I)I"⟩
def RJ6 : String := "java/lang/Integer"
def TJ6 : u_T := fun k => match k with
  | _ => ("", "", "", false)
def tyJ6 : Nat → FieldType := fun k => match k with
  | _ => .int
abbrev cJ6_bitCount_0f7a4 : ByteArray := prog_13_method_49_code
def yJ6_bitCount_0f7a4 : MethodName := ⟨RJ6, "bitCount", "(I)I"⟩
def RJ9 : String := "java/lang/Math"
def TJ9 : u_T := fun k => match k with
  | _ => ("", "", "", false)
def tyJ9 : Nat → FieldType := fun k => match k with
  | _ => .int
abbrev cJ9_max_7cf53 : ByteArray := prog_14_method_65_code
def yJ9_max_7cf53 : MethodName := ⟨RJ9, "max", "(II)I"⟩
abbrev cJ9_min_7cf53 : ByteArray := prog_14_method_69_code
def yJ9_min_7cf53 : MethodName := ⟨RJ9, "min", "(II)I"⟩
def RJ10 : String := "java/lang/System"
def TJ10 : u_T := fun k => match k with
  | _ => ("", "", "", false)
def tyJ10 : Nat → FieldType := fun k => match k with
  | _ => .int
def RJ7 : String := "java/util/Arrays"
def TJ7 : u_T := fun k => match k with
  | _ => ("", "", "", false)
def tyJ7 : Nat → FieldType := fun k => match k with
  | _ => .int
abbrev cJ7_rangeCheck_23922 : ByteArray := prog_16_method_30_code
def yJ7_rangeCheck_23922 : MethodName := ⟨RJ7, "rangeCheck", "(III)V"⟩
abbrev cJ7_fill_fda19 : ByteArray := prog_16_method_104_code
def yJ7_fill_fda19 : MethodName := ⟨RJ7, "fill", "([IIII)V"⟩
def RL : String := "LearningRepeaterLaw"
abbrev cL_law : ByteArray := code
def yL_law : MethodName := ⟨RL, "law", "([I)Z"⟩
abbrev vwCl : List vw_C := [(RX0, TX0, 2), (RX1, TX1, 3), (RX2, TX2, 1), (RX3, TX3, 6), (RX4, TX4, 2), (RX5, TX5, 1), (RX6, TX6, 8), (RX7, TX7, 3), (RX8, TX8, 3), (RX9, TX9, 7), (RX10, TX10, 14)]
end
section
def gtbl : List Cond := lw_tbl.filter goodWord
theorem gt_of {w : Cond} (i : Nat) (h : tables_1[i]? = some w) (hg : goodWord w = true) : w ∈ gtbl := List.mem_filter.mpr ⟨List.mem_append_right _ (List.mem_of_getElem? h), hg⟩
theorem gt_pr {w : Cond} (i : Nat) (h : (k2_sels lw_privs)[i]? = some w) (hg : goodWord w = true) : w ∈ gtbl := List.mem_filter.mpr ⟨List.mem_append_left _ (List.mem_of_getElem? h), hg⟩
theorem gt_all {ws : List Cond} (h : ws.all (fun w => decide (w ∈ tables_1)) = true) (hg : ws.all goodWord = true) : ∀ w ∈ ws, w ∈ gtbl := fun w hw => List.mem_filter.mpr ⟨List.mem_append_right _ (of_decide_eq_true (List.all_eq_true.mp h w hw)), List.all_eq_true.mp hg w hw⟩
theorem gt_good : ∀ w ∈ gtbl, goodWord w = true := fun _ h => (List.mem_filter.mp h).2
theorem gt_tbl {args : Array Value} {s : State} (h : ∀ w ∈ lw_tbl, w.before args s = true) : ∀ w ∈ gtbl, w.before args s = true := fun w hw => h w (List.mem_filter.mp hw).1
/-- links between nest mates: fields, methods -/
def nestF : List (String × Nat × String × String × String × String) := [(RX6, 11, "LearningRepeater", "FIRST_SETTINGS", "[I", "LearningRepeater"), (RX9, 179, "LearningRepeater$Ports", "reasons", "LLearningRepeater$Row;", "LearningRepeater"), (RX6, 129, "LearningRepeater$Ports", "floods", "LLearningRepeater$Row;", "LearningRepeater"), (RX9, 194, "LearningRepeater$Ports", "floods", "LLearningRepeater$Row;", "LearningRepeater"), (RX6, 82, "LearningRepeater$Queues", "sizes", "LLearningRepeater$Row;", "LearningRepeater"), (RX9, 186, "LearningRepeater$Queues", "sizes", "LLearningRepeater$Row;", "LearningRepeater"), (RX9, 205, "LearningRepeater$Table", "times", "LLearningRepeater$Row;", "LearningRepeater"), (RX9, 201, "LearningRepeater$Table", "size", "I", "LearningRepeater"), (RX9, 104, "LearningRepeater$State", "settings", "LLearningRepeater$Row;", "LearningRepeater"), (RX9, 47, "LearningRepeater$State", "ports", "LLearningRepeater$Ports;", "LearningRepeater"), (RX9, 182, "LearningRepeater$State", "queues", "LLearningRepeater$Queues;", "LearningRepeater"), (RX9, 126, "LearningRepeater$State", "table", "LLearningRepeater$Table;", "LearningRepeater"), (RX9, 208, "LearningRepeater$State", "moves", "LLearningRepeater$Moves;", "LearningRepeater"), (RX9, 173, "LearningRepeater$State", "clock", "I", "LearningRepeater"), (RX9, 239, "LearningRepeater$State", "nextNumber", "I", "LearningRepeater"), (RX9, 236, "LearningRepeater$State", "quarantinesBegun", "I", "LearningRepeater"), (RX9, 163, "LearningRepeater$History", "size", "I", "LearningRepeater"), (RX9, 152, "LearningRepeater$Text", "length", "I", "LearningRepeater"), (RX8, 19, "LearningRepeater$Arrivals", "size", "I", "LearningRepeater"), (RX6, 150, "LearningRepeater$Arrivals", "size", "I", "LearningRepeater")]
def nestM : List (String × Nat × MethodName × String) := [(RX6, 33, yX4_init, "LearningRepeater"), (RX6, 47, yX2_init, "LearningRepeater"), (RX9, 31, yX8_init, "LearningRepeater"), (RX9, 38, yX0_init, "LearningRepeater")]
theorem nestF_in : ∀ q ∈ nestF, Cond.fieldLinkNest q.1 q.2.1 q.2.2.1 q.2.2.2.1 q.2.2.2.2.1 q.2.2.2.2.2 ∈ tables_1 := by decide +kernel
theorem nestM_in : ∀ q ∈ nestM, Cond.methodLinkNest q.1 q.2.1 q.2.2.1 q.2.2.2 ∈ tables_1 := by decide +kernel
theorem kI_RL : Cond.initialized RL ∈ gtbl := gt_of 0 (by decide +kernel) rfl
theorem kI_RX9 : Cond.initialized RX9 ∈ gtbl := gt_of 1 (by decide +kernel) rfl
theorem kI_RX6 : Cond.initialized RX6 ∈ gtbl := gt_of 2 (by decide +kernel) rfl
theorem kI_RX5 : Cond.initialized RX5 ∈ gtbl := gt_of 3 (by decide +kernel) rfl
theorem kI_RJ9 : Cond.initialized RJ9 ∈ gtbl := gt_of 4 (by decide +kernel) rfl
theorem kI_RX3 : Cond.initialized RX3 ∈ gtbl := gt_of 5 (by decide +kernel) rfl
theorem kI_RJ7 : Cond.initialized RJ7 ∈ gtbl := gt_of 6 (by decide +kernel) rfl
theorem kI_RX4 : Cond.initialized RX4 ∈ gtbl := gt_of 7 (by decide +kernel) rfl
theorem kI_RX7 : Cond.initialized RX7 ∈ gtbl := gt_of 8 (by decide +kernel) rfl
theorem kI_RX2 : Cond.initialized RX2 ∈ gtbl := gt_of 9 (by decide +kernel) rfl
theorem kI_RX1 : Cond.initialized RX1 ∈ gtbl := gt_of 10 (by decide +kernel) rfl
theorem kI_RX8 : Cond.initialized RX8 ∈ gtbl := gt_of 11 (by decide +kernel) rfl
theorem kI_RX0 : Cond.initialized RX0 ∈ gtbl := gt_of 12 (by decide +kernel) rfl
theorem kI_RX10 : Cond.initialized RX10 ∈ gtbl := gt_of 13 (by decide +kernel) rfl
theorem kI_RJ10 : Cond.initialized RJ10 ∈ gtbl := gt_of 14 (by decide +kernel) rfl
theorem kI_RJ6 : Cond.initialized RJ6 ∈ gtbl := gt_of 15 (by decide +kernel) rfl
theorem kL_RL_7 : Cond.classLink RL 7 RX9 ∈ gtbl := gt_of 16 (by decide +kernel) rfl
theorem kA_RX9 : Cond.instantiable RX9 7 ∈ gtbl := gt_of 17 (by decide +kernel) rfl
theorem kM_RL_9 : Cond.methodLink RL 9 yX9_init ∈ gtbl := gt_of 18 (by decide +kernel) rfl
theorem kY_yX9_init : Cond.instanceMethod yX9_init ∈ gtbl := gt_of 19 (by decide +kernel) rfl
theorem kC_yX9_init : Cond.code yX9_init cX9_init 1 none ∈ gtbl := gt_of 20 (by decide +kernel) rfl
theorem kM_RX9_1 : Cond.methodLink RX9 1 objectInit ∈ gtbl := gt_of 21 (by decide +kernel) rfl
theorem kY_objectInit : Cond.instanceMethod objectInit ∈ gtbl := gt_of 22 (by decide +kernel) rfl
theorem kC_objectInit : Cond.code objectInit ⟨#[0xb1]⟩ 1 none ∈ gtbl := gt_of 23 (by decide +kernel) rfl
theorem kL_RX9_7 : Cond.classLink RX9 7 RX6 ∈ gtbl := gt_of 24 (by decide +kernel) rfl
theorem kA_RX6 : Cond.instantiable RX6 8 ∈ gtbl := gt_of 25 (by decide +kernel) rfl
theorem kM_RX9_9 : Cond.methodLink RX9 9 yX6_init ∈ gtbl := gt_of 26 (by decide +kernel) rfl
theorem kY_yX6_init : Cond.instanceMethod yX6_init ∈ gtbl := gt_of 27 (by decide +kernel) rfl
theorem kC_yX6_init : Cond.code yX6_init cX6_init 2 none ∈ gtbl := gt_of 28 (by decide +kernel) rfl
theorem kM_RX6_3 : Cond.methodLink RX6 3 objectInit ∈ gtbl := gt_of 29 (by decide +kernel) rfl
theorem kL_RX6_9 : Cond.classLink RX6 9 RX5 ∈ gtbl := gt_of 30 (by decide +kernel) rfl
theorem kA_RX5 : Cond.instantiable RX5 1 ∈ gtbl := gt_of 31 (by decide +kernel) rfl
theorem kZ_0 : Cond.laysStatic "LearningRepeater" "FIRST_SETTINGS" "[I" ∈ lw_tbl := List.mem_append_right _ (List.mem_of_getElem? (i := 33) (by decide +kernel))
theorem kM_RX6_15 : Cond.methodLink RX6 15 yX5_init ∈ gtbl := gt_of 34 (by decide +kernel) rfl
theorem kY_yX5_init : Cond.instanceMethod yX5_init ∈ gtbl := gt_of 35 (by decide +kernel) rfl
theorem kC_yX5_init : Cond.code yX5_init cX5_init 2 none ∈ gtbl := gt_of 36 (by decide +kernel) rfl
theorem kM_RX5_1 : Cond.methodLink RX5 1 objectInit ∈ gtbl := gt_of 37 (by decide +kernel) rfl
theorem kM_RX5_7 : Cond.methodLink RX5 7 Lib.Math.max.name ∈ gtbl := gt_of 38 (by decide +kernel) rfl
theorem kT_mmax : Cond.static Lib.Math.max.name ∈ gtbl := gt_of 39 (by decide +kernel) rfl
theorem kC_mmax : Cond.code Lib.Math.max.name Lib.Math.max.code 2 (some .int) ∈ gtbl := gt_of 40 (by decide +kernel) rfl
theorem kF_RX5_13 : Cond.fieldLink RX5 13 "LearningRepeater$Row" "cells" "[I" ∈ gtbl := gt_of 41 (by decide +kernel) rfl
theorem kZ_1 : Cond.arrayClass FieldType.int ∈ gtbl := gt_of 45 (by decide +kernel) rfl
theorem kL_RX6_24 : Cond.classLink RX6 24 RX3 ∈ gtbl := gt_of 46 (by decide +kernel) rfl
theorem kA_RX3 : Cond.instantiable RX3 6 ∈ gtbl := gt_of 47 (by decide +kernel) rfl
theorem kM_RX6_26 : Cond.methodLink RX6 26 yX3_init ∈ gtbl := gt_of 48 (by decide +kernel) rfl
theorem kY_yX3_init : Cond.instanceMethod yX3_init ∈ gtbl := gt_of 49 (by decide +kernel) rfl
theorem kC_yX3_init : Cond.code yX3_init cX3_init 1 none ∈ gtbl := gt_of 50 (by decide +kernel) rfl
theorem kM_RX3_3 : Cond.methodLink RX3 3 objectInit ∈ gtbl := gt_of 51 (by decide +kernel) rfl
theorem kL_RX3_9 : Cond.classLink RX3 9 RX5 ∈ gtbl := gt_of 52 (by decide +kernel) rfl
theorem kM_RX3_11 : Cond.methodLink RX3 11 yX5_init ∈ gtbl := gt_of 53 (by decide +kernel) rfl
theorem kM_RX3_35 : Cond.methodLink RX3 35 yX5_fill ∈ gtbl := gt_of 54 (by decide +kernel) rfl
theorem kY_yX5_fill : Cond.instanceMethod yX5_fill ∈ gtbl := gt_of 55 (by decide +kernel) rfl
theorem kS_yX5_fill : Cond.selects RX5 yX5_fill yX5_fill ∈ gtbl := gt_of 56 (by decide +kernel) rfl
theorem kC_yX5_fill : Cond.code yX5_fill cX5_fill 4 none ∈ gtbl := gt_of 57 (by decide +kernel) rfl
theorem kM_RX5_19 : Cond.methodLink RX5 19 yX5_fits ∈ gtbl := gt_of 58 (by decide +kernel) rfl
theorem kY_yX5_fits : Cond.instanceMethod yX5_fits ∈ gtbl := gt_of 60 (by decide +kernel) rfl
theorem kC_yX5_fits : Cond.code yX5_fits cX5_fits 3 (some .boolean) ∈ gtbl := gt_of 61 (by decide +kernel) rfl
theorem kM_RX5_23 : Cond.methodLink RX5 23 yJ7_fill_fda19 ∈ gtbl := gt_of 62 (by decide +kernel) rfl
theorem kT_yJ7_fill_fda19 : Cond.static yJ7_fill_fda19 ∈ gtbl := gt_of 63 (by decide +kernel) rfl
theorem kC_yJ7_fill_fda19 : Cond.code yJ7_fill_fda19 cJ7_fill_fda19 5 none ∈ gtbl := gt_of 64 (by decide +kernel) rfl
theorem kM_RJ7_13 : Cond.methodLink RJ7 13 yJ7_rangeCheck_23922 ∈ gtbl := gt_of 65 (by decide +kernel) rfl
theorem kT_yJ7_rangeCheck_23922 : Cond.static yJ7_rangeCheck_23922 ∈ gtbl := gt_of 66 (by decide +kernel) rfl
theorem kC_yJ7_rangeCheck_23922 : Cond.code yJ7_rangeCheck_23922 cJ7_rangeCheck_23922 3 none ∈ gtbl := gt_of 67 (by decide +kernel) rfl
theorem kF_RX3_14 : Cond.fieldLink RX3 14 "LearningRepeater$Ports" "ups" "LLearningRepeater$Row;" ∈ gtbl := gt_of 68 (by decide +kernel) rfl
theorem kF_RX3_20 : Cond.fieldLink RX3 20 "LearningRepeater$Ports" "lefts" "LLearningRepeater$Row;" ∈ gtbl := gt_of 69 (by decide +kernel) rfl
theorem kF_RX3_23 : Cond.fieldLink RX3 23 "LearningRepeater$Ports" "reasons" "LLearningRepeater$Row;" ∈ gtbl := gt_of 70 (by decide +kernel) rfl
theorem kF_RX3_26 : Cond.fieldLink RX3 26 "LearningRepeater$Ports" "farEnds" "LLearningRepeater$Row;" ∈ gtbl := gt_of 72 (by decide +kernel) rfl
theorem kF_RX3_29 : Cond.fieldLink RX3 29 "LearningRepeater$Ports" "floods" "LLearningRepeater$Row;" ∈ gtbl := gt_of 73 (by decide +kernel) rfl
theorem kF_RX3_32 : Cond.fieldLink RX3 32 "LearningRepeater$Ports" "credits" "LLearningRepeater$Row;" ∈ gtbl := gt_of 76 (by decide +kernel) rfl
theorem kL_RX6_31 : Cond.classLink RX6 31 RX4 ∈ gtbl := gt_of 90 (by decide +kernel) rfl
theorem kA_RX4 : Cond.instantiable RX4 2 ∈ gtbl := gt_of 91 (by decide +kernel) rfl
theorem kY_yX4_init : Cond.instanceMethod yX4_init ∈ gtbl := gt_of 93 (by decide +kernel) rfl
theorem kC_yX4_init : Cond.code yX4_init cX4_init 1 none ∈ gtbl := gt_of 94 (by decide +kernel) rfl
theorem kM_RX4_3 : Cond.methodLink RX4 3 objectInit ∈ gtbl := gt_of 95 (by decide +kernel) rfl
theorem kL_RX4_9 : Cond.classLink RX4 9 RX5 ∈ gtbl := gt_of 96 (by decide +kernel) rfl
theorem kM_RX4_11 : Cond.methodLink RX4 11 yX5_init ∈ gtbl := gt_of 97 (by decide +kernel) rfl
theorem kF_RX4_14 : Cond.fieldLink RX4 14 "LearningRepeater$Queues" "sizes" "LLearningRepeater$Row;" ∈ gtbl := gt_of 98 (by decide +kernel) rfl
theorem kF_RX4_20 : Cond.fieldLink RX4 20 "LearningRepeater$Queues" "parts" "LLearningRepeater$Row;" ∈ gtbl := gt_of 101 (by decide +kernel) rfl
theorem kL_RX6_38 : Cond.classLink RX6 38 RX7 ∈ gtbl := gt_of 107 (by decide +kernel) rfl
theorem kA_RX7 : Cond.instantiable RX7 3 ∈ gtbl := gt_of 108 (by decide +kernel) rfl
theorem kM_RX6_40 : Cond.methodLink RX6 40 yX7_init ∈ gtbl := gt_of 109 (by decide +kernel) rfl
theorem kY_yX7_init : Cond.instanceMethod yX7_init ∈ gtbl := gt_of 110 (by decide +kernel) rfl
theorem kC_yX7_init : Cond.code yX7_init cX7_init 1 none ∈ gtbl := gt_of 111 (by decide +kernel) rfl
theorem kM_RX7_3 : Cond.methodLink RX7 3 objectInit ∈ gtbl := gt_of 112 (by decide +kernel) rfl
theorem kL_RX7_9 : Cond.classLink RX7 9 RX5 ∈ gtbl := gt_of 113 (by decide +kernel) rfl
theorem kM_RX7_11 : Cond.methodLink RX7 11 yX5_init ∈ gtbl := gt_of 114 (by decide +kernel) rfl
theorem kM_RX7_23 : Cond.methodLink RX7 23 yX5_fill ∈ gtbl := gt_of 115 (by decide +kernel) rfl
theorem kF_RX7_14 : Cond.fieldLink RX7 14 "LearningRepeater$Table" "ports" "LLearningRepeater$Row;" ∈ gtbl := gt_of 116 (by decide +kernel) rfl
theorem kF_RX7_20 : Cond.fieldLink RX7 20 "LearningRepeater$Table" "times" "LLearningRepeater$Row;" ∈ gtbl := gt_of 117 (by decide +kernel) rfl
theorem kF_RX7_31 : Cond.fieldLink RX7 31 "LearningRepeater$Table" "size" "I" ∈ gtbl := gt_of 119 (by decide +kernel) rfl
theorem kL_RX6_45 : Cond.classLink RX6 45 RX2 ∈ gtbl := gt_of 128 (by decide +kernel) rfl
theorem kA_RX2 : Cond.instantiable RX2 1 ∈ gtbl := gt_of 129 (by decide +kernel) rfl
theorem kY_yX2_init : Cond.instanceMethod yX2_init ∈ gtbl := gt_of 131 (by decide +kernel) rfl
theorem kC_yX2_init : Cond.code yX2_init cX2_init 1 none ∈ gtbl := gt_of 132 (by decide +kernel) rfl
theorem kM_RX2_3 : Cond.methodLink RX2 3 objectInit ∈ gtbl := gt_of 133 (by decide +kernel) rfl
theorem kL_RX2_9 : Cond.classLink RX2 9 RX5 ∈ gtbl := gt_of 134 (by decide +kernel) rfl
theorem kM_RX2_13 : Cond.methodLink RX2 13 yX5_init ∈ gtbl := gt_of 135 (by decide +kernel) rfl
theorem kF_RX2_16 : Cond.fieldLink RX2 16 "LearningRepeater$Moves" "times" "LLearningRepeater$Row;" ∈ gtbl := gt_of 136 (by decide +kernel) rfl
theorem kM_RX6_52 : Cond.methodLink RX6 52 yX5_put ∈ gtbl := gt_of 140 (by decide +kernel) rfl
theorem kY_yX5_put : Cond.instanceMethod yX5_put ∈ gtbl := gt_of 141 (by decide +kernel) rfl
theorem kS_yX5_put : Cond.selects RX5 yX5_put yX5_put ∈ gtbl := gt_of 142 (by decide +kernel) rfl
theorem kC_yX5_put : Cond.code yX5_put cX5_put 3 none ∈ gtbl := gt_of 143 (by decide +kernel) rfl
theorem kF_RX6_18 : Cond.fieldLink RX6 18 "LearningRepeater$State" "settings" "LLearningRepeater$Row;" ∈ gtbl := gt_of 144 (by decide +kernel) rfl
theorem kF_RX6_27 : Cond.fieldLink RX6 27 "LearningRepeater$State" "ports" "LLearningRepeater$Ports;" ∈ gtbl := gt_of 146 (by decide +kernel) rfl
theorem kF_RX6_34 : Cond.fieldLink RX6 34 "LearningRepeater$State" "queues" "LLearningRepeater$Queues;" ∈ gtbl := gt_of 148 (by decide +kernel) rfl
theorem kF_RX6_41 : Cond.fieldLink RX6 41 "LearningRepeater$State" "table" "LLearningRepeater$Table;" ∈ gtbl := gt_of 150 (by decide +kernel) rfl
theorem kF_RX6_48 : Cond.fieldLink RX6 48 "LearningRepeater$State" "moves" "LLearningRepeater$Moves;" ∈ gtbl := gt_of 152 (by decide +kernel) rfl
theorem kF_RX6_72 : Cond.fieldLink RX6 72 "LearningRepeater$State" "clock" "I" ∈ gtbl := gt_of 154 (by decide +kernel) rfl
theorem kF_RX6_76 : Cond.fieldLink RX6 76 "LearningRepeater$State" "nextNumber" "I" ∈ gtbl := gt_of 156 (by decide +kernel) rfl
theorem kF_RX6_79 : Cond.fieldLink RX6 79 "LearningRepeater$State" "quarantinesBegun" "I" ∈ gtbl := gt_of 158 (by decide +kernel) rfl
theorem kL_RX9_22 : Cond.classLink RX9 22 RX1 ∈ gtbl := gt_of 177 (by decide +kernel) rfl
theorem kA_RX1 : Cond.instantiable RX1 3 ∈ gtbl := gt_of 178 (by decide +kernel) rfl
theorem kM_RX9_24 : Cond.methodLink RX9 24 yX1_init ∈ gtbl := gt_of 179 (by decide +kernel) rfl
theorem kY_yX1_init : Cond.instanceMethod yX1_init ∈ gtbl := gt_of 180 (by decide +kernel) rfl
theorem kC_yX1_init : Cond.code yX1_init cX1_init 2 none ∈ gtbl := gt_of 181 (by decide +kernel) rfl
theorem kM_RX1_3 : Cond.methodLink RX1 3 objectInit ∈ gtbl := gt_of 182 (by decide +kernel) rfl
theorem kL_RX1_9 : Cond.classLink RX1 9 RX6 ∈ gtbl := gt_of 183 (by decide +kernel) rfl
theorem kZ_2 : Cond.arrayOver (FieldType.object "LearningRepeater$State") ∈ lw_tbl := List.mem_append_right _ (List.mem_of_getElem? (i := 184) (by decide +kernel))
theorem kM_RX1_17 : Cond.methodLink RX1 17 yX6_init ∈ gtbl := gt_of 185 (by decide +kernel) rfl
theorem kF_RX1_11 : Cond.fieldLink RX1 11 "LearningRepeater$History" "states" "[LLearningRepeater$State;" ∈ gtbl := gt_of 186 (by decide +kernel) rfl
theorem kF_RX1_18 : Cond.fieldLink RX1 18 "LearningRepeater$History" "next" "I" ∈ gtbl := gt_of 187 (by decide +kernel) rfl
theorem kF_RX1_30 : Cond.fieldLink RX1 30 "LearningRepeater$History" "size" "I" ∈ gtbl := gt_of 188 (by decide +kernel) rfl
theorem kL_RX9_29 : Cond.classLink RX9 29 RX8 ∈ gtbl := gt_of 197 (by decide +kernel) rfl
theorem kA_RX8 : Cond.instantiable RX8 3 ∈ gtbl := gt_of 198 (by decide +kernel) rfl
theorem kY_yX8_init : Cond.instanceMethod yX8_init ∈ gtbl := gt_of 200 (by decide +kernel) rfl
theorem kC_yX8_init : Cond.code yX8_init cX8_init 1 none ∈ gtbl := gt_of 201 (by decide +kernel) rfl
theorem kM_RX8_3 : Cond.methodLink RX8 3 objectInit ∈ gtbl := gt_of 202 (by decide +kernel) rfl
theorem kF_RX8_9 : Cond.fieldLink RX8 9 "LearningRepeater$Text" "signs" "[C" ∈ gtbl := gt_of 203 (by decide +kernel) rfl
theorem kF_RX8_15 : Cond.fieldLink RX8 15 "LearningRepeater$Text" "length" "I" ∈ gtbl := gt_of 204 (by decide +kernel) rfl
theorem kF_RX8_24 : Cond.fieldLink RX8 24 "LearningRepeater$Text" "place" "I" ∈ gtbl := gt_of 206 (by decide +kernel) rfl
theorem kZ_3 : Cond.arrayClass FieldType.char ∈ gtbl := gt_of 214 (by decide +kernel) rfl
theorem kL_RX9_36 : Cond.classLink RX9 36 RX0 ∈ gtbl := gt_of 215 (by decide +kernel) rfl
theorem kA_RX0 : Cond.instantiable RX0 2 ∈ gtbl := gt_of 216 (by decide +kernel) rfl
theorem kY_yX0_init : Cond.instanceMethod yX0_init ∈ gtbl := gt_of 218 (by decide +kernel) rfl
theorem kC_yX0_init : Cond.code yX0_init cX0_init 1 none ∈ gtbl := gt_of 219 (by decide +kernel) rfl
theorem kM_RX0_3 : Cond.methodLink RX0 3 objectInit ∈ gtbl := gt_of 220 (by decide +kernel) rfl
theorem kL_RX0_9 : Cond.classLink RX0 9 RX5 ∈ gtbl := gt_of 221 (by decide +kernel) rfl
theorem kM_RX0_13 : Cond.methodLink RX0 13 yX5_init ∈ gtbl := gt_of 222 (by decide +kernel) rfl
theorem kF_RX0_16 : Cond.fieldLink RX0 16 "LearningRepeater$Arrivals" "parts" "LLearningRepeater$Row;" ∈ gtbl := gt_of 223 (by decide +kernel) rfl
theorem kF_RX0_20 : Cond.fieldLink RX0 20 "LearningRepeater$Arrivals" "size" "I" ∈ gtbl := gt_of 224 (by decide +kernel) rfl
theorem kF_RX9_10 : Cond.fieldLink RX9 10 "LearningRepeater" "present" "LLearningRepeater$State;" ∈ gtbl := gt_of 232 (by decide +kernel) rfl
theorem kF_RX9_16 : Cond.fieldLink RX9 16 "LearningRepeater" "snapshot" "LLearningRepeater$State;" ∈ gtbl := gt_of 233 (by decide +kernel) rfl
theorem kF_RX9_19 : Cond.fieldLink RX9 19 "LearningRepeater" "imagined" "LLearningRepeater$State;" ∈ gtbl := gt_of 234 (by decide +kernel) rfl
theorem kF_RX9_25 : Cond.fieldLink RX9 25 "LearningRepeater" "history" "LLearningRepeater$History;" ∈ gtbl := gt_of 235 (by decide +kernel) rfl
theorem kF_RX9_32 : Cond.fieldLink RX9 32 "LearningRepeater" "text" "LLearningRepeater$Text;" ∈ gtbl := gt_of 236 (by decide +kernel) rfl
theorem kF_RX9_39 : Cond.fieldLink RX9 39 "LearningRepeater" "arrivals" "LLearningRepeater$Arrivals;" ∈ gtbl := gt_of 237 (by decide +kernel) rfl
theorem kF_RX9_169 : Cond.fieldLink RX9 169 "LearningRepeater" "hasSnapshot" "Z" ∈ gtbl := gt_of 238 (by decide +kernel) rfl
theorem kM_RL_13 : Cond.methodLink RL 13 yX9_setPort ∈ gtbl := gt_of 254 (by decide +kernel) rfl
theorem kY_yX9_setPort : Cond.instanceMethod yX9_setPort ∈ gtbl := gt_of 255 (by decide +kernel) rfl
theorem kS_yX9_setPort : Cond.selects RX9 yX9_setPort yX9_setPort ∈ gtbl := gt_of 256 (by decide +kernel) rfl
theorem kC_yX9_setPort : Cond.code yX9_setPort cX9_setPort 3 (some .int) ∈ gtbl := gt_of 257 (by decide +kernel) rfl
theorem kM_RX9_43 : Cond.methodLink RX9 43 yX9_isPort ∈ gtbl := gt_of 258 (by decide +kernel) rfl
theorem kT_yX9_isPort : Cond.static yX9_isPort ∈ gtbl := gt_of 259 (by decide +kernel) rfl
theorem kC_yX9_isPort : Cond.code yX9_isPort cX9_isPort 1 (some .boolean) ∈ gtbl := gt_of 260 (by decide +kernel) rfl
theorem kM_RX9_51 : Cond.methodLink RX9 51 yX3_isUp ∈ gtbl := gt_of 261 (by decide +kernel) rfl
theorem kY_yX3_isUp : Cond.instanceMethod yX3_isUp ∈ gtbl := gt_of 262 (by decide +kernel) rfl
theorem kS_yX3_isUp : Cond.selects RX3 yX3_isUp yX3_isUp ∈ gtbl := gt_of 263 (by decide +kernel) rfl
theorem kC_yX3_isUp : Cond.code yX3_isUp cX3_isUp 2 (some .boolean) ∈ gtbl := gt_of 264 (by decide +kernel) rfl
theorem kM_RX3_43 : Cond.methodLink RX3 43 yX5_at ∈ gtbl := gt_of 265 (by decide +kernel) rfl
theorem kY_yX5_at : Cond.instanceMethod yX5_at ∈ gtbl := gt_of 266 (by decide +kernel) rfl
theorem kS_yX5_at : Cond.selects RX5 yX5_at yX5_at ∈ gtbl := gt_of 267 (by decide +kernel) rfl
theorem kC_yX5_at : Cond.code yX5_at cX5_at 2 (some .int) ∈ gtbl := gt_of 268 (by decide +kernel) rfl
theorem kM_RX9_56 : Cond.methodLink RX9 56 yX1_record ∈ gtbl := gt_of 269 (by decide +kernel) rfl
theorem kY_yX1_record : Cond.instanceMethod yX1_record ∈ gtbl := gt_of 270 (by decide +kernel) rfl
theorem kS_yX1_record : Cond.selects RX1 yX1_record yX1_record ∈ gtbl := gt_of 271 (by decide +kernel) rfl
theorem kC_yX1_record : Cond.code yX1_record cX1_record 3 none ∈ gtbl := gt_of 272 (by decide +kernel) rfl
theorem kM_RX1_22 : Cond.methodLink RX1 22 yX1_stateAt ∈ gtbl := gt_of 273 (by decide +kernel) rfl
theorem kY_yX1_stateAt : Cond.instanceMethod yX1_stateAt ∈ gtbl := gt_of 275 (by decide +kernel) rfl
theorem kC_yX1_stateAt : Cond.code yX1_stateAt cX1_stateAt 2 (some (.object "LearningRepeater$State")) ∈ gtbl := gt_of 276 (by decide +kernel) rfl
theorem kM_RX1_26 : Cond.methodLink RX1 26 yX6_copyFrom ∈ gtbl := gt_of 277 (by decide +kernel) rfl
theorem kY_yX6_copyFrom : Cond.instanceMethod yX6_copyFrom ∈ gtbl := gt_of 278 (by decide +kernel) rfl
theorem kS_yX6_copyFrom : Cond.selects RX6 yX6_copyFrom yX6_copyFrom ∈ gtbl := gt_of 279 (by decide +kernel) rfl
theorem kC_yX6_copyFrom : Cond.code yX6_copyFrom cX6_copyFrom 2 none ∈ gtbl := gt_of 280 (by decide +kernel) rfl
theorem kM_RX6_56 : Cond.methodLink RX6 56 yX5_copyFrom ∈ gtbl := gt_of 281 (by decide +kernel) rfl
theorem kY_yX5_copyFrom : Cond.instanceMethod yX5_copyFrom ∈ gtbl := gt_of 282 (by decide +kernel) rfl
theorem kS_yX5_copyFrom : Cond.selects RX5 yX5_copyFrom yX5_copyFrom ∈ gtbl := gt_of 283 (by decide +kernel) rfl
theorem kC_yX5_copyFrom : Cond.code yX5_copyFrom cX5_copyFrom 2 none ∈ gtbl := gt_of 284 (by decide +kernel) rfl
theorem kM_RX5_35 : Cond.methodLink RX5 35 Lib.Math.min.name ∈ gtbl := gt_of 285 (by decide +kernel) rfl
theorem kT_mmin : Cond.static Lib.Math.min.name ∈ gtbl := gt_of 286 (by decide +kernel) rfl
theorem kC_mmin : Cond.code Lib.Math.min.name Lib.Math.min.code 2 (some .int) ∈ gtbl := gt_of 287 (by decide +kernel) rfl
theorem kM_RX5_29 : Cond.methodLink RX5 29 arraycopyName ∈ gtbl := gt_of 288 (by decide +kernel) rfl
theorem kT_arraycopyName : Cond.static arraycopyName ∈ gtbl := gt_of 289 (by decide +kernel) rfl
theorem kN_arraycopyName : Cond.native arraycopyName ∈ gtbl := gt_of 290 (by decide +kernel) rfl
theorem kM_RX6_60 : Cond.methodLink RX6 60 yX3_copyFrom ∈ gtbl := gt_of 291 (by decide +kernel) rfl
theorem kY_yX3_copyFrom : Cond.instanceMethod yX3_copyFrom ∈ gtbl := gt_of 292 (by decide +kernel) rfl
theorem kS_yX3_copyFrom : Cond.selects RX3 yX3_copyFrom yX3_copyFrom ∈ gtbl := gt_of 293 (by decide +kernel) rfl
theorem kC_yX3_copyFrom : Cond.code yX3_copyFrom cX3_copyFrom 2 none ∈ gtbl := gt_of 294 (by decide +kernel) rfl
theorem kM_RX3_39 : Cond.methodLink RX3 39 yX5_copyFrom ∈ gtbl := gt_of 295 (by decide +kernel) rfl
theorem kM_RX6_63 : Cond.methodLink RX6 63 yX4_copyFrom ∈ gtbl := gt_of 296 (by decide +kernel) rfl
theorem kY_yX4_copyFrom : Cond.instanceMethod yX4_copyFrom ∈ gtbl := gt_of 297 (by decide +kernel) rfl
theorem kS_yX4_copyFrom : Cond.selects RX4 yX4_copyFrom yX4_copyFrom ∈ gtbl := gt_of 298 (by decide +kernel) rfl
theorem kC_yX4_copyFrom : Cond.code yX4_copyFrom cX4_copyFrom 2 none ∈ gtbl := gt_of 299 (by decide +kernel) rfl
theorem kM_RX4_23 : Cond.methodLink RX4 23 yX5_copyFrom ∈ gtbl := gt_of 300 (by decide +kernel) rfl
theorem kM_RX6_66 : Cond.methodLink RX6 66 yX7_copyFrom ∈ gtbl := gt_of 301 (by decide +kernel) rfl
theorem kY_yX7_copyFrom : Cond.instanceMethod yX7_copyFrom ∈ gtbl := gt_of 302 (by decide +kernel) rfl
theorem kS_yX7_copyFrom : Cond.selects RX7 yX7_copyFrom yX7_copyFrom ∈ gtbl := gt_of 303 (by decide +kernel) rfl
theorem kC_yX7_copyFrom : Cond.code yX7_copyFrom cX7_copyFrom 2 none ∈ gtbl := gt_of 304 (by decide +kernel) rfl
theorem kM_RX7_27 : Cond.methodLink RX7 27 yX5_copyFrom ∈ gtbl := gt_of 305 (by decide +kernel) rfl
theorem kM_RX6_69 : Cond.methodLink RX6 69 yX2_copyFrom ∈ gtbl := gt_of 306 (by decide +kernel) rfl
theorem kY_yX2_copyFrom : Cond.instanceMethod yX2_copyFrom ∈ gtbl := gt_of 307 (by decide +kernel) rfl
theorem kS_yX2_copyFrom : Cond.selects RX2 yX2_copyFrom yX2_copyFrom ∈ gtbl := gt_of 308 (by decide +kernel) rfl
theorem kC_yX2_copyFrom : Cond.code yX2_copyFrom cX2_copyFrom 2 none ∈ gtbl := gt_of 309 (by decide +kernel) rfl
theorem kM_RX2_20 : Cond.methodLink RX2 20 yX5_copyFrom ∈ gtbl := gt_of 310 (by decide +kernel) rfl
theorem kM_RX1_33 : Cond.methodLink RX1 33 Lib.Math.min.name ∈ gtbl := gt_of 311 (by decide +kernel) rfl
theorem kM_RX9_60 : Cond.methodLink RX9 60 yX3_turn ∈ gtbl := gt_of 312 (by decide +kernel) rfl
theorem kY_yX3_turn : Cond.instanceMethod yX3_turn ∈ gtbl := gt_of 313 (by decide +kernel) rfl
theorem kS_yX3_turn : Cond.selects RX3 yX3_turn yX3_turn ∈ gtbl := gt_of 314 (by decide +kernel) rfl
theorem kC_yX3_turn : Cond.code yX3_turn cX3_turn 3 none ∈ gtbl := gt_of 315 (by decide +kernel) rfl
theorem kM_RX3_47 : Cond.methodLink RX3 47 yX5_put ∈ gtbl := gt_of 316 (by decide +kernel) rfl
theorem kM_RX9_64 : Cond.methodLink RX9 64 yX6_dropQueue ∈ gtbl := gt_of 317 (by decide +kernel) rfl
theorem kY_yX6_dropQueue : Cond.instanceMethod yX6_dropQueue ∈ gtbl := gt_of 318 (by decide +kernel) rfl
theorem kS_yX6_dropQueue : Cond.selects RX6 yX6_dropQueue yX6_dropQueue ∈ gtbl := gt_of 319 (by decide +kernel) rfl
theorem kC_yX6_dropQueue : Cond.code yX6_dropQueue cX6_dropQueue 3 none ∈ gtbl := gt_of 320 (by decide +kernel) rfl
theorem kM_RX6_85 : Cond.methodLink RX6 85 yX5_at ∈ gtbl := gt_of 321 (by decide +kernel) rfl
theorem kM_RX6_89 : Cond.methodLink RX6 89 yX4_removeFirst ∈ gtbl := gt_of 322 (by decide +kernel) rfl
theorem kY_yX4_removeFirst : Cond.instanceMethod yX4_removeFirst ∈ gtbl := gt_of 323 (by decide +kernel) rfl
theorem kS_yX4_removeFirst : Cond.selects RX4 yX4_removeFirst yX4_removeFirst ∈ gtbl := gt_of 324 (by decide +kernel) rfl
theorem kC_yX4_removeFirst : Cond.code yX4_removeFirst cX4_removeFirst 4 none ∈ gtbl := gt_of 325 (by decide +kernel) rfl
theorem kM_RX4_31 : Cond.methodLink RX4 31 yX5_at ∈ gtbl := gt_of 326 (by decide +kernel) rfl
theorem kM_RX4_27 : Cond.methodLink RX4 27 yX4_cellOf ∈ gtbl := gt_of 327 (by decide +kernel) rfl
theorem kT_yX4_cellOf : Cond.static yX4_cellOf ∈ gtbl := gt_of 328 (by decide +kernel) rfl
theorem kC_yX4_cellOf : Cond.code yX4_cellOf cX4_cellOf 2 (some .int) ∈ gtbl := gt_of 329 (by decide +kernel) rfl
theorem kM_RX4_39 : Cond.methodLink RX4 39 yX5_slide ∈ gtbl := gt_of 330 (by decide +kernel) rfl
theorem kY_yX5_slide : Cond.instanceMethod yX5_slide ∈ gtbl := gt_of 331 (by decide +kernel) rfl
theorem kS_yX5_slide : Cond.selects RX5 yX5_slide yX5_slide ∈ gtbl := gt_of 332 (by decide +kernel) rfl
theorem kC_yX5_slide : Cond.code yX5_slide cX5_slide 4 none ∈ gtbl := gt_of 333 (by decide +kernel) rfl
theorem kM_RX4_43 : Cond.methodLink RX4 43 yX5_put ∈ gtbl := gt_of 334 (by decide +kernel) rfl
theorem kM_RX6_92 : Cond.methodLink RX6 92 yX3_credit ∈ gtbl := gt_of 335 (by decide +kernel) rfl
theorem kY_yX3_credit : Cond.instanceMethod yX3_credit ∈ gtbl := gt_of 336 (by decide +kernel) rfl
theorem kS_yX3_credit : Cond.selects RX3 yX3_credit yX3_credit ∈ gtbl := gt_of 337 (by decide +kernel) rfl
theorem kC_yX3_credit : Cond.code yX3_credit cX3_credit 4 none ∈ gtbl := gt_of 338 (by decide +kernel) rfl
theorem kM_RX3_55 : Cond.methodLink RX3 55 yX5_add ∈ gtbl := gt_of 339 (by decide +kernel) rfl
theorem kY_yX5_add : Cond.instanceMethod yX5_add ∈ gtbl := gt_of 340 (by decide +kernel) rfl
theorem kS_yX5_add : Cond.selects RX5 yX5_add yX5_add ∈ gtbl := gt_of 341 (by decide +kernel) rfl
theorem kC_yX5_add : Cond.code yX5_add cX5_add 3 none ∈ gtbl := gt_of 342 (by decide +kernel) rfl
theorem kM_RX9_68 : Cond.methodLink RX9 68 yX3_openOnes ∈ gtbl := gt_of 343 (by decide +kernel) rfl
theorem kY_yX3_openOnes : Cond.instanceMethod yX3_openOnes ∈ gtbl := gt_of 344 (by decide +kernel) rfl
theorem kS_yX3_openOnes : Cond.selects RX3 yX3_openOnes yX3_openOnes ∈ gtbl := gt_of 345 (by decide +kernel) rfl
theorem kC_yX3_openOnes : Cond.code yX3_openOnes cX3_openOnes 3 (some .int) ∈ gtbl := gt_of 346 (by decide +kernel) rfl
theorem kM_RX3_51 : Cond.methodLink RX3 51 yX3_isOpen ∈ gtbl := gt_of 347 (by decide +kernel) rfl
theorem kY_yX3_isOpen : Cond.instanceMethod yX3_isOpen ∈ gtbl := gt_of 348 (by decide +kernel) rfl
theorem kS_yX3_isOpen : Cond.selects RX3 yX3_isOpen yX3_isOpen ∈ gtbl := gt_of 349 (by decide +kernel) rfl
theorem kC_yX3_isOpen : Cond.code yX3_isOpen cX3_isOpen 2 (some .boolean) ∈ gtbl := gt_of 350 (by decide +kernel) rfl
theorem kM_RX9_72 : Cond.methodLink RX9 72 yJ6_bitCount_0f7a4 ∈ gtbl := gt_of 351 (by decide +kernel) rfl
theorem kT_yJ6_bitCount_0f7a4 : Cond.static yJ6_bitCount_0f7a4 ∈ gtbl := gt_of 352 (by decide +kernel) rfl
theorem kC_yJ6_bitCount_0f7a4 : Cond.code yJ6_bitCount_0f7a4 cJ6_bitCount_0f7a4 1 (some .int) ∈ gtbl := gt_of 353 (by decide +kernel) rfl
theorem kK_RJ6_265 : Cond.constant RJ6 265 1431655765 ∈ gtbl := gt_of 354 (by decide +kernel) rfl
theorem kK_RJ6_266 : Cond.constant RJ6 266 858993459 ∈ gtbl := gt_of 355 (by decide +kernel) rfl
theorem kK_RJ6_267 : Cond.constant RJ6 267 252645135 ∈ gtbl := gt_of 356 (by decide +kernel) rfl
theorem kM_RL_18 : Cond.methodLink RL 18 yX9_join ∈ gtbl := gt_of 357 (by decide +kernel) rfl
theorem kY_yX9_join : Cond.instanceMethod yX9_join ∈ gtbl := gt_of 358 (by decide +kernel) rfl
theorem kS_yX9_join : Cond.selects RX9 yX9_join yX9_join ∈ gtbl := gt_of 359 (by decide +kernel) rfl
theorem kC_yX9_join : Cond.code yX9_join cX9_join 3 (some .int) ∈ gtbl := gt_of 360 (by decide +kernel) rfl
theorem kM_RX9_78 : Cond.methodLink RX9 78 yX3_farEnd ∈ gtbl := gt_of 361 (by decide +kernel) rfl
theorem kY_yX3_farEnd : Cond.instanceMethod yX3_farEnd ∈ gtbl := gt_of 362 (by decide +kernel) rfl
theorem kS_yX3_farEnd : Cond.selects RX3 yX3_farEnd yX3_farEnd ∈ gtbl := gt_of 363 (by decide +kernel) rfl
theorem kC_yX3_farEnd : Cond.code yX3_farEnd cX3_farEnd 2 (some .int) ∈ gtbl := gt_of 364 (by decide +kernel) rfl
theorem kM_RX9_81 : Cond.methodLink RX9 81 yX3_tie ∈ gtbl := gt_of 365 (by decide +kernel) rfl
theorem kY_yX3_tie : Cond.instanceMethod yX3_tie ∈ gtbl := gt_of 366 (by decide +kernel) rfl
theorem kS_yX3_tie : Cond.selects RX3 yX3_tie yX3_tie ∈ gtbl := gt_of 367 (by decide +kernel) rfl
theorem kC_yX3_tie : Cond.code yX3_tie cX3_tie 3 none ∈ gtbl := gt_of 368 (by decide +kernel) rfl
theorem kM_RX9_85 : Cond.methodLink RX9 85 yX3_cables ∈ gtbl := gt_of 369 (by decide +kernel) rfl
theorem kY_yX3_cables : Cond.instanceMethod yX3_cables ∈ gtbl := gt_of 370 (by decide +kernel) rfl
theorem kS_yX3_cables : Cond.selects RX3 yX3_cables yX3_cables ∈ gtbl := gt_of 371 (by decide +kernel) rfl
theorem kC_yX3_cables : Cond.code yX3_cables cX3_cables 3 (some .int) ∈ gtbl := gt_of 372 (by decide +kernel) rfl
theorem kM_RL_23 : Cond.methodLink RL 23 yX9_part ∈ gtbl := gt_of 373 (by decide +kernel) rfl
theorem kY_yX9_part : Cond.instanceMethod yX9_part ∈ gtbl := gt_of 374 (by decide +kernel) rfl
theorem kS_yX9_part : Cond.selects RX9 yX9_part yX9_part ∈ gtbl := gt_of 375 (by decide +kernel) rfl
theorem kC_yX9_part : Cond.code yX9_part cX9_part 3 (some .int) ∈ gtbl := gt_of 376 (by decide +kernel) rfl
theorem kM_RX9_88 : Cond.methodLink RX9 88 yX3_untie ∈ gtbl := gt_of 377 (by decide +kernel) rfl
theorem kY_yX3_untie : Cond.instanceMethod yX3_untie ∈ gtbl := gt_of 378 (by decide +kernel) rfl
theorem kS_yX3_untie : Cond.selects RX3 yX3_untie yX3_untie ∈ gtbl := gt_of 379 (by decide +kernel) rfl
theorem kC_yX3_untie : Cond.code yX3_untie cX3_untie 3 none ∈ gtbl := gt_of 380 (by decide +kernel) rfl
theorem kM_RL_28 : Cond.methodLink RL 28 yX9_release ∈ gtbl := gt_of 381 (by decide +kernel) rfl
theorem kY_yX9_release : Cond.instanceMethod yX9_release ∈ gtbl := gt_of 382 (by decide +kernel) rfl
theorem kS_yX9_release : Cond.selects RX9 yX9_release yX9_release ∈ gtbl := gt_of 383 (by decide +kernel) rfl
theorem kC_yX9_release : Cond.code yX9_release cX9_release 3 (some .int) ∈ gtbl := gt_of 384 (by decide +kernel) rfl
theorem kM_RX9_91 : Cond.methodLink RX9 91 yX3_secondsLeft ∈ gtbl := gt_of 385 (by decide +kernel) rfl
theorem kY_yX3_secondsLeft : Cond.instanceMethod yX3_secondsLeft ∈ gtbl := gt_of 386 (by decide +kernel) rfl
theorem kS_yX3_secondsLeft : Cond.selects RX3 yX3_secondsLeft yX3_secondsLeft ∈ gtbl := gt_of 387 (by decide +kernel) rfl
theorem kC_yX3_secondsLeft : Cond.code yX3_secondsLeft cX3_secondsLeft 2 (some .int) ∈ gtbl := gt_of 388 (by decide +kernel) rfl
theorem kM_RX9_94 : Cond.methodLink RX9 94 yX3_endQuarantine ∈ gtbl := gt_of 389 (by decide +kernel) rfl
theorem kY_yX3_endQuarantine : Cond.instanceMethod yX3_endQuarantine ∈ gtbl := gt_of 390 (by decide +kernel) rfl
theorem kS_yX3_endQuarantine : Cond.selects RX3 yX3_endQuarantine yX3_endQuarantine ∈ gtbl := gt_of 391 (by decide +kernel) rfl
theorem kC_yX3_endQuarantine : Cond.code yX3_endQuarantine cX3_endQuarantine 2 none ∈ gtbl := gt_of 392 (by decide +kernel) rfl
theorem kM_RL_32 : Cond.methodLink RL 32 yX9_set ∈ gtbl := gt_of 393 (by decide +kernel) rfl
theorem kY_yX9_set : Cond.instanceMethod yX9_set ∈ gtbl := gt_of 394 (by decide +kernel) rfl
theorem kS_yX9_set : Cond.selects RX9 yX9_set yX9_set ∈ gtbl := gt_of 395 (by decide +kernel) rfl
theorem kC_yX9_set : Cond.code yX9_set cX9_set 4 (some .int) ∈ gtbl := gt_of 396 (by decide +kernel) rfl
theorem kM_RX9_97 : Cond.methodLink RX9 97 yX9_isSetting ∈ gtbl := gt_of 397 (by decide +kernel) rfl
theorem kT_yX9_isSetting : Cond.static yX9_isSetting ∈ gtbl := gt_of 398 (by decide +kernel) rfl
theorem kC_yX9_isSetting : Cond.code yX9_isSetting cX9_isSetting 1 (some .boolean) ∈ gtbl := gt_of 399 (by decide +kernel) rfl
theorem kF_RX9_100 : Cond.fieldLink RX9 100 "LearningRepeater" "GREATEST_SETTINGS" "[I" ∈ gtbl := gt_of 400 (by decide +kernel) rfl
theorem kZ_4 : Cond.laysStatic "LearningRepeater" "GREATEST_SETTINGS" "[I" ∈ lw_tbl := List.mem_append_right _ (List.mem_of_getElem? (i := 401) (by decide +kernel))
theorem kM_RX9_108 : Cond.methodLink RX9 108 yX5_at ∈ gtbl := gt_of 402 (by decide +kernel) rfl
theorem kM_RX9_113 : Cond.methodLink RX9 113 yX5_put ∈ gtbl := gt_of 403 (by decide +kernel) rfl
theorem kM_RL_36 : Cond.methodLink RL 36 yX9_frame ∈ gtbl := gt_of 404 (by decide +kernel) rfl
theorem kY_yX9_frame : Cond.instanceMethod yX9_frame ∈ gtbl := gt_of 405 (by decide +kernel) rfl
theorem kS_yX9_frame : Cond.selects RX9 yX9_frame yX9_frame ∈ gtbl := gt_of 406 (by decide +kernel) rfl
theorem kC_yX9_frame : Cond.code yX9_frame cX9_frame 5 (some .int) ∈ gtbl := gt_of 407 (by decide +kernel) rfl
theorem kM_RX9_116 : Cond.methodLink RX9 116 yX9_isAddress ∈ gtbl := gt_of 408 (by decide +kernel) rfl
theorem kT_yX9_isAddress : Cond.static yX9_isAddress ∈ gtbl := gt_of 409 (by decide +kernel) rfl
theorem kC_yX9_isAddress : Cond.code yX9_isAddress cX9_isAddress 1 (some .boolean) ∈ gtbl := gt_of 410 (by decide +kernel) rfl
theorem kM_RX9_119 : Cond.methodLink RX9 119 yX9_isDestination ∈ gtbl := gt_of 411 (by decide +kernel) rfl
theorem kT_yX9_isDestination : Cond.static yX9_isDestination ∈ gtbl := gt_of 412 (by decide +kernel) rfl
theorem kC_yX9_isDestination : Cond.code yX9_isDestination cX9_isDestination 1 (some .boolean) ∈ gtbl := gt_of 413 (by decide +kernel) rfl
theorem kM_RX9_122 : Cond.methodLink RX9 122 yX6_comeIn ∈ gtbl := gt_of 414 (by decide +kernel) rfl
theorem kY_yX6_comeIn : Cond.instanceMethod yX6_comeIn ∈ gtbl := gt_of 415 (by decide +kernel) rfl
theorem kS_yX6_comeIn : Cond.selects RX6 yX6_comeIn yX6_comeIn ∈ gtbl := gt_of 416 (by decide +kernel) rfl
theorem kC_yX6_comeIn : Cond.code yX6_comeIn cX6_comeIn 8 (some .int) ∈ gtbl := gt_of 417 (by decide +kernel) rfl
theorem kM_RX6_96 : Cond.methodLink RX6 96 yX6_learnAndDecide ∈ gtbl := gt_of 418 (by decide +kernel) rfl
theorem kY_yX6_learnAndDecide : Cond.instanceMethod yX6_learnAndDecide ∈ gtbl := gt_of 419 (by decide +kernel) rfl
theorem kS_yX6_learnAndDecide : Cond.selects RX6 yX6_learnAndDecide yX6_learnAndDecide ∈ gtbl := gt_of 420 (by decide +kernel) rfl
theorem kC_yX6_learnAndDecide : Cond.code yX6_learnAndDecide cX6_learnAndDecide 6 (some .int) ∈ gtbl := gt_of 421 (by decide +kernel) rfl
theorem kM_RX6_110 : Cond.methodLink RX6 110 yX3_isOpen ∈ gtbl := gt_of 422 (by decide +kernel) rfl
theorem kM_RX6_114 : Cond.methodLink RX6 114 yX7_portOf ∈ gtbl := gt_of 423 (by decide +kernel) rfl
theorem kY_yX7_portOf : Cond.instanceMethod yX7_portOf ∈ gtbl := gt_of 424 (by decide +kernel) rfl
theorem kS_yX7_portOf : Cond.selects RX7 yX7_portOf yX7_portOf ∈ gtbl := gt_of 425 (by decide +kernel) rfl
theorem kC_yX7_portOf : Cond.code yX7_portOf cX7_portOf 2 (some .int) ∈ gtbl := gt_of 426 (by decide +kernel) rfl
theorem kM_RX7_35 : Cond.methodLink RX7 35 yX5_at ∈ gtbl := gt_of 427 (by decide +kernel) rfl
theorem kM_RX6_117 : Cond.methodLink RX6 117 yX7_learn ∈ gtbl := gt_of 428 (by decide +kernel) rfl
theorem kY_yX7_learn : Cond.instanceMethod yX7_learn ∈ gtbl := gt_of 429 (by decide +kernel) rfl
theorem kS_yX7_learn : Cond.selects RX7 yX7_learn yX7_learn ∈ gtbl := gt_of 430 (by decide +kernel) rfl
theorem kC_yX7_learn : Cond.code yX7_learn cX7_learn 4 none ∈ gtbl := gt_of 431 (by decide +kernel) rfl
theorem kM_RX7_39 : Cond.methodLink RX7 39 yX7_oldest ∈ gtbl := gt_of 432 (by decide +kernel) rfl
theorem kY_yX7_oldest : Cond.instanceMethod yX7_oldest ∈ gtbl := gt_of 434 (by decide +kernel) rfl
theorem kC_yX7_oldest : Cond.code yX7_oldest cX7_oldest 3 (some .int) ∈ gtbl := gt_of 435 (by decide +kernel) rfl
theorem kM_RX7_43 : Cond.methodLink RX7 43 yX7_remove ∈ gtbl := gt_of 436 (by decide +kernel) rfl
theorem kY_yX7_remove : Cond.instanceMethod yX7_remove ∈ gtbl := gt_of 437 (by decide +kernel) rfl
theorem kS_yX7_remove : Cond.selects RX7 yX7_remove yX7_remove ∈ gtbl := gt_of 438 (by decide +kernel) rfl
theorem kC_yX7_remove : Cond.code yX7_remove cX7_remove 2 none ∈ gtbl := gt_of 439 (by decide +kernel) rfl
theorem kM_RX7_46 : Cond.methodLink RX7 46 yX5_put ∈ gtbl := gt_of 440 (by decide +kernel) rfl
theorem kM_RX6_120 : Cond.methodLink RX6 120 yX2_add ∈ gtbl := gt_of 441 (by decide +kernel) rfl
theorem kY_yX2_add : Cond.instanceMethod yX2_add ∈ gtbl := gt_of 442 (by decide +kernel) rfl
theorem kS_yX2_add : Cond.selects RX2 yX2_add yX2_add ∈ gtbl := gt_of 443 (by decide +kernel) rfl
theorem kC_yX2_add : Cond.code yX2_add cX2_add 3 none ∈ gtbl := gt_of 444 (by decide +kernel) rfl
theorem kM_RX2_24 : Cond.methodLink RX2 24 yX5_add ∈ gtbl := gt_of 445 (by decide +kernel) rfl
theorem kM_RX6_123 : Cond.methodLink RX6 123 yX2_latelyOf ∈ gtbl := gt_of 446 (by decide +kernel) rfl
theorem kY_yX2_latelyOf : Cond.instanceMethod yX2_latelyOf ∈ gtbl := gt_of 447 (by decide +kernel) rfl
theorem kS_yX2_latelyOf : Cond.selects RX2 yX2_latelyOf yX2_latelyOf ∈ gtbl := gt_of 448 (by decide +kernel) rfl
theorem kC_yX2_latelyOf : Cond.code yX2_latelyOf cX2_latelyOf 4 (some .int) ∈ gtbl := gt_of 449 (by decide +kernel) rfl
theorem kM_RX2_28 : Cond.methodLink RX2 28 yX5_at ∈ gtbl := gt_of 450 (by decide +kernel) rfl
theorem kM_RX6_126 : Cond.methodLink RX6 126 yX6_quarantine ∈ gtbl := gt_of 451 (by decide +kernel) rfl
theorem kY_yX6_quarantine : Cond.instanceMethod yX6_quarantine ∈ gtbl := gt_of 453 (by decide +kernel) rfl
theorem kC_yX6_quarantine : Cond.code yX6_quarantine cX6_quarantine 3 none ∈ gtbl := gt_of 454 (by decide +kernel) rfl
theorem kM_RX6_133 : Cond.methodLink RX6 133 yX3_beginQuarantine ∈ gtbl := gt_of 455 (by decide +kernel) rfl
theorem kY_yX3_beginQuarantine : Cond.instanceMethod yX3_beginQuarantine ∈ gtbl := gt_of 456 (by decide +kernel) rfl
theorem kS_yX3_beginQuarantine : Cond.selects RX3 yX3_beginQuarantine yX3_beginQuarantine ∈ gtbl := gt_of 457 (by decide +kernel) rfl
theorem kC_yX3_beginQuarantine : Cond.code yX3_beginQuarantine cX3_beginQuarantine 4 none ∈ gtbl := gt_of 458 (by decide +kernel) rfl
theorem kM_RX6_136 : Cond.methodLink RX6 136 yX7_removeAllWith ∈ gtbl := gt_of 459 (by decide +kernel) rfl
theorem kY_yX7_removeAllWith : Cond.instanceMethod yX7_removeAllWith ∈ gtbl := gt_of 460 (by decide +kernel) rfl
theorem kS_yX7_removeAllWith : Cond.selects RX7 yX7_removeAllWith yX7_removeAllWith ∈ gtbl := gt_of 461 (by decide +kernel) rfl
theorem kC_yX7_removeAllWith : Cond.code yX7_removeAllWith cX7_removeAllWith 3 none ∈ gtbl := gt_of 462 (by decide +kernel) rfl
theorem kM_RX6_132 : Cond.methodLink RX6 132 yX5_add ∈ gtbl := gt_of 463 (by decide +kernel) rfl
theorem kM_RX6_100 : Cond.methodLink RX6 100 yX6_waysOut ∈ gtbl := gt_of 464 (by decide +kernel) rfl
theorem kY_yX6_waysOut : Cond.instanceMethod yX6_waysOut ∈ gtbl := gt_of 465 (by decide +kernel) rfl
theorem kS_yX6_waysOut : Cond.selects RX6 yX6_waysOut yX6_waysOut ∈ gtbl := gt_of 466 (by decide +kernel) rfl
theorem kC_yX6_waysOut : Cond.code yX6_waysOut cX6_waysOut 4 (some .int) ∈ gtbl := gt_of 467 (by decide +kernel) rfl
theorem kM_RX6_139 : Cond.methodLink RX6 139 yX3_openOnes ∈ gtbl := gt_of 468 (by decide +kernel) rfl
theorem kM_RX6_103 : Cond.methodLink RX6 103 yX6_goOut ∈ gtbl := gt_of 469 (by decide +kernel) rfl
theorem kY_yX6_goOut : Cond.instanceMethod yX6_goOut ∈ gtbl := gt_of 471 (by decide +kernel) rfl
theorem kC_yX6_goOut : Cond.code yX6_goOut cX6_goOut 5 none ∈ gtbl := gt_of 472 (by decide +kernel) rfl
theorem kM_RX6_143 : Cond.methodLink RX6 143 yX4_isFull ∈ gtbl := gt_of 473 (by decide +kernel) rfl
theorem kY_yX4_isFull : Cond.instanceMethod yX4_isFull ∈ gtbl := gt_of 474 (by decide +kernel) rfl
theorem kS_yX4_isFull : Cond.selects RX4 yX4_isFull yX4_isFull ∈ gtbl := gt_of 475 (by decide +kernel) rfl
theorem kC_yX4_isFull : Cond.code yX4_isFull cX4_isFull 2 (some .boolean) ∈ gtbl := gt_of 476 (by decide +kernel) rfl
theorem kM_RX6_146 : Cond.methodLink RX6 146 yX4_insert ∈ gtbl := gt_of 477 (by decide +kernel) rfl
theorem kY_yX4_insert : Cond.instanceMethod yX4_insert ∈ gtbl := gt_of 478 (by decide +kernel) rfl
theorem kS_yX4_insert : Cond.selects RX4 yX4_insert yX4_insert ∈ gtbl := gt_of 479 (by decide +kernel) rfl
theorem kC_yX4_insert : Cond.code yX4_insert cX4_insert 9 none ∈ gtbl := gt_of 480 (by decide +kernel) rfl
theorem kM_RX4_35 : Cond.methodLink RX4 35 yX4_partOf ∈ gtbl := gt_of 481 (by decide +kernel) rfl
theorem kY_yX4_partOf : Cond.instanceMethod yX4_partOf ∈ gtbl := gt_of 482 (by decide +kernel) rfl
theorem kS_yX4_partOf : Cond.selects RX4 yX4_partOf yX4_partOf ∈ gtbl := gt_of 483 (by decide +kernel) rfl
theorem kC_yX4_partOf : Cond.code yX4_partOf cX4_partOf 4 (some .int) ∈ gtbl := gt_of 484 (by decide +kernel) rfl
theorem kM_RX6_107 : Cond.methodLink RX6 107 yX6_accountOf ∈ gtbl := gt_of 485 (by decide +kernel) rfl
theorem kT_yX6_accountOf : Cond.static yX6_accountOf ∈ gtbl := gt_of 486 (by decide +kernel) rfl
theorem kC_yX6_accountOf : Cond.code yX6_accountOf cX6_accountOf 1 (some .int) ∈ gtbl := gt_of 487 (by decide +kernel) rfl
theorem kM_RL_41 : Cond.methodLink RL 41 yX9_forget ∈ gtbl := gt_of 488 (by decide +kernel) rfl
theorem kY_yX9_forget : Cond.instanceMethod yX9_forget ∈ gtbl := gt_of 489 (by decide +kernel) rfl
theorem kS_yX9_forget : Cond.selects RX9 yX9_forget yX9_forget ∈ gtbl := gt_of 490 (by decide +kernel) rfl
theorem kC_yX9_forget : Cond.code yX9_forget cX9_forget 3 (some .int) ∈ gtbl := gt_of 491 (by decide +kernel) rfl
theorem kM_RX9_130 : Cond.methodLink RX9 130 yX7_portOf ∈ gtbl := gt_of 492 (by decide +kernel) rfl
theorem kM_RX9_135 : Cond.methodLink RX9 135 yX7_remove ∈ gtbl := gt_of 493 (by decide +kernel) rfl
theorem kM_RL_45 : Cond.methodLink RL 45 yX9_pass ∈ gtbl := gt_of 494 (by decide +kernel) rfl
theorem kY_yX9_pass : Cond.instanceMethod yX9_pass ∈ gtbl := gt_of 495 (by decide +kernel) rfl
theorem kS_yX9_pass : Cond.selects RX9 yX9_pass yX9_pass ∈ gtbl := gt_of 496 (by decide +kernel) rfl
theorem kC_yX9_pass : Cond.code yX9_pass cX9_pass 4 (some .int) ∈ gtbl := gt_of 497 (by decide +kernel) rfl
theorem kM_RX9_138 : Cond.methodLink RX9 138 yX6_sendInto ∈ gtbl := gt_of 498 (by decide +kernel) rfl
theorem kY_yX6_sendInto : Cond.instanceMethod yX6_sendInto ∈ gtbl := gt_of 499 (by decide +kernel) rfl
theorem kS_yX6_sendInto : Cond.selects RX6 yX6_sendInto yX6_sendInto ∈ gtbl := gt_of 500 (by decide +kernel) rfl
theorem kC_yX6_sendInto : Cond.code yX6_sendInto cX6_sendInto 4 (some .int) ∈ gtbl := gt_of 501 (by decide +kernel) rfl
theorem kM_RX6_163 : Cond.methodLink RX6 163 yX6_sendFrom ∈ gtbl := gt_of 502 (by decide +kernel) rfl
theorem kY_yX6_sendFrom : Cond.instanceMethod yX6_sendFrom ∈ gtbl := gt_of 504 (by decide +kernel) rfl
theorem kC_yX6_sendFrom : Cond.code yX6_sendFrom cX6_sendFrom 6 (some .int) ∈ gtbl := gt_of 505 (by decide +kernel) rfl
theorem kM_RX6_167 : Cond.methodLink RX6 167 Lib.Math.min.name ∈ gtbl := gt_of 506 (by decide +kernel) rfl
theorem kM_RX6_172 : Cond.methodLink RX6 172 yX3_farEnd ∈ gtbl := gt_of 507 (by decide +kernel) rfl
theorem kM_RX6_175 : Cond.methodLink RX6 175 yX4_partOf ∈ gtbl := gt_of 508 (by decide +kernel) rfl
theorem kM_RX6_177 : Cond.methodLink RX6 177 yX0_append ∈ gtbl := gt_of 509 (by decide +kernel) rfl
theorem kY_yX0_append : Cond.instanceMethod yX0_append ∈ gtbl := gt_of 510 (by decide +kernel) rfl
theorem kS_yX0_append : Cond.selects RX0 yX0_append yX0_append ∈ gtbl := gt_of 511 (by decide +kernel) rfl
theorem kC_yX0_append : Cond.code yX0_append cX0_append 6 none ∈ gtbl := gt_of 512 (by decide +kernel) rfl
theorem kM_RX0_24 : Cond.methodLink RX0 24 yX5_put ∈ gtbl := gt_of 513 (by decide +kernel) rfl
theorem kM_RX9_142 : Cond.methodLink RX9 142 yX6_letIn ∈ gtbl := gt_of 514 (by decide +kernel) rfl
theorem kY_yX6_letIn : Cond.instanceMethod yX6_letIn ∈ gtbl := gt_of 515 (by decide +kernel) rfl
theorem kS_yX6_letIn : Cond.selects RX6 yX6_letIn yX6_letIn ∈ gtbl := gt_of 516 (by decide +kernel) rfl
theorem kC_yX6_letIn : Cond.code yX6_letIn cX6_letIn 5 (some .int) ∈ gtbl := gt_of 517 (by decide +kernel) rfl
theorem kM_RX6_155 : Cond.methodLink RX6 155 yX0_partOf ∈ gtbl := gt_of 518 (by decide +kernel) rfl
theorem kY_yX0_partOf : Cond.instanceMethod yX0_partOf ∈ gtbl := gt_of 519 (by decide +kernel) rfl
theorem kS_yX0_partOf : Cond.selects RX0 yX0_partOf yX0_partOf ∈ gtbl := gt_of 520 (by decide +kernel) rfl
theorem kC_yX0_partOf : Cond.code yX0_partOf cX0_partOf 3 (some .int) ∈ gtbl := gt_of 521 (by decide +kernel) rfl
theorem kM_RX0_28 : Cond.methodLink RX0 28 yX5_at ∈ gtbl := gt_of 522 (by decide +kernel) rfl
theorem kM_RX6_159 : Cond.methodLink RX6 159 yX6_comeIn ∈ gtbl := gt_of 523 (by decide +kernel) rfl
theorem kM_RX9_145 : Cond.methodLink RX9 145 yX6_endSecond ∈ gtbl := gt_of 524 (by decide +kernel) rfl
theorem kY_yX6_endSecond : Cond.instanceMethod yX6_endSecond ∈ gtbl := gt_of 525 (by decide +kernel) rfl
theorem kS_yX6_endSecond : Cond.selects RX6 yX6_endSecond yX6_endSecond ∈ gtbl := gt_of 526 (by decide +kernel) rfl
theorem kC_yX6_endSecond : Cond.code yX6_endSecond cX6_endSecond 1 none ∈ gtbl := gt_of 527 (by decide +kernel) rfl
theorem kM_RX6_180 : Cond.methodLink RX6 180 yX3_endSecond ∈ gtbl := gt_of 528 (by decide +kernel) rfl
theorem kY_yX3_endSecond : Cond.instanceMethod yX3_endSecond ∈ gtbl := gt_of 529 (by decide +kernel) rfl
theorem kS_yX3_endSecond : Cond.selects RX3 yX3_endSecond yX3_endSecond ∈ gtbl := gt_of 530 (by decide +kernel) rfl
theorem kC_yX3_endSecond : Cond.code yX3_endSecond cX3_endSecond 2 none ∈ gtbl := gt_of 531 (by decide +kernel) rfl
theorem kM_RX6_183 : Cond.methodLink RX6 183 yX7_removeUntil ∈ gtbl := gt_of 532 (by decide +kernel) rfl
theorem kY_yX7_removeUntil : Cond.instanceMethod yX7_removeUntil ∈ gtbl := gt_of 533 (by decide +kernel) rfl
theorem kS_yX7_removeUntil : Cond.selects RX7 yX7_removeUntil yX7_removeUntil ∈ gtbl := gt_of 534 (by decide +kernel) rfl
theorem kC_yX7_removeUntil : Cond.code yX7_removeUntil cX7_removeUntil 3 none ∈ gtbl := gt_of 535 (by decide +kernel) rfl
theorem kM_RX6_186 : Cond.methodLink RX6 186 yX2_beginSecond ∈ gtbl := gt_of 536 (by decide +kernel) rfl
theorem kY_yX2_beginSecond : Cond.instanceMethod yX2_beginSecond ∈ gtbl := gt_of 537 (by decide +kernel) rfl
theorem kS_yX2_beginSecond : Cond.selects RX2 yX2_beginSecond yX2_beginSecond ∈ gtbl := gt_of 538 (by decide +kernel) rfl
theorem kC_yX2_beginSecond : Cond.code yX2_beginSecond cX2_beginSecond 2 none ∈ gtbl := gt_of 539 (by decide +kernel) rfl
theorem kM_RX2_32 : Cond.methodLink RX2 32 yX5_fill ∈ gtbl := gt_of 540 (by decide +kernel) rfl
theorem kM_RL_49 : Cond.methodLink RL 49 yX9_type ∈ gtbl := gt_of 541 (by decide +kernel) rfl
theorem kY_yX9_type : Cond.instanceMethod yX9_type ∈ gtbl := gt_of 542 (by decide +kernel) rfl
theorem kS_yX9_type : Cond.selects RX9 yX9_type yX9_type ∈ gtbl := gt_of 543 (by decide +kernel) rfl
theorem kC_yX9_type : Cond.code yX9_type cX9_type 2 (some .int) ∈ gtbl := gt_of 544 (by decide +kernel) rfl
theorem kM_RX9_148 : Cond.methodLink RX9 148 yX8_append ∈ gtbl := gt_of 545 (by decide +kernel) rfl
theorem kY_yX8_append : Cond.instanceMethod yX8_append ∈ gtbl := gt_of 546 (by decide +kernel) rfl
theorem kS_yX8_append : Cond.selects RX8 yX8_append yX8_append ∈ gtbl := gt_of 547 (by decide +kernel) rfl
theorem kC_yX8_append : Cond.code yX8_append cX8_append 2 (some .boolean) ∈ gtbl := gt_of 548 (by decide +kernel) rfl
theorem kM_RL_54 : Cond.methodLink RL 54 yX9_clearText ∈ gtbl := gt_of 549 (by decide +kernel) rfl
theorem kY_yX9_clearText : Cond.instanceMethod yX9_clearText ∈ gtbl := gt_of 550 (by decide +kernel) rfl
theorem kS_yX9_clearText : Cond.selects RX9 yX9_clearText yX9_clearText ∈ gtbl := gt_of 551 (by decide +kernel) rfl
theorem kC_yX9_clearText : Cond.code yX9_clearText cX9_clearText 2 (some .int) ∈ gtbl := gt_of 552 (by decide +kernel) rfl
theorem kM_RL_59 : Cond.methodLink RL 59 yX9_readFrames ∈ gtbl := gt_of 553 (by decide +kernel) rfl
theorem kY_yX9_readFrames : Cond.instanceMethod yX9_readFrames ∈ gtbl := gt_of 554 (by decide +kernel) rfl
theorem kS_yX9_readFrames : Cond.selects RX9 yX9_readFrames yX9_readFrames ∈ gtbl := gt_of 555 (by decide +kernel) rfl
theorem kC_yX9_readFrames : Cond.code yX9_readFrames cX9_readFrames 2 (some .int) ∈ gtbl := gt_of 556 (by decide +kernel) rfl
theorem kM_RX9_156 : Cond.methodLink RX9 156 yX8_readInto ∈ gtbl := gt_of 557 (by decide +kernel) rfl
theorem kY_yX8_readInto : Cond.instanceMethod yX8_readInto ∈ gtbl := gt_of 558 (by decide +kernel) rfl
theorem kS_yX8_readInto : Cond.selects RX8 yX8_readInto yX8_readInto ∈ gtbl := gt_of 559 (by decide +kernel) rfl
theorem kC_yX8_readInto : Cond.code yX8_readInto cX8_readInto 3 (some .int) ∈ gtbl := gt_of 560 (by decide +kernel) rfl
theorem kM_RX8_27 : Cond.methodLink RX8 27 yX8_readFrame ∈ gtbl := gt_of 561 (by decide +kernel) rfl
theorem kY_yX8_readFrame : Cond.instanceMethod yX8_readFrame ∈ gtbl := gt_of 563 (by decide +kernel) rfl
theorem kC_yX8_readFrame : Cond.code yX8_readFrame cX8_readFrame 6 (some .boolean) ∈ gtbl := gt_of 564 (by decide +kernel) rfl
theorem kM_RX8_35 : Cond.methodLink RX8 35 yX8_readAddress ∈ gtbl := gt_of 565 (by decide +kernel) rfl
theorem kY_yX8_readAddress : Cond.instanceMethod yX8_readAddress ∈ gtbl := gt_of 567 (by decide +kernel) rfl
theorem kC_yX8_readAddress : Cond.code yX8_readAddress cX8_readAddress 3 (some .int) ∈ gtbl := gt_of 568 (by decide +kernel) rfl
theorem kM_RX8_39 : Cond.methodLink RX8 39 yX8_readDigit ∈ gtbl := gt_of 569 (by decide +kernel) rfl
theorem kY_yX8_readDigit : Cond.instanceMethod yX8_readDigit ∈ gtbl := gt_of 571 (by decide +kernel) rfl
theorem kC_yX8_readDigit : Cond.code yX8_readDigit cX8_readDigit 4 (some .int) ∈ gtbl := gt_of 572 (by decide +kernel) rfl
theorem kM_RX8_47 : Cond.methodLink RX8 47 yX8_signAt ∈ gtbl := gt_of 573 (by decide +kernel) rfl
theorem kY_yX8_signAt : Cond.instanceMethod yX8_signAt ∈ gtbl := gt_of 575 (by decide +kernel) rfl
theorem kC_yX8_signAt : Cond.code yX8_signAt cX8_signAt 2 (some .int) ∈ gtbl := gt_of 576 (by decide +kernel) rfl
theorem kM_RX8_31 : Cond.methodLink RX8 31 yX8_skip ∈ gtbl := gt_of 577 (by decide +kernel) rfl
theorem kY_yX8_skip : Cond.instanceMethod yX8_skip ∈ gtbl := gt_of 579 (by decide +kernel) rfl
theorem kC_yX8_skip : Cond.code yX8_skip cX8_skip 2 (some .boolean) ∈ gtbl := gt_of 580 (by decide +kernel) rfl
theorem kM_RX8_43 : Cond.methodLink RX8 43 yX0_append ∈ gtbl := gt_of 581 (by decide +kernel) rfl
theorem kM_RL_63 : Cond.methodLink RL 63 yX9_undo ∈ gtbl := gt_of 582 (by decide +kernel) rfl
theorem kY_yX9_undo : Cond.instanceMethod yX9_undo ∈ gtbl := gt_of 583 (by decide +kernel) rfl
theorem kS_yX9_undo : Cond.selects RX9 yX9_undo yX9_undo ∈ gtbl := gt_of 584 (by decide +kernel) rfl
theorem kC_yX9_undo : Cond.code yX9_undo cX9_undo 1 (some .int) ∈ gtbl := gt_of 585 (by decide +kernel) rfl
theorem kM_RX9_159 : Cond.methodLink RX9 159 yX1_takeBack ∈ gtbl := gt_of 586 (by decide +kernel) rfl
theorem kY_yX1_takeBack : Cond.instanceMethod yX1_takeBack ∈ gtbl := gt_of 587 (by decide +kernel) rfl
theorem kS_yX1_takeBack : Cond.selects RX1 yX1_takeBack yX1_takeBack ∈ gtbl := gt_of 588 (by decide +kernel) rfl
theorem kC_yX1_takeBack : Cond.code yX1_takeBack cX1_takeBack 4 (some .boolean) ∈ gtbl := gt_of 589 (by decide +kernel) rfl
theorem kM_RL_67 : Cond.methodLink RL 67 yX9_keep ∈ gtbl := gt_of 590 (by decide +kernel) rfl
theorem kY_yX9_keep : Cond.instanceMethod yX9_keep ∈ gtbl := gt_of 591 (by decide +kernel) rfl
theorem kS_yX9_keep : Cond.selects RX9 yX9_keep yX9_keep ∈ gtbl := gt_of 592 (by decide +kernel) rfl
theorem kC_yX9_keep : Cond.code yX9_keep cX9_keep 1 (some .int) ∈ gtbl := gt_of 593 (by decide +kernel) rfl
theorem kM_RX9_166 : Cond.methodLink RX9 166 yX6_copyFrom ∈ gtbl := gt_of 594 (by decide +kernel) rfl
theorem kM_RL_71 : Cond.methodLink RL 71 yX9_restore ∈ gtbl := gt_of 595 (by decide +kernel) rfl
theorem kY_yX9_restore : Cond.instanceMethod yX9_restore ∈ gtbl := gt_of 596 (by decide +kernel) rfl
theorem kS_yX9_restore : Cond.selects RX9 yX9_restore yX9_restore ∈ gtbl := gt_of 597 (by decide +kernel) rfl
theorem kC_yX9_restore : Cond.code yX9_restore cX9_restore 1 (some .int) ∈ gtbl := gt_of 598 (by decide +kernel) rfl
theorem kM_RL_75 : Cond.methodLink RL 75 yX9_port ∈ gtbl := gt_of 599 (by decide +kernel) rfl
theorem kY_yX9_port : Cond.instanceMethod yX9_port ∈ gtbl := gt_of 600 (by decide +kernel) rfl
theorem kS_yX9_port : Cond.selects RX9 yX9_port yX9_port ∈ gtbl := gt_of 601 (by decide +kernel) rfl
theorem kC_yX9_port : Cond.code yX9_port cX9_port 3 (some .int) ∈ gtbl := gt_of 602 (by decide +kernel) rfl
theorem kM_RX9_176 : Cond.methodLink RX9 176 yX3_isOpen ∈ gtbl := gt_of 603 (by decide +kernel) rfl
theorem kM_RX9_191 : Cond.methodLink RX9 191 yX7_entriesWith ∈ gtbl := gt_of 604 (by decide +kernel) rfl
theorem kY_yX7_entriesWith : Cond.instanceMethod yX7_entriesWith ∈ gtbl := gt_of 605 (by decide +kernel) rfl
theorem kS_yX7_entriesWith : Cond.selects RX7 yX7_entriesWith yX7_entriesWith ∈ gtbl := gt_of 606 (by decide +kernel) rfl
theorem kC_yX7_entriesWith : Cond.code yX7_entriesWith cX7_entriesWith 4 (some .int) ∈ gtbl := gt_of 607 (by decide +kernel) rfl
theorem kM_RL_79 : Cond.methodLink RL 79 yX9_account ∈ gtbl := gt_of 608 (by decide +kernel) rfl
theorem kY_yX9_account : Cond.instanceMethod yX9_account ∈ gtbl := gt_of 609 (by decide +kernel) rfl
theorem kS_yX9_account : Cond.selects RX9 yX9_account yX9_account ∈ gtbl := gt_of 610 (by decide +kernel) rfl
theorem kC_yX9_account : Cond.code yX9_account cX9_account 3 (some .int) ∈ gtbl := gt_of 611 (by decide +kernel) rfl
theorem kM_RX9_197 : Cond.methodLink RX9 197 yX3_credited ∈ gtbl := gt_of 612 (by decide +kernel) rfl
theorem kY_yX3_credited : Cond.instanceMethod yX3_credited ∈ gtbl := gt_of 613 (by decide +kernel) rfl
theorem kS_yX3_credited : Cond.selects RX3 yX3_credited yX3_credited ∈ gtbl := gt_of 614 (by decide +kernel) rfl
theorem kC_yX3_credited : Cond.code yX3_credited cX3_credited 3 (some .int) ∈ gtbl := gt_of 615 (by decide +kernel) rfl
theorem kM_RL_83 : Cond.methodLink RL 83 yX9_entry ∈ gtbl := gt_of 616 (by decide +kernel) rfl
theorem kY_yX9_entry : Cond.instanceMethod yX9_entry ∈ gtbl := gt_of 617 (by decide +kernel) rfl
theorem kS_yX9_entry : Cond.selects RX9 yX9_entry yX9_entry ∈ gtbl := gt_of 618 (by decide +kernel) rfl
theorem kC_yX9_entry : Cond.code yX9_entry cX9_entry 4 (some .int) ∈ gtbl := gt_of 619 (by decide +kernel) rfl
theorem kM_RX9_202 : Cond.methodLink RX9 202 yX7_addressOf ∈ gtbl := gt_of 620 (by decide +kernel) rfl
theorem kY_yX7_addressOf : Cond.instanceMethod yX7_addressOf ∈ gtbl := gt_of 621 (by decide +kernel) rfl
theorem kS_yX7_addressOf : Cond.selects RX7 yX7_addressOf yX7_addressOf ∈ gtbl := gt_of 622 (by decide +kernel) rfl
theorem kC_yX7_addressOf : Cond.code yX7_addressOf cX7_addressOf 4 (some .int) ∈ gtbl := gt_of 623 (by decide +kernel) rfl
theorem kM_RX9_212 : Cond.methodLink RX9 212 yX2_latelyOf ∈ gtbl := gt_of 624 (by decide +kernel) rfl
theorem kM_RL_87 : Cond.methodLink RL 87 yX9_where ∈ gtbl := gt_of 625 (by decide +kernel) rfl
theorem kY_yX9_where : Cond.instanceMethod yX9_where ∈ gtbl := gt_of 626 (by decide +kernel) rfl
theorem kS_yX9_where : Cond.selects RX9 yX9_where yX9_where ∈ gtbl := gt_of 627 (by decide +kernel) rfl
theorem kC_yX9_where : Cond.code yX9_where cX9_where 2 (some .int) ∈ gtbl := gt_of 628 (by decide +kernel) rfl
theorem kM_RL_91 : Cond.methodLink RL 91 yX9_queued ∈ gtbl := gt_of 629 (by decide +kernel) rfl
theorem kY_yX9_queued : Cond.instanceMethod yX9_queued ∈ gtbl := gt_of 630 (by decide +kernel) rfl
theorem kS_yX9_queued : Cond.selects RX9 yX9_queued yX9_queued ∈ gtbl := gt_of 631 (by decide +kernel) rfl
theorem kC_yX9_queued : Cond.code yX9_queued cX9_queued 4 (some .int) ∈ gtbl := gt_of 632 (by decide +kernel) rfl
theorem kM_RX9_217 : Cond.methodLink RX9 217 yX4_partOf ∈ gtbl := gt_of 633 (by decide +kernel) rfl
theorem kM_RL_96 : Cond.methodLink RL 96 yX9_wouldGo ∈ gtbl := gt_of 634 (by decide +kernel) rfl
theorem kY_yX9_wouldGo : Cond.instanceMethod yX9_wouldGo ∈ gtbl := gt_of 635 (by decide +kernel) rfl
theorem kS_yX9_wouldGo : Cond.selects RX9 yX9_wouldGo yX9_wouldGo ∈ gtbl := gt_of 636 (by decide +kernel) rfl
theorem kC_yX9_wouldGo : Cond.code yX9_wouldGo cX9_wouldGo 5 (some .int) ∈ gtbl := gt_of 637 (by decide +kernel) rfl
theorem kM_RX9_221 : Cond.methodLink RX9 221 yX6_learnAndDecide ∈ gtbl := gt_of 638 (by decide +kernel) rfl
theorem kM_RX9_224 : Cond.methodLink RX9 224 yX6_waysOut ∈ gtbl := gt_of 639 (by decide +kernel) rfl
theorem kM_RL_100 : Cond.methodLink RL 100 yX9_loops ∈ gtbl := gt_of 640 (by decide +kernel) rfl
theorem kY_yX9_loops : Cond.instanceMethod yX9_loops ∈ gtbl := gt_of 641 (by decide +kernel) rfl
theorem kS_yX9_loops : Cond.selects RX9 yX9_loops yX9_loops ∈ gtbl := gt_of 642 (by decide +kernel) rfl
theorem kC_yX9_loops : Cond.code yX9_loops cX9_loops 5 (some .int) ∈ gtbl := gt_of 643 (by decide +kernel) rfl
theorem kM_RL_104 : Cond.methodLink RL 104 yX9_count ∈ gtbl := gt_of 644 (by decide +kernel) rfl
theorem kY_yX9_count : Cond.instanceMethod yX9_count ∈ gtbl := gt_of 645 (by decide +kernel) rfl
theorem kS_yX9_count : Cond.selects RX9 yX9_count yX9_count ∈ gtbl := gt_of 646 (by decide +kernel) rfl
theorem kC_yX9_count : Cond.code yX9_count cX9_count 2 (some .int) ∈ gtbl := gt_of 647 (by decide +kernel) rfl
theorem kM_RX9_227 : Cond.methodLink RX9 227 yX3_quarantined ∈ gtbl := gt_of 648 (by decide +kernel) rfl
theorem kY_yX3_quarantined : Cond.instanceMethod yX3_quarantined ∈ gtbl := gt_of 649 (by decide +kernel) rfl
theorem kS_yX3_quarantined : Cond.selects RX3 yX3_quarantined yX3_quarantined ∈ gtbl := gt_of 650 (by decide +kernel) rfl
theorem kC_yX3_quarantined : Cond.code yX3_quarantined cX3_quarantined 3 (some .int) ∈ gtbl := gt_of 651 (by decide +kernel) rfl
theorem kM_RX9_230 : Cond.methodLink RX9 230 yX5_sum ∈ gtbl := gt_of 652 (by decide +kernel) rfl
theorem kY_yX5_sum : Cond.instanceMethod yX5_sum ∈ gtbl := gt_of 653 (by decide +kernel) rfl
theorem kS_yX5_sum : Cond.selects RX5 yX5_sum yX5_sum ∈ gtbl := gt_of 654 (by decide +kernel) rfl
theorem kC_yX5_sum : Cond.code yX5_sum cX5_sum 6 (some .int) ∈ gtbl := gt_of 655 (by decide +kernel) rfl
theorem kM_RX9_233 : Cond.methodLink RX9 233 yX3_allCameIn ∈ gtbl := gt_of 656 (by decide +kernel) rfl
theorem kY_yX3_allCameIn : Cond.instanceMethod yX3_allCameIn ∈ gtbl := gt_of 657 (by decide +kernel) rfl
theorem kS_yX3_allCameIn : Cond.selects RX3 yX3_allCameIn yX3_allCameIn ∈ gtbl := gt_of 658 (by decide +kernel) rfl
theorem kC_yX3_allCameIn : Cond.code yX3_allCameIn cX3_allCameIn 3 (some .int) ∈ gtbl := gt_of 659 (by decide +kernel) rfl
theorem kM_RX3_58 : Cond.methodLink RX3 58 yX3_credited ∈ gtbl := gt_of 660 (by decide +kernel) rfl
theorem kL_RL_10 : Cond.classLink RL 10 RX10 ∈ gtbl := gt_of 661 (by decide +kernel) rfl
theorem kA_RX10 : Cond.instantiable RX10 14 ∈ gtbl := gt_of 662 (by decide +kernel) rfl
theorem kM_RL_12 : Cond.methodLink RL 12 yX10_init ∈ gtbl := gt_of 663 (by decide +kernel) rfl
theorem kY_yX10_init : Cond.instanceMethod yX10_init ∈ gtbl := gt_of 664 (by decide +kernel) rfl
theorem kC_yX10_init : Cond.code yX10_init cX10_init 2 none ∈ gtbl := gt_of 665 (by decide +kernel) rfl
theorem kM_RX10_1 : Cond.methodLink RX10 1 objectInit ∈ gtbl := gt_of 666 (by decide +kernel) rfl
theorem kM_RX10_32 : Cond.methodLink RX10 32 yX10_to ∈ gtbl := gt_of 667 (by decide +kernel) rfl
theorem kY_yX10_to : Cond.instanceMethod yX10_to ∈ gtbl := gt_of 669 (by decide +kernel) rfl
theorem kC_yX10_to : Cond.code yX10_to cX10_to 4 none ∈ gtbl := gt_of 670 (by decide +kernel) rfl
theorem kF_RX10_7 : Cond.fieldLink RX10 7 "LearningRepeaterModel" "now" "[I" ∈ gtbl := gt_of 671 (by decide +kernel) rfl
theorem kF_RX10_13 : Cond.fieldLink RX10 13 "LearningRepeaterModel" "history" "[I" ∈ gtbl := gt_of 672 (by decide +kernel) rfl
theorem kF_RX10_40 : Cond.fieldLink RX10 40 "LearningRepeaterModel" "kept" "I" ∈ gtbl := gt_of 673 (by decide +kernel) rfl
theorem kF_RX10_16 : Cond.fieldLink RX10 16 "LearningRepeaterModel" "slot" "[I" ∈ gtbl := gt_of 674 (by decide +kernel) rfl
theorem kF_RX10_147 : Cond.fieldLink RX10 147 "LearningRepeaterModel" "isFilled" "Z" ∈ gtbl := gt_of 675 (by decide +kernel) rfl
theorem kF_RX10_19 : Cond.fieldLink RX10 19 "LearningRepeaterModel" "spare" "[I" ∈ gtbl := gt_of 676 (by decide +kernel) rfl
theorem kF_RX10_87 : Cond.fieldLink RX10 87 "LearningRepeaterModel" "outs" "I" ∈ gtbl := gt_of 677 (by decide +kernel) rfl
theorem kF_RX10_115 : Cond.fieldLink RX10 115 "LearningRepeaterModel" "onWay" "I" ∈ gtbl := gt_of 678 (by decide +kernel) rfl
theorem kF_RX10_22 : Cond.fieldLink RX10 22 "LearningRepeaterModel" "way" "[I" ∈ gtbl := gt_of 679 (by decide +kernel) rfl
theorem kF_RX10_124 : Cond.fieldLink RX10 124 "LearningRepeaterModel" "typed" "I" ∈ gtbl := gt_of 680 (by decide +kernel) rfl
theorem kF_RX10_25 : Cond.fieldLink RX10 25 "LearningRepeaterModel" "text" "[C" ∈ gtbl := gt_of 681 (by decide +kernel) rfl
theorem kF_RX10_127 : Cond.fieldLink RX10 127 "LearningRepeaterModel" "at" "I" ∈ gtbl := gt_of 682 (by decide +kernel) rfl
theorem kF_RX10_133 : Cond.fieldLink RX10 133 "LearningRepeaterModel" "readMany" "I" ∈ gtbl := gt_of 683 (by decide +kernel) rfl
theorem kF_RX10_29 : Cond.fieldLink RX10 29 "LearningRepeaterModel" "readFrame" "[I" ∈ gtbl := gt_of 684 (by decide +kernel) rfl
theorem kM_RL_17 : Cond.methodLink RL 17 yX10_setPort ∈ gtbl := gt_of 714 (by decide +kernel) rfl
theorem kY_yX10_setPort : Cond.instanceMethod yX10_setPort ∈ gtbl := gt_of 715 (by decide +kernel) rfl
theorem kS_yX10_setPort : Cond.selects RX10 yX10_setPort yX10_setPort ∈ gtbl := gt_of 716 (by decide +kernel) rfl
theorem kC_yX10_setPort : Cond.code yX10_setPort cX10_setPort 3 (some .int) ∈ gtbl := gt_of 717 (by decide +kernel) rfl
theorem kM_RX10_52 : Cond.methodLink RX10 52 yX10_noPort ∈ gtbl := gt_of 718 (by decide +kernel) rfl
theorem kT_yX10_noPort : Cond.static yX10_noPort ∈ gtbl := gt_of 719 (by decide +kernel) rfl
theorem kC_yX10_noPort : Cond.code yX10_noPort cX10_noPort 1 (some .boolean) ∈ gtbl := gt_of 720 (by decide +kernel) rfl
theorem kM_RX10_36 : Cond.methodLink RX10 36 yX10_in ∈ gtbl := gt_of 721 (by decide +kernel) rfl
theorem kT_yX10_in : Cond.static yX10_in ∈ gtbl := gt_of 722 (by decide +kernel) rfl
theorem kC_yX10_in : Cond.code yX10_in cX10_in 3 (some .boolean) ∈ gtbl := gt_of 723 (by decide +kernel) rfl
theorem kM_RX10_44 : Cond.methodLink RX10 44 yX10_of ∈ gtbl := gt_of 724 (by decide +kernel) rfl
theorem kY_yX10_of : Cond.instanceMethod yX10_of ∈ gtbl := gt_of 726 (by decide +kernel) rfl
theorem kC_yX10_of : Cond.code yX10_of cX10_of 3 (some .int) ∈ gtbl := gt_of 727 (by decide +kernel) rfl
theorem kM_RX10_55 : Cond.methodLink RX10 55 yX10_record ∈ gtbl := gt_of 728 (by decide +kernel) rfl
theorem kY_yX10_record : Cond.instanceMethod yX10_record ∈ gtbl := gt_of 730 (by decide +kernel) rfl
theorem kC_yX10_record : Cond.code yX10_record cX10_record 2 none ∈ gtbl := gt_of 731 (by decide +kernel) rfl
theorem kM_RX10_58 : Cond.methodLink RX10 58 yX10_openPorts ∈ gtbl := gt_of 732 (by decide +kernel) rfl
theorem kY_yX10_openPorts : Cond.instanceMethod yX10_openPorts ∈ gtbl := gt_of 734 (by decide +kernel) rfl
theorem kC_yX10_openPorts : Cond.code yX10_openPorts cX10_openPorts 3 (some .int) ∈ gtbl := gt_of 735 (by decide +kernel) rfl
theorem kM_RX10_48 : Cond.methodLink RX10 48 yX10_isOpen ∈ gtbl := gt_of 736 (by decide +kernel) rfl
theorem kY_yX10_isOpen : Cond.instanceMethod yX10_isOpen ∈ gtbl := gt_of 738 (by decide +kernel) rfl
theorem kC_yX10_isOpen : Cond.code yX10_isOpen cX10_isOpen 2 (some .boolean) ∈ gtbl := gt_of 739 (by decide +kernel) rfl
theorem kM_RL_22 : Cond.methodLink RL 22 yX10_join ∈ gtbl := gt_of 740 (by decide +kernel) rfl
theorem kY_yX10_join : Cond.instanceMethod yX10_join ∈ gtbl := gt_of 741 (by decide +kernel) rfl
theorem kS_yX10_join : Cond.selects RX10 yX10_join yX10_join ∈ gtbl := gt_of 742 (by decide +kernel) rfl
theorem kC_yX10_join : Cond.code yX10_join cX10_join 3 (some .int) ∈ gtbl := gt_of 743 (by decide +kernel) rfl
theorem kM_RX10_62 : Cond.methodLink RX10 62 yX10_cables ∈ gtbl := gt_of 744 (by decide +kernel) rfl
theorem kY_yX10_cables : Cond.instanceMethod yX10_cables ∈ gtbl := gt_of 746 (by decide +kernel) rfl
theorem kC_yX10_cables : Cond.code yX10_cables cX10_cables 3 (some .int) ∈ gtbl := gt_of 747 (by decide +kernel) rfl
theorem kM_RL_27 : Cond.methodLink RL 27 yX10_part ∈ gtbl := gt_of 748 (by decide +kernel) rfl
theorem kY_yX10_part : Cond.instanceMethod yX10_part ∈ gtbl := gt_of 749 (by decide +kernel) rfl
theorem kS_yX10_part : Cond.selects RX10 yX10_part yX10_part ∈ gtbl := gt_of 750 (by decide +kernel) rfl
theorem kC_yX10_part : Cond.code yX10_part cX10_part 3 (some .int) ∈ gtbl := gt_of 751 (by decide +kernel) rfl
theorem kM_RL_31 : Cond.methodLink RL 31 yX10_release ∈ gtbl := gt_of 752 (by decide +kernel) rfl
theorem kY_yX10_release : Cond.instanceMethod yX10_release ∈ gtbl := gt_of 753 (by decide +kernel) rfl
theorem kS_yX10_release : Cond.selects RX10 yX10_release yX10_release ∈ gtbl := gt_of 754 (by decide +kernel) rfl
theorem kC_yX10_release : Cond.code yX10_release cX10_release 3 (some .int) ∈ gtbl := gt_of 755 (by decide +kernel) rfl
theorem kM_RX10_65 : Cond.methodLink RX10 65 yX10_holdLeft ∈ gtbl := gt_of 756 (by decide +kernel) rfl
theorem kY_yX10_holdLeft : Cond.instanceMethod yX10_holdLeft ∈ gtbl := gt_of 758 (by decide +kernel) rfl
theorem kC_yX10_holdLeft : Cond.code yX10_holdLeft cX10_holdLeft 2 (some .int) ∈ gtbl := gt_of 759 (by decide +kernel) rfl
theorem kM_RL_35 : Cond.methodLink RL 35 yX10_set ∈ gtbl := gt_of 760 (by decide +kernel) rfl
theorem kY_yX10_set : Cond.instanceMethod yX10_set ∈ gtbl := gt_of 761 (by decide +kernel) rfl
theorem kS_yX10_set : Cond.selects RX10 yX10_set yX10_set ∈ gtbl := gt_of 762 (by decide +kernel) rfl
theorem kC_yX10_set : Cond.code yX10_set cX10_set 4 (some .int) ∈ gtbl := gt_of 763 (by decide +kernel) rfl
theorem kM_RX10_69 : Cond.methodLink RX10 69 yX10_mostOf ∈ gtbl := gt_of 764 (by decide +kernel) rfl
theorem kT_yX10_mostOf : Cond.static yX10_mostOf ∈ gtbl := gt_of 765 (by decide +kernel) rfl
theorem kC_yX10_mostOf : Cond.code yX10_mostOf cX10_mostOf 1 (some .int) ∈ gtbl := gt_of 766 (by decide +kernel) rfl
theorem kM_RL_40 : Cond.methodLink RL 40 yX10_frame ∈ gtbl := gt_of 767 (by decide +kernel) rfl
theorem kY_yX10_frame : Cond.instanceMethod yX10_frame ∈ gtbl := gt_of 768 (by decide +kernel) rfl
theorem kS_yX10_frame : Cond.selects RX10 yX10_frame yX10_frame ∈ gtbl := gt_of 769 (by decide +kernel) rfl
theorem kC_yX10_frame : Cond.code yX10_frame cX10_frame 5 (some .int) ∈ gtbl := gt_of 770 (by decide +kernel) rfl
theorem kM_RX10_106 : Cond.methodLink RX10 106 yX10_noAddress ∈ gtbl := gt_of 771 (by decide +kernel) rfl
theorem kT_yX10_noAddress : Cond.static yX10_noAddress ∈ gtbl := gt_of 772 (by decide +kernel) rfl
theorem kC_yX10_noAddress : Cond.code yX10_noAddress cX10_noAddress 1 (some .boolean) ∈ gtbl := gt_of 773 (by decide +kernel) rfl
theorem kM_RX10_109 : Cond.methodLink RX10 109 yX10_comesIn ∈ gtbl := gt_of 774 (by decide +kernel) rfl
theorem kY_yX10_comesIn : Cond.instanceMethod yX10_comesIn ∈ gtbl := gt_of 776 (by decide +kernel) rfl
theorem kC_yX10_comesIn : Cond.code yX10_comesIn cX10_comesIn 6 (some .int) ∈ gtbl := gt_of 777 (by decide +kernel) rfl
theorem kM_RX10_83 : Cond.methodLink RX10 83 yX10_becomes ∈ gtbl := gt_of 778 (by decide +kernel) rfl
theorem kY_yX10_becomes : Cond.instanceMethod yX10_becomes ∈ gtbl := gt_of 780 (by decide +kernel) rfl
theorem kC_yX10_becomes : Cond.code yX10_becomes cX10_becomes 7 (some .int) ∈ gtbl := gt_of 781 (by decide +kernel) rfl
theorem kM_RX10_90 : Cond.methodLink RX10 90 yX10_movesOf ∈ gtbl := gt_of 782 (by decide +kernel) rfl
theorem kY_yX10_movesOf : Cond.instanceMethod yX10_movesOf ∈ gtbl := gt_of 784 (by decide +kernel) rfl
theorem kC_yX10_movesOf : Cond.code yX10_movesOf cX10_movesOf 4 (some .int) ∈ gtbl := gt_of 785 (by decide +kernel) rfl
theorem kM_RX10_93 : Cond.methodLink RX10 93 yX10_quarantine ∈ gtbl := gt_of 786 (by decide +kernel) rfl
theorem kY_yX10_quarantine : Cond.instanceMethod yX10_quarantine ∈ gtbl := gt_of 788 (by decide +kernel) rfl
theorem kC_yX10_quarantine : Cond.code yX10_quarantine cX10_quarantine 3 none ∈ gtbl := gt_of 789 (by decide +kernel) rfl
theorem kM_RX10_72 : Cond.methodLink RX10 72 yX10_removeEntries ∈ gtbl := gt_of 790 (by decide +kernel) rfl
theorem kY_yX10_removeEntries : Cond.instanceMethod yX10_removeEntries ∈ gtbl := gt_of 792 (by decide +kernel) rfl
theorem kC_yX10_removeEntries : Cond.code yX10_removeEntries cX10_removeEntries 3 none ∈ gtbl := gt_of 793 (by decide +kernel) rfl
theorem kM_RX10_96 : Cond.methodLink RX10 96 yX10_entries ∈ gtbl := gt_of 794 (by decide +kernel) rfl
theorem kY_yX10_entries : Cond.instanceMethod yX10_entries ∈ gtbl := gt_of 796 (by decide +kernel) rfl
theorem kC_yX10_entries : Cond.code yX10_entries cX10_entries 3 (some .int) ∈ gtbl := gt_of 797 (by decide +kernel) rfl
theorem kM_RX10_99 : Cond.methodLink RX10 99 yX10_removeOldest ∈ gtbl := gt_of 798 (by decide +kernel) rfl
theorem kY_yX10_removeOldest : Cond.instanceMethod yX10_removeOldest ∈ gtbl := gt_of 800 (by decide +kernel) rfl
theorem kC_yX10_removeOldest : Cond.code yX10_removeOldest cX10_removeOldest 3 none ∈ gtbl := gt_of 801 (by decide +kernel) rfl
theorem kM_RX10_102 : Cond.methodLink RX10 102 yX10_goesOut ∈ gtbl := gt_of 802 (by decide +kernel) rfl
theorem kY_yX10_goesOut : Cond.instanceMethod yX10_goesOut ∈ gtbl := gt_of 804 (by decide +kernel) rfl
theorem kC_yX10_goesOut : Cond.code yX10_goesOut cX10_goesOut 6 none ∈ gtbl := gt_of 805 (by decide +kernel) rfl
theorem kM_RX10_76 : Cond.methodLink RX10 76 yX10_more ∈ gtbl := gt_of 806 (by decide +kernel) rfl
theorem kY_yX10_more : Cond.instanceMethod yX10_more ∈ gtbl := gt_of 808 (by decide +kernel) rfl
theorem kC_yX10_more : Cond.code yX10_more cX10_more 3 none ∈ gtbl := gt_of 809 (by decide +kernel) rfl
theorem kM_RX10_80 : Cond.methodLink RX10 80 yX10_queueCell ∈ gtbl := gt_of 810 (by decide +kernel) rfl
theorem kY_yX10_queueCell : Cond.instanceMethod yX10_queueCell ∈ gtbl := gt_of 812 (by decide +kernel) rfl
theorem kC_yX10_queueCell : Cond.code yX10_queueCell cX10_queueCell 3 (some .int) ∈ gtbl := gt_of 813 (by decide +kernel) rfl
theorem kM_RL_44 : Cond.methodLink RL 44 yX10_forget ∈ gtbl := gt_of 814 (by decide +kernel) rfl
theorem kY_yX10_forget : Cond.instanceMethod yX10_forget ∈ gtbl := gt_of 815 (by decide +kernel) rfl
theorem kS_yX10_forget : Cond.selects RX10 yX10_forget yX10_forget ∈ gtbl := gt_of 816 (by decide +kernel) rfl
theorem kC_yX10_forget : Cond.code yX10_forget cX10_forget 3 (some .int) ∈ gtbl := gt_of 817 (by decide +kernel) rfl
theorem kM_RL_99 : Cond.methodLink RL 99 yX10_wouldGo ∈ gtbl := gt_of 818 (by decide +kernel) rfl
theorem kY_yX10_wouldGo : Cond.instanceMethod yX10_wouldGo ∈ gtbl := gt_of 819 (by decide +kernel) rfl
theorem kS_yX10_wouldGo : Cond.selects RX10 yX10_wouldGo yX10_wouldGo ∈ gtbl := gt_of 820 (by decide +kernel) rfl
theorem kC_yX10_wouldGo : Cond.code yX10_wouldGo cX10_wouldGo 6 (some .int) ∈ gtbl := gt_of 821 (by decide +kernel) rfl
theorem kM_RL_48 : Cond.methodLink RL 48 yX10_pass ∈ gtbl := gt_of 822 (by decide +kernel) rfl
theorem kY_yX10_pass : Cond.instanceMethod yX10_pass ∈ gtbl := gt_of 823 (by decide +kernel) rfl
theorem kS_yX10_pass : Cond.selects RX10 yX10_pass yX10_pass ∈ gtbl := gt_of 824 (by decide +kernel) rfl
theorem kC_yX10_pass : Cond.code yX10_pass cX10_pass 4 (some .int) ∈ gtbl := gt_of 825 (by decide +kernel) rfl
theorem kM_RX10_121 : Cond.methodLink RX10 121 yX10_goesOn ∈ gtbl := gt_of 826 (by decide +kernel) rfl
theorem kY_yX10_goesOn : Cond.instanceMethod yX10_goesOn ∈ gtbl := gt_of 828 (by decide +kernel) rfl
theorem kC_yX10_goesOn : Cond.code yX10_goesOn cX10_goesOn 4 (some .int) ∈ gtbl := gt_of 829 (by decide +kernel) rfl
theorem kM_RX10_118 : Cond.methodLink RX10 118 yX10_sends ∈ gtbl := gt_of 830 (by decide +kernel) rfl
theorem kY_yX10_sends : Cond.instanceMethod yX10_sends ∈ gtbl := gt_of 832 (by decide +kernel) rfl
theorem kC_yX10_sends : Cond.code yX10_sends cX10_sends 5 none ∈ gtbl := gt_of 833 (by decide +kernel) rfl
theorem kM_RX10_112 : Cond.methodLink RX10 112 yX10_atPlace ∈ gtbl := gt_of 834 (by decide +kernel) rfl
theorem kY_yX10_atPlace : Cond.instanceMethod yX10_atPlace ∈ gtbl := gt_of 836 (by decide +kernel) rfl
theorem kC_yX10_atPlace : Cond.code yX10_atPlace cX10_atPlace 7 (some .int) ∈ gtbl := gt_of 837 (by decide +kernel) rfl
theorem kM_RL_53 : Cond.methodLink RL 53 yX10_type ∈ gtbl := gt_of 838 (by decide +kernel) rfl
theorem kY_yX10_type : Cond.instanceMethod yX10_type ∈ gtbl := gt_of 839 (by decide +kernel) rfl
theorem kS_yX10_type : Cond.selects RX10 yX10_type yX10_type ∈ gtbl := gt_of 840 (by decide +kernel) rfl
theorem kC_yX10_type : Cond.code yX10_type cX10_type 2 (some .int) ∈ gtbl := gt_of 841 (by decide +kernel) rfl
theorem kM_RL_58 : Cond.methodLink RL 58 yX10_clearText ∈ gtbl := gt_of 842 (by decide +kernel) rfl
theorem kY_yX10_clearText : Cond.instanceMethod yX10_clearText ∈ gtbl := gt_of 843 (by decide +kernel) rfl
theorem kS_yX10_clearText : Cond.selects RX10 yX10_clearText yX10_clearText ∈ gtbl := gt_of 844 (by decide +kernel) rfl
theorem kC_yX10_clearText : Cond.code yX10_clearText cX10_clearText 2 (some .int) ∈ gtbl := gt_of 845 (by decide +kernel) rfl
theorem kM_RL_62 : Cond.methodLink RL 62 yX10_readFrames ∈ gtbl := gt_of 846 (by decide +kernel) rfl
theorem kY_yX10_readFrames : Cond.instanceMethod yX10_readFrames ∈ gtbl := gt_of 847 (by decide +kernel) rfl
theorem kS_yX10_readFrames : Cond.selects RX10 yX10_readFrames yX10_readFrames ∈ gtbl := gt_of 848 (by decide +kernel) rfl
theorem kC_yX10_readFrames : Cond.code yX10_readFrames cX10_readFrames 5 (some .int) ∈ gtbl := gt_of 849 (by decide +kernel) rfl
theorem kM_RX10_143 : Cond.methodLink RX10 143 yX10_readsFrame ∈ gtbl := gt_of 850 (by decide +kernel) rfl
theorem kY_yX10_readsFrame : Cond.instanceMethod yX10_readsFrame ∈ gtbl := gt_of 852 (by decide +kernel) rfl
theorem kC_yX10_readsFrame : Cond.code yX10_readsFrame cX10_readsFrame 2 (some .boolean) ∈ gtbl := gt_of 853 (by decide +kernel) rfl
theorem kM_RX10_136 : Cond.methodLink RX10 136 yX10_address ∈ gtbl := gt_of 854 (by decide +kernel) rfl
theorem kY_yX10_address : Cond.instanceMethod yX10_address ∈ gtbl := gt_of 856 (by decide +kernel) rfl
theorem kC_yX10_address : Cond.code yX10_address cX10_address 3 (some .int) ∈ gtbl := gt_of 857 (by decide +kernel) rfl
theorem kM_RX10_130 : Cond.methodLink RX10 130 yX10_digit ∈ gtbl := gt_of 858 (by decide +kernel) rfl
theorem kY_yX10_digit : Cond.instanceMethod yX10_digit ∈ gtbl := gt_of 860 (by decide +kernel) rfl
theorem kC_yX10_digit : Cond.code yX10_digit cX10_digit 3 (some .int) ∈ gtbl := gt_of 861 (by decide +kernel) rfl
theorem kM_RX10_139 : Cond.methodLink RX10 139 yX10_takes ∈ gtbl := gt_of 862 (by decide +kernel) rfl
theorem kY_yX10_takes : Cond.instanceMethod yX10_takes ∈ gtbl := gt_of 864 (by decide +kernel) rfl
theorem kC_yX10_takes : Cond.code yX10_takes cX10_takes 2 (some .boolean) ∈ gtbl := gt_of 865 (by decide +kernel) rfl
theorem kM_RL_66 : Cond.methodLink RL 66 yX10_undo ∈ gtbl := gt_of 866 (by decide +kernel) rfl
theorem kY_yX10_undo : Cond.instanceMethod yX10_undo ∈ gtbl := gt_of 867 (by decide +kernel) rfl
theorem kS_yX10_undo : Cond.selects RX10 yX10_undo yX10_undo ∈ gtbl := gt_of 868 (by decide +kernel) rfl
theorem kC_yX10_undo : Cond.code yX10_undo cX10_undo 2 (some .int) ∈ gtbl := gt_of 869 (by decide +kernel) rfl
theorem kM_RL_70 : Cond.methodLink RL 70 yX10_keep ∈ gtbl := gt_of 870 (by decide +kernel) rfl
theorem kY_yX10_keep : Cond.instanceMethod yX10_keep ∈ gtbl := gt_of 871 (by decide +kernel) rfl
theorem kS_yX10_keep : Cond.selects RX10 yX10_keep yX10_keep ∈ gtbl := gt_of 872 (by decide +kernel) rfl
theorem kC_yX10_keep : Cond.code yX10_keep cX10_keep 2 (some .int) ∈ gtbl := gt_of 873 (by decide +kernel) rfl
theorem kM_RL_74 : Cond.methodLink RL 74 yX10_restore ∈ gtbl := gt_of 874 (by decide +kernel) rfl
theorem kY_yX10_restore : Cond.instanceMethod yX10_restore ∈ gtbl := gt_of 875 (by decide +kernel) rfl
theorem kS_yX10_restore : Cond.selects RX10 yX10_restore yX10_restore ∈ gtbl := gt_of 876 (by decide +kernel) rfl
theorem kC_yX10_restore : Cond.code yX10_restore cX10_restore 2 (some .int) ∈ gtbl := gt_of 877 (by decide +kernel) rfl
theorem kM_RL_78 : Cond.methodLink RL 78 yX10_port ∈ gtbl := gt_of 878 (by decide +kernel) rfl
theorem kY_yX10_port : Cond.instanceMethod yX10_port ∈ gtbl := gt_of 879 (by decide +kernel) rfl
theorem kS_yX10_port : Cond.selects RX10 yX10_port yX10_port ∈ gtbl := gt_of 880 (by decide +kernel) rfl
theorem kC_yX10_port : Cond.code yX10_port cX10_port 3 (some .int) ∈ gtbl := gt_of 881 (by decide +kernel) rfl
theorem kM_RX10_151 : Cond.methodLink RX10 151 yX10_entriesWith ∈ gtbl := gt_of 882 (by decide +kernel) rfl
theorem kY_yX10_entriesWith : Cond.instanceMethod yX10_entriesWith ∈ gtbl := gt_of 884 (by decide +kernel) rfl
theorem kC_yX10_entriesWith : Cond.code yX10_entriesWith cX10_entriesWith 4 (some .int) ∈ gtbl := gt_of 885 (by decide +kernel) rfl
theorem kM_RL_82 : Cond.methodLink RL 82 yX10_account ∈ gtbl := gt_of 886 (by decide +kernel) rfl
theorem kY_yX10_account : Cond.instanceMethod yX10_account ∈ gtbl := gt_of 887 (by decide +kernel) rfl
theorem kS_yX10_account : Cond.selects RX10 yX10_account yX10_account ∈ gtbl := gt_of 888 (by decide +kernel) rfl
theorem kC_yX10_account : Cond.code yX10_account cX10_account 3 (some .int) ∈ gtbl := gt_of 889 (by decide +kernel) rfl
theorem kM_RL_86 : Cond.methodLink RL 86 yX10_entry ∈ gtbl := gt_of 890 (by decide +kernel) rfl
theorem kY_yX10_entry : Cond.instanceMethod yX10_entry ∈ gtbl := gt_of 891 (by decide +kernel) rfl
theorem kS_yX10_entry : Cond.selects RX10 yX10_entry yX10_entry ∈ gtbl := gt_of 892 (by decide +kernel) rfl
theorem kC_yX10_entry : Cond.code yX10_entry cX10_entry 5 (some .int) ∈ gtbl := gt_of 893 (by decide +kernel) rfl
theorem kM_RL_90 : Cond.methodLink RL 90 yX10_where ∈ gtbl := gt_of 894 (by decide +kernel) rfl
theorem kY_yX10_where : Cond.instanceMethod yX10_where ∈ gtbl := gt_of 895 (by decide +kernel) rfl
theorem kS_yX10_where : Cond.selects RX10 yX10_where yX10_where ∈ gtbl := gt_of 896 (by decide +kernel) rfl
theorem kC_yX10_where : Cond.code yX10_where cX10_where 2 (some .int) ∈ gtbl := gt_of 897 (by decide +kernel) rfl
theorem kM_RL_95 : Cond.methodLink RL 95 yX10_queued ∈ gtbl := gt_of 898 (by decide +kernel) rfl
theorem kY_yX10_queued : Cond.instanceMethod yX10_queued ∈ gtbl := gt_of 899 (by decide +kernel) rfl
theorem kS_yX10_queued : Cond.selects RX10 yX10_queued yX10_queued ∈ gtbl := gt_of 900 (by decide +kernel) rfl
theorem kC_yX10_queued : Cond.code yX10_queued cX10_queued 5 (some .int) ∈ gtbl := gt_of 901 (by decide +kernel) rfl
theorem kM_RL_103 : Cond.methodLink RL 103 yX10_loops ∈ gtbl := gt_of 902 (by decide +kernel) rfl
theorem kY_yX10_loops : Cond.instanceMethod yX10_loops ∈ gtbl := gt_of 903 (by decide +kernel) rfl
theorem kS_yX10_loops : Cond.selects RX10 yX10_loops yX10_loops ∈ gtbl := gt_of 904 (by decide +kernel) rfl
theorem kC_yX10_loops : Cond.code yX10_loops cX10_loops 3 (some .int) ∈ gtbl := gt_of 905 (by decide +kernel) rfl
theorem kM_RL_107 : Cond.methodLink RL 107 yX10_count ∈ gtbl := gt_of 906 (by decide +kernel) rfl
theorem kY_yX10_count : Cond.instanceMethod yX10_count ∈ gtbl := gt_of 907 (by decide +kernel) rfl
theorem kS_yX10_count : Cond.selects RX10 yX10_count yX10_count ∈ gtbl := gt_of 908 (by decide +kernel) rfl
theorem kC_yX10_count : Cond.code yX10_count cX10_count 2 (some .int) ∈ gtbl := gt_of 909 (by decide +kernel) rfl
theorem kM_RX10_154 : Cond.methodLink RX10 154 yX10_held ∈ gtbl := gt_of 910 (by decide +kernel) rfl
theorem kY_yX10_held : Cond.instanceMethod yX10_held ∈ gtbl := gt_of 912 (by decide +kernel) rfl
theorem kC_yX10_held : Cond.code yX10_held cX10_held 3 (some .int) ∈ gtbl := gt_of 913 (by decide +kernel) rfl
theorem kM_RX10_157 : Cond.methodLink RX10 157 yX10_inAll ∈ gtbl := gt_of 914 (by decide +kernel) rfl
theorem kY_yX10_inAll : Cond.instanceMethod yX10_inAll ∈ gtbl := gt_of 916 (by decide +kernel) rfl
theorem kC_yX10_inAll : Cond.code yX10_inAll cX10_inAll 4 (some .int) ∈ gtbl := gt_of 917 (by decide +kernel) rfl
theorem kS_yX5_fits : Cond.selects RX5 yX5_fits yX5_fits ∈ gtbl := gt_pr 0 (by decide +kernel) rfl
theorem kS_yX1_stateAt : Cond.selects RX1 yX1_stateAt yX1_stateAt ∈ gtbl := gt_pr 1 (by decide +kernel) rfl
theorem kS_yX7_oldest : Cond.selects RX7 yX7_oldest yX7_oldest ∈ gtbl := gt_pr 2 (by decide +kernel) rfl
theorem kS_yX6_quarantine : Cond.selects RX6 yX6_quarantine yX6_quarantine ∈ gtbl := gt_pr 3 (by decide +kernel) rfl
theorem kS_yX6_goOut : Cond.selects RX6 yX6_goOut yX6_goOut ∈ gtbl := gt_pr 4 (by decide +kernel) rfl
theorem kS_yX6_sendFrom : Cond.selects RX6 yX6_sendFrom yX6_sendFrom ∈ gtbl := gt_pr 5 (by decide +kernel) rfl
theorem kS_yX8_readFrame : Cond.selects RX8 yX8_readFrame yX8_readFrame ∈ gtbl := gt_pr 6 (by decide +kernel) rfl
theorem kS_yX8_readAddress : Cond.selects RX8 yX8_readAddress yX8_readAddress ∈ gtbl := gt_pr 7 (by decide +kernel) rfl
theorem kS_yX8_readDigit : Cond.selects RX8 yX8_readDigit yX8_readDigit ∈ gtbl := gt_pr 8 (by decide +kernel) rfl
theorem kS_yX8_signAt : Cond.selects RX8 yX8_signAt yX8_signAt ∈ gtbl := gt_pr 9 (by decide +kernel) rfl
theorem kS_yX8_skip : Cond.selects RX8 yX8_skip yX8_skip ∈ gtbl := gt_pr 10 (by decide +kernel) rfl
theorem kS_yX10_to : Cond.selects RX10 yX10_to yX10_to ∈ gtbl := gt_pr 11 (by decide +kernel) rfl
theorem kS_yX10_of : Cond.selects RX10 yX10_of yX10_of ∈ gtbl := gt_pr 12 (by decide +kernel) rfl
theorem kS_yX10_record : Cond.selects RX10 yX10_record yX10_record ∈ gtbl := gt_pr 13 (by decide +kernel) rfl
theorem kS_yX10_openPorts : Cond.selects RX10 yX10_openPorts yX10_openPorts ∈ gtbl := gt_pr 14 (by decide +kernel) rfl
theorem kS_yX10_isOpen : Cond.selects RX10 yX10_isOpen yX10_isOpen ∈ gtbl := gt_pr 15 (by decide +kernel) rfl
theorem kS_yX10_cables : Cond.selects RX10 yX10_cables yX10_cables ∈ gtbl := gt_pr 16 (by decide +kernel) rfl
theorem kS_yX10_holdLeft : Cond.selects RX10 yX10_holdLeft yX10_holdLeft ∈ gtbl := gt_pr 17 (by decide +kernel) rfl
theorem kS_yX10_comesIn : Cond.selects RX10 yX10_comesIn yX10_comesIn ∈ gtbl := gt_pr 18 (by decide +kernel) rfl
theorem kS_yX10_becomes : Cond.selects RX10 yX10_becomes yX10_becomes ∈ gtbl := gt_pr 19 (by decide +kernel) rfl
theorem kS_yX10_movesOf : Cond.selects RX10 yX10_movesOf yX10_movesOf ∈ gtbl := gt_pr 20 (by decide +kernel) rfl
theorem kS_yX10_quarantine : Cond.selects RX10 yX10_quarantine yX10_quarantine ∈ gtbl := gt_pr 21 (by decide +kernel) rfl
theorem kS_yX10_removeEntries : Cond.selects RX10 yX10_removeEntries yX10_removeEntries ∈ gtbl := gt_pr 22 (by decide +kernel) rfl
theorem kS_yX10_entries : Cond.selects RX10 yX10_entries yX10_entries ∈ gtbl := gt_pr 23 (by decide +kernel) rfl
theorem kS_yX10_removeOldest : Cond.selects RX10 yX10_removeOldest yX10_removeOldest ∈ gtbl := gt_pr 24 (by decide +kernel) rfl
theorem kS_yX10_goesOut : Cond.selects RX10 yX10_goesOut yX10_goesOut ∈ gtbl := gt_pr 25 (by decide +kernel) rfl
theorem kS_yX10_more : Cond.selects RX10 yX10_more yX10_more ∈ gtbl := gt_pr 26 (by decide +kernel) rfl
theorem kS_yX10_queueCell : Cond.selects RX10 yX10_queueCell yX10_queueCell ∈ gtbl := gt_pr 27 (by decide +kernel) rfl
theorem kS_yX10_goesOn : Cond.selects RX10 yX10_goesOn yX10_goesOn ∈ gtbl := gt_pr 28 (by decide +kernel) rfl
theorem kS_yX10_sends : Cond.selects RX10 yX10_sends yX10_sends ∈ gtbl := gt_pr 29 (by decide +kernel) rfl
theorem kS_yX10_atPlace : Cond.selects RX10 yX10_atPlace yX10_atPlace ∈ gtbl := gt_pr 30 (by decide +kernel) rfl
theorem kS_yX10_readsFrame : Cond.selects RX10 yX10_readsFrame yX10_readsFrame ∈ gtbl := gt_pr 31 (by decide +kernel) rfl
theorem kS_yX10_address : Cond.selects RX10 yX10_address yX10_address ∈ gtbl := gt_pr 32 (by decide +kernel) rfl
theorem kS_yX10_digit : Cond.selects RX10 yX10_digit yX10_digit ∈ gtbl := gt_pr 33 (by decide +kernel) rfl
theorem kS_yX10_takes : Cond.selects RX10 yX10_takes yX10_takes ∈ gtbl := gt_pr 34 (by decide +kernel) rfl
theorem kS_yX10_entriesWith : Cond.selects RX10 yX10_entriesWith yX10_entriesWith ∈ gtbl := gt_pr 35 (by decide +kernel) rfl
theorem kS_yX10_held : Cond.selects RX10 yX10_held yX10_held ∈ gtbl := gt_pr 36 (by decide +kernel) rfl
theorem kS_yX10_inAll : Cond.selects RX10 yX10_inAll yX10_inAll ∈ gtbl := gt_pr 37 (by decide +kernel) rfl
theorem inK0 : ∀ w ∈ u_ws RX0 TX0 2, w ∈ gtbl := gt_all (by decide +kernel) (by decide +kernel)
theorem inK1 : ∀ w ∈ u_ws RX1 TX1 3, w ∈ gtbl := gt_all (by decide +kernel) (by decide +kernel)
theorem inK2 : ∀ w ∈ u_ws RX2 TX2 1, w ∈ gtbl := gt_all (by decide +kernel) (by decide +kernel)
theorem inK3 : ∀ w ∈ u_ws RX3 TX3 6, w ∈ gtbl := gt_all (by decide +kernel) (by decide +kernel)
theorem inK4 : ∀ w ∈ u_ws RX4 TX4 2, w ∈ gtbl := gt_all (by decide +kernel) (by decide +kernel)
theorem inK5 : ∀ w ∈ u_ws RX5 TX5 1, w ∈ gtbl := gt_all (by decide +kernel) (by decide +kernel)
theorem inK6 : ∀ w ∈ u_ws RX6 TX6 8, w ∈ gtbl := gt_all (by decide +kernel) (by decide +kernel)
theorem inK7 : ∀ w ∈ u_ws RX7 TX7 3, w ∈ gtbl := gt_all (by decide +kernel) (by decide +kernel)
theorem inK8 : ∀ w ∈ u_ws RX8 TX8 3, w ∈ gtbl := gt_all (by decide +kernel) (by decide +kernel)
theorem inK9 : ∀ w ∈ u_ws RX9 TX9 7, w ∈ gtbl := gt_all (by decide +kernel) (by decide +kernel)
theorem inK10 : ∀ w ∈ u_ws RX10 TX10 14, w ∈ gtbl := gt_all (by decide +kernel) (by decide +kernel)
end
section
theorem dX0_init_0 : decode cX0_init 0 = .ok (.aload_n 0, 1) := by decide +kernel
theorem dX0_init_1 : decode cX0_init 1 = .ok (.invokespecial 3, 3) := by decide +kernel
theorem dX0_init_4 : decode cX0_init 4 = .ok (.aload_n 0, 1) := by decide +kernel
theorem dX0_init_5 : decode cX0_init 5 = .ok (.new 9, 3) := by decide +kernel
theorem dX0_init_8 : decode cX0_init 8 = .ok (.dup, 1) := by decide +kernel
theorem dX0_init_9 : decode cX0_init 9 = .ok (.sipush 384, 3) := by decide +kernel
theorem dX0_init_12 : decode cX0_init 12 = .ok (.invokespecial 13, 3) := by decide +kernel
theorem dX0_init_15 : decode cX0_init 15 = .ok (.putfield 16, 3) := by decide +kernel
theorem dX0_init_18 : decode cX0_init 18 = .ok (.return_, 1) := by decide +kernel
theorem dX0_append_0 : decode cX0_append 0 = .ok (.aload_n 0, 1) := by decide +kernel
theorem dX0_append_1 : decode cX0_append 1 = .ok (.getfield 20, 3) := by decide +kernel
theorem dX0_append_4 : decode cX0_append 4 = .ok (.bipush 96, 2) := by decide +kernel
theorem dX0_append_6 : decode cX0_append 6 = .ok (.if_icmp .lt 4, 3) := by decide +kernel
theorem dX0_append_9 : decode cX0_append 9 = .ok (.return_, 1) := by decide +kernel
theorem dX0_append_10 : decode cX0_append 10 = .ok (.aload_n 0, 1) := by decide +kernel
theorem dX0_append_11 : decode cX0_append 11 = .ok (.getfield 20, 3) := by decide +kernel
theorem dX0_append_14 : decode cX0_append 14 = .ok (.iconst 4, 1) := by decide +kernel
theorem dX0_append_15 : decode cX0_append 15 = .ok (.imul, 1) := by decide +kernel
theorem dX0_append_16 : decode cX0_append 16 = .ok (.istore 5, 2) := by decide +kernel
theorem dX0_append_18 : decode cX0_append 18 = .ok (.aload_n 0, 1) := by decide +kernel
theorem dX0_append_19 : decode cX0_append 19 = .ok (.getfield 16, 3) := by decide +kernel
theorem dX0_append_22 : decode cX0_append 22 = .ok (.iload 5, 2) := by decide +kernel
theorem dX0_append_24 : decode cX0_append 24 = .ok (.iconst 0, 1) := by decide +kernel
theorem dX0_append_25 : decode cX0_append 25 = .ok (.iadd, 1) := by decide +kernel
theorem dX0_append_26 : decode cX0_append 26 = .ok (.iload_n 2, 1) := by decide +kernel
theorem dX0_append_27 : decode cX0_append 27 = .ok (.invokevirtual 24, 3) := by decide +kernel
theorem dX0_append_30 : decode cX0_append 30 = .ok (.aload_n 0, 1) := by decide +kernel
theorem dX0_append_31 : decode cX0_append 31 = .ok (.getfield 16, 3) := by decide +kernel
theorem dX0_append_34 : decode cX0_append 34 = .ok (.iload 5, 2) := by decide +kernel
theorem dX0_append_36 : decode cX0_append 36 = .ok (.iconst 1, 1) := by decide +kernel
theorem dX0_append_37 : decode cX0_append 37 = .ok (.iadd, 1) := by decide +kernel
theorem dX0_append_38 : decode cX0_append 38 = .ok (.iload_n 3, 1) := by decide +kernel
theorem dX0_append_39 : decode cX0_append 39 = .ok (.invokevirtual 24, 3) := by decide +kernel
theorem dX0_append_42 : decode cX0_append 42 = .ok (.aload_n 0, 1) := by decide +kernel
theorem dX0_append_43 : decode cX0_append 43 = .ok (.getfield 16, 3) := by decide +kernel
theorem dX0_append_46 : decode cX0_append 46 = .ok (.iload 5, 2) := by decide +kernel
theorem dX0_append_48 : decode cX0_append 48 = .ok (.iconst 2, 1) := by decide +kernel
theorem dX0_append_49 : decode cX0_append 49 = .ok (.iadd, 1) := by decide +kernel
theorem dX0_append_50 : decode cX0_append 50 = .ok (.iload 4, 2) := by decide +kernel
theorem dX0_append_52 : decode cX0_append 52 = .ok (.invokevirtual 24, 3) := by decide +kernel
theorem dX0_append_55 : decode cX0_append 55 = .ok (.aload_n 0, 1) := by decide +kernel
theorem dX0_append_56 : decode cX0_append 56 = .ok (.getfield 16, 3) := by decide +kernel
theorem dX0_append_59 : decode cX0_append 59 = .ok (.iload 5, 2) := by decide +kernel
theorem dX0_append_61 : decode cX0_append 61 = .ok (.iconst 3, 1) := by decide +kernel
theorem dX0_append_62 : decode cX0_append 62 = .ok (.iadd, 1) := by decide +kernel
theorem dX0_append_63 : decode cX0_append 63 = .ok (.iload_n 1, 1) := by decide +kernel
theorem dX0_append_64 : decode cX0_append 64 = .ok (.invokevirtual 24, 3) := by decide +kernel
theorem dX0_append_67 : decode cX0_append 67 = .ok (.aload_n 0, 1) := by decide +kernel
theorem dX0_append_68 : decode cX0_append 68 = .ok (.dup, 1) := by decide +kernel
theorem dX0_append_69 : decode cX0_append 69 = .ok (.getfield 20, 3) := by decide +kernel
theorem dX0_append_72 : decode cX0_append 72 = .ok (.iconst 1, 1) := by decide +kernel
theorem dX0_append_73 : decode cX0_append 73 = .ok (.iadd, 1) := by decide +kernel
theorem dX0_append_74 : decode cX0_append 74 = .ok (.putfield 20, 3) := by decide +kernel
theorem dX0_append_77 : decode cX0_append 77 = .ok (.return_, 1) := by decide +kernel
theorem dX0_partOf_0 : decode cX0_partOf 0 = .ok (.aload_n 0, 1) := by decide +kernel
theorem dX0_partOf_1 : decode cX0_partOf 1 = .ok (.getfield 16, 3) := by decide +kernel
theorem dX0_partOf_4 : decode cX0_partOf 4 = .ok (.iload_n 1, 1) := by decide +kernel
theorem dX0_partOf_5 : decode cX0_partOf 5 = .ok (.iconst 4, 1) := by decide +kernel
theorem dX0_partOf_6 : decode cX0_partOf 6 = .ok (.imul, 1) := by decide +kernel
theorem dX0_partOf_7 : decode cX0_partOf 7 = .ok (.iload_n 2, 1) := by decide +kernel
theorem dX0_partOf_8 : decode cX0_partOf 8 = .ok (.iadd, 1) := by decide +kernel
theorem dX0_partOf_9 : decode cX0_partOf 9 = .ok (.invokevirtual 28, 3) := by decide +kernel
theorem dX0_partOf_12 : decode cX0_partOf 12 = .ok (.ireturn, 1) := by decide +kernel
theorem dX1_init_0 : decode cX1_init 0 = .ok (.aload_n 0, 1) := by decide +kernel
theorem dX1_init_1 : decode cX1_init 1 = .ok (.invokespecial 3, 3) := by decide +kernel
theorem dX1_init_4 : decode cX1_init 4 = .ok (.aload_n 0, 1) := by decide +kernel
theorem dX1_init_5 : decode cX1_init 5 = .ok (.iconst 4, 1) := by decide +kernel
theorem dX1_init_6 : decode cX1_init 6 = .ok (.anewarray 9, 3) := by decide +kernel
theorem dX1_init_9 : decode cX1_init 9 = .ok (.putfield 11, 3) := by decide +kernel
theorem dX1_init_12 : decode cX1_init 12 = .ok (.iconst 0, 1) := by decide +kernel
theorem dX1_init_13 : decode cX1_init 13 = .ok (.istore_n 1, 1) := by decide +kernel
theorem dX1_init_14 : decode cX1_init 14 = .ok (.iload_n 1, 1) := by decide +kernel
theorem dX1_init_15 : decode cX1_init 15 = .ok (.aload_n 0, 1) := by decide +kernel
theorem dX1_init_16 : decode cX1_init 16 = .ok (.getfield 11, 3) := by decide +kernel
theorem dX1_init_19 : decode cX1_init 19 = .ok (.arraylength, 1) := by decide +kernel
theorem dX1_init_20 : decode cX1_init 20 = .ok (.if_icmp .ge 22, 3) := by decide +kernel
theorem dX1_init_23 : decode cX1_init 23 = .ok (.aload_n 0, 1) := by decide +kernel
theorem dX1_init_24 : decode cX1_init 24 = .ok (.getfield 11, 3) := by decide +kernel
theorem dX1_init_27 : decode cX1_init 27 = .ok (.iload_n 1, 1) := by decide +kernel
theorem dX1_init_28 : decode cX1_init 28 = .ok (.new 9, 3) := by decide +kernel
theorem dX1_init_31 : decode cX1_init 31 = .ok (.dup, 1) := by decide +kernel
theorem dX1_init_32 : decode cX1_init 32 = .ok (.invokespecial 17, 3) := by decide +kernel
theorem dX1_init_35 : decode cX1_init 35 = .ok (.aastore, 1) := by decide +kernel
theorem dX1_init_36 : decode cX1_init 36 = .ok (.iinc 1 1, 3) := by decide +kernel
theorem dX1_init_39 : decode cX1_init 39 = .ok (.goto (-25), 3) := by decide +kernel
theorem dX1_init_42 : decode cX1_init 42 = .ok (.return_, 1) := by decide +kernel
theorem dX1_stateAt_0 : decode cX1_stateAt 0 = .ok (.iload_n 1, 1) := by decide +kernel
theorem dX1_stateAt_1 : decode cX1_stateAt 1 = .ok (.ifCond .lt 21, 3) := by decide +kernel
theorem dX1_stateAt_4 : decode cX1_stateAt 4 = .ok (.iload_n 1, 1) := by decide +kernel
theorem dX1_stateAt_5 : decode cX1_stateAt 5 = .ok (.aload_n 0, 1) := by decide +kernel
theorem dX1_stateAt_6 : decode cX1_stateAt 6 = .ok (.getfield 11, 3) := by decide +kernel
theorem dX1_stateAt_9 : decode cX1_stateAt 9 = .ok (.arraylength, 1) := by decide +kernel
theorem dX1_stateAt_10 : decode cX1_stateAt 10 = .ok (.if_icmp .ge 12, 3) := by decide +kernel
theorem dX1_stateAt_13 : decode cX1_stateAt 13 = .ok (.aload_n 0, 1) := by decide +kernel
theorem dX1_stateAt_14 : decode cX1_stateAt 14 = .ok (.getfield 11, 3) := by decide +kernel
theorem dX1_stateAt_17 : decode cX1_stateAt 17 = .ok (.iload_n 1, 1) := by decide +kernel
theorem dX1_stateAt_18 : decode cX1_stateAt 18 = .ok (.aaload, 1) := by decide +kernel
theorem dX1_stateAt_19 : decode cX1_stateAt 19 = .ok (.goto 4, 3) := by decide +kernel
theorem dX1_stateAt_22 : decode cX1_stateAt 22 = .ok (.aconst_null, 1) := by decide +kernel
theorem dX1_stateAt_23 : decode cX1_stateAt 23 = .ok (.areturn, 1) := by decide +kernel
theorem dX1_record_0 : decode cX1_record 0 = .ok (.aload_n 0, 1) := by decide +kernel
theorem dX1_record_1 : decode cX1_record 1 = .ok (.aload_n 0, 1) := by decide +kernel
theorem dX1_record_2 : decode cX1_record 2 = .ok (.getfield 18, 3) := by decide +kernel
theorem dX1_record_5 : decode cX1_record 5 = .ok (.invokevirtual 22, 3) := by decide +kernel
theorem dX1_record_8 : decode cX1_record 8 = .ok (.astore_n 2, 1) := by decide +kernel
theorem dX1_record_9 : decode cX1_record 9 = .ok (.aload_n 2, 1) := by decide +kernel
theorem dX1_record_10 : decode cX1_record 10 = .ok (.ifnonnull 4, 3) := by decide +kernel
theorem dX1_record_13 : decode cX1_record 13 = .ok (.return_, 1) := by decide +kernel
theorem dX1_record_14 : decode cX1_record 14 = .ok (.aload_n 2, 1) := by decide +kernel
theorem dX1_record_15 : decode cX1_record 15 = .ok (.aload_n 1, 1) := by decide +kernel
theorem dX1_record_16 : decode cX1_record 16 = .ok (.invokevirtual 26, 3) := by decide +kernel
theorem dX1_record_19 : decode cX1_record 19 = .ok (.aload_n 0, 1) := by decide +kernel
theorem dX1_record_20 : decode cX1_record 20 = .ok (.aload_n 0, 1) := by decide +kernel
theorem dX1_record_21 : decode cX1_record 21 = .ok (.getfield 18, 3) := by decide +kernel
theorem dX1_record_24 : decode cX1_record 24 = .ok (.iconst 1, 1) := by decide +kernel
theorem dX1_record_25 : decode cX1_record 25 = .ok (.iadd, 1) := by decide +kernel
theorem dX1_record_26 : decode cX1_record 26 = .ok (.iconst 4, 1) := by decide +kernel
theorem dX1_record_27 : decode cX1_record 27 = .ok (.irem, 1) := by decide +kernel
theorem dX1_record_28 : decode cX1_record 28 = .ok (.putfield 18, 3) := by decide +kernel
theorem dX1_record_31 : decode cX1_record 31 = .ok (.aload_n 0, 1) := by decide +kernel
theorem dX1_record_32 : decode cX1_record 32 = .ok (.aload_n 0, 1) := by decide +kernel
theorem dX1_record_33 : decode cX1_record 33 = .ok (.getfield 30, 3) := by decide +kernel
theorem dX1_record_36 : decode cX1_record 36 = .ok (.iconst 1, 1) := by decide +kernel
theorem dX1_record_37 : decode cX1_record 37 = .ok (.iadd, 1) := by decide +kernel
theorem dX1_record_38 : decode cX1_record 38 = .ok (.iconst 4, 1) := by decide +kernel
theorem dX1_record_39 : decode cX1_record 39 = .ok (.invokestatic 33, 3) := by decide +kernel
theorem dX1_record_42 : decode cX1_record 42 = .ok (.putfield 30, 3) := by decide +kernel
theorem dX1_record_45 : decode cX1_record 45 = .ok (.return_, 1) := by decide +kernel
theorem dX1_takeBack_0 : decode cX1_takeBack 0 = .ok (.aload_n 0, 1) := by decide +kernel
theorem dX1_takeBack_1 : decode cX1_takeBack 1 = .ok (.getfield 18, 3) := by decide +kernel
theorem dX1_takeBack_4 : decode cX1_takeBack 4 = .ok (.iconst 4, 1) := by decide +kernel
theorem dX1_takeBack_5 : decode cX1_takeBack 5 = .ok (.iadd, 1) := by decide +kernel
theorem dX1_takeBack_6 : decode cX1_takeBack 6 = .ok (.iconst 1, 1) := by decide +kernel
theorem dX1_takeBack_7 : decode cX1_takeBack 7 = .ok (.isub, 1) := by decide +kernel
theorem dX1_takeBack_8 : decode cX1_takeBack 8 = .ok (.iconst 4, 1) := by decide +kernel
theorem dX1_takeBack_9 : decode cX1_takeBack 9 = .ok (.irem, 1) := by decide +kernel
theorem dX1_takeBack_10 : decode cX1_takeBack 10 = .ok (.istore_n 2, 1) := by decide +kernel
theorem dX1_takeBack_11 : decode cX1_takeBack 11 = .ok (.aload_n 0, 1) := by decide +kernel
theorem dX1_takeBack_12 : decode cX1_takeBack 12 = .ok (.iload_n 2, 1) := by decide +kernel
theorem dX1_takeBack_13 : decode cX1_takeBack 13 = .ok (.invokevirtual 22, 3) := by decide +kernel
theorem dX1_takeBack_16 : decode cX1_takeBack 16 = .ok (.astore_n 3, 1) := by decide +kernel
theorem dX1_takeBack_17 : decode cX1_takeBack 17 = .ok (.aload_n 0, 1) := by decide +kernel
theorem dX1_takeBack_18 : decode cX1_takeBack 18 = .ok (.getfield 30, 3) := by decide +kernel
theorem dX1_takeBack_21 : decode cX1_takeBack 21 = .ok (.ifCond .eq 7, 3) := by decide +kernel
theorem dX1_takeBack_24 : decode cX1_takeBack 24 = .ok (.aload_n 3, 1) := by decide +kernel
theorem dX1_takeBack_25 : decode cX1_takeBack 25 = .ok (.ifnonnull 5, 3) := by decide +kernel
theorem dX1_takeBack_28 : decode cX1_takeBack 28 = .ok (.iconst 0, 1) := by decide +kernel
theorem dX1_takeBack_29 : decode cX1_takeBack 29 = .ok (.ireturn, 1) := by decide +kernel
theorem dX1_takeBack_30 : decode cX1_takeBack 30 = .ok (.aload_n 1, 1) := by decide +kernel
theorem dX1_takeBack_31 : decode cX1_takeBack 31 = .ok (.aload_n 3, 1) := by decide +kernel
theorem dX1_takeBack_32 : decode cX1_takeBack 32 = .ok (.invokevirtual 26, 3) := by decide +kernel
theorem dX1_takeBack_35 : decode cX1_takeBack 35 = .ok (.aload_n 0, 1) := by decide +kernel
theorem dX1_takeBack_36 : decode cX1_takeBack 36 = .ok (.iload_n 2, 1) := by decide +kernel
theorem dX1_takeBack_37 : decode cX1_takeBack 37 = .ok (.putfield 18, 3) := by decide +kernel
theorem dX1_takeBack_40 : decode cX1_takeBack 40 = .ok (.aload_n 0, 1) := by decide +kernel
theorem dX1_takeBack_41 : decode cX1_takeBack 41 = .ok (.dup, 1) := by decide +kernel
theorem dX1_takeBack_42 : decode cX1_takeBack 42 = .ok (.getfield 30, 3) := by decide +kernel
theorem dX1_takeBack_45 : decode cX1_takeBack 45 = .ok (.iconst 1, 1) := by decide +kernel
theorem dX1_takeBack_46 : decode cX1_takeBack 46 = .ok (.isub, 1) := by decide +kernel
theorem dX1_takeBack_47 : decode cX1_takeBack 47 = .ok (.putfield 30, 3) := by decide +kernel
theorem dX1_takeBack_50 : decode cX1_takeBack 50 = .ok (.iconst 1, 1) := by decide +kernel
theorem dX1_takeBack_51 : decode cX1_takeBack 51 = .ok (.ireturn, 1) := by decide +kernel
theorem dX2_init_0 : decode cX2_init 0 = .ok (.aload_n 0, 1) := by decide +kernel
theorem dX2_init_1 : decode cX2_init 1 = .ok (.invokespecial 3, 3) := by decide +kernel
theorem dX2_init_4 : decode cX2_init 4 = .ok (.aload_n 0, 1) := by decide +kernel
theorem dX2_init_5 : decode cX2_init 5 = .ok (.new 9, 3) := by decide +kernel
theorem dX2_init_8 : decode cX2_init 8 = .ok (.dup, 1) := by decide +kernel
theorem dX2_init_9 : decode cX2_init 9 = .ok (.sipush 1000, 3) := by decide +kernel
theorem dX2_init_12 : decode cX2_init 12 = .ok (.invokespecial 13, 3) := by decide +kernel
theorem dX2_init_15 : decode cX2_init 15 = .ok (.putfield 16, 3) := by decide +kernel
theorem dX2_init_18 : decode cX2_init 18 = .ok (.return_, 1) := by decide +kernel
theorem dX2_copyFrom_0 : decode cX2_copyFrom 0 = .ok (.aload_n 0, 1) := by decide +kernel
theorem dX2_copyFrom_1 : decode cX2_copyFrom 1 = .ok (.getfield 16, 3) := by decide +kernel
theorem dX2_copyFrom_4 : decode cX2_copyFrom 4 = .ok (.aload_n 1, 1) := by decide +kernel
theorem dX2_copyFrom_5 : decode cX2_copyFrom 5 = .ok (.getfield 16, 3) := by decide +kernel
theorem dX2_copyFrom_8 : decode cX2_copyFrom 8 = .ok (.invokevirtual 20, 3) := by decide +kernel
theorem dX2_copyFrom_11 : decode cX2_copyFrom 11 = .ok (.return_, 1) := by decide +kernel
theorem dX2_add_0 : decode cX2_add 0 = .ok (.aload_n 0, 1) := by decide +kernel
theorem dX2_add_1 : decode cX2_add 1 = .ok (.getfield 16, 3) := by decide +kernel
theorem dX2_add_4 : decode cX2_add 4 = .ok (.iload_n 2, 1) := by decide +kernel
theorem dX2_add_5 : decode cX2_add 5 = .ok (.bipush 10, 2) := by decide +kernel
theorem dX2_add_7 : decode cX2_add 7 = .ok (.irem, 1) := by decide +kernel
theorem dX2_add_8 : decode cX2_add 8 = .ok (.bipush 100, 2) := by decide +kernel
theorem dX2_add_10 : decode cX2_add 10 = .ok (.imul, 1) := by decide +kernel
theorem dX2_add_11 : decode cX2_add 11 = .ok (.iload_n 1, 1) := by decide +kernel
theorem dX2_add_12 : decode cX2_add 12 = .ok (.iadd, 1) := by decide +kernel
theorem dX2_add_13 : decode cX2_add 13 = .ok (.iconst 1, 1) := by decide +kernel
theorem dX2_add_14 : decode cX2_add 14 = .ok (.invokevirtual 24, 3) := by decide +kernel
theorem dX2_add_17 : decode cX2_add 17 = .ok (.return_, 1) := by decide +kernel
theorem dX2_latelyOf_0 : decode cX2_latelyOf 0 = .ok (.iconst 0, 1) := by decide +kernel
theorem dX2_latelyOf_1 : decode cX2_latelyOf 1 = .ok (.istore_n 2, 1) := by decide +kernel
theorem dX2_latelyOf_2 : decode cX2_latelyOf 2 = .ok (.iconst 0, 1) := by decide +kernel
theorem dX2_latelyOf_3 : decode cX2_latelyOf 3 = .ok (.istore_n 3, 1) := by decide +kernel
theorem dX2_latelyOf_4 : decode cX2_latelyOf 4 = .ok (.iload_n 3, 1) := by decide +kernel
theorem dX2_latelyOf_5 : decode cX2_latelyOf 5 = .ok (.bipush 10, 2) := by decide +kernel
theorem dX2_latelyOf_7 : decode cX2_latelyOf 7 = .ok (.if_icmp .ge 25, 3) := by decide +kernel
theorem dX2_latelyOf_10 : decode cX2_latelyOf 10 = .ok (.iload_n 2, 1) := by decide +kernel
theorem dX2_latelyOf_11 : decode cX2_latelyOf 11 = .ok (.aload_n 0, 1) := by decide +kernel
theorem dX2_latelyOf_12 : decode cX2_latelyOf 12 = .ok (.getfield 16, 3) := by decide +kernel
theorem dX2_latelyOf_15 : decode cX2_latelyOf 15 = .ok (.iload_n 3, 1) := by decide +kernel
theorem dX2_latelyOf_16 : decode cX2_latelyOf 16 = .ok (.bipush 100, 2) := by decide +kernel
theorem dX2_latelyOf_18 : decode cX2_latelyOf 18 = .ok (.imul, 1) := by decide +kernel
theorem dX2_latelyOf_19 : decode cX2_latelyOf 19 = .ok (.iload_n 1, 1) := by decide +kernel
theorem dX2_latelyOf_20 : decode cX2_latelyOf 20 = .ok (.iadd, 1) := by decide +kernel
theorem dX2_latelyOf_21 : decode cX2_latelyOf 21 = .ok (.invokevirtual 28, 3) := by decide +kernel
theorem dX2_latelyOf_24 : decode cX2_latelyOf 24 = .ok (.iadd, 1) := by decide +kernel
theorem dX2_latelyOf_25 : decode cX2_latelyOf 25 = .ok (.istore_n 2, 1) := by decide +kernel
theorem dX2_latelyOf_26 : decode cX2_latelyOf 26 = .ok (.iinc 3 1, 3) := by decide +kernel
theorem dX2_latelyOf_29 : decode cX2_latelyOf 29 = .ok (.goto (-25), 3) := by decide +kernel
theorem dX2_latelyOf_32 : decode cX2_latelyOf 32 = .ok (.iload_n 2, 1) := by decide +kernel
theorem dX2_latelyOf_33 : decode cX2_latelyOf 33 = .ok (.ireturn, 1) := by decide +kernel
theorem dX2_beginSecond_0 : decode cX2_beginSecond 0 = .ok (.aload_n 0, 1) := by decide +kernel
theorem dX2_beginSecond_1 : decode cX2_beginSecond 1 = .ok (.getfield 16, 3) := by decide +kernel
theorem dX2_beginSecond_4 : decode cX2_beginSecond 4 = .ok (.iload_n 1, 1) := by decide +kernel
theorem dX2_beginSecond_5 : decode cX2_beginSecond 5 = .ok (.bipush 10, 2) := by decide +kernel
theorem dX2_beginSecond_7 : decode cX2_beginSecond 7 = .ok (.irem, 1) := by decide +kernel
theorem dX2_beginSecond_8 : decode cX2_beginSecond 8 = .ok (.bipush 100, 2) := by decide +kernel
theorem dX2_beginSecond_10 : decode cX2_beginSecond 10 = .ok (.imul, 1) := by decide +kernel
theorem dX2_beginSecond_11 : decode cX2_beginSecond 11 = .ok (.bipush 100, 2) := by decide +kernel
theorem dX2_beginSecond_13 : decode cX2_beginSecond 13 = .ok (.iconst 0, 1) := by decide +kernel
theorem dX2_beginSecond_14 : decode cX2_beginSecond 14 = .ok (.invokevirtual 32, 3) := by decide +kernel
theorem dX2_beginSecond_17 : decode cX2_beginSecond 17 = .ok (.return_, 1) := by decide +kernel
theorem dX3_init_0 : decode cX3_init 0 = .ok (.aload_n 0, 1) := by decide +kernel
theorem dX3_init_1 : decode cX3_init 1 = .ok (.invokespecial 3, 3) := by decide +kernel
theorem dX3_init_4 : decode cX3_init 4 = .ok (.aload_n 0, 1) := by decide +kernel
theorem dX3_init_5 : decode cX3_init 5 = .ok (.new 9, 3) := by decide +kernel
theorem dX3_init_8 : decode cX3_init 8 = .ok (.dup, 1) := by decide +kernel
theorem dX3_init_9 : decode cX3_init 9 = .ok (.bipush 8, 2) := by decide +kernel
theorem dX3_init_11 : decode cX3_init 11 = .ok (.invokespecial 11, 3) := by decide +kernel
theorem dX3_init_14 : decode cX3_init 14 = .ok (.putfield 14, 3) := by decide +kernel
theorem dX3_init_17 : decode cX3_init 17 = .ok (.aload_n 0, 1) := by decide +kernel
theorem dX3_init_18 : decode cX3_init 18 = .ok (.new 9, 3) := by decide +kernel
theorem dX3_init_21 : decode cX3_init 21 = .ok (.dup, 1) := by decide +kernel
theorem dX3_init_22 : decode cX3_init 22 = .ok (.bipush 8, 2) := by decide +kernel
theorem dX3_init_24 : decode cX3_init 24 = .ok (.invokespecial 11, 3) := by decide +kernel
theorem dX3_init_27 : decode cX3_init 27 = .ok (.putfield 20, 3) := by decide +kernel
theorem dX3_init_30 : decode cX3_init 30 = .ok (.aload_n 0, 1) := by decide +kernel
theorem dX3_init_31 : decode cX3_init 31 = .ok (.new 9, 3) := by decide +kernel
theorem dX3_init_34 : decode cX3_init 34 = .ok (.dup, 1) := by decide +kernel
theorem dX3_init_35 : decode cX3_init 35 = .ok (.bipush 8, 2) := by decide +kernel
theorem dX3_init_37 : decode cX3_init 37 = .ok (.invokespecial 11, 3) := by decide +kernel
theorem dX3_init_40 : decode cX3_init 40 = .ok (.putfield 23, 3) := by decide +kernel
theorem dX3_init_43 : decode cX3_init 43 = .ok (.aload_n 0, 1) := by decide +kernel
theorem dX3_init_44 : decode cX3_init 44 = .ok (.new 9, 3) := by decide +kernel
theorem dX3_init_47 : decode cX3_init 47 = .ok (.dup, 1) := by decide +kernel
theorem dX3_init_48 : decode cX3_init 48 = .ok (.bipush 8, 2) := by decide +kernel
theorem dX3_init_50 : decode cX3_init 50 = .ok (.invokespecial 11, 3) := by decide +kernel
theorem dX3_init_53 : decode cX3_init 53 = .ok (.putfield 26, 3) := by decide +kernel
theorem dX3_init_56 : decode cX3_init 56 = .ok (.aload_n 0, 1) := by decide +kernel
theorem dX3_init_57 : decode cX3_init 57 = .ok (.new 9, 3) := by decide +kernel
theorem dX3_init_60 : decode cX3_init 60 = .ok (.dup, 1) := by decide +kernel
theorem dX3_init_61 : decode cX3_init 61 = .ok (.bipush 8, 2) := by decide +kernel
theorem dX3_init_63 : decode cX3_init 63 = .ok (.invokespecial 11, 3) := by decide +kernel
theorem dX3_init_66 : decode cX3_init 66 = .ok (.putfield 29, 3) := by decide +kernel
theorem dX3_init_69 : decode cX3_init 69 = .ok (.aload_n 0, 1) := by decide +kernel
theorem dX3_init_70 : decode cX3_init 70 = .ok (.new 9, 3) := by decide +kernel
theorem dX3_init_73 : decode cX3_init 73 = .ok (.dup, 1) := by decide +kernel
theorem dX3_init_74 : decode cX3_init 74 = .ok (.bipush 88, 2) := by decide +kernel
theorem dX3_init_76 : decode cX3_init 76 = .ok (.invokespecial 11, 3) := by decide +kernel
theorem dX3_init_79 : decode cX3_init 79 = .ok (.putfield 32, 3) := by decide +kernel
theorem dX3_init_82 : decode cX3_init 82 = .ok (.aload_n 0, 1) := by decide +kernel
theorem dX3_init_83 : decode cX3_init 83 = .ok (.getfield 14, 3) := by decide +kernel
theorem dX3_init_86 : decode cX3_init 86 = .ok (.iconst 0, 1) := by decide +kernel
theorem dX3_init_87 : decode cX3_init 87 = .ok (.bipush 8, 2) := by decide +kernel
theorem dX3_init_89 : decode cX3_init 89 = .ok (.iconst 1, 1) := by decide +kernel
theorem dX3_init_90 : decode cX3_init 90 = .ok (.invokevirtual 35, 3) := by decide +kernel
theorem dX3_init_93 : decode cX3_init 93 = .ok (.aload_n 0, 1) := by decide +kernel
theorem dX3_init_94 : decode cX3_init 94 = .ok (.getfield 26, 3) := by decide +kernel
theorem dX3_init_97 : decode cX3_init 97 = .ok (.iconst 0, 1) := by decide +kernel
theorem dX3_init_98 : decode cX3_init 98 = .ok (.bipush 8, 2) := by decide +kernel
theorem dX3_init_100 : decode cX3_init 100 = .ok (.bipush (-4), 2) := by decide +kernel
theorem dX3_init_102 : decode cX3_init 102 = .ok (.invokevirtual 35, 3) := by decide +kernel
theorem dX3_init_105 : decode cX3_init 105 = .ok (.return_, 1) := by decide +kernel
theorem dX3_copyFrom_0 : decode cX3_copyFrom 0 = .ok (.aload_n 0, 1) := by decide +kernel
theorem dX3_copyFrom_1 : decode cX3_copyFrom 1 = .ok (.getfield 14, 3) := by decide +kernel
theorem dX3_copyFrom_4 : decode cX3_copyFrom 4 = .ok (.aload_n 1, 1) := by decide +kernel
theorem dX3_copyFrom_5 : decode cX3_copyFrom 5 = .ok (.getfield 14, 3) := by decide +kernel
theorem dX3_copyFrom_8 : decode cX3_copyFrom 8 = .ok (.invokevirtual 39, 3) := by decide +kernel
theorem dX3_copyFrom_11 : decode cX3_copyFrom 11 = .ok (.aload_n 0, 1) := by decide +kernel
theorem dX3_copyFrom_12 : decode cX3_copyFrom 12 = .ok (.getfield 20, 3) := by decide +kernel
theorem dX3_copyFrom_15 : decode cX3_copyFrom 15 = .ok (.aload_n 1, 1) := by decide +kernel
theorem dX3_copyFrom_16 : decode cX3_copyFrom 16 = .ok (.getfield 20, 3) := by decide +kernel
theorem dX3_copyFrom_19 : decode cX3_copyFrom 19 = .ok (.invokevirtual 39, 3) := by decide +kernel
theorem dX3_copyFrom_22 : decode cX3_copyFrom 22 = .ok (.aload_n 0, 1) := by decide +kernel
theorem dX3_copyFrom_23 : decode cX3_copyFrom 23 = .ok (.getfield 23, 3) := by decide +kernel
theorem dX3_copyFrom_26 : decode cX3_copyFrom 26 = .ok (.aload_n 1, 1) := by decide +kernel
theorem dX3_copyFrom_27 : decode cX3_copyFrom 27 = .ok (.getfield 23, 3) := by decide +kernel
theorem dX3_copyFrom_30 : decode cX3_copyFrom 30 = .ok (.invokevirtual 39, 3) := by decide +kernel
theorem dX3_copyFrom_33 : decode cX3_copyFrom 33 = .ok (.aload_n 0, 1) := by decide +kernel
theorem dX3_copyFrom_34 : decode cX3_copyFrom 34 = .ok (.getfield 26, 3) := by decide +kernel
theorem dX3_copyFrom_37 : decode cX3_copyFrom 37 = .ok (.aload_n 1, 1) := by decide +kernel
theorem dX3_copyFrom_38 : decode cX3_copyFrom 38 = .ok (.getfield 26, 3) := by decide +kernel
theorem dX3_copyFrom_41 : decode cX3_copyFrom 41 = .ok (.invokevirtual 39, 3) := by decide +kernel
theorem dX3_copyFrom_44 : decode cX3_copyFrom 44 = .ok (.aload_n 0, 1) := by decide +kernel
theorem dX3_copyFrom_45 : decode cX3_copyFrom 45 = .ok (.getfield 29, 3) := by decide +kernel
theorem dX3_copyFrom_48 : decode cX3_copyFrom 48 = .ok (.aload_n 1, 1) := by decide +kernel
theorem dX3_copyFrom_49 : decode cX3_copyFrom 49 = .ok (.getfield 29, 3) := by decide +kernel
theorem dX3_copyFrom_52 : decode cX3_copyFrom 52 = .ok (.invokevirtual 39, 3) := by decide +kernel
theorem dX3_copyFrom_55 : decode cX3_copyFrom 55 = .ok (.aload_n 0, 1) := by decide +kernel
theorem dX3_copyFrom_56 : decode cX3_copyFrom 56 = .ok (.getfield 32, 3) := by decide +kernel
theorem dX3_copyFrom_59 : decode cX3_copyFrom 59 = .ok (.aload_n 1, 1) := by decide +kernel
theorem dX3_copyFrom_60 : decode cX3_copyFrom 60 = .ok (.getfield 32, 3) := by decide +kernel
theorem dX3_copyFrom_63 : decode cX3_copyFrom 63 = .ok (.invokevirtual 39, 3) := by decide +kernel
theorem dX3_copyFrom_66 : decode cX3_copyFrom 66 = .ok (.return_, 1) := by decide +kernel
theorem dX3_isUp_0 : decode cX3_isUp 0 = .ok (.aload_n 0, 1) := by decide +kernel
theorem dX3_isUp_1 : decode cX3_isUp 1 = .ok (.getfield 14, 3) := by decide +kernel
theorem dX3_isUp_4 : decode cX3_isUp 4 = .ok (.iload_n 1, 1) := by decide +kernel
theorem dX3_isUp_5 : decode cX3_isUp 5 = .ok (.invokevirtual 43, 3) := by decide +kernel
theorem dX3_isUp_8 : decode cX3_isUp 8 = .ok (.iconst 1, 1) := by decide +kernel
theorem dX3_isUp_9 : decode cX3_isUp 9 = .ok (.if_icmp .ne 7, 3) := by decide +kernel
theorem dX3_isUp_12 : decode cX3_isUp 12 = .ok (.iconst 1, 1) := by decide +kernel
theorem dX3_isUp_13 : decode cX3_isUp 13 = .ok (.goto 4, 3) := by decide +kernel
theorem dX3_isUp_16 : decode cX3_isUp 16 = .ok (.iconst 0, 1) := by decide +kernel
theorem dX3_isUp_17 : decode cX3_isUp 17 = .ok (.ireturn, 1) := by decide +kernel
theorem dX3_isOpen_0 : decode cX3_isOpen 0 = .ok (.aload_n 0, 1) := by decide +kernel
theorem dX3_isOpen_1 : decode cX3_isOpen 1 = .ok (.getfield 14, 3) := by decide +kernel
theorem dX3_isOpen_4 : decode cX3_isOpen 4 = .ok (.iload_n 1, 1) := by decide +kernel
theorem dX3_isOpen_5 : decode cX3_isOpen 5 = .ok (.invokevirtual 43, 3) := by decide +kernel
theorem dX3_isOpen_8 : decode cX3_isOpen 8 = .ok (.iconst 1, 1) := by decide +kernel
theorem dX3_isOpen_9 : decode cX3_isOpen 9 = .ok (.if_icmp .ne 18, 3) := by decide +kernel
theorem dX3_isOpen_12 : decode cX3_isOpen 12 = .ok (.aload_n 0, 1) := by decide +kernel
theorem dX3_isOpen_13 : decode cX3_isOpen 13 = .ok (.getfield 20, 3) := by decide +kernel
theorem dX3_isOpen_16 : decode cX3_isOpen 16 = .ok (.iload_n 1, 1) := by decide +kernel
theorem dX3_isOpen_17 : decode cX3_isOpen 17 = .ok (.invokevirtual 43, 3) := by decide +kernel
theorem dX3_isOpen_20 : decode cX3_isOpen 20 = .ok (.ifCond .ne 7, 3) := by decide +kernel
theorem dX3_isOpen_23 : decode cX3_isOpen 23 = .ok (.iconst 1, 1) := by decide +kernel
theorem dX3_isOpen_24 : decode cX3_isOpen 24 = .ok (.goto 4, 3) := by decide +kernel
theorem dX3_isOpen_27 : decode cX3_isOpen 27 = .ok (.iconst 0, 1) := by decide +kernel
theorem dX3_isOpen_28 : decode cX3_isOpen 28 = .ok (.ireturn, 1) := by decide +kernel
theorem dX3_turn_0 : decode cX3_turn 0 = .ok (.aload_n 0, 1) := by decide +kernel
theorem dX3_turn_1 : decode cX3_turn 1 = .ok (.getfield 14, 3) := by decide +kernel
theorem dX3_turn_4 : decode cX3_turn 4 = .ok (.iload_n 1, 1) := by decide +kernel
theorem dX3_turn_5 : decode cX3_turn 5 = .ok (.iload_n 2, 1) := by decide +kernel
theorem dX3_turn_6 : decode cX3_turn 6 = .ok (.ifCond .eq 7, 3) := by decide +kernel
theorem dX3_turn_9 : decode cX3_turn 9 = .ok (.iconst 1, 1) := by decide +kernel
theorem dX3_turn_10 : decode cX3_turn 10 = .ok (.goto 4, 3) := by decide +kernel
theorem dX3_turn_13 : decode cX3_turn 13 = .ok (.iconst 0, 1) := by decide +kernel
theorem dX3_turn_14 : decode cX3_turn 14 = .ok (.invokevirtual 47, 3) := by decide +kernel
theorem dX3_turn_17 : decode cX3_turn 17 = .ok (.return_, 1) := by decide +kernel
theorem dX3_openOnes_0 : decode cX3_openOnes 0 = .ok (.iconst 0, 1) := by decide +kernel
theorem dX3_openOnes_1 : decode cX3_openOnes 1 = .ok (.istore_n 1, 1) := by decide +kernel
theorem dX3_openOnes_2 : decode cX3_openOnes 2 = .ok (.iconst 0, 1) := by decide +kernel
theorem dX3_openOnes_3 : decode cX3_openOnes 3 = .ok (.istore_n 2, 1) := by decide +kernel
theorem dX3_openOnes_4 : decode cX3_openOnes 4 = .ok (.iload_n 2, 1) := by decide +kernel
theorem dX3_openOnes_5 : decode cX3_openOnes 5 = .ok (.bipush 8, 2) := by decide +kernel
theorem dX3_openOnes_7 : decode cX3_openOnes 7 = .ok (.if_icmp .ge 23, 3) := by decide +kernel
theorem dX3_openOnes_10 : decode cX3_openOnes 10 = .ok (.aload_n 0, 1) := by decide +kernel
theorem dX3_openOnes_11 : decode cX3_openOnes 11 = .ok (.iload_n 2, 1) := by decide +kernel
theorem dX3_openOnes_12 : decode cX3_openOnes 12 = .ok (.invokevirtual 51, 3) := by decide +kernel
theorem dX3_openOnes_15 : decode cX3_openOnes 15 = .ok (.ifCond .eq 9, 3) := by decide +kernel
theorem dX3_openOnes_18 : decode cX3_openOnes 18 = .ok (.iload_n 1, 1) := by decide +kernel
theorem dX3_openOnes_19 : decode cX3_openOnes 19 = .ok (.iconst 1, 1) := by decide +kernel
theorem dX3_openOnes_20 : decode cX3_openOnes 20 = .ok (.iload_n 2, 1) := by decide +kernel
theorem dX3_openOnes_21 : decode cX3_openOnes 21 = .ok (.ishl, 1) := by decide +kernel
theorem dX3_openOnes_22 : decode cX3_openOnes 22 = .ok (.ior, 1) := by decide +kernel
theorem dX3_openOnes_23 : decode cX3_openOnes 23 = .ok (.istore_n 1, 1) := by decide +kernel
theorem dX3_openOnes_24 : decode cX3_openOnes 24 = .ok (.iinc 2 1, 3) := by decide +kernel
theorem dX3_openOnes_27 : decode cX3_openOnes 27 = .ok (.goto (-23), 3) := by decide +kernel
theorem dX3_openOnes_30 : decode cX3_openOnes 30 = .ok (.iload_n 1, 1) := by decide +kernel
theorem dX3_openOnes_31 : decode cX3_openOnes 31 = .ok (.ireturn, 1) := by decide +kernel
theorem dX3_secondsLeft_0 : decode cX3_secondsLeft 0 = .ok (.aload_n 0, 1) := by decide +kernel
theorem dX3_secondsLeft_1 : decode cX3_secondsLeft 1 = .ok (.getfield 20, 3) := by decide +kernel
theorem dX3_secondsLeft_4 : decode cX3_secondsLeft 4 = .ok (.iload_n 1, 1) := by decide +kernel
theorem dX3_secondsLeft_5 : decode cX3_secondsLeft 5 = .ok (.invokevirtual 43, 3) := by decide +kernel
theorem dX3_secondsLeft_8 : decode cX3_secondsLeft 8 = .ok (.ireturn, 1) := by decide +kernel
theorem dX3_beginQuarantine_0 : decode cX3_beginQuarantine 0 = .ok (.aload_n 0, 1) := by decide +kernel
theorem dX3_beginQuarantine_1 : decode cX3_beginQuarantine 1 = .ok (.getfield 20, 3) := by decide +kernel
theorem dX3_beginQuarantine_4 : decode cX3_beginQuarantine 4 = .ok (.iload_n 1, 1) := by decide +kernel
theorem dX3_beginQuarantine_5 : decode cX3_beginQuarantine 5 = .ok (.iload_n 2, 1) := by decide +kernel
theorem dX3_beginQuarantine_6 : decode cX3_beginQuarantine 6 = .ok (.invokevirtual 47, 3) := by decide +kernel
theorem dX3_beginQuarantine_9 : decode cX3_beginQuarantine 9 = .ok (.aload_n 0, 1) := by decide +kernel
theorem dX3_beginQuarantine_10 : decode cX3_beginQuarantine 10 = .ok (.getfield 23, 3) := by decide +kernel
theorem dX3_beginQuarantine_13 : decode cX3_beginQuarantine 13 = .ok (.iload_n 1, 1) := by decide +kernel
theorem dX3_beginQuarantine_14 : decode cX3_beginQuarantine 14 = .ok (.iload_n 3, 1) := by decide +kernel
theorem dX3_beginQuarantine_15 : decode cX3_beginQuarantine 15 = .ok (.invokevirtual 47, 3) := by decide +kernel
theorem dX3_beginQuarantine_18 : decode cX3_beginQuarantine 18 = .ok (.return_, 1) := by decide +kernel
theorem dX3_endQuarantine_0 : decode cX3_endQuarantine 0 = .ok (.aload_n 0, 1) := by decide +kernel
theorem dX3_endQuarantine_1 : decode cX3_endQuarantine 1 = .ok (.getfield 20, 3) := by decide +kernel
theorem dX3_endQuarantine_4 : decode cX3_endQuarantine 4 = .ok (.iload_n 1, 1) := by decide +kernel
theorem dX3_endQuarantine_5 : decode cX3_endQuarantine 5 = .ok (.iconst 0, 1) := by decide +kernel
theorem dX3_endQuarantine_6 : decode cX3_endQuarantine 6 = .ok (.invokevirtual 47, 3) := by decide +kernel
theorem dX3_endQuarantine_9 : decode cX3_endQuarantine 9 = .ok (.return_, 1) := by decide +kernel
theorem dX3_quarantined_0 : decode cX3_quarantined 0 = .ok (.iconst 0, 1) := by decide +kernel
theorem dX3_quarantined_1 : decode cX3_quarantined 1 = .ok (.istore_n 1, 1) := by decide +kernel
theorem dX3_quarantined_2 : decode cX3_quarantined 2 = .ok (.iconst 0, 1) := by decide +kernel
theorem dX3_quarantined_3 : decode cX3_quarantined 3 = .ok (.istore_n 2, 1) := by decide +kernel
theorem dX3_quarantined_4 : decode cX3_quarantined 4 = .ok (.iload_n 2, 1) := by decide +kernel
theorem dX3_quarantined_5 : decode cX3_quarantined 5 = .ok (.bipush 8, 2) := by decide +kernel
theorem dX3_quarantined_7 : decode cX3_quarantined 7 = .ok (.if_icmp .ge 23, 3) := by decide +kernel
theorem dX3_quarantined_10 : decode cX3_quarantined 10 = .ok (.aload_n 0, 1) := by decide +kernel
theorem dX3_quarantined_11 : decode cX3_quarantined 11 = .ok (.getfield 20, 3) := by decide +kernel
theorem dX3_quarantined_14 : decode cX3_quarantined 14 = .ok (.iload_n 2, 1) := by decide +kernel
theorem dX3_quarantined_15 : decode cX3_quarantined 15 = .ok (.invokevirtual 43, 3) := by decide +kernel
theorem dX3_quarantined_18 : decode cX3_quarantined 18 = .ok (.ifCond .le 6, 3) := by decide +kernel
theorem dX3_quarantined_21 : decode cX3_quarantined 21 = .ok (.iinc 1 1, 3) := by decide +kernel
theorem dX3_quarantined_24 : decode cX3_quarantined 24 = .ok (.iinc 2 1, 3) := by decide +kernel
theorem dX3_quarantined_27 : decode cX3_quarantined 27 = .ok (.goto (-23), 3) := by decide +kernel
theorem dX3_quarantined_30 : decode cX3_quarantined 30 = .ok (.iload_n 1, 1) := by decide +kernel
theorem dX3_quarantined_31 : decode cX3_quarantined 31 = .ok (.ireturn, 1) := by decide +kernel
theorem dX3_farEnd_0 : decode cX3_farEnd 0 = .ok (.aload_n 0, 1) := by decide +kernel
theorem dX3_farEnd_1 : decode cX3_farEnd 1 = .ok (.getfield 26, 3) := by decide +kernel
theorem dX3_farEnd_4 : decode cX3_farEnd 4 = .ok (.iload_n 1, 1) := by decide +kernel
theorem dX3_farEnd_5 : decode cX3_farEnd 5 = .ok (.invokevirtual 43, 3) := by decide +kernel
theorem dX3_farEnd_8 : decode cX3_farEnd 8 = .ok (.ireturn, 1) := by decide +kernel
theorem dX3_tie_0 : decode cX3_tie 0 = .ok (.aload_n 0, 1) := by decide +kernel
theorem dX3_tie_1 : decode cX3_tie 1 = .ok (.getfield 26, 3) := by decide +kernel
theorem dX3_tie_4 : decode cX3_tie 4 = .ok (.iload_n 1, 1) := by decide +kernel
theorem dX3_tie_5 : decode cX3_tie 5 = .ok (.iload_n 2, 1) := by decide +kernel
theorem dX3_tie_6 : decode cX3_tie 6 = .ok (.invokevirtual 47, 3) := by decide +kernel
theorem dX3_tie_9 : decode cX3_tie 9 = .ok (.aload_n 0, 1) := by decide +kernel
theorem dX3_tie_10 : decode cX3_tie 10 = .ok (.getfield 26, 3) := by decide +kernel
theorem dX3_tie_13 : decode cX3_tie 13 = .ok (.iload_n 2, 1) := by decide +kernel
theorem dX3_tie_14 : decode cX3_tie 14 = .ok (.iload_n 1, 1) := by decide +kernel
theorem dX3_tie_15 : decode cX3_tie 15 = .ok (.invokevirtual 47, 3) := by decide +kernel
theorem dX3_tie_18 : decode cX3_tie 18 = .ok (.return_, 1) := by decide +kernel
theorem dX3_untie_0 : decode cX3_untie 0 = .ok (.aload_n 0, 1) := by decide +kernel
theorem dX3_untie_1 : decode cX3_untie 1 = .ok (.getfield 26, 3) := by decide +kernel
theorem dX3_untie_4 : decode cX3_untie 4 = .ok (.iload_n 1, 1) := by decide +kernel
theorem dX3_untie_5 : decode cX3_untie 5 = .ok (.bipush (-4), 2) := by decide +kernel
theorem dX3_untie_7 : decode cX3_untie 7 = .ok (.invokevirtual 47, 3) := by decide +kernel
theorem dX3_untie_10 : decode cX3_untie 10 = .ok (.aload_n 0, 1) := by decide +kernel
theorem dX3_untie_11 : decode cX3_untie 11 = .ok (.getfield 26, 3) := by decide +kernel
theorem dX3_untie_14 : decode cX3_untie 14 = .ok (.iload_n 2, 1) := by decide +kernel
theorem dX3_untie_15 : decode cX3_untie 15 = .ok (.bipush (-4), 2) := by decide +kernel
theorem dX3_untie_17 : decode cX3_untie 17 = .ok (.invokevirtual 47, 3) := by decide +kernel
theorem dX3_untie_20 : decode cX3_untie 20 = .ok (.return_, 1) := by decide +kernel
theorem dX3_cables_0 : decode cX3_cables 0 = .ok (.iconst 0, 1) := by decide +kernel
theorem dX3_cables_1 : decode cX3_cables 1 = .ok (.istore_n 1, 1) := by decide +kernel
theorem dX3_cables_2 : decode cX3_cables 2 = .ok (.iconst 0, 1) := by decide +kernel
theorem dX3_cables_3 : decode cX3_cables 3 = .ok (.istore_n 2, 1) := by decide +kernel
theorem dX3_cables_4 : decode cX3_cables 4 = .ok (.iload_n 2, 1) := by decide +kernel
theorem dX3_cables_5 : decode cX3_cables 5 = .ok (.bipush 8, 2) := by decide +kernel
theorem dX3_cables_7 : decode cX3_cables 7 = .ok (.if_icmp .ge 25, 3) := by decide +kernel
theorem dX3_cables_10 : decode cX3_cables 10 = .ok (.aload_n 0, 1) := by decide +kernel
theorem dX3_cables_11 : decode cX3_cables 11 = .ok (.getfield 26, 3) := by decide +kernel
theorem dX3_cables_14 : decode cX3_cables 14 = .ok (.iload_n 2, 1) := by decide +kernel
theorem dX3_cables_15 : decode cX3_cables 15 = .ok (.invokevirtual 43, 3) := by decide +kernel
theorem dX3_cables_18 : decode cX3_cables 18 = .ok (.bipush (-4), 2) := by decide +kernel
theorem dX3_cables_20 : decode cX3_cables 20 = .ok (.if_icmp .eq 6, 3) := by decide +kernel
theorem dX3_cables_23 : decode cX3_cables 23 = .ok (.iinc 1 1, 3) := by decide +kernel
theorem dX3_cables_26 : decode cX3_cables 26 = .ok (.iinc 2 1, 3) := by decide +kernel
theorem dX3_cables_29 : decode cX3_cables 29 = .ok (.goto (-25), 3) := by decide +kernel
theorem dX3_cables_32 : decode cX3_cables 32 = .ok (.iload_n 1, 1) := by decide +kernel
theorem dX3_cables_33 : decode cX3_cables 33 = .ok (.iconst 2, 1) := by decide +kernel
theorem dX3_cables_34 : decode cX3_cables 34 = .ok (.idiv, 1) := by decide +kernel
theorem dX3_cables_35 : decode cX3_cables 35 = .ok (.ireturn, 1) := by decide +kernel
theorem dX3_credit_0 : decode cX3_credit 0 = .ok (.aload_n 0, 1) := by decide +kernel
theorem dX3_credit_1 : decode cX3_credit 1 = .ok (.getfield 32, 3) := by decide +kernel
theorem dX3_credit_4 : decode cX3_credit 4 = .ok (.iload_n 1, 1) := by decide +kernel
theorem dX3_credit_5 : decode cX3_credit 5 = .ok (.bipush 11, 2) := by decide +kernel
theorem dX3_credit_7 : decode cX3_credit 7 = .ok (.imul, 1) := by decide +kernel
theorem dX3_credit_8 : decode cX3_credit 8 = .ok (.iload_n 2, 1) := by decide +kernel
theorem dX3_credit_9 : decode cX3_credit 9 = .ok (.iadd, 1) := by decide +kernel
theorem dX3_credit_10 : decode cX3_credit 10 = .ok (.iload_n 3, 1) := by decide +kernel
theorem dX3_credit_11 : decode cX3_credit 11 = .ok (.invokevirtual 55, 3) := by decide +kernel
theorem dX3_credit_14 : decode cX3_credit 14 = .ok (.return_, 1) := by decide +kernel
theorem dX3_credited_0 : decode cX3_credited 0 = .ok (.aload_n 0, 1) := by decide +kernel
theorem dX3_credited_1 : decode cX3_credited 1 = .ok (.getfield 32, 3) := by decide +kernel
theorem dX3_credited_4 : decode cX3_credited 4 = .ok (.iload_n 1, 1) := by decide +kernel
theorem dX3_credited_5 : decode cX3_credited 5 = .ok (.bipush 11, 2) := by decide +kernel
theorem dX3_credited_7 : decode cX3_credited 7 = .ok (.imul, 1) := by decide +kernel
theorem dX3_credited_8 : decode cX3_credited 8 = .ok (.iload_n 2, 1) := by decide +kernel
theorem dX3_credited_9 : decode cX3_credited 9 = .ok (.iadd, 1) := by decide +kernel
theorem dX3_credited_10 : decode cX3_credited 10 = .ok (.invokevirtual 43, 3) := by decide +kernel
theorem dX3_credited_13 : decode cX3_credited 13 = .ok (.ireturn, 1) := by decide +kernel
theorem dX3_allCameIn_0 : decode cX3_allCameIn 0 = .ok (.iconst 0, 1) := by decide +kernel
theorem dX3_allCameIn_1 : decode cX3_allCameIn 1 = .ok (.istore_n 1, 1) := by decide +kernel
theorem dX3_allCameIn_2 : decode cX3_allCameIn 2 = .ok (.iconst 0, 1) := by decide +kernel
theorem dX3_allCameIn_3 : decode cX3_allCameIn 3 = .ok (.istore_n 2, 1) := by decide +kernel
theorem dX3_allCameIn_4 : decode cX3_allCameIn 4 = .ok (.iload_n 2, 1) := by decide +kernel
theorem dX3_allCameIn_5 : decode cX3_allCameIn 5 = .ok (.bipush 8, 2) := by decide +kernel
theorem dX3_allCameIn_7 : decode cX3_allCameIn 7 = .ok (.if_icmp .ge 18, 3) := by decide +kernel
theorem dX3_allCameIn_10 : decode cX3_allCameIn 10 = .ok (.iload_n 1, 1) := by decide +kernel
theorem dX3_allCameIn_11 : decode cX3_allCameIn 11 = .ok (.aload_n 0, 1) := by decide +kernel
theorem dX3_allCameIn_12 : decode cX3_allCameIn 12 = .ok (.iload_n 2, 1) := by decide +kernel
theorem dX3_allCameIn_13 : decode cX3_allCameIn 13 = .ok (.iconst 0, 1) := by decide +kernel
theorem dX3_allCameIn_14 : decode cX3_allCameIn 14 = .ok (.invokevirtual 58, 3) := by decide +kernel
theorem dX3_allCameIn_17 : decode cX3_allCameIn 17 = .ok (.iadd, 1) := by decide +kernel
theorem dX3_allCameIn_18 : decode cX3_allCameIn 18 = .ok (.istore_n 1, 1) := by decide +kernel
theorem dX3_allCameIn_19 : decode cX3_allCameIn 19 = .ok (.iinc 2 1, 3) := by decide +kernel
theorem dX3_allCameIn_22 : decode cX3_allCameIn 22 = .ok (.goto (-18), 3) := by decide +kernel
theorem dX3_allCameIn_25 : decode cX3_allCameIn 25 = .ok (.iload_n 1, 1) := by decide +kernel
theorem dX3_allCameIn_26 : decode cX3_allCameIn 26 = .ok (.ireturn, 1) := by decide +kernel
theorem dX3_endSecond_0 : decode cX3_endSecond 0 = .ok (.iconst 0, 1) := by decide +kernel
theorem dX3_endSecond_1 : decode cX3_endSecond 1 = .ok (.istore_n 1, 1) := by decide +kernel
theorem dX3_endSecond_2 : decode cX3_endSecond 2 = .ok (.iload_n 1, 1) := by decide +kernel
theorem dX3_endSecond_3 : decode cX3_endSecond 3 = .ok (.bipush 8, 2) := by decide +kernel
theorem dX3_endSecond_5 : decode cX3_endSecond 5 = .ok (.if_icmp .ge 29, 3) := by decide +kernel
theorem dX3_endSecond_8 : decode cX3_endSecond 8 = .ok (.aload_n 0, 1) := by decide +kernel
theorem dX3_endSecond_9 : decode cX3_endSecond 9 = .ok (.getfield 20, 3) := by decide +kernel
theorem dX3_endSecond_12 : decode cX3_endSecond 12 = .ok (.iload_n 1, 1) := by decide +kernel
theorem dX3_endSecond_13 : decode cX3_endSecond 13 = .ok (.invokevirtual 43, 3) := by decide +kernel
theorem dX3_endSecond_16 : decode cX3_endSecond 16 = .ok (.ifCond .le 12, 3) := by decide +kernel
theorem dX3_endSecond_19 : decode cX3_endSecond 19 = .ok (.aload_n 0, 1) := by decide +kernel
theorem dX3_endSecond_20 : decode cX3_endSecond 20 = .ok (.getfield 20, 3) := by decide +kernel
theorem dX3_endSecond_23 : decode cX3_endSecond 23 = .ok (.iload_n 1, 1) := by decide +kernel
theorem dX3_endSecond_24 : decode cX3_endSecond 24 = .ok (.iconst (-1), 1) := by decide +kernel
theorem dX3_endSecond_25 : decode cX3_endSecond 25 = .ok (.invokevirtual 55, 3) := by decide +kernel
theorem dX3_endSecond_28 : decode cX3_endSecond 28 = .ok (.iinc 1 1, 3) := by decide +kernel
theorem dX3_endSecond_31 : decode cX3_endSecond 31 = .ok (.goto (-29), 3) := by decide +kernel
theorem dX3_endSecond_34 : decode cX3_endSecond 34 = .ok (.aload_n 0, 1) := by decide +kernel
theorem dX3_endSecond_35 : decode cX3_endSecond 35 = .ok (.getfield 29, 3) := by decide +kernel
theorem dX3_endSecond_38 : decode cX3_endSecond 38 = .ok (.iconst 0, 1) := by decide +kernel
theorem dX3_endSecond_39 : decode cX3_endSecond 39 = .ok (.bipush 8, 2) := by decide +kernel
theorem dX3_endSecond_41 : decode cX3_endSecond 41 = .ok (.iconst 0, 1) := by decide +kernel
theorem dX3_endSecond_42 : decode cX3_endSecond 42 = .ok (.invokevirtual 35, 3) := by decide +kernel
theorem dX3_endSecond_45 : decode cX3_endSecond 45 = .ok (.return_, 1) := by decide +kernel
theorem dX4_init_0 : decode cX4_init 0 = .ok (.aload_n 0, 1) := by decide +kernel
theorem dX4_init_1 : decode cX4_init 1 = .ok (.invokespecial 3, 3) := by decide +kernel
theorem dX4_init_4 : decode cX4_init 4 = .ok (.aload_n 0, 1) := by decide +kernel
theorem dX4_init_5 : decode cX4_init 5 = .ok (.new 9, 3) := by decide +kernel
theorem dX4_init_8 : decode cX4_init 8 = .ok (.dup, 1) := by decide +kernel
theorem dX4_init_9 : decode cX4_init 9 = .ok (.bipush 8, 2) := by decide +kernel
theorem dX4_init_11 : decode cX4_init 11 = .ok (.invokespecial 11, 3) := by decide +kernel
theorem dX4_init_14 : decode cX4_init 14 = .ok (.putfield 14, 3) := by decide +kernel
theorem dX4_init_17 : decode cX4_init 17 = .ok (.aload_n 0, 1) := by decide +kernel
theorem dX4_init_18 : decode cX4_init 18 = .ok (.new 9, 3) := by decide +kernel
theorem dX4_init_21 : decode cX4_init 21 = .ok (.dup, 1) := by decide +kernel
theorem dX4_init_22 : decode cX4_init 22 = .ok (.sipush 384, 3) := by decide +kernel
theorem dX4_init_25 : decode cX4_init 25 = .ok (.invokespecial 11, 3) := by decide +kernel
theorem dX4_init_28 : decode cX4_init 28 = .ok (.putfield 20, 3) := by decide +kernel
theorem dX4_init_31 : decode cX4_init 31 = .ok (.return_, 1) := by decide +kernel
theorem dX4_copyFrom_0 : decode cX4_copyFrom 0 = .ok (.aload_n 0, 1) := by decide +kernel
theorem dX4_copyFrom_1 : decode cX4_copyFrom 1 = .ok (.getfield 14, 3) := by decide +kernel
theorem dX4_copyFrom_4 : decode cX4_copyFrom 4 = .ok (.aload_n 1, 1) := by decide +kernel
theorem dX4_copyFrom_5 : decode cX4_copyFrom 5 = .ok (.getfield 14, 3) := by decide +kernel
theorem dX4_copyFrom_8 : decode cX4_copyFrom 8 = .ok (.invokevirtual 23, 3) := by decide +kernel
theorem dX4_copyFrom_11 : decode cX4_copyFrom 11 = .ok (.aload_n 0, 1) := by decide +kernel
theorem dX4_copyFrom_12 : decode cX4_copyFrom 12 = .ok (.getfield 20, 3) := by decide +kernel
theorem dX4_copyFrom_15 : decode cX4_copyFrom 15 = .ok (.aload_n 1, 1) := by decide +kernel
theorem dX4_copyFrom_16 : decode cX4_copyFrom 16 = .ok (.getfield 20, 3) := by decide +kernel
theorem dX4_copyFrom_19 : decode cX4_copyFrom 19 = .ok (.invokevirtual 23, 3) := by decide +kernel
theorem dX4_copyFrom_22 : decode cX4_copyFrom 22 = .ok (.return_, 1) := by decide +kernel
theorem dX4_cellOf_0 : decode cX4_cellOf 0 = .ok (.iload_n 0, 1) := by decide +kernel
theorem dX4_cellOf_1 : decode cX4_cellOf 1 = .ok (.bipush 12, 2) := by decide +kernel
theorem dX4_cellOf_3 : decode cX4_cellOf 3 = .ok (.imul, 1) := by decide +kernel
theorem dX4_cellOf_4 : decode cX4_cellOf 4 = .ok (.iload_n 1, 1) := by decide +kernel
theorem dX4_cellOf_5 : decode cX4_cellOf 5 = .ok (.iadd, 1) := by decide +kernel
theorem dX4_cellOf_6 : decode cX4_cellOf 6 = .ok (.iconst 4, 1) := by decide +kernel
theorem dX4_cellOf_7 : decode cX4_cellOf 7 = .ok (.imul, 1) := by decide +kernel
theorem dX4_cellOf_8 : decode cX4_cellOf 8 = .ok (.ireturn, 1) := by decide +kernel
theorem dX4_partOf_0 : decode cX4_partOf 0 = .ok (.aload_n 0, 1) := by decide +kernel
theorem dX4_partOf_1 : decode cX4_partOf 1 = .ok (.getfield 20, 3) := by decide +kernel
theorem dX4_partOf_4 : decode cX4_partOf 4 = .ok (.iload_n 1, 1) := by decide +kernel
theorem dX4_partOf_5 : decode cX4_partOf 5 = .ok (.iload_n 2, 1) := by decide +kernel
theorem dX4_partOf_6 : decode cX4_partOf 6 = .ok (.invokestatic 27, 3) := by decide +kernel
theorem dX4_partOf_9 : decode cX4_partOf 9 = .ok (.iload_n 3, 1) := by decide +kernel
theorem dX4_partOf_10 : decode cX4_partOf 10 = .ok (.iadd, 1) := by decide +kernel
theorem dX4_partOf_11 : decode cX4_partOf 11 = .ok (.invokevirtual 31, 3) := by decide +kernel
theorem dX4_partOf_14 : decode cX4_partOf 14 = .ok (.ireturn, 1) := by decide +kernel
theorem dX4_isFull_0 : decode cX4_isFull 0 = .ok (.aload_n 0, 1) := by decide +kernel
theorem dX4_isFull_1 : decode cX4_isFull 1 = .ok (.getfield 14, 3) := by decide +kernel
theorem dX4_isFull_4 : decode cX4_isFull 4 = .ok (.iload_n 1, 1) := by decide +kernel
theorem dX4_isFull_5 : decode cX4_isFull 5 = .ok (.invokevirtual 31, 3) := by decide +kernel
theorem dX4_isFull_8 : decode cX4_isFull 8 = .ok (.bipush 12, 2) := by decide +kernel
theorem dX4_isFull_10 : decode cX4_isFull 10 = .ok (.if_icmp .lt 7, 3) := by decide +kernel
theorem dX4_isFull_13 : decode cX4_isFull 13 = .ok (.iconst 1, 1) := by decide +kernel
theorem dX4_isFull_14 : decode cX4_isFull 14 = .ok (.goto 4, 3) := by decide +kernel
theorem dX4_isFull_17 : decode cX4_isFull 17 = .ok (.iconst 0, 1) := by decide +kernel
theorem dX4_isFull_18 : decode cX4_isFull 18 = .ok (.ireturn, 1) := by decide +kernel
theorem dX4_insert_0 : decode cX4_insert 0 = .ok (.aload_n 0, 1) := by decide +kernel
theorem dX4_insert_1 : decode cX4_insert 1 = .ok (.getfield 14, 3) := by decide +kernel
theorem dX4_insert_4 : decode cX4_insert 4 = .ok (.iload_n 1, 1) := by decide +kernel
theorem dX4_insert_5 : decode cX4_insert 5 = .ok (.invokevirtual 31, 3) := by decide +kernel
theorem dX4_insert_8 : decode cX4_insert 8 = .ok (.istore 6, 2) := by decide +kernel
theorem dX4_insert_10 : decode cX4_insert 10 = .ok (.iload 6, 2) := by decide +kernel
theorem dX4_insert_12 : decode cX4_insert 12 = .ok (.istore 7, 2) := by decide +kernel
theorem dX4_insert_14 : decode cX4_insert 14 = .ok (.iload 7, 2) := by decide +kernel
theorem dX4_insert_16 : decode cX4_insert 16 = .ok (.ifCond .le 24, 3) := by decide +kernel
theorem dX4_insert_19 : decode cX4_insert 19 = .ok (.aload_n 0, 1) := by decide +kernel
theorem dX4_insert_20 : decode cX4_insert 20 = .ok (.iload_n 1, 1) := by decide +kernel
theorem dX4_insert_21 : decode cX4_insert 21 = .ok (.iload 7, 2) := by decide +kernel
theorem dX4_insert_23 : decode cX4_insert 23 = .ok (.iconst 1, 1) := by decide +kernel
theorem dX4_insert_24 : decode cX4_insert 24 = .ok (.isub, 1) := by decide +kernel
theorem dX4_insert_25 : decode cX4_insert 25 = .ok (.iconst 2, 1) := by decide +kernel
theorem dX4_insert_26 : decode cX4_insert 26 = .ok (.invokevirtual 35, 3) := by decide +kernel
theorem dX4_insert_29 : decode cX4_insert 29 = .ok (.iload 4, 2) := by decide +kernel
theorem dX4_insert_31 : decode cX4_insert 31 = .ok (.if_icmp .ge 9, 3) := by decide +kernel
theorem dX4_insert_34 : decode cX4_insert 34 = .ok (.iinc 7 (-1), 3) := by decide +kernel
theorem dX4_insert_37 : decode cX4_insert 37 = .ok (.goto (-23), 3) := by decide +kernel
theorem dX4_insert_40 : decode cX4_insert 40 = .ok (.iload_n 1, 1) := by decide +kernel
theorem dX4_insert_41 : decode cX4_insert 41 = .ok (.iload 7, 2) := by decide +kernel
theorem dX4_insert_43 : decode cX4_insert 43 = .ok (.invokestatic 27, 3) := by decide +kernel
theorem dX4_insert_46 : decode cX4_insert 46 = .ok (.istore 8, 2) := by decide +kernel
theorem dX4_insert_48 : decode cX4_insert 48 = .ok (.aload_n 0, 1) := by decide +kernel
theorem dX4_insert_49 : decode cX4_insert 49 = .ok (.getfield 20, 3) := by decide +kernel
theorem dX4_insert_52 : decode cX4_insert 52 = .ok (.iload 8, 2) := by decide +kernel
theorem dX4_insert_54 : decode cX4_insert 54 = .ok (.iload 8, 2) := by decide +kernel
theorem dX4_insert_56 : decode cX4_insert 56 = .ok (.iconst 4, 1) := by decide +kernel
theorem dX4_insert_57 : decode cX4_insert 57 = .ok (.iadd, 1) := by decide +kernel
theorem dX4_insert_58 : decode cX4_insert 58 = .ok (.iload 6, 2) := by decide +kernel
theorem dX4_insert_60 : decode cX4_insert 60 = .ok (.iload 7, 2) := by decide +kernel
theorem dX4_insert_62 : decode cX4_insert 62 = .ok (.isub, 1) := by decide +kernel
theorem dX4_insert_63 : decode cX4_insert 63 = .ok (.iconst 4, 1) := by decide +kernel
theorem dX4_insert_64 : decode cX4_insert 64 = .ok (.imul, 1) := by decide +kernel
theorem dX4_insert_65 : decode cX4_insert 65 = .ok (.invokevirtual 39, 3) := by decide +kernel
theorem dX4_insert_68 : decode cX4_insert 68 = .ok (.aload_n 0, 1) := by decide +kernel
theorem dX4_insert_69 : decode cX4_insert 69 = .ok (.getfield 20, 3) := by decide +kernel
theorem dX4_insert_72 : decode cX4_insert 72 = .ok (.iload 8, 2) := by decide +kernel
theorem dX4_insert_74 : decode cX4_insert 74 = .ok (.iconst 0, 1) := by decide +kernel
theorem dX4_insert_75 : decode cX4_insert 75 = .ok (.iadd, 1) := by decide +kernel
theorem dX4_insert_76 : decode cX4_insert 76 = .ok (.iload_n 2, 1) := by decide +kernel
theorem dX4_insert_77 : decode cX4_insert 77 = .ok (.invokevirtual 43, 3) := by decide +kernel
theorem dX4_insert_80 : decode cX4_insert 80 = .ok (.aload_n 0, 1) := by decide +kernel
theorem dX4_insert_81 : decode cX4_insert 81 = .ok (.getfield 20, 3) := by decide +kernel
theorem dX4_insert_84 : decode cX4_insert 84 = .ok (.iload 8, 2) := by decide +kernel
theorem dX4_insert_86 : decode cX4_insert 86 = .ok (.iconst 1, 1) := by decide +kernel
theorem dX4_insert_87 : decode cX4_insert 87 = .ok (.iadd, 1) := by decide +kernel
theorem dX4_insert_88 : decode cX4_insert 88 = .ok (.iload_n 3, 1) := by decide +kernel
theorem dX4_insert_89 : decode cX4_insert 89 = .ok (.invokevirtual 43, 3) := by decide +kernel
theorem dX4_insert_92 : decode cX4_insert 92 = .ok (.aload_n 0, 1) := by decide +kernel
theorem dX4_insert_93 : decode cX4_insert 93 = .ok (.getfield 20, 3) := by decide +kernel
theorem dX4_insert_96 : decode cX4_insert 96 = .ok (.iload 8, 2) := by decide +kernel
theorem dX4_insert_98 : decode cX4_insert 98 = .ok (.iconst 2, 1) := by decide +kernel
theorem dX4_insert_99 : decode cX4_insert 99 = .ok (.iadd, 1) := by decide +kernel
theorem dX4_insert_100 : decode cX4_insert 100 = .ok (.iload 4, 2) := by decide +kernel
theorem dX4_insert_102 : decode cX4_insert 102 = .ok (.invokevirtual 43, 3) := by decide +kernel
theorem dX4_insert_105 : decode cX4_insert 105 = .ok (.aload_n 0, 1) := by decide +kernel
theorem dX4_insert_106 : decode cX4_insert 106 = .ok (.getfield 20, 3) := by decide +kernel
theorem dX4_insert_109 : decode cX4_insert 109 = .ok (.iload 8, 2) := by decide +kernel
theorem dX4_insert_111 : decode cX4_insert 111 = .ok (.iconst 3, 1) := by decide +kernel
theorem dX4_insert_112 : decode cX4_insert 112 = .ok (.iadd, 1) := by decide +kernel
theorem dX4_insert_113 : decode cX4_insert 113 = .ok (.iload 5, 2) := by decide +kernel
theorem dX4_insert_115 : decode cX4_insert 115 = .ok (.invokevirtual 43, 3) := by decide +kernel
theorem dX4_insert_118 : decode cX4_insert 118 = .ok (.aload_n 0, 1) := by decide +kernel
theorem dX4_insert_119 : decode cX4_insert 119 = .ok (.getfield 14, 3) := by decide +kernel
theorem dX4_insert_122 : decode cX4_insert 122 = .ok (.iload_n 1, 1) := by decide +kernel
theorem dX4_insert_123 : decode cX4_insert 123 = .ok (.iload 6, 2) := by decide +kernel
theorem dX4_insert_125 : decode cX4_insert 125 = .ok (.iconst 1, 1) := by decide +kernel
theorem dX4_insert_126 : decode cX4_insert 126 = .ok (.iadd, 1) := by decide +kernel
theorem dX4_insert_127 : decode cX4_insert 127 = .ok (.invokevirtual 43, 3) := by decide +kernel
theorem dX4_insert_130 : decode cX4_insert 130 = .ok (.return_, 1) := by decide +kernel
theorem dX4_removeFirst_0 : decode cX4_removeFirst 0 = .ok (.aload_n 0, 1) := by decide +kernel
theorem dX4_removeFirst_1 : decode cX4_removeFirst 1 = .ok (.getfield 14, 3) := by decide +kernel
theorem dX4_removeFirst_4 : decode cX4_removeFirst 4 = .ok (.iload_n 1, 1) := by decide +kernel
theorem dX4_removeFirst_5 : decode cX4_removeFirst 5 = .ok (.invokevirtual 31, 3) := by decide +kernel
theorem dX4_removeFirst_8 : decode cX4_removeFirst 8 = .ok (.iload_n 2, 1) := by decide +kernel
theorem dX4_removeFirst_9 : decode cX4_removeFirst 9 = .ok (.isub, 1) := by decide +kernel
theorem dX4_removeFirst_10 : decode cX4_removeFirst 10 = .ok (.istore_n 3, 1) := by decide +kernel
theorem dX4_removeFirst_11 : decode cX4_removeFirst 11 = .ok (.aload_n 0, 1) := by decide +kernel
theorem dX4_removeFirst_12 : decode cX4_removeFirst 12 = .ok (.getfield 20, 3) := by decide +kernel
theorem dX4_removeFirst_15 : decode cX4_removeFirst 15 = .ok (.iload_n 1, 1) := by decide +kernel
theorem dX4_removeFirst_16 : decode cX4_removeFirst 16 = .ok (.iload_n 2, 1) := by decide +kernel
theorem dX4_removeFirst_17 : decode cX4_removeFirst 17 = .ok (.invokestatic 27, 3) := by decide +kernel
theorem dX4_removeFirst_20 : decode cX4_removeFirst 20 = .ok (.iload_n 1, 1) := by decide +kernel
theorem dX4_removeFirst_21 : decode cX4_removeFirst 21 = .ok (.iconst 0, 1) := by decide +kernel
theorem dX4_removeFirst_22 : decode cX4_removeFirst 22 = .ok (.invokestatic 27, 3) := by decide +kernel
theorem dX4_removeFirst_25 : decode cX4_removeFirst 25 = .ok (.iload_n 3, 1) := by decide +kernel
theorem dX4_removeFirst_26 : decode cX4_removeFirst 26 = .ok (.iconst 4, 1) := by decide +kernel
theorem dX4_removeFirst_27 : decode cX4_removeFirst 27 = .ok (.imul, 1) := by decide +kernel
theorem dX4_removeFirst_28 : decode cX4_removeFirst 28 = .ok (.invokevirtual 39, 3) := by decide +kernel
theorem dX4_removeFirst_31 : decode cX4_removeFirst 31 = .ok (.aload_n 0, 1) := by decide +kernel
theorem dX4_removeFirst_32 : decode cX4_removeFirst 32 = .ok (.getfield 14, 3) := by decide +kernel
theorem dX4_removeFirst_35 : decode cX4_removeFirst 35 = .ok (.iload_n 1, 1) := by decide +kernel
theorem dX4_removeFirst_36 : decode cX4_removeFirst 36 = .ok (.iload_n 3, 1) := by decide +kernel
theorem dX4_removeFirst_37 : decode cX4_removeFirst 37 = .ok (.invokevirtual 43, 3) := by decide +kernel
theorem dX4_removeFirst_40 : decode cX4_removeFirst 40 = .ok (.return_, 1) := by decide +kernel
theorem dX5_init_0 : decode cX5_init 0 = .ok (.aload_n 0, 1) := by decide +kernel
theorem dX5_init_1 : decode cX5_init 1 = .ok (.invokespecial 1, 3) := by decide +kernel
theorem dX5_init_4 : decode cX5_init 4 = .ok (.aload_n 0, 1) := by decide +kernel
theorem dX5_init_5 : decode cX5_init 5 = .ok (.iload_n 1, 1) := by decide +kernel
theorem dX5_init_6 : decode cX5_init 6 = .ok (.iconst 0, 1) := by decide +kernel
theorem dX5_init_7 : decode cX5_init 7 = .ok (.invokestatic 7, 3) := by decide +kernel
theorem dX5_init_10 : decode cX5_init 10 = .ok (.newarray .int, 2) := by decide +kernel
theorem dX5_init_12 : decode cX5_init 12 = .ok (.putfield 13, 3) := by decide +kernel
theorem dX5_init_15 : decode cX5_init 15 = .ok (.return_, 1) := by decide +kernel
theorem dX5_at_0 : decode cX5_at 0 = .ok (.iload_n 1, 1) := by decide +kernel
theorem dX5_at_1 : decode cX5_at 1 = .ok (.ifCond .lt 21, 3) := by decide +kernel
theorem dX5_at_4 : decode cX5_at 4 = .ok (.iload_n 1, 1) := by decide +kernel
theorem dX5_at_5 : decode cX5_at 5 = .ok (.aload_n 0, 1) := by decide +kernel
theorem dX5_at_6 : decode cX5_at 6 = .ok (.getfield 13, 3) := by decide +kernel
theorem dX5_at_9 : decode cX5_at 9 = .ok (.arraylength, 1) := by decide +kernel
theorem dX5_at_10 : decode cX5_at 10 = .ok (.if_icmp .ge 12, 3) := by decide +kernel
theorem dX5_at_13 : decode cX5_at 13 = .ok (.aload_n 0, 1) := by decide +kernel
theorem dX5_at_14 : decode cX5_at 14 = .ok (.getfield 13, 3) := by decide +kernel
theorem dX5_at_17 : decode cX5_at 17 = .ok (.iload_n 1, 1) := by decide +kernel
theorem dX5_at_18 : decode cX5_at 18 = .ok (.iaload, 1) := by decide +kernel
theorem dX5_at_19 : decode cX5_at 19 = .ok (.goto 4, 3) := by decide +kernel
theorem dX5_at_22 : decode cX5_at 22 = .ok (.iconst 0, 1) := by decide +kernel
theorem dX5_at_23 : decode cX5_at 23 = .ok (.ireturn, 1) := by decide +kernel
theorem dX5_put_0 : decode cX5_put 0 = .ok (.iload_n 1, 1) := by decide +kernel
theorem dX5_put_1 : decode cX5_put 1 = .ok (.ifCond .lt 19, 3) := by decide +kernel
theorem dX5_put_4 : decode cX5_put 4 = .ok (.iload_n 1, 1) := by decide +kernel
theorem dX5_put_5 : decode cX5_put 5 = .ok (.aload_n 0, 1) := by decide +kernel
theorem dX5_put_6 : decode cX5_put 6 = .ok (.getfield 13, 3) := by decide +kernel
theorem dX5_put_9 : decode cX5_put 9 = .ok (.arraylength, 1) := by decide +kernel
theorem dX5_put_10 : decode cX5_put 10 = .ok (.if_icmp .ge 10, 3) := by decide +kernel
theorem dX5_put_13 : decode cX5_put 13 = .ok (.aload_n 0, 1) := by decide +kernel
theorem dX5_put_14 : decode cX5_put 14 = .ok (.getfield 13, 3) := by decide +kernel
theorem dX5_put_17 : decode cX5_put 17 = .ok (.iload_n 1, 1) := by decide +kernel
theorem dX5_put_18 : decode cX5_put 18 = .ok (.iload_n 2, 1) := by decide +kernel
theorem dX5_put_19 : decode cX5_put 19 = .ok (.iastore, 1) := by decide +kernel
theorem dX5_put_20 : decode cX5_put 20 = .ok (.return_, 1) := by decide +kernel
theorem dX5_add_0 : decode cX5_add 0 = .ok (.iload_n 1, 1) := by decide +kernel
theorem dX5_add_1 : decode cX5_add 1 = .ok (.ifCond .lt 22, 3) := by decide +kernel
theorem dX5_add_4 : decode cX5_add 4 = .ok (.iload_n 1, 1) := by decide +kernel
theorem dX5_add_5 : decode cX5_add 5 = .ok (.aload_n 0, 1) := by decide +kernel
theorem dX5_add_6 : decode cX5_add 6 = .ok (.getfield 13, 3) := by decide +kernel
theorem dX5_add_9 : decode cX5_add 9 = .ok (.arraylength, 1) := by decide +kernel
theorem dX5_add_10 : decode cX5_add 10 = .ok (.if_icmp .ge 13, 3) := by decide +kernel
theorem dX5_add_13 : decode cX5_add 13 = .ok (.aload_n 0, 1) := by decide +kernel
theorem dX5_add_14 : decode cX5_add 14 = .ok (.getfield 13, 3) := by decide +kernel
theorem dX5_add_17 : decode cX5_add 17 = .ok (.iload_n 1, 1) := by decide +kernel
theorem dX5_add_18 : decode cX5_add 18 = .ok (.dup2, 1) := by decide +kernel
theorem dX5_add_19 : decode cX5_add 19 = .ok (.iaload, 1) := by decide +kernel
theorem dX5_add_20 : decode cX5_add 20 = .ok (.iload_n 2, 1) := by decide +kernel
theorem dX5_add_21 : decode cX5_add 21 = .ok (.iadd, 1) := by decide +kernel
theorem dX5_add_22 : decode cX5_add 22 = .ok (.iastore, 1) := by decide +kernel
theorem dX5_add_23 : decode cX5_add 23 = .ok (.return_, 1) := by decide +kernel
theorem dX5_sum_0 : decode cX5_sum 0 = .ok (.iconst 0, 1) := by decide +kernel
theorem dX5_sum_1 : decode cX5_sum 1 = .ok (.istore_n 1, 1) := by decide +kernel
theorem dX5_sum_2 : decode cX5_sum 2 = .ok (.aload_n 0, 1) := by decide +kernel
theorem dX5_sum_3 : decode cX5_sum 3 = .ok (.getfield 13, 3) := by decide +kernel
theorem dX5_sum_6 : decode cX5_sum 6 = .ok (.astore_n 2, 1) := by decide +kernel
theorem dX5_sum_7 : decode cX5_sum 7 = .ok (.aload_n 2, 1) := by decide +kernel
theorem dX5_sum_8 : decode cX5_sum 8 = .ok (.arraylength, 1) := by decide +kernel
theorem dX5_sum_9 : decode cX5_sum 9 = .ok (.istore_n 3, 1) := by decide +kernel
theorem dX5_sum_10 : decode cX5_sum 10 = .ok (.iconst 0, 1) := by decide +kernel
theorem dX5_sum_11 : decode cX5_sum 11 = .ok (.istore 4, 2) := by decide +kernel
theorem dX5_sum_13 : decode cX5_sum 13 = .ok (.iload 4, 2) := by decide +kernel
theorem dX5_sum_15 : decode cX5_sum 15 = .ok (.iload_n 3, 1) := by decide +kernel
theorem dX5_sum_16 : decode cX5_sum 16 = .ok (.if_icmp .ge 20, 3) := by decide +kernel
theorem dX5_sum_19 : decode cX5_sum 19 = .ok (.aload_n 2, 1) := by decide +kernel
theorem dX5_sum_20 : decode cX5_sum 20 = .ok (.iload 4, 2) := by decide +kernel
theorem dX5_sum_22 : decode cX5_sum 22 = .ok (.iaload, 1) := by decide +kernel
theorem dX5_sum_23 : decode cX5_sum 23 = .ok (.istore 5, 2) := by decide +kernel
theorem dX5_sum_25 : decode cX5_sum 25 = .ok (.iload_n 1, 1) := by decide +kernel
theorem dX5_sum_26 : decode cX5_sum 26 = .ok (.iload 5, 2) := by decide +kernel
theorem dX5_sum_28 : decode cX5_sum 28 = .ok (.iadd, 1) := by decide +kernel
theorem dX5_sum_29 : decode cX5_sum 29 = .ok (.istore_n 1, 1) := by decide +kernel
theorem dX5_sum_30 : decode cX5_sum 30 = .ok (.iinc 4 1, 3) := by decide +kernel
theorem dX5_sum_33 : decode cX5_sum 33 = .ok (.goto (-20), 3) := by decide +kernel
theorem dX5_sum_36 : decode cX5_sum 36 = .ok (.iload_n 1, 1) := by decide +kernel
theorem dX5_sum_37 : decode cX5_sum 37 = .ok (.ireturn, 1) := by decide +kernel
theorem dX5_fill_0 : decode cX5_fill 0 = .ok (.aload_n 0, 1) := by decide +kernel
theorem dX5_fill_1 : decode cX5_fill 1 = .ok (.iload_n 1, 1) := by decide +kernel
theorem dX5_fill_2 : decode cX5_fill 2 = .ok (.iload_n 2, 1) := by decide +kernel
theorem dX5_fill_3 : decode cX5_fill 3 = .ok (.invokevirtual 19, 3) := by decide +kernel
theorem dX5_fill_6 : decode cX5_fill 6 = .ok (.ifCond .eq 15, 3) := by decide +kernel
theorem dX5_fill_9 : decode cX5_fill 9 = .ok (.aload_n 0, 1) := by decide +kernel
theorem dX5_fill_10 : decode cX5_fill 10 = .ok (.getfield 13, 3) := by decide +kernel
theorem dX5_fill_13 : decode cX5_fill 13 = .ok (.iload_n 1, 1) := by decide +kernel
theorem dX5_fill_14 : decode cX5_fill 14 = .ok (.iload_n 1, 1) := by decide +kernel
theorem dX5_fill_15 : decode cX5_fill 15 = .ok (.iload_n 2, 1) := by decide +kernel
theorem dX5_fill_16 : decode cX5_fill 16 = .ok (.iadd, 1) := by decide +kernel
theorem dX5_fill_17 : decode cX5_fill 17 = .ok (.iload_n 3, 1) := by decide +kernel
theorem dX5_fill_18 : decode cX5_fill 18 = .ok (.invokestatic 23, 3) := by decide +kernel
theorem dX5_fill_21 : decode cX5_fill 21 = .ok (.return_, 1) := by decide +kernel
theorem dX5_slide_0 : decode cX5_slide 0 = .ok (.aload_n 0, 1) := by decide +kernel
theorem dX5_slide_1 : decode cX5_slide 1 = .ok (.iload_n 1, 1) := by decide +kernel
theorem dX5_slide_2 : decode cX5_slide 2 = .ok (.iload_n 3, 1) := by decide +kernel
theorem dX5_slide_3 : decode cX5_slide 3 = .ok (.invokevirtual 19, 3) := by decide +kernel
theorem dX5_slide_6 : decode cX5_slide 6 = .ok (.ifCond .eq 26, 3) := by decide +kernel
theorem dX5_slide_9 : decode cX5_slide 9 = .ok (.aload_n 0, 1) := by decide +kernel
theorem dX5_slide_10 : decode cX5_slide 10 = .ok (.iload_n 2, 1) := by decide +kernel
theorem dX5_slide_11 : decode cX5_slide 11 = .ok (.iload_n 3, 1) := by decide +kernel
theorem dX5_slide_12 : decode cX5_slide 12 = .ok (.invokevirtual 19, 3) := by decide +kernel
theorem dX5_slide_15 : decode cX5_slide 15 = .ok (.ifCond .eq 17, 3) := by decide +kernel
theorem dX5_slide_18 : decode cX5_slide 18 = .ok (.aload_n 0, 1) := by decide +kernel
theorem dX5_slide_19 : decode cX5_slide 19 = .ok (.getfield 13, 3) := by decide +kernel
theorem dX5_slide_22 : decode cX5_slide 22 = .ok (.iload_n 1, 1) := by decide +kernel
theorem dX5_slide_23 : decode cX5_slide 23 = .ok (.aload_n 0, 1) := by decide +kernel
theorem dX5_slide_24 : decode cX5_slide 24 = .ok (.getfield 13, 3) := by decide +kernel
theorem dX5_slide_27 : decode cX5_slide 27 = .ok (.iload_n 2, 1) := by decide +kernel
theorem dX5_slide_28 : decode cX5_slide 28 = .ok (.iload_n 3, 1) := by decide +kernel
theorem dX5_slide_29 : decode cX5_slide 29 = .ok (.invokestatic 29, 3) := by decide +kernel
theorem dX5_slide_32 : decode cX5_slide 32 = .ok (.return_, 1) := by decide +kernel
theorem dX5_fits_0 : decode cX5_fits 0 = .ok (.iload_n 1, 1) := by decide +kernel
theorem dX5_fits_1 : decode cX5_fits 1 = .ok (.ifCond .lt 22, 3) := by decide +kernel
theorem dX5_fits_4 : decode cX5_fits 4 = .ok (.iload_n 2, 1) := by decide +kernel
theorem dX5_fits_5 : decode cX5_fits 5 = .ok (.ifCond .lt 18, 3) := by decide +kernel
theorem dX5_fits_8 : decode cX5_fits 8 = .ok (.iload_n 1, 1) := by decide +kernel
theorem dX5_fits_9 : decode cX5_fits 9 = .ok (.aload_n 0, 1) := by decide +kernel
theorem dX5_fits_10 : decode cX5_fits 10 = .ok (.getfield 13, 3) := by decide +kernel
theorem dX5_fits_13 : decode cX5_fits 13 = .ok (.arraylength, 1) := by decide +kernel
theorem dX5_fits_14 : decode cX5_fits 14 = .ok (.iload_n 2, 1) := by decide +kernel
theorem dX5_fits_15 : decode cX5_fits 15 = .ok (.isub, 1) := by decide +kernel
theorem dX5_fits_16 : decode cX5_fits 16 = .ok (.if_icmp .gt 7, 3) := by decide +kernel
theorem dX5_fits_19 : decode cX5_fits 19 = .ok (.iconst 1, 1) := by decide +kernel
theorem dX5_fits_20 : decode cX5_fits 20 = .ok (.goto 4, 3) := by decide +kernel
theorem dX5_fits_23 : decode cX5_fits 23 = .ok (.iconst 0, 1) := by decide +kernel
theorem dX5_fits_24 : decode cX5_fits 24 = .ok (.ireturn, 1) := by decide +kernel
theorem dX5_copyFrom_0 : decode cX5_copyFrom 0 = .ok (.aload_n 1, 1) := by decide +kernel
theorem dX5_copyFrom_1 : decode cX5_copyFrom 1 = .ok (.getfield 13, 3) := by decide +kernel
theorem dX5_copyFrom_4 : decode cX5_copyFrom 4 = .ok (.iconst 0, 1) := by decide +kernel
theorem dX5_copyFrom_5 : decode cX5_copyFrom 5 = .ok (.aload_n 0, 1) := by decide +kernel
theorem dX5_copyFrom_6 : decode cX5_copyFrom 6 = .ok (.getfield 13, 3) := by decide +kernel
theorem dX5_copyFrom_9 : decode cX5_copyFrom 9 = .ok (.iconst 0, 1) := by decide +kernel
theorem dX5_copyFrom_10 : decode cX5_copyFrom 10 = .ok (.aload_n 0, 1) := by decide +kernel
theorem dX5_copyFrom_11 : decode cX5_copyFrom 11 = .ok (.getfield 13, 3) := by decide +kernel
theorem dX5_copyFrom_14 : decode cX5_copyFrom 14 = .ok (.arraylength, 1) := by decide +kernel
theorem dX5_copyFrom_15 : decode cX5_copyFrom 15 = .ok (.aload_n 1, 1) := by decide +kernel
theorem dX5_copyFrom_16 : decode cX5_copyFrom 16 = .ok (.getfield 13, 3) := by decide +kernel
theorem dX5_copyFrom_19 : decode cX5_copyFrom 19 = .ok (.arraylength, 1) := by decide +kernel
theorem dX5_copyFrom_20 : decode cX5_copyFrom 20 = .ok (.invokestatic 35, 3) := by decide +kernel
theorem dX5_copyFrom_23 : decode cX5_copyFrom 23 = .ok (.invokestatic 29, 3) := by decide +kernel
theorem dX5_copyFrom_26 : decode cX5_copyFrom 26 = .ok (.return_, 1) := by decide +kernel
theorem dX6_init_0 : decode cX6_init 0 = .ok (.aload_n 0, 1) := by decide +kernel
theorem dX6_init_1 : decode cX6_init 1 = .ok (.invokespecial 3, 3) := by decide +kernel
theorem dX6_init_4 : decode cX6_init 4 = .ok (.aload_n 0, 1) := by decide +kernel
theorem dX6_init_5 : decode cX6_init 5 = .ok (.new 9, 3) := by decide +kernel
theorem dX6_init_8 : decode cX6_init 8 = .ok (.dup, 1) := by decide +kernel
theorem dX6_init_9 : decode cX6_init 9 = .ok (.getstatic 11, 3) := by decide +kernel
theorem dX6_init_12 : decode cX6_init 12 = .ok (.arraylength, 1) := by decide +kernel
theorem dX6_init_13 : decode cX6_init 13 = .ok (.invokespecial 15, 3) := by decide +kernel
theorem dX6_init_16 : decode cX6_init 16 = .ok (.putfield 18, 3) := by decide +kernel
theorem dX6_init_19 : decode cX6_init 19 = .ok (.aload_n 0, 1) := by decide +kernel
theorem dX6_init_20 : decode cX6_init 20 = .ok (.new 24, 3) := by decide +kernel
theorem dX6_init_23 : decode cX6_init 23 = .ok (.dup, 1) := by decide +kernel
theorem dX6_init_24 : decode cX6_init 24 = .ok (.invokespecial 26, 3) := by decide +kernel
theorem dX6_init_27 : decode cX6_init 27 = .ok (.putfield 27, 3) := by decide +kernel
theorem dX6_init_30 : decode cX6_init 30 = .ok (.aload_n 0, 1) := by decide +kernel
theorem dX6_init_31 : decode cX6_init 31 = .ok (.new 31, 3) := by decide +kernel
theorem dX6_init_34 : decode cX6_init 34 = .ok (.dup, 1) := by decide +kernel
theorem dX6_init_35 : decode cX6_init 35 = .ok (.invokespecial 33, 3) := by decide +kernel
theorem dX6_init_38 : decode cX6_init 38 = .ok (.putfield 34, 3) := by decide +kernel
theorem dX6_init_41 : decode cX6_init 41 = .ok (.aload_n 0, 1) := by decide +kernel
theorem dX6_init_42 : decode cX6_init 42 = .ok (.new 38, 3) := by decide +kernel
theorem dX6_init_45 : decode cX6_init 45 = .ok (.dup, 1) := by decide +kernel
theorem dX6_init_46 : decode cX6_init 46 = .ok (.invokespecial 40, 3) := by decide +kernel
theorem dX6_init_49 : decode cX6_init 49 = .ok (.putfield 41, 3) := by decide +kernel
theorem dX6_init_52 : decode cX6_init 52 = .ok (.aload_n 0, 1) := by decide +kernel
theorem dX6_init_53 : decode cX6_init 53 = .ok (.new 45, 3) := by decide +kernel
theorem dX6_init_56 : decode cX6_init 56 = .ok (.dup, 1) := by decide +kernel
theorem dX6_init_57 : decode cX6_init 57 = .ok (.invokespecial 47, 3) := by decide +kernel
theorem dX6_init_60 : decode cX6_init 60 = .ok (.putfield 48, 3) := by decide +kernel
theorem dX6_init_63 : decode cX6_init 63 = .ok (.iconst 0, 1) := by decide +kernel
theorem dX6_init_64 : decode cX6_init 64 = .ok (.istore_n 1, 1) := by decide +kernel
theorem dX6_init_65 : decode cX6_init 65 = .ok (.iload_n 1, 1) := by decide +kernel
theorem dX6_init_66 : decode cX6_init 66 = .ok (.getstatic 11, 3) := by decide +kernel
theorem dX6_init_69 : decode cX6_init 69 = .ok (.arraylength, 1) := by decide +kernel
theorem dX6_init_70 : decode cX6_init 70 = .ok (.if_icmp .ge 22, 3) := by decide +kernel
theorem dX6_init_73 : decode cX6_init 73 = .ok (.aload_n 0, 1) := by decide +kernel
theorem dX6_init_74 : decode cX6_init 74 = .ok (.getfield 18, 3) := by decide +kernel
theorem dX6_init_77 : decode cX6_init 77 = .ok (.iload_n 1, 1) := by decide +kernel
theorem dX6_init_78 : decode cX6_init 78 = .ok (.getstatic 11, 3) := by decide +kernel
theorem dX6_init_81 : decode cX6_init 81 = .ok (.iload_n 1, 1) := by decide +kernel
theorem dX6_init_82 : decode cX6_init 82 = .ok (.iaload, 1) := by decide +kernel
theorem dX6_init_83 : decode cX6_init 83 = .ok (.invokevirtual 52, 3) := by decide +kernel
theorem dX6_init_86 : decode cX6_init 86 = .ok (.iinc 1 1, 3) := by decide +kernel
theorem dX6_init_89 : decode cX6_init 89 = .ok (.goto (-24), 3) := by decide +kernel
theorem dX6_init_92 : decode cX6_init 92 = .ok (.return_, 1) := by decide +kernel
theorem dX6_copyFrom_0 : decode cX6_copyFrom 0 = .ok (.aload_n 0, 1) := by decide +kernel
theorem dX6_copyFrom_1 : decode cX6_copyFrom 1 = .ok (.getfield 18, 3) := by decide +kernel
theorem dX6_copyFrom_4 : decode cX6_copyFrom 4 = .ok (.aload_n 1, 1) := by decide +kernel
theorem dX6_copyFrom_5 : decode cX6_copyFrom 5 = .ok (.getfield 18, 3) := by decide +kernel
theorem dX6_copyFrom_8 : decode cX6_copyFrom 8 = .ok (.invokevirtual 56, 3) := by decide +kernel
theorem dX6_copyFrom_11 : decode cX6_copyFrom 11 = .ok (.aload_n 0, 1) := by decide +kernel
theorem dX6_copyFrom_12 : decode cX6_copyFrom 12 = .ok (.getfield 27, 3) := by decide +kernel
theorem dX6_copyFrom_15 : decode cX6_copyFrom 15 = .ok (.aload_n 1, 1) := by decide +kernel
theorem dX6_copyFrom_16 : decode cX6_copyFrom 16 = .ok (.getfield 27, 3) := by decide +kernel
theorem dX6_copyFrom_19 : decode cX6_copyFrom 19 = .ok (.invokevirtual 60, 3) := by decide +kernel
theorem dX6_copyFrom_22 : decode cX6_copyFrom 22 = .ok (.aload_n 0, 1) := by decide +kernel
theorem dX6_copyFrom_23 : decode cX6_copyFrom 23 = .ok (.getfield 34, 3) := by decide +kernel
theorem dX6_copyFrom_26 : decode cX6_copyFrom 26 = .ok (.aload_n 1, 1) := by decide +kernel
theorem dX6_copyFrom_27 : decode cX6_copyFrom 27 = .ok (.getfield 34, 3) := by decide +kernel
theorem dX6_copyFrom_30 : decode cX6_copyFrom 30 = .ok (.invokevirtual 63, 3) := by decide +kernel
theorem dX6_copyFrom_33 : decode cX6_copyFrom 33 = .ok (.aload_n 0, 1) := by decide +kernel
theorem dX6_copyFrom_34 : decode cX6_copyFrom 34 = .ok (.getfield 41, 3) := by decide +kernel
theorem dX6_copyFrom_37 : decode cX6_copyFrom 37 = .ok (.aload_n 1, 1) := by decide +kernel
theorem dX6_copyFrom_38 : decode cX6_copyFrom 38 = .ok (.getfield 41, 3) := by decide +kernel
theorem dX6_copyFrom_41 : decode cX6_copyFrom 41 = .ok (.invokevirtual 66, 3) := by decide +kernel
theorem dX6_copyFrom_44 : decode cX6_copyFrom 44 = .ok (.aload_n 0, 1) := by decide +kernel
theorem dX6_copyFrom_45 : decode cX6_copyFrom 45 = .ok (.getfield 48, 3) := by decide +kernel
theorem dX6_copyFrom_48 : decode cX6_copyFrom 48 = .ok (.aload_n 1, 1) := by decide +kernel
theorem dX6_copyFrom_49 : decode cX6_copyFrom 49 = .ok (.getfield 48, 3) := by decide +kernel
theorem dX6_copyFrom_52 : decode cX6_copyFrom 52 = .ok (.invokevirtual 69, 3) := by decide +kernel
theorem dX6_copyFrom_55 : decode cX6_copyFrom 55 = .ok (.aload_n 0, 1) := by decide +kernel
theorem dX6_copyFrom_56 : decode cX6_copyFrom 56 = .ok (.aload_n 1, 1) := by decide +kernel
theorem dX6_copyFrom_57 : decode cX6_copyFrom 57 = .ok (.getfield 72, 3) := by decide +kernel
theorem dX6_copyFrom_60 : decode cX6_copyFrom 60 = .ok (.putfield 72, 3) := by decide +kernel
theorem dX6_copyFrom_63 : decode cX6_copyFrom 63 = .ok (.aload_n 0, 1) := by decide +kernel
theorem dX6_copyFrom_64 : decode cX6_copyFrom 64 = .ok (.aload_n 1, 1) := by decide +kernel
theorem dX6_copyFrom_65 : decode cX6_copyFrom 65 = .ok (.getfield 76, 3) := by decide +kernel
theorem dX6_copyFrom_68 : decode cX6_copyFrom 68 = .ok (.putfield 76, 3) := by decide +kernel
theorem dX6_copyFrom_71 : decode cX6_copyFrom 71 = .ok (.aload_n 0, 1) := by decide +kernel
theorem dX6_copyFrom_72 : decode cX6_copyFrom 72 = .ok (.aload_n 1, 1) := by decide +kernel
theorem dX6_copyFrom_73 : decode cX6_copyFrom 73 = .ok (.getfield 79, 3) := by decide +kernel
theorem dX6_copyFrom_76 : decode cX6_copyFrom 76 = .ok (.putfield 79, 3) := by decide +kernel
theorem dX6_copyFrom_79 : decode cX6_copyFrom 79 = .ok (.return_, 1) := by decide +kernel
theorem dX6_dropQueue_0 : decode cX6_dropQueue 0 = .ok (.aload_n 0, 1) := by decide +kernel
theorem dX6_dropQueue_1 : decode cX6_dropQueue 1 = .ok (.getfield 34, 3) := by decide +kernel
theorem dX6_dropQueue_4 : decode cX6_dropQueue 4 = .ok (.getfield 82, 3) := by decide +kernel
theorem dX6_dropQueue_7 : decode cX6_dropQueue 7 = .ok (.iload_n 1, 1) := by decide +kernel
theorem dX6_dropQueue_8 : decode cX6_dropQueue 8 = .ok (.invokevirtual 85, 3) := by decide +kernel
theorem dX6_dropQueue_11 : decode cX6_dropQueue 11 = .ok (.istore_n 2, 1) := by decide +kernel
theorem dX6_dropQueue_12 : decode cX6_dropQueue 12 = .ok (.aload_n 0, 1) := by decide +kernel
theorem dX6_dropQueue_13 : decode cX6_dropQueue 13 = .ok (.getfield 34, 3) := by decide +kernel
theorem dX6_dropQueue_16 : decode cX6_dropQueue 16 = .ok (.iload_n 1, 1) := by decide +kernel
theorem dX6_dropQueue_17 : decode cX6_dropQueue 17 = .ok (.iload_n 2, 1) := by decide +kernel
theorem dX6_dropQueue_18 : decode cX6_dropQueue 18 = .ok (.invokevirtual 89, 3) := by decide +kernel
theorem dX6_dropQueue_21 : decode cX6_dropQueue 21 = .ok (.aload_n 0, 1) := by decide +kernel
theorem dX6_dropQueue_22 : decode cX6_dropQueue 22 = .ok (.getfield 27, 3) := by decide +kernel
theorem dX6_dropQueue_25 : decode cX6_dropQueue 25 = .ok (.iload_n 1, 1) := by decide +kernel
theorem dX6_dropQueue_26 : decode cX6_dropQueue 26 = .ok (.bipush 8, 2) := by decide +kernel
theorem dX6_dropQueue_28 : decode cX6_dropQueue 28 = .ok (.iload_n 2, 1) := by decide +kernel
theorem dX6_dropQueue_29 : decode cX6_dropQueue 29 = .ok (.invokevirtual 92, 3) := by decide +kernel
theorem dX6_dropQueue_32 : decode cX6_dropQueue 32 = .ok (.return_, 1) := by decide +kernel
theorem dX6_comeIn_0 : decode cX6_comeIn 0 = .ok (.aload_n 0, 1) := by decide +kernel
theorem dX6_comeIn_1 : decode cX6_comeIn 1 = .ok (.iload_n 1, 1) := by decide +kernel
theorem dX6_comeIn_2 : decode cX6_comeIn 2 = .ok (.iload_n 2, 1) := by decide +kernel
theorem dX6_comeIn_3 : decode cX6_comeIn 3 = .ok (.iload_n 3, 1) := by decide +kernel
theorem dX6_comeIn_4 : decode cX6_comeIn 4 = .ok (.invokevirtual 96, 3) := by decide +kernel
theorem dX6_comeIn_7 : decode cX6_comeIn 7 = .ok (.istore 5, 2) := by decide +kernel
theorem dX6_comeIn_9 : decode cX6_comeIn 9 = .ok (.aload_n 0, 1) := by decide +kernel
theorem dX6_comeIn_10 : decode cX6_comeIn 10 = .ok (.iload 5, 2) := by decide +kernel
theorem dX6_comeIn_12 : decode cX6_comeIn 12 = .ok (.iload_n 1, 1) := by decide +kernel
theorem dX6_comeIn_13 : decode cX6_comeIn 13 = .ok (.iload_n 3, 1) := by decide +kernel
theorem dX6_comeIn_14 : decode cX6_comeIn 14 = .ok (.invokevirtual 100, 3) := by decide +kernel
theorem dX6_comeIn_17 : decode cX6_comeIn 17 = .ok (.istore 6, 2) := by decide +kernel
theorem dX6_comeIn_19 : decode cX6_comeIn 19 = .ok (.iconst 0, 1) := by decide +kernel
theorem dX6_comeIn_20 : decode cX6_comeIn 20 = .ok (.istore 7, 2) := by decide +kernel
theorem dX6_comeIn_22 : decode cX6_comeIn 22 = .ok (.iload 7, 2) := by decide +kernel
theorem dX6_comeIn_24 : decode cX6_comeIn 24 = .ok (.bipush 8, 2) := by decide +kernel
theorem dX6_comeIn_26 : decode cX6_comeIn 26 = .ok (.if_icmp .ge 30, 3) := by decide +kernel
theorem dX6_comeIn_29 : decode cX6_comeIn 29 = .ok (.iload 6, 2) := by decide +kernel
theorem dX6_comeIn_31 : decode cX6_comeIn 31 = .ok (.iload 7, 2) := by decide +kernel
theorem dX6_comeIn_33 : decode cX6_comeIn 33 = .ok (.ishr, 1) := by decide +kernel
theorem dX6_comeIn_34 : decode cX6_comeIn 34 = .ok (.iconst 1, 1) := by decide +kernel
theorem dX6_comeIn_35 : decode cX6_comeIn 35 = .ok (.iand, 1) := by decide +kernel
theorem dX6_comeIn_36 : decode cX6_comeIn 36 = .ok (.iconst 1, 1) := by decide +kernel
theorem dX6_comeIn_37 : decode cX6_comeIn 37 = .ok (.if_icmp .ne 13, 3) := by decide +kernel
theorem dX6_comeIn_40 : decode cX6_comeIn 40 = .ok (.aload_n 0, 1) := by decide +kernel
theorem dX6_comeIn_41 : decode cX6_comeIn 41 = .ok (.iload 7, 2) := by decide +kernel
theorem dX6_comeIn_43 : decode cX6_comeIn 43 = .ok (.iload_n 2, 1) := by decide +kernel
theorem dX6_comeIn_44 : decode cX6_comeIn 44 = .ok (.iload_n 3, 1) := by decide +kernel
theorem dX6_comeIn_45 : decode cX6_comeIn 45 = .ok (.iload 4, 2) := by decide +kernel
theorem dX6_comeIn_47 : decode cX6_comeIn 47 = .ok (.invokevirtual 103, 3) := by decide +kernel
theorem dX6_comeIn_50 : decode cX6_comeIn 50 = .ok (.iinc 7 1, 3) := by decide +kernel
theorem dX6_comeIn_53 : decode cX6_comeIn 53 = .ok (.goto (-31), 3) := by decide +kernel
theorem dX6_comeIn_56 : decode cX6_comeIn 56 = .ok (.aload_n 0, 1) := by decide +kernel
theorem dX6_comeIn_57 : decode cX6_comeIn 57 = .ok (.getfield 27, 3) := by decide +kernel
theorem dX6_comeIn_60 : decode cX6_comeIn 60 = .ok (.iload_n 1, 1) := by decide +kernel
theorem dX6_comeIn_61 : decode cX6_comeIn 61 = .ok (.iconst 0, 1) := by decide +kernel
theorem dX6_comeIn_62 : decode cX6_comeIn 62 = .ok (.iconst 1, 1) := by decide +kernel
theorem dX6_comeIn_63 : decode cX6_comeIn 63 = .ok (.invokevirtual 92, 3) := by decide +kernel
theorem dX6_comeIn_66 : decode cX6_comeIn 66 = .ok (.aload_n 0, 1) := by decide +kernel
theorem dX6_comeIn_67 : decode cX6_comeIn 67 = .ok (.getfield 27, 3) := by decide +kernel
theorem dX6_comeIn_70 : decode cX6_comeIn 70 = .ok (.iload_n 1, 1) := by decide +kernel
theorem dX6_comeIn_71 : decode cX6_comeIn 71 = .ok (.iload 5, 2) := by decide +kernel
theorem dX6_comeIn_73 : decode cX6_comeIn 73 = .ok (.invokestatic 107, 3) := by decide +kernel
theorem dX6_comeIn_76 : decode cX6_comeIn 76 = .ok (.iconst 1, 1) := by decide +kernel
theorem dX6_comeIn_77 : decode cX6_comeIn 77 = .ok (.invokevirtual 92, 3) := by decide +kernel
theorem dX6_comeIn_80 : decode cX6_comeIn 80 = .ok (.iload 5, 2) := by decide +kernel
theorem dX6_comeIn_82 : decode cX6_comeIn 82 = .ok (.ireturn, 1) := by decide +kernel
theorem dX6_learnAndDecide_0 : decode cX6_learnAndDecide 0 = .ok (.aload_n 0, 1) := by decide +kernel
theorem dX6_learnAndDecide_1 : decode cX6_learnAndDecide 1 = .ok (.getfield 27, 3) := by decide +kernel
theorem dX6_learnAndDecide_4 : decode cX6_learnAndDecide 4 = .ok (.iload_n 1, 1) := by decide +kernel
theorem dX6_learnAndDecide_5 : decode cX6_learnAndDecide 5 = .ok (.invokevirtual 110, 3) := by decide +kernel
theorem dX6_learnAndDecide_8 : decode cX6_learnAndDecide 8 = .ok (.ifCond .ne 5, 3) := by decide +kernel
theorem dX6_learnAndDecide_11 : decode cX6_learnAndDecide 11 = .ok (.iconst 0, 1) := by decide +kernel
theorem dX6_learnAndDecide_12 : decode cX6_learnAndDecide 12 = .ok (.ireturn, 1) := by decide +kernel
theorem dX6_learnAndDecide_13 : decode cX6_learnAndDecide 13 = .ok (.aload_n 0, 1) := by decide +kernel
theorem dX6_learnAndDecide_14 : decode cX6_learnAndDecide 14 = .ok (.getfield 41, 3) := by decide +kernel
theorem dX6_learnAndDecide_17 : decode cX6_learnAndDecide 17 = .ok (.iload_n 2, 1) := by decide +kernel
theorem dX6_learnAndDecide_18 : decode cX6_learnAndDecide 18 = .ok (.invokevirtual 114, 3) := by decide +kernel
theorem dX6_learnAndDecide_21 : decode cX6_learnAndDecide 21 = .ok (.istore 4, 2) := by decide +kernel
theorem dX6_learnAndDecide_23 : decode cX6_learnAndDecide 23 = .ok (.aload_n 0, 1) := by decide +kernel
theorem dX6_learnAndDecide_24 : decode cX6_learnAndDecide 24 = .ok (.getfield 41, 3) := by decide +kernel
theorem dX6_learnAndDecide_27 : decode cX6_learnAndDecide 27 = .ok (.iload_n 2, 1) := by decide +kernel
theorem dX6_learnAndDecide_28 : decode cX6_learnAndDecide 28 = .ok (.iload_n 1, 1) := by decide +kernel
theorem dX6_learnAndDecide_29 : decode cX6_learnAndDecide 29 = .ok (.aload_n 0, 1) := by decide +kernel
theorem dX6_learnAndDecide_30 : decode cX6_learnAndDecide 30 = .ok (.getfield 72, 3) := by decide +kernel
theorem dX6_learnAndDecide_33 : decode cX6_learnAndDecide 33 = .ok (.invokevirtual 117, 3) := by decide +kernel
theorem dX6_learnAndDecide_36 : decode cX6_learnAndDecide 36 = .ok (.iload 4, 2) := by decide +kernel
theorem dX6_learnAndDecide_38 : decode cX6_learnAndDecide 38 = .ok (.bipush (-4), 2) := by decide +kernel
theorem dX6_learnAndDecide_40 : decode cX6_learnAndDecide 40 = .ok (.if_icmp .eq 41, 3) := by decide +kernel
theorem dX6_learnAndDecide_43 : decode cX6_learnAndDecide 43 = .ok (.iload 4, 2) := by decide +kernel
theorem dX6_learnAndDecide_45 : decode cX6_learnAndDecide 45 = .ok (.iload_n 1, 1) := by decide +kernel
theorem dX6_learnAndDecide_46 : decode cX6_learnAndDecide 46 = .ok (.if_icmp .eq 35, 3) := by decide +kernel
theorem dX6_learnAndDecide_49 : decode cX6_learnAndDecide 49 = .ok (.aload_n 0, 1) := by decide +kernel
theorem dX6_learnAndDecide_50 : decode cX6_learnAndDecide 50 = .ok (.getfield 48, 3) := by decide +kernel
theorem dX6_learnAndDecide_53 : decode cX6_learnAndDecide 53 = .ok (.iload_n 2, 1) := by decide +kernel
theorem dX6_learnAndDecide_54 : decode cX6_learnAndDecide 54 = .ok (.aload_n 0, 1) := by decide +kernel
theorem dX6_learnAndDecide_55 : decode cX6_learnAndDecide 55 = .ok (.getfield 72, 3) := by decide +kernel
theorem dX6_learnAndDecide_58 : decode cX6_learnAndDecide 58 = .ok (.invokevirtual 120, 3) := by decide +kernel
theorem dX6_learnAndDecide_61 : decode cX6_learnAndDecide 61 = .ok (.aload_n 0, 1) := by decide +kernel
theorem dX6_learnAndDecide_62 : decode cX6_learnAndDecide 62 = .ok (.getfield 48, 3) := by decide +kernel
theorem dX6_learnAndDecide_65 : decode cX6_learnAndDecide 65 = .ok (.iload_n 2, 1) := by decide +kernel
theorem dX6_learnAndDecide_66 : decode cX6_learnAndDecide 66 = .ok (.invokevirtual 123, 3) := by decide +kernel
theorem dX6_learnAndDecide_69 : decode cX6_learnAndDecide 69 = .ok (.iconst 3, 1) := by decide +kernel
theorem dX6_learnAndDecide_70 : decode cX6_learnAndDecide 70 = .ok (.if_icmp .lt 11, 3) := by decide +kernel
theorem dX6_learnAndDecide_73 : decode cX6_learnAndDecide 73 = .ok (.aload_n 0, 1) := by decide +kernel
theorem dX6_learnAndDecide_74 : decode cX6_learnAndDecide 74 = .ok (.iload_n 1, 1) := by decide +kernel
theorem dX6_learnAndDecide_75 : decode cX6_learnAndDecide 75 = .ok (.iconst 1, 1) := by decide +kernel
theorem dX6_learnAndDecide_76 : decode cX6_learnAndDecide 76 = .ok (.invokevirtual 126, 3) := by decide +kernel
theorem dX6_learnAndDecide_79 : decode cX6_learnAndDecide 79 = .ok (.iconst 4, 1) := by decide +kernel
theorem dX6_learnAndDecide_80 : decode cX6_learnAndDecide 80 = .ok (.ireturn, 1) := by decide +kernel
theorem dX6_learnAndDecide_81 : decode cX6_learnAndDecide 81 = .ok (.aload_n 0, 1) := by decide +kernel
theorem dX6_learnAndDecide_82 : decode cX6_learnAndDecide 82 = .ok (.getfield 41, 3) := by decide +kernel
theorem dX6_learnAndDecide_85 : decode cX6_learnAndDecide 85 = .ok (.iload_n 3, 1) := by decide +kernel
theorem dX6_learnAndDecide_86 : decode cX6_learnAndDecide 86 = .ok (.invokevirtual 114, 3) := by decide +kernel
theorem dX6_learnAndDecide_89 : decode cX6_learnAndDecide 89 = .ok (.istore 5, 2) := by decide +kernel
theorem dX6_learnAndDecide_91 : decode cX6_learnAndDecide 91 = .ok (.iload 5, 2) := by decide +kernel
theorem dX6_learnAndDecide_93 : decode cX6_learnAndDecide 93 = .ok (.iload_n 1, 1) := by decide +kernel
theorem dX6_learnAndDecide_94 : decode cX6_learnAndDecide 94 = .ok (.if_icmp .ne 5, 3) := by decide +kernel
theorem dX6_learnAndDecide_97 : decode cX6_learnAndDecide 97 = .ok (.iconst 1, 1) := by decide +kernel
theorem dX6_learnAndDecide_98 : decode cX6_learnAndDecide 98 = .ok (.ireturn, 1) := by decide +kernel
theorem dX6_learnAndDecide_99 : decode cX6_learnAndDecide 99 = .ok (.iload 5, 2) := by decide +kernel
theorem dX6_learnAndDecide_101 : decode cX6_learnAndDecide 101 = .ok (.bipush (-4), 2) := by decide +kernel
theorem dX6_learnAndDecide_103 : decode cX6_learnAndDecide 103 = .ok (.if_icmp .eq 22, 3) := by decide +kernel
theorem dX6_learnAndDecide_106 : decode cX6_learnAndDecide 106 = .ok (.aload_n 0, 1) := by decide +kernel
theorem dX6_learnAndDecide_107 : decode cX6_learnAndDecide 107 = .ok (.getfield 27, 3) := by decide +kernel
theorem dX6_learnAndDecide_110 : decode cX6_learnAndDecide 110 = .ok (.iload 5, 2) := by decide +kernel
theorem dX6_learnAndDecide_112 : decode cX6_learnAndDecide 112 = .ok (.invokevirtual 110, 3) := by decide +kernel
theorem dX6_learnAndDecide_115 : decode cX6_learnAndDecide 115 = .ok (.ifCond .eq 7, 3) := by decide +kernel
theorem dX6_learnAndDecide_118 : decode cX6_learnAndDecide 118 = .ok (.iconst 2, 1) := by decide +kernel
theorem dX6_learnAndDecide_119 : decode cX6_learnAndDecide 119 = .ok (.goto 5, 3) := by decide +kernel
theorem dX6_learnAndDecide_122 : decode cX6_learnAndDecide 122 = .ok (.bipush 6, 2) := by decide +kernel
theorem dX6_learnAndDecide_124 : decode cX6_learnAndDecide 124 = .ok (.ireturn, 1) := by decide +kernel
theorem dX6_learnAndDecide_125 : decode cX6_learnAndDecide 125 = .ok (.aload_n 0, 1) := by decide +kernel
theorem dX6_learnAndDecide_126 : decode cX6_learnAndDecide 126 = .ok (.getfield 27, 3) := by decide +kernel
theorem dX6_learnAndDecide_129 : decode cX6_learnAndDecide 129 = .ok (.getfield 129, 3) := by decide +kernel
theorem dX6_learnAndDecide_132 : decode cX6_learnAndDecide 132 = .ok (.iload_n 1, 1) := by decide +kernel
theorem dX6_learnAndDecide_133 : decode cX6_learnAndDecide 133 = .ok (.invokevirtual 85, 3) := by decide +kernel
theorem dX6_learnAndDecide_136 : decode cX6_learnAndDecide 136 = .ok (.aload_n 0, 1) := by decide +kernel
theorem dX6_learnAndDecide_137 : decode cX6_learnAndDecide 137 = .ok (.getfield 18, 3) := by decide +kernel
theorem dX6_learnAndDecide_140 : decode cX6_learnAndDecide 140 = .ok (.iconst 2, 1) := by decide +kernel
theorem dX6_learnAndDecide_141 : decode cX6_learnAndDecide 141 = .ok (.invokevirtual 85, 3) := by decide +kernel
theorem dX6_learnAndDecide_144 : decode cX6_learnAndDecide 144 = .ok (.if_icmp .lt 11, 3) := by decide +kernel
theorem dX6_learnAndDecide_147 : decode cX6_learnAndDecide 147 = .ok (.aload_n 0, 1) := by decide +kernel
theorem dX6_learnAndDecide_148 : decode cX6_learnAndDecide 148 = .ok (.iload_n 1, 1) := by decide +kernel
theorem dX6_learnAndDecide_149 : decode cX6_learnAndDecide 149 = .ok (.iconst 2, 1) := by decide +kernel
theorem dX6_learnAndDecide_150 : decode cX6_learnAndDecide 150 = .ok (.invokevirtual 126, 3) := by decide +kernel
theorem dX6_learnAndDecide_153 : decode cX6_learnAndDecide 153 = .ok (.iconst 5, 1) := by decide +kernel
theorem dX6_learnAndDecide_154 : decode cX6_learnAndDecide 154 = .ok (.ireturn, 1) := by decide +kernel
theorem dX6_learnAndDecide_155 : decode cX6_learnAndDecide 155 = .ok (.aload_n 0, 1) := by decide +kernel
theorem dX6_learnAndDecide_156 : decode cX6_learnAndDecide 156 = .ok (.getfield 27, 3) := by decide +kernel
theorem dX6_learnAndDecide_159 : decode cX6_learnAndDecide 159 = .ok (.getfield 129, 3) := by decide +kernel
theorem dX6_learnAndDecide_162 : decode cX6_learnAndDecide 162 = .ok (.iload_n 1, 1) := by decide +kernel
theorem dX6_learnAndDecide_163 : decode cX6_learnAndDecide 163 = .ok (.iconst 1, 1) := by decide +kernel
theorem dX6_learnAndDecide_164 : decode cX6_learnAndDecide 164 = .ok (.invokevirtual 132, 3) := by decide +kernel
theorem dX6_learnAndDecide_167 : decode cX6_learnAndDecide 167 = .ok (.iconst 3, 1) := by decide +kernel
theorem dX6_learnAndDecide_168 : decode cX6_learnAndDecide 168 = .ok (.ireturn, 1) := by decide +kernel
theorem dX6_quarantine_0 : decode cX6_quarantine 0 = .ok (.aload_n 0, 1) := by decide +kernel
theorem dX6_quarantine_1 : decode cX6_quarantine 1 = .ok (.getfield 27, 3) := by decide +kernel
theorem dX6_quarantine_4 : decode cX6_quarantine 4 = .ok (.iload_n 1, 1) := by decide +kernel
theorem dX6_quarantine_5 : decode cX6_quarantine 5 = .ok (.aload_n 0, 1) := by decide +kernel
theorem dX6_quarantine_6 : decode cX6_quarantine 6 = .ok (.getfield 18, 3) := by decide +kernel
theorem dX6_quarantine_9 : decode cX6_quarantine 9 = .ok (.iconst 1, 1) := by decide +kernel
theorem dX6_quarantine_10 : decode cX6_quarantine 10 = .ok (.invokevirtual 85, 3) := by decide +kernel
theorem dX6_quarantine_13 : decode cX6_quarantine 13 = .ok (.iload_n 2, 1) := by decide +kernel
theorem dX6_quarantine_14 : decode cX6_quarantine 14 = .ok (.invokevirtual 133, 3) := by decide +kernel
theorem dX6_quarantine_17 : decode cX6_quarantine 17 = .ok (.aload_n 0, 1) := by decide +kernel
theorem dX6_quarantine_18 : decode cX6_quarantine 18 = .ok (.getfield 41, 3) := by decide +kernel
theorem dX6_quarantine_21 : decode cX6_quarantine 21 = .ok (.iload_n 1, 1) := by decide +kernel
theorem dX6_quarantine_22 : decode cX6_quarantine 22 = .ok (.invokevirtual 136, 3) := by decide +kernel
theorem dX6_quarantine_25 : decode cX6_quarantine 25 = .ok (.aload_n 0, 1) := by decide +kernel
theorem dX6_quarantine_26 : decode cX6_quarantine 26 = .ok (.dup, 1) := by decide +kernel
theorem dX6_quarantine_27 : decode cX6_quarantine 27 = .ok (.getfield 79, 3) := by decide +kernel
theorem dX6_quarantine_30 : decode cX6_quarantine 30 = .ok (.iconst 1, 1) := by decide +kernel
theorem dX6_quarantine_31 : decode cX6_quarantine 31 = .ok (.iadd, 1) := by decide +kernel
theorem dX6_quarantine_32 : decode cX6_quarantine 32 = .ok (.putfield 79, 3) := by decide +kernel
theorem dX6_quarantine_35 : decode cX6_quarantine 35 = .ok (.return_, 1) := by decide +kernel
theorem dX6_waysOut_0 : decode cX6_waysOut 0 = .ok (.iload_n 1, 1) := by decide +kernel
theorem dX6_waysOut_1 : decode cX6_waysOut 1 = .ok (.iconst 2, 1) := by decide +kernel
theorem dX6_waysOut_2 : decode cX6_waysOut 2 = .ok (.if_icmp .ne 14, 3) := by decide +kernel
theorem dX6_waysOut_5 : decode cX6_waysOut 5 = .ok (.iconst 1, 1) := by decide +kernel
theorem dX6_waysOut_6 : decode cX6_waysOut 6 = .ok (.aload_n 0, 1) := by decide +kernel
theorem dX6_waysOut_7 : decode cX6_waysOut 7 = .ok (.getfield 41, 3) := by decide +kernel
theorem dX6_waysOut_10 : decode cX6_waysOut 10 = .ok (.iload_n 3, 1) := by decide +kernel
theorem dX6_waysOut_11 : decode cX6_waysOut 11 = .ok (.invokevirtual 114, 3) := by decide +kernel
theorem dX6_waysOut_14 : decode cX6_waysOut 14 = .ok (.ishl, 1) := by decide +kernel
theorem dX6_waysOut_15 : decode cX6_waysOut 15 = .ok (.ireturn, 1) := by decide +kernel
theorem dX6_waysOut_16 : decode cX6_waysOut 16 = .ok (.iload_n 1, 1) := by decide +kernel
theorem dX6_waysOut_17 : decode cX6_waysOut 17 = .ok (.iconst 3, 1) := by decide +kernel
theorem dX6_waysOut_18 : decode cX6_waysOut 18 = .ok (.if_icmp .ne 19, 3) := by decide +kernel
theorem dX6_waysOut_21 : decode cX6_waysOut 21 = .ok (.aload_n 0, 1) := by decide +kernel
theorem dX6_waysOut_22 : decode cX6_waysOut 22 = .ok (.getfield 27, 3) := by decide +kernel
theorem dX6_waysOut_25 : decode cX6_waysOut 25 = .ok (.invokevirtual 139, 3) := by decide +kernel
theorem dX6_waysOut_28 : decode cX6_waysOut 28 = .ok (.iconst 1, 1) := by decide +kernel
theorem dX6_waysOut_29 : decode cX6_waysOut 29 = .ok (.iload_n 2, 1) := by decide +kernel
theorem dX6_waysOut_30 : decode cX6_waysOut 30 = .ok (.ishl, 1) := by decide +kernel
theorem dX6_waysOut_31 : decode cX6_waysOut 31 = .ok (.iconst (-1), 1) := by decide +kernel
theorem dX6_waysOut_32 : decode cX6_waysOut 32 = .ok (.ixor, 1) := by decide +kernel
theorem dX6_waysOut_33 : decode cX6_waysOut 33 = .ok (.iand, 1) := by decide +kernel
theorem dX6_waysOut_34 : decode cX6_waysOut 34 = .ok (.goto 4, 3) := by decide +kernel
theorem dX6_waysOut_37 : decode cX6_waysOut 37 = .ok (.iconst 0, 1) := by decide +kernel
theorem dX6_waysOut_38 : decode cX6_waysOut 38 = .ok (.ireturn, 1) := by decide +kernel
theorem dX6_goOut_0 : decode cX6_goOut 0 = .ok (.aload_n 0, 1) := by decide +kernel
theorem dX6_goOut_1 : decode cX6_goOut 1 = .ok (.getfield 34, 3) := by decide +kernel
theorem dX6_goOut_4 : decode cX6_goOut 4 = .ok (.iload_n 1, 1) := by decide +kernel
theorem dX6_goOut_5 : decode cX6_goOut 5 = .ok (.invokevirtual 143, 3) := by decide +kernel
theorem dX6_goOut_8 : decode cX6_goOut 8 = .ok (.ifCond .eq 15, 3) := by decide +kernel
theorem dX6_goOut_11 : decode cX6_goOut 11 = .ok (.aload_n 0, 1) := by decide +kernel
theorem dX6_goOut_12 : decode cX6_goOut 12 = .ok (.getfield 27, 3) := by decide +kernel
theorem dX6_goOut_15 : decode cX6_goOut 15 = .ok (.iload_n 1, 1) := by decide +kernel
theorem dX6_goOut_16 : decode cX6_goOut 16 = .ok (.bipush 8, 2) := by decide +kernel
theorem dX6_goOut_18 : decode cX6_goOut 18 = .ok (.iconst 1, 1) := by decide +kernel
theorem dX6_goOut_19 : decode cX6_goOut 19 = .ok (.invokevirtual 92, 3) := by decide +kernel
theorem dX6_goOut_22 : decode cX6_goOut 22 = .ok (.return_, 1) := by decide +kernel
theorem dX6_goOut_23 : decode cX6_goOut 23 = .ok (.aload_n 0, 1) := by decide +kernel
theorem dX6_goOut_24 : decode cX6_goOut 24 = .ok (.getfield 34, 3) := by decide +kernel
theorem dX6_goOut_27 : decode cX6_goOut 27 = .ok (.iload_n 1, 1) := by decide +kernel
theorem dX6_goOut_28 : decode cX6_goOut 28 = .ok (.iload_n 2, 1) := by decide +kernel
theorem dX6_goOut_29 : decode cX6_goOut 29 = .ok (.iload_n 3, 1) := by decide +kernel
theorem dX6_goOut_30 : decode cX6_goOut 30 = .ok (.iload 4, 2) := by decide +kernel
theorem dX6_goOut_32 : decode cX6_goOut 32 = .ok (.aload_n 0, 1) := by decide +kernel
theorem dX6_goOut_33 : decode cX6_goOut 33 = .ok (.getfield 76, 3) := by decide +kernel
theorem dX6_goOut_36 : decode cX6_goOut 36 = .ok (.invokevirtual 146, 3) := by decide +kernel
theorem dX6_goOut_39 : decode cX6_goOut 39 = .ok (.aload_n 0, 1) := by decide +kernel
theorem dX6_goOut_40 : decode cX6_goOut 40 = .ok (.getfield 27, 3) := by decide +kernel
theorem dX6_goOut_43 : decode cX6_goOut 43 = .ok (.iload_n 1, 1) := by decide +kernel
theorem dX6_goOut_44 : decode cX6_goOut 44 = .ok (.bipush 7, 2) := by decide +kernel
theorem dX6_goOut_46 : decode cX6_goOut 46 = .ok (.iconst 1, 1) := by decide +kernel
theorem dX6_goOut_47 : decode cX6_goOut 47 = .ok (.invokevirtual 92, 3) := by decide +kernel
theorem dX6_goOut_50 : decode cX6_goOut 50 = .ok (.aload_n 0, 1) := by decide +kernel
theorem dX6_goOut_51 : decode cX6_goOut 51 = .ok (.dup, 1) := by decide +kernel
theorem dX6_goOut_52 : decode cX6_goOut 52 = .ok (.getfield 76, 3) := by decide +kernel
theorem dX6_goOut_55 : decode cX6_goOut 55 = .ok (.iconst 1, 1) := by decide +kernel
theorem dX6_goOut_56 : decode cX6_goOut 56 = .ok (.iadd, 1) := by decide +kernel
theorem dX6_goOut_57 : decode cX6_goOut 57 = .ok (.putfield 76, 3) := by decide +kernel
theorem dX6_goOut_60 : decode cX6_goOut 60 = .ok (.return_, 1) := by decide +kernel
theorem dX6_accountOf_0 : decode cX6_accountOf 0 = .ok (.iload_n 0, 1) := by decide +kernel
theorem dX6_accountOf_1 : decode cX6_accountOf 1 = .ok (.bipush 6, 2) := by decide +kernel
theorem dX6_accountOf_3 : decode cX6_accountOf 3 = .ok (.if_icmp .ne 6, 3) := by decide +kernel
theorem dX6_accountOf_6 : decode cX6_accountOf 6 = .ok (.bipush 6, 2) := by decide +kernel
theorem dX6_accountOf_8 : decode cX6_accountOf 8 = .ok (.ireturn, 1) := by decide +kernel
theorem dX6_accountOf_9 : decode cX6_accountOf 9 = .ok (.iload_n 0, 1) := by decide +kernel
theorem dX6_accountOf_10 : decode cX6_accountOf 10 = .ok (.iconst 4, 1) := by decide +kernel
theorem dX6_accountOf_11 : decode cX6_accountOf 11 = .ok (.if_icmp .eq 8, 3) := by decide +kernel
theorem dX6_accountOf_14 : decode cX6_accountOf 14 = .ok (.iload_n 0, 1) := by decide +kernel
theorem dX6_accountOf_15 : decode cX6_accountOf 15 = .ok (.iconst 5, 1) := by decide +kernel
theorem dX6_accountOf_16 : decode cX6_accountOf 16 = .ok (.if_icmp .ne 7, 3) := by decide +kernel
theorem dX6_accountOf_19 : decode cX6_accountOf 19 = .ok (.iconst 5, 1) := by decide +kernel
theorem dX6_accountOf_20 : decode cX6_accountOf 20 = .ok (.goto 6, 3) := by decide +kernel
theorem dX6_accountOf_23 : decode cX6_accountOf 23 = .ok (.iload_n 0, 1) := by decide +kernel
theorem dX6_accountOf_24 : decode cX6_accountOf 24 = .ok (.iconst 1, 1) := by decide +kernel
theorem dX6_accountOf_25 : decode cX6_accountOf 25 = .ok (.iadd, 1) := by decide +kernel
theorem dX6_accountOf_26 : decode cX6_accountOf 26 = .ok (.ireturn, 1) := by decide +kernel
theorem dX6_letIn_0 : decode cX6_letIn 0 = .ok (.iconst 0, 1) := by decide +kernel
theorem dX6_letIn_1 : decode cX6_letIn 1 = .ok (.istore_n 2, 1) := by decide +kernel
theorem dX6_letIn_2 : decode cX6_letIn 2 = .ok (.iconst 0, 1) := by decide +kernel
theorem dX6_letIn_3 : decode cX6_letIn 3 = .ok (.istore_n 3, 1) := by decide +kernel
theorem dX6_letIn_4 : decode cX6_letIn 4 = .ok (.iload_n 3, 1) := by decide +kernel
theorem dX6_letIn_5 : decode cX6_letIn 5 = .ok (.aload_n 1, 1) := by decide +kernel
theorem dX6_letIn_6 : decode cX6_letIn 6 = .ok (.getfield 150, 3) := by decide +kernel
theorem dX6_letIn_9 : decode cX6_letIn 9 = .ok (.if_icmp .ge 47, 3) := by decide +kernel
theorem dX6_letIn_12 : decode cX6_letIn 12 = .ok (.aload_n 0, 1) := by decide +kernel
theorem dX6_letIn_13 : decode cX6_letIn 13 = .ok (.aload_n 1, 1) := by decide +kernel
theorem dX6_letIn_14 : decode cX6_letIn 14 = .ok (.iload_n 3, 1) := by decide +kernel
theorem dX6_letIn_15 : decode cX6_letIn 15 = .ok (.iconst 3, 1) := by decide +kernel
theorem dX6_letIn_16 : decode cX6_letIn 16 = .ok (.invokevirtual 155, 3) := by decide +kernel
theorem dX6_letIn_19 : decode cX6_letIn 19 = .ok (.aload_n 1, 1) := by decide +kernel
theorem dX6_letIn_20 : decode cX6_letIn 20 = .ok (.iload_n 3, 1) := by decide +kernel
theorem dX6_letIn_21 : decode cX6_letIn 21 = .ok (.iconst 0, 1) := by decide +kernel
theorem dX6_letIn_22 : decode cX6_letIn 22 = .ok (.invokevirtual 155, 3) := by decide +kernel
theorem dX6_letIn_25 : decode cX6_letIn 25 = .ok (.aload_n 1, 1) := by decide +kernel
theorem dX6_letIn_26 : decode cX6_letIn 26 = .ok (.iload_n 3, 1) := by decide +kernel
theorem dX6_letIn_27 : decode cX6_letIn 27 = .ok (.iconst 1, 1) := by decide +kernel
theorem dX6_letIn_28 : decode cX6_letIn 28 = .ok (.invokevirtual 155, 3) := by decide +kernel
theorem dX6_letIn_31 : decode cX6_letIn 31 = .ok (.aload_n 1, 1) := by decide +kernel
theorem dX6_letIn_32 : decode cX6_letIn 32 = .ok (.iload_n 3, 1) := by decide +kernel
theorem dX6_letIn_33 : decode cX6_letIn 33 = .ok (.iconst 2, 1) := by decide +kernel
theorem dX6_letIn_34 : decode cX6_letIn 34 = .ok (.invokevirtual 155, 3) := by decide +kernel
theorem dX6_letIn_37 : decode cX6_letIn 37 = .ok (.invokevirtual 159, 3) := by decide +kernel
theorem dX6_letIn_40 : decode cX6_letIn 40 = .ok (.istore 4, 2) := by decide +kernel
theorem dX6_letIn_42 : decode cX6_letIn 42 = .ok (.iload 4, 2) := by decide +kernel
theorem dX6_letIn_44 : decode cX6_letIn 44 = .ok (.ifCond .eq 6, 3) := by decide +kernel
theorem dX6_letIn_47 : decode cX6_letIn 47 = .ok (.iinc 2 1, 3) := by decide +kernel
theorem dX6_letIn_50 : decode cX6_letIn 50 = .ok (.iinc 3 1, 3) := by decide +kernel
theorem dX6_letIn_53 : decode cX6_letIn 53 = .ok (.goto (-49), 3) := by decide +kernel
theorem dX6_letIn_56 : decode cX6_letIn 56 = .ok (.iload_n 2, 1) := by decide +kernel
theorem dX6_letIn_57 : decode cX6_letIn 57 = .ok (.ireturn, 1) := by decide +kernel
theorem dX6_sendInto_0 : decode cX6_sendInto 0 = .ok (.aload_n 1, 1) := by decide +kernel
theorem dX6_sendInto_1 : decode cX6_sendInto 1 = .ok (.iconst 0, 1) := by decide +kernel
theorem dX6_sendInto_2 : decode cX6_sendInto 2 = .ok (.putfield 150, 3) := by decide +kernel
theorem dX6_sendInto_5 : decode cX6_sendInto 5 = .ok (.iconst 0, 1) := by decide +kernel
theorem dX6_sendInto_6 : decode cX6_sendInto 6 = .ok (.istore_n 2, 1) := by decide +kernel
theorem dX6_sendInto_7 : decode cX6_sendInto 7 = .ok (.iconst 0, 1) := by decide +kernel
theorem dX6_sendInto_8 : decode cX6_sendInto 8 = .ok (.istore_n 3, 1) := by decide +kernel
theorem dX6_sendInto_9 : decode cX6_sendInto 9 = .ok (.iload_n 3, 1) := by decide +kernel
theorem dX6_sendInto_10 : decode cX6_sendInto 10 = .ok (.bipush 8, 2) := by decide +kernel
theorem dX6_sendInto_12 : decode cX6_sendInto 12 = .ok (.if_icmp .ge 29, 3) := by decide +kernel
theorem dX6_sendInto_15 : decode cX6_sendInto 15 = .ok (.aload_n 0, 1) := by decide +kernel
theorem dX6_sendInto_16 : decode cX6_sendInto 16 = .ok (.getfield 27, 3) := by decide +kernel
theorem dX6_sendInto_19 : decode cX6_sendInto 19 = .ok (.iload_n 3, 1) := by decide +kernel
theorem dX6_sendInto_20 : decode cX6_sendInto 20 = .ok (.invokevirtual 110, 3) := by decide +kernel
theorem dX6_sendInto_23 : decode cX6_sendInto 23 = .ok (.ifCond .eq 12, 3) := by decide +kernel
theorem dX6_sendInto_26 : decode cX6_sendInto 26 = .ok (.iload_n 2, 1) := by decide +kernel
theorem dX6_sendInto_27 : decode cX6_sendInto 27 = .ok (.aload_n 0, 1) := by decide +kernel
theorem dX6_sendInto_28 : decode cX6_sendInto 28 = .ok (.iload_n 3, 1) := by decide +kernel
theorem dX6_sendInto_29 : decode cX6_sendInto 29 = .ok (.aload_n 1, 1) := by decide +kernel
theorem dX6_sendInto_30 : decode cX6_sendInto 30 = .ok (.invokevirtual 163, 3) := by decide +kernel
theorem dX6_sendInto_33 : decode cX6_sendInto 33 = .ok (.iadd, 1) := by decide +kernel
theorem dX6_sendInto_34 : decode cX6_sendInto 34 = .ok (.istore_n 2, 1) := by decide +kernel
theorem dX6_sendInto_35 : decode cX6_sendInto 35 = .ok (.iinc 3 1, 3) := by decide +kernel
theorem dX6_sendInto_38 : decode cX6_sendInto 38 = .ok (.goto (-29), 3) := by decide +kernel
theorem dX6_sendInto_41 : decode cX6_sendInto 41 = .ok (.iload_n 2, 1) := by decide +kernel
theorem dX6_sendInto_42 : decode cX6_sendInto 42 = .ok (.ireturn, 1) := by decide +kernel
theorem dX6_sendFrom_0 : decode cX6_sendFrom 0 = .ok (.aload_n 0, 1) := by decide +kernel
theorem dX6_sendFrom_1 : decode cX6_sendFrom 1 = .ok (.getfield 18, 3) := by decide +kernel
theorem dX6_sendFrom_4 : decode cX6_sendFrom 4 = .ok (.iconst 3, 1) := by decide +kernel
theorem dX6_sendFrom_5 : decode cX6_sendFrom 5 = .ok (.invokevirtual 85, 3) := by decide +kernel
theorem dX6_sendFrom_8 : decode cX6_sendFrom 8 = .ok (.aload_n 0, 1) := by decide +kernel
theorem dX6_sendFrom_9 : decode cX6_sendFrom 9 = .ok (.getfield 34, 3) := by decide +kernel
theorem dX6_sendFrom_12 : decode cX6_sendFrom 12 = .ok (.getfield 82, 3) := by decide +kernel
theorem dX6_sendFrom_15 : decode cX6_sendFrom 15 = .ok (.iload_n 1, 1) := by decide +kernel
theorem dX6_sendFrom_16 : decode cX6_sendFrom 16 = .ok (.invokevirtual 85, 3) := by decide +kernel
theorem dX6_sendFrom_19 : decode cX6_sendFrom 19 = .ok (.invokestatic 167, 3) := by decide +kernel
theorem dX6_sendFrom_22 : decode cX6_sendFrom 22 = .ok (.istore_n 3, 1) := by decide +kernel
theorem dX6_sendFrom_23 : decode cX6_sendFrom 23 = .ok (.aload_n 0, 1) := by decide +kernel
theorem dX6_sendFrom_24 : decode cX6_sendFrom 24 = .ok (.getfield 27, 3) := by decide +kernel
theorem dX6_sendFrom_27 : decode cX6_sendFrom 27 = .ok (.iload_n 1, 1) := by decide +kernel
theorem dX6_sendFrom_28 : decode cX6_sendFrom 28 = .ok (.invokevirtual 172, 3) := by decide +kernel
theorem dX6_sendFrom_31 : decode cX6_sendFrom 31 = .ok (.istore 4, 2) := by decide +kernel
theorem dX6_sendFrom_33 : decode cX6_sendFrom 33 = .ok (.iconst 0, 1) := by decide +kernel
theorem dX6_sendFrom_34 : decode cX6_sendFrom 34 = .ok (.istore 5, 2) := by decide +kernel
theorem dX6_sendFrom_36 : decode cX6_sendFrom 36 = .ok (.iload 5, 2) := by decide +kernel
theorem dX6_sendFrom_38 : decode cX6_sendFrom 38 = .ok (.iload_n 3, 1) := by decide +kernel
theorem dX6_sendFrom_39 : decode cX6_sendFrom 39 = .ok (.if_icmp .ge 55, 3) := by decide +kernel
theorem dX6_sendFrom_42 : decode cX6_sendFrom 42 = .ok (.iload 4, 2) := by decide +kernel
theorem dX6_sendFrom_44 : decode cX6_sendFrom 44 = .ok (.bipush (-4), 2) := by decide +kernel
theorem dX6_sendFrom_46 : decode cX6_sendFrom 46 = .ok (.if_icmp .eq 48, 3) := by decide +kernel
theorem dX6_sendFrom_49 : decode cX6_sendFrom 49 = .ok (.aload_n 2, 1) := by decide +kernel
theorem dX6_sendFrom_50 : decode cX6_sendFrom 50 = .ok (.iload 4, 2) := by decide +kernel
theorem dX6_sendFrom_52 : decode cX6_sendFrom 52 = .ok (.aload_n 0, 1) := by decide +kernel
theorem dX6_sendFrom_53 : decode cX6_sendFrom 53 = .ok (.getfield 34, 3) := by decide +kernel
theorem dX6_sendFrom_56 : decode cX6_sendFrom 56 = .ok (.iload_n 1, 1) := by decide +kernel
theorem dX6_sendFrom_57 : decode cX6_sendFrom 57 = .ok (.iload 5, 2) := by decide +kernel
theorem dX6_sendFrom_59 : decode cX6_sendFrom 59 = .ok (.iconst 0, 1) := by decide +kernel
theorem dX6_sendFrom_60 : decode cX6_sendFrom 60 = .ok (.invokevirtual 175, 3) := by decide +kernel
theorem dX6_sendFrom_63 : decode cX6_sendFrom 63 = .ok (.aload_n 0, 1) := by decide +kernel
theorem dX6_sendFrom_64 : decode cX6_sendFrom 64 = .ok (.getfield 34, 3) := by decide +kernel
theorem dX6_sendFrom_67 : decode cX6_sendFrom 67 = .ok (.iload_n 1, 1) := by decide +kernel
theorem dX6_sendFrom_68 : decode cX6_sendFrom 68 = .ok (.iload 5, 2) := by decide +kernel
theorem dX6_sendFrom_70 : decode cX6_sendFrom 70 = .ok (.iconst 1, 1) := by decide +kernel
theorem dX6_sendFrom_71 : decode cX6_sendFrom 71 = .ok (.invokevirtual 175, 3) := by decide +kernel
theorem dX6_sendFrom_74 : decode cX6_sendFrom 74 = .ok (.aload_n 0, 1) := by decide +kernel
theorem dX6_sendFrom_75 : decode cX6_sendFrom 75 = .ok (.getfield 34, 3) := by decide +kernel
theorem dX6_sendFrom_78 : decode cX6_sendFrom 78 = .ok (.iload_n 1, 1) := by decide +kernel
theorem dX6_sendFrom_79 : decode cX6_sendFrom 79 = .ok (.iload 5, 2) := by decide +kernel
theorem dX6_sendFrom_81 : decode cX6_sendFrom 81 = .ok (.iconst 2, 1) := by decide +kernel
theorem dX6_sendFrom_82 : decode cX6_sendFrom 82 = .ok (.invokevirtual 175, 3) := by decide +kernel
theorem dX6_sendFrom_85 : decode cX6_sendFrom 85 = .ok (.invokevirtual 177, 3) := by decide +kernel
theorem dX6_sendFrom_88 : decode cX6_sendFrom 88 = .ok (.iinc 5 1, 3) := by decide +kernel
theorem dX6_sendFrom_91 : decode cX6_sendFrom 91 = .ok (.goto (-55), 3) := by decide +kernel
theorem dX6_sendFrom_94 : decode cX6_sendFrom 94 = .ok (.aload_n 0, 1) := by decide +kernel
theorem dX6_sendFrom_95 : decode cX6_sendFrom 95 = .ok (.getfield 34, 3) := by decide +kernel
theorem dX6_sendFrom_98 : decode cX6_sendFrom 98 = .ok (.iload_n 1, 1) := by decide +kernel
theorem dX6_sendFrom_99 : decode cX6_sendFrom 99 = .ok (.iload_n 3, 1) := by decide +kernel
theorem dX6_sendFrom_100 : decode cX6_sendFrom 100 = .ok (.invokevirtual 89, 3) := by decide +kernel
theorem dX6_sendFrom_103 : decode cX6_sendFrom 103 = .ok (.aload_n 0, 1) := by decide +kernel
theorem dX6_sendFrom_104 : decode cX6_sendFrom 104 = .ok (.getfield 27, 3) := by decide +kernel
theorem dX6_sendFrom_107 : decode cX6_sendFrom 107 = .ok (.iload_n 1, 1) := by decide +kernel
theorem dX6_sendFrom_108 : decode cX6_sendFrom 108 = .ok (.bipush 9, 2) := by decide +kernel
theorem dX6_sendFrom_110 : decode cX6_sendFrom 110 = .ok (.iload_n 3, 1) := by decide +kernel
theorem dX6_sendFrom_111 : decode cX6_sendFrom 111 = .ok (.invokevirtual 92, 3) := by decide +kernel
theorem dX6_sendFrom_114 : decode cX6_sendFrom 114 = .ok (.iload 4, 2) := by decide +kernel
theorem dX6_sendFrom_116 : decode cX6_sendFrom 116 = .ok (.bipush (-4), 2) := by decide +kernel
theorem dX6_sendFrom_118 : decode cX6_sendFrom 118 = .ok (.if_icmp .ne 14, 3) := by decide +kernel
theorem dX6_sendFrom_121 : decode cX6_sendFrom 121 = .ok (.aload_n 0, 1) := by decide +kernel
theorem dX6_sendFrom_122 : decode cX6_sendFrom 122 = .ok (.getfield 27, 3) := by decide +kernel
theorem dX6_sendFrom_125 : decode cX6_sendFrom 125 = .ok (.iload_n 1, 1) := by decide +kernel
theorem dX6_sendFrom_126 : decode cX6_sendFrom 126 = .ok (.bipush 10, 2) := by decide +kernel
theorem dX6_sendFrom_128 : decode cX6_sendFrom 128 = .ok (.iload_n 3, 1) := by decide +kernel
theorem dX6_sendFrom_129 : decode cX6_sendFrom 129 = .ok (.invokevirtual 92, 3) := by decide +kernel
theorem dX6_sendFrom_132 : decode cX6_sendFrom 132 = .ok (.iload_n 3, 1) := by decide +kernel
theorem dX6_sendFrom_133 : decode cX6_sendFrom 133 = .ok (.ireturn, 1) := by decide +kernel
theorem dX6_endSecond_0 : decode cX6_endSecond 0 = .ok (.aload_n 0, 1) := by decide +kernel
theorem dX6_endSecond_1 : decode cX6_endSecond 1 = .ok (.dup, 1) := by decide +kernel
theorem dX6_endSecond_2 : decode cX6_endSecond 2 = .ok (.getfield 72, 3) := by decide +kernel
theorem dX6_endSecond_5 : decode cX6_endSecond 5 = .ok (.iconst 1, 1) := by decide +kernel
theorem dX6_endSecond_6 : decode cX6_endSecond 6 = .ok (.iadd, 1) := by decide +kernel
theorem dX6_endSecond_7 : decode cX6_endSecond 7 = .ok (.putfield 72, 3) := by decide +kernel
theorem dX6_endSecond_10 : decode cX6_endSecond 10 = .ok (.aload_n 0, 1) := by decide +kernel
theorem dX6_endSecond_11 : decode cX6_endSecond 11 = .ok (.getfield 27, 3) := by decide +kernel
theorem dX6_endSecond_14 : decode cX6_endSecond 14 = .ok (.invokevirtual 180, 3) := by decide +kernel
theorem dX6_endSecond_17 : decode cX6_endSecond 17 = .ok (.aload_n 0, 1) := by decide +kernel
theorem dX6_endSecond_18 : decode cX6_endSecond 18 = .ok (.getfield 41, 3) := by decide +kernel
theorem dX6_endSecond_21 : decode cX6_endSecond 21 = .ok (.aload_n 0, 1) := by decide +kernel
theorem dX6_endSecond_22 : decode cX6_endSecond 22 = .ok (.getfield 72, 3) := by decide +kernel
theorem dX6_endSecond_25 : decode cX6_endSecond 25 = .ok (.aload_n 0, 1) := by decide +kernel
theorem dX6_endSecond_26 : decode cX6_endSecond 26 = .ok (.getfield 18, 3) := by decide +kernel
theorem dX6_endSecond_29 : decode cX6_endSecond 29 = .ok (.iconst 0, 1) := by decide +kernel
theorem dX6_endSecond_30 : decode cX6_endSecond 30 = .ok (.invokevirtual 85, 3) := by decide +kernel
theorem dX6_endSecond_33 : decode cX6_endSecond 33 = .ok (.isub, 1) := by decide +kernel
theorem dX6_endSecond_34 : decode cX6_endSecond 34 = .ok (.invokevirtual 183, 3) := by decide +kernel
theorem dX6_endSecond_37 : decode cX6_endSecond 37 = .ok (.aload_n 0, 1) := by decide +kernel
theorem dX6_endSecond_38 : decode cX6_endSecond 38 = .ok (.getfield 48, 3) := by decide +kernel
theorem dX6_endSecond_41 : decode cX6_endSecond 41 = .ok (.aload_n 0, 1) := by decide +kernel
theorem dX6_endSecond_42 : decode cX6_endSecond 42 = .ok (.getfield 72, 3) := by decide +kernel
theorem dX6_endSecond_45 : decode cX6_endSecond 45 = .ok (.invokevirtual 186, 3) := by decide +kernel
theorem dX6_endSecond_48 : decode cX6_endSecond 48 = .ok (.return_, 1) := by decide +kernel
theorem dX7_init_0 : decode cX7_init 0 = .ok (.aload_n 0, 1) := by decide +kernel
theorem dX7_init_1 : decode cX7_init 1 = .ok (.invokespecial 3, 3) := by decide +kernel
theorem dX7_init_4 : decode cX7_init 4 = .ok (.aload_n 0, 1) := by decide +kernel
theorem dX7_init_5 : decode cX7_init 5 = .ok (.new 9, 3) := by decide +kernel
theorem dX7_init_8 : decode cX7_init 8 = .ok (.dup, 1) := by decide +kernel
theorem dX7_init_9 : decode cX7_init 9 = .ok (.bipush 100, 2) := by decide +kernel
theorem dX7_init_11 : decode cX7_init 11 = .ok (.invokespecial 11, 3) := by decide +kernel
theorem dX7_init_14 : decode cX7_init 14 = .ok (.putfield 14, 3) := by decide +kernel
theorem dX7_init_17 : decode cX7_init 17 = .ok (.aload_n 0, 1) := by decide +kernel
theorem dX7_init_18 : decode cX7_init 18 = .ok (.new 9, 3) := by decide +kernel
theorem dX7_init_21 : decode cX7_init 21 = .ok (.dup, 1) := by decide +kernel
theorem dX7_init_22 : decode cX7_init 22 = .ok (.bipush 100, 2) := by decide +kernel
theorem dX7_init_24 : decode cX7_init 24 = .ok (.invokespecial 11, 3) := by decide +kernel
theorem dX7_init_27 : decode cX7_init 27 = .ok (.putfield 20, 3) := by decide +kernel
theorem dX7_init_30 : decode cX7_init 30 = .ok (.aload_n 0, 1) := by decide +kernel
theorem dX7_init_31 : decode cX7_init 31 = .ok (.getfield 14, 3) := by decide +kernel
theorem dX7_init_34 : decode cX7_init 34 = .ok (.iconst 0, 1) := by decide +kernel
theorem dX7_init_35 : decode cX7_init 35 = .ok (.bipush 100, 2) := by decide +kernel
theorem dX7_init_37 : decode cX7_init 37 = .ok (.bipush (-4), 2) := by decide +kernel
theorem dX7_init_39 : decode cX7_init 39 = .ok (.invokevirtual 23, 3) := by decide +kernel
theorem dX7_init_42 : decode cX7_init 42 = .ok (.return_, 1) := by decide +kernel
theorem dX7_copyFrom_0 : decode cX7_copyFrom 0 = .ok (.aload_n 0, 1) := by decide +kernel
theorem dX7_copyFrom_1 : decode cX7_copyFrom 1 = .ok (.getfield 14, 3) := by decide +kernel
theorem dX7_copyFrom_4 : decode cX7_copyFrom 4 = .ok (.aload_n 1, 1) := by decide +kernel
theorem dX7_copyFrom_5 : decode cX7_copyFrom 5 = .ok (.getfield 14, 3) := by decide +kernel
theorem dX7_copyFrom_8 : decode cX7_copyFrom 8 = .ok (.invokevirtual 27, 3) := by decide +kernel
theorem dX7_copyFrom_11 : decode cX7_copyFrom 11 = .ok (.aload_n 0, 1) := by decide +kernel
theorem dX7_copyFrom_12 : decode cX7_copyFrom 12 = .ok (.getfield 20, 3) := by decide +kernel
theorem dX7_copyFrom_15 : decode cX7_copyFrom 15 = .ok (.aload_n 1, 1) := by decide +kernel
theorem dX7_copyFrom_16 : decode cX7_copyFrom 16 = .ok (.getfield 20, 3) := by decide +kernel
theorem dX7_copyFrom_19 : decode cX7_copyFrom 19 = .ok (.invokevirtual 27, 3) := by decide +kernel
theorem dX7_copyFrom_22 : decode cX7_copyFrom 22 = .ok (.aload_n 0, 1) := by decide +kernel
theorem dX7_copyFrom_23 : decode cX7_copyFrom 23 = .ok (.aload_n 1, 1) := by decide +kernel
theorem dX7_copyFrom_24 : decode cX7_copyFrom 24 = .ok (.getfield 31, 3) := by decide +kernel
theorem dX7_copyFrom_27 : decode cX7_copyFrom 27 = .ok (.putfield 31, 3) := by decide +kernel
theorem dX7_copyFrom_30 : decode cX7_copyFrom 30 = .ok (.return_, 1) := by decide +kernel
theorem dX7_portOf_0 : decode cX7_portOf 0 = .ok (.aload_n 0, 1) := by decide +kernel
theorem dX7_portOf_1 : decode cX7_portOf 1 = .ok (.getfield 14, 3) := by decide +kernel
theorem dX7_portOf_4 : decode cX7_portOf 4 = .ok (.iload_n 1, 1) := by decide +kernel
theorem dX7_portOf_5 : decode cX7_portOf 5 = .ok (.invokevirtual 35, 3) := by decide +kernel
theorem dX7_portOf_8 : decode cX7_portOf 8 = .ok (.ireturn, 1) := by decide +kernel
theorem dX7_learn_0 : decode cX7_learn 0 = .ok (.aload_n 0, 1) := by decide +kernel
theorem dX7_learn_1 : decode cX7_learn 1 = .ok (.getfield 14, 3) := by decide +kernel
theorem dX7_learn_4 : decode cX7_learn 4 = .ok (.iload_n 1, 1) := by decide +kernel
theorem dX7_learn_5 : decode cX7_learn 5 = .ok (.invokevirtual 35, 3) := by decide +kernel
theorem dX7_learn_8 : decode cX7_learn 8 = .ok (.bipush (-4), 2) := by decide +kernel
theorem dX7_learn_10 : decode cX7_learn 10 = .ok (.if_icmp .ne 30, 3) := by decide +kernel
theorem dX7_learn_13 : decode cX7_learn 13 = .ok (.aload_n 0, 1) := by decide +kernel
theorem dX7_learn_14 : decode cX7_learn 14 = .ok (.getfield 31, 3) := by decide +kernel
theorem dX7_learn_17 : decode cX7_learn 17 = .ok (.bipush 20, 2) := by decide +kernel
theorem dX7_learn_19 : decode cX7_learn 19 = .ok (.if_icmp .lt 11, 3) := by decide +kernel
theorem dX7_learn_22 : decode cX7_learn 22 = .ok (.aload_n 0, 1) := by decide +kernel
theorem dX7_learn_23 : decode cX7_learn 23 = .ok (.aload_n 0, 1) := by decide +kernel
theorem dX7_learn_24 : decode cX7_learn 24 = .ok (.invokevirtual 39, 3) := by decide +kernel
theorem dX7_learn_27 : decode cX7_learn 27 = .ok (.invokevirtual 43, 3) := by decide +kernel
theorem dX7_learn_30 : decode cX7_learn 30 = .ok (.aload_n 0, 1) := by decide +kernel
theorem dX7_learn_31 : decode cX7_learn 31 = .ok (.dup, 1) := by decide +kernel
theorem dX7_learn_32 : decode cX7_learn 32 = .ok (.getfield 31, 3) := by decide +kernel
theorem dX7_learn_35 : decode cX7_learn 35 = .ok (.iconst 1, 1) := by decide +kernel
theorem dX7_learn_36 : decode cX7_learn 36 = .ok (.iadd, 1) := by decide +kernel
theorem dX7_learn_37 : decode cX7_learn 37 = .ok (.putfield 31, 3) := by decide +kernel
theorem dX7_learn_40 : decode cX7_learn 40 = .ok (.aload_n 0, 1) := by decide +kernel
theorem dX7_learn_41 : decode cX7_learn 41 = .ok (.getfield 14, 3) := by decide +kernel
theorem dX7_learn_44 : decode cX7_learn 44 = .ok (.iload_n 1, 1) := by decide +kernel
theorem dX7_learn_45 : decode cX7_learn 45 = .ok (.iload_n 2, 1) := by decide +kernel
theorem dX7_learn_46 : decode cX7_learn 46 = .ok (.invokevirtual 46, 3) := by decide +kernel
theorem dX7_learn_49 : decode cX7_learn 49 = .ok (.aload_n 0, 1) := by decide +kernel
theorem dX7_learn_50 : decode cX7_learn 50 = .ok (.getfield 20, 3) := by decide +kernel
theorem dX7_learn_53 : decode cX7_learn 53 = .ok (.iload_n 1, 1) := by decide +kernel
theorem dX7_learn_54 : decode cX7_learn 54 = .ok (.iload_n 3, 1) := by decide +kernel
theorem dX7_learn_55 : decode cX7_learn 55 = .ok (.invokevirtual 46, 3) := by decide +kernel
theorem dX7_learn_58 : decode cX7_learn 58 = .ok (.return_, 1) := by decide +kernel
theorem dX7_remove_0 : decode cX7_remove 0 = .ok (.aload_n 0, 1) := by decide +kernel
theorem dX7_remove_1 : decode cX7_remove 1 = .ok (.getfield 14, 3) := by decide +kernel
theorem dX7_remove_4 : decode cX7_remove 4 = .ok (.iload_n 1, 1) := by decide +kernel
theorem dX7_remove_5 : decode cX7_remove 5 = .ok (.bipush (-4), 2) := by decide +kernel
theorem dX7_remove_7 : decode cX7_remove 7 = .ok (.invokevirtual 46, 3) := by decide +kernel
theorem dX7_remove_10 : decode cX7_remove 10 = .ok (.aload_n 0, 1) := by decide +kernel
theorem dX7_remove_11 : decode cX7_remove 11 = .ok (.dup, 1) := by decide +kernel
theorem dX7_remove_12 : decode cX7_remove 12 = .ok (.getfield 31, 3) := by decide +kernel
theorem dX7_remove_15 : decode cX7_remove 15 = .ok (.iconst 1, 1) := by decide +kernel
theorem dX7_remove_16 : decode cX7_remove 16 = .ok (.isub, 1) := by decide +kernel
theorem dX7_remove_17 : decode cX7_remove 17 = .ok (.putfield 31, 3) := by decide +kernel
theorem dX7_remove_20 : decode cX7_remove 20 = .ok (.return_, 1) := by decide +kernel
theorem dX7_oldest_0 : decode cX7_oldest 0 = .ok (.iconst 0, 1) := by decide +kernel
theorem dX7_oldest_1 : decode cX7_oldest 1 = .ok (.istore_n 1, 1) := by decide +kernel
theorem dX7_oldest_2 : decode cX7_oldest 2 = .ok (.iconst 1, 1) := by decide +kernel
theorem dX7_oldest_3 : decode cX7_oldest 3 = .ok (.istore_n 2, 1) := by decide +kernel
theorem dX7_oldest_4 : decode cX7_oldest 4 = .ok (.iload_n 2, 1) := by decide +kernel
theorem dX7_oldest_5 : decode cX7_oldest 5 = .ok (.bipush 99, 2) := by decide +kernel
theorem dX7_oldest_7 : decode cX7_oldest 7 = .ok (.if_icmp .gt 47, 3) := by decide +kernel
theorem dX7_oldest_10 : decode cX7_oldest 10 = .ok (.aload_n 0, 1) := by decide +kernel
theorem dX7_oldest_11 : decode cX7_oldest 11 = .ok (.getfield 14, 3) := by decide +kernel
theorem dX7_oldest_14 : decode cX7_oldest 14 = .ok (.iload_n 2, 1) := by decide +kernel
theorem dX7_oldest_15 : decode cX7_oldest 15 = .ok (.invokevirtual 35, 3) := by decide +kernel
theorem dX7_oldest_18 : decode cX7_oldest 18 = .ok (.bipush (-4), 2) := by decide +kernel
theorem dX7_oldest_20 : decode cX7_oldest 20 = .ok (.if_icmp .eq 28, 3) := by decide +kernel
theorem dX7_oldest_23 : decode cX7_oldest 23 = .ok (.iload_n 1, 1) := by decide +kernel
theorem dX7_oldest_24 : decode cX7_oldest 24 = .ok (.ifCond .eq 22, 3) := by decide +kernel
theorem dX7_oldest_27 : decode cX7_oldest 27 = .ok (.aload_n 0, 1) := by decide +kernel
theorem dX7_oldest_28 : decode cX7_oldest 28 = .ok (.getfield 20, 3) := by decide +kernel
theorem dX7_oldest_31 : decode cX7_oldest 31 = .ok (.iload_n 2, 1) := by decide +kernel
theorem dX7_oldest_32 : decode cX7_oldest 32 = .ok (.invokevirtual 35, 3) := by decide +kernel
theorem dX7_oldest_35 : decode cX7_oldest 35 = .ok (.aload_n 0, 1) := by decide +kernel
theorem dX7_oldest_36 : decode cX7_oldest 36 = .ok (.getfield 20, 3) := by decide +kernel
theorem dX7_oldest_39 : decode cX7_oldest 39 = .ok (.iload_n 1, 1) := by decide +kernel
theorem dX7_oldest_40 : decode cX7_oldest 40 = .ok (.invokevirtual 35, 3) := by decide +kernel
theorem dX7_oldest_43 : decode cX7_oldest 43 = .ok (.if_icmp .ge 5, 3) := by decide +kernel
theorem dX7_oldest_46 : decode cX7_oldest 46 = .ok (.iload_n 2, 1) := by decide +kernel
theorem dX7_oldest_47 : decode cX7_oldest 47 = .ok (.istore_n 1, 1) := by decide +kernel
theorem dX7_oldest_48 : decode cX7_oldest 48 = .ok (.iinc 2 1, 3) := by decide +kernel
theorem dX7_oldest_51 : decode cX7_oldest 51 = .ok (.goto (-47), 3) := by decide +kernel
theorem dX7_oldest_54 : decode cX7_oldest 54 = .ok (.iload_n 1, 1) := by decide +kernel
theorem dX7_oldest_55 : decode cX7_oldest 55 = .ok (.ireturn, 1) := by decide +kernel
theorem dX7_removeAllWith_0 : decode cX7_removeAllWith 0 = .ok (.iconst 1, 1) := by decide +kernel
theorem dX7_removeAllWith_1 : decode cX7_removeAllWith 1 = .ok (.istore_n 2, 1) := by decide +kernel
theorem dX7_removeAllWith_2 : decode cX7_removeAllWith 2 = .ok (.iload_n 2, 1) := by decide +kernel
theorem dX7_removeAllWith_3 : decode cX7_removeAllWith 3 = .ok (.bipush 99, 2) := by decide +kernel
theorem dX7_removeAllWith_5 : decode cX7_removeAllWith 5 = .ok (.if_icmp .gt 41, 3) := by decide +kernel
theorem dX7_removeAllWith_8 : decode cX7_removeAllWith 8 = .ok (.aload_n 0, 1) := by decide +kernel
theorem dX7_removeAllWith_9 : decode cX7_removeAllWith 9 = .ok (.getfield 14, 3) := by decide +kernel
theorem dX7_removeAllWith_12 : decode cX7_removeAllWith 12 = .ok (.iload_n 2, 1) := by decide +kernel
theorem dX7_removeAllWith_13 : decode cX7_removeAllWith 13 = .ok (.invokevirtual 35, 3) := by decide +kernel
theorem dX7_removeAllWith_16 : decode cX7_removeAllWith 16 = .ok (.iload_n 1, 1) := by decide +kernel
theorem dX7_removeAllWith_17 : decode cX7_removeAllWith 17 = .ok (.if_icmp .ne 23, 3) := by decide +kernel
theorem dX7_removeAllWith_20 : decode cX7_removeAllWith 20 = .ok (.aload_n 0, 1) := by decide +kernel
theorem dX7_removeAllWith_21 : decode cX7_removeAllWith 21 = .ok (.getfield 14, 3) := by decide +kernel
theorem dX7_removeAllWith_24 : decode cX7_removeAllWith 24 = .ok (.iload_n 2, 1) := by decide +kernel
theorem dX7_removeAllWith_25 : decode cX7_removeAllWith 25 = .ok (.bipush (-4), 2) := by decide +kernel
theorem dX7_removeAllWith_27 : decode cX7_removeAllWith 27 = .ok (.invokevirtual 46, 3) := by decide +kernel
theorem dX7_removeAllWith_30 : decode cX7_removeAllWith 30 = .ok (.aload_n 0, 1) := by decide +kernel
theorem dX7_removeAllWith_31 : decode cX7_removeAllWith 31 = .ok (.dup, 1) := by decide +kernel
theorem dX7_removeAllWith_32 : decode cX7_removeAllWith 32 = .ok (.getfield 31, 3) := by decide +kernel
theorem dX7_removeAllWith_35 : decode cX7_removeAllWith 35 = .ok (.iconst 1, 1) := by decide +kernel
theorem dX7_removeAllWith_36 : decode cX7_removeAllWith 36 = .ok (.isub, 1) := by decide +kernel
theorem dX7_removeAllWith_37 : decode cX7_removeAllWith 37 = .ok (.putfield 31, 3) := by decide +kernel
theorem dX7_removeAllWith_40 : decode cX7_removeAllWith 40 = .ok (.iinc 2 1, 3) := by decide +kernel
theorem dX7_removeAllWith_43 : decode cX7_removeAllWith 43 = .ok (.goto (-41), 3) := by decide +kernel
theorem dX7_removeAllWith_46 : decode cX7_removeAllWith 46 = .ok (.return_, 1) := by decide +kernel
theorem dX7_removeUntil_0 : decode cX7_removeUntil 0 = .ok (.iconst 1, 1) := by decide +kernel
theorem dX7_removeUntil_1 : decode cX7_removeUntil 1 = .ok (.istore_n 2, 1) := by decide +kernel
theorem dX7_removeUntil_2 : decode cX7_removeUntil 2 = .ok (.iload_n 2, 1) := by decide +kernel
theorem dX7_removeUntil_3 : decode cX7_removeUntil 3 = .ok (.bipush 99, 2) := by decide +kernel
theorem dX7_removeUntil_5 : decode cX7_removeUntil 5 = .ok (.if_icmp .gt 39, 3) := by decide +kernel
theorem dX7_removeUntil_8 : decode cX7_removeUntil 8 = .ok (.aload_n 0, 1) := by decide +kernel
theorem dX7_removeUntil_9 : decode cX7_removeUntil 9 = .ok (.getfield 14, 3) := by decide +kernel
theorem dX7_removeUntil_12 : decode cX7_removeUntil 12 = .ok (.iload_n 2, 1) := by decide +kernel
theorem dX7_removeUntil_13 : decode cX7_removeUntil 13 = .ok (.invokevirtual 35, 3) := by decide +kernel
theorem dX7_removeUntil_16 : decode cX7_removeUntil 16 = .ok (.bipush (-4), 2) := by decide +kernel
theorem dX7_removeUntil_18 : decode cX7_removeUntil 18 = .ok (.if_icmp .eq 20, 3) := by decide +kernel
theorem dX7_removeUntil_21 : decode cX7_removeUntil 21 = .ok (.aload_n 0, 1) := by decide +kernel
theorem dX7_removeUntil_22 : decode cX7_removeUntil 22 = .ok (.getfield 20, 3) := by decide +kernel
theorem dX7_removeUntil_25 : decode cX7_removeUntil 25 = .ok (.iload_n 2, 1) := by decide +kernel
theorem dX7_removeUntil_26 : decode cX7_removeUntil 26 = .ok (.invokevirtual 35, 3) := by decide +kernel
theorem dX7_removeUntil_29 : decode cX7_removeUntil 29 = .ok (.iload_n 1, 1) := by decide +kernel
theorem dX7_removeUntil_30 : decode cX7_removeUntil 30 = .ok (.if_icmp .gt 8, 3) := by decide +kernel
theorem dX7_removeUntil_33 : decode cX7_removeUntil 33 = .ok (.aload_n 0, 1) := by decide +kernel
theorem dX7_removeUntil_34 : decode cX7_removeUntil 34 = .ok (.iload_n 2, 1) := by decide +kernel
theorem dX7_removeUntil_35 : decode cX7_removeUntil 35 = .ok (.invokevirtual 43, 3) := by decide +kernel
theorem dX7_removeUntil_38 : decode cX7_removeUntil 38 = .ok (.iinc 2 1, 3) := by decide +kernel
theorem dX7_removeUntil_41 : decode cX7_removeUntil 41 = .ok (.goto (-39), 3) := by decide +kernel
theorem dX7_removeUntil_44 : decode cX7_removeUntil 44 = .ok (.return_, 1) := by decide +kernel
theorem dX7_entriesWith_0 : decode cX7_entriesWith 0 = .ok (.iconst 0, 1) := by decide +kernel
theorem dX7_entriesWith_1 : decode cX7_entriesWith 1 = .ok (.istore_n 2, 1) := by decide +kernel
theorem dX7_entriesWith_2 : decode cX7_entriesWith 2 = .ok (.iconst 1, 1) := by decide +kernel
theorem dX7_entriesWith_3 : decode cX7_entriesWith 3 = .ok (.istore_n 3, 1) := by decide +kernel
theorem dX7_entriesWith_4 : decode cX7_entriesWith 4 = .ok (.iload_n 3, 1) := by decide +kernel
theorem dX7_entriesWith_5 : decode cX7_entriesWith 5 = .ok (.bipush 99, 2) := by decide +kernel
theorem dX7_entriesWith_7 : decode cX7_entriesWith 7 = .ok (.if_icmp .gt 24, 3) := by decide +kernel
theorem dX7_entriesWith_10 : decode cX7_entriesWith 10 = .ok (.aload_n 0, 1) := by decide +kernel
theorem dX7_entriesWith_11 : decode cX7_entriesWith 11 = .ok (.getfield 14, 3) := by decide +kernel
theorem dX7_entriesWith_14 : decode cX7_entriesWith 14 = .ok (.iload_n 3, 1) := by decide +kernel
theorem dX7_entriesWith_15 : decode cX7_entriesWith 15 = .ok (.invokevirtual 35, 3) := by decide +kernel
theorem dX7_entriesWith_18 : decode cX7_entriesWith 18 = .ok (.iload_n 1, 1) := by decide +kernel
theorem dX7_entriesWith_19 : decode cX7_entriesWith 19 = .ok (.if_icmp .ne 6, 3) := by decide +kernel
theorem dX7_entriesWith_22 : decode cX7_entriesWith 22 = .ok (.iinc 2 1, 3) := by decide +kernel
theorem dX7_entriesWith_25 : decode cX7_entriesWith 25 = .ok (.iinc 3 1, 3) := by decide +kernel
theorem dX7_entriesWith_28 : decode cX7_entriesWith 28 = .ok (.goto (-24), 3) := by decide +kernel
theorem dX7_entriesWith_31 : decode cX7_entriesWith 31 = .ok (.iload_n 2, 1) := by decide +kernel
theorem dX7_entriesWith_32 : decode cX7_entriesWith 32 = .ok (.ireturn, 1) := by decide +kernel
theorem dX7_addressOf_0 : decode cX7_addressOf 0 = .ok (.iconst 0, 1) := by decide +kernel
theorem dX7_addressOf_1 : decode cX7_addressOf 1 = .ok (.istore_n 2, 1) := by decide +kernel
theorem dX7_addressOf_2 : decode cX7_addressOf 2 = .ok (.iconst 1, 1) := by decide +kernel
theorem dX7_addressOf_3 : decode cX7_addressOf 3 = .ok (.istore_n 3, 1) := by decide +kernel
theorem dX7_addressOf_4 : decode cX7_addressOf 4 = .ok (.iload_n 3, 1) := by decide +kernel
theorem dX7_addressOf_5 : decode cX7_addressOf 5 = .ok (.bipush 99, 2) := by decide +kernel
theorem dX7_addressOf_7 : decode cX7_addressOf 7 = .ok (.if_icmp .gt 32, 3) := by decide +kernel
theorem dX7_addressOf_10 : decode cX7_addressOf 10 = .ok (.aload_n 0, 1) := by decide +kernel
theorem dX7_addressOf_11 : decode cX7_addressOf 11 = .ok (.getfield 14, 3) := by decide +kernel
theorem dX7_addressOf_14 : decode cX7_addressOf 14 = .ok (.iload_n 3, 1) := by decide +kernel
theorem dX7_addressOf_15 : decode cX7_addressOf 15 = .ok (.invokevirtual 35, 3) := by decide +kernel
theorem dX7_addressOf_18 : decode cX7_addressOf 18 = .ok (.bipush (-4), 2) := by decide +kernel
theorem dX7_addressOf_20 : decode cX7_addressOf 20 = .ok (.if_icmp .eq 13, 3) := by decide +kernel
theorem dX7_addressOf_23 : decode cX7_addressOf 23 = .ok (.iload_n 2, 1) := by decide +kernel
theorem dX7_addressOf_24 : decode cX7_addressOf 24 = .ok (.iload_n 1, 1) := by decide +kernel
theorem dX7_addressOf_25 : decode cX7_addressOf 25 = .ok (.if_icmp .ne 5, 3) := by decide +kernel
theorem dX7_addressOf_28 : decode cX7_addressOf 28 = .ok (.iload_n 3, 1) := by decide +kernel
theorem dX7_addressOf_29 : decode cX7_addressOf 29 = .ok (.ireturn, 1) := by decide +kernel
theorem dX7_addressOf_30 : decode cX7_addressOf 30 = .ok (.iinc 2 1, 3) := by decide +kernel
theorem dX7_addressOf_33 : decode cX7_addressOf 33 = .ok (.iinc 3 1, 3) := by decide +kernel
theorem dX7_addressOf_36 : decode cX7_addressOf 36 = .ok (.goto (-32), 3) := by decide +kernel
theorem dX7_addressOf_39 : decode cX7_addressOf 39 = .ok (.bipush (-4), 2) := by decide +kernel
theorem dX7_addressOf_41 : decode cX7_addressOf 41 = .ok (.ireturn, 1) := by decide +kernel
theorem dX8_init_0 : decode cX8_init 0 = .ok (.aload_n 0, 1) := by decide +kernel
theorem dX8_init_1 : decode cX8_init 1 = .ok (.invokespecial 3, 3) := by decide +kernel
theorem dX8_init_4 : decode cX8_init 4 = .ok (.aload_n 0, 1) := by decide +kernel
theorem dX8_init_5 : decode cX8_init 5 = .ok (.bipush 70, 2) := by decide +kernel
theorem dX8_init_7 : decode cX8_init 7 = .ok (.newarray .char, 2) := by decide +kernel
theorem dX8_init_9 : decode cX8_init 9 = .ok (.putfield 9, 3) := by decide +kernel
theorem dX8_init_12 : decode cX8_init 12 = .ok (.return_, 1) := by decide +kernel
theorem dX8_append_0 : decode cX8_append 0 = .ok (.aload_n 0, 1) := by decide +kernel
theorem dX8_append_1 : decode cX8_append 1 = .ok (.getfield 15, 3) := by decide +kernel
theorem dX8_append_4 : decode cX8_append 4 = .ok (.ifCond .lt 15, 3) := by decide +kernel
theorem dX8_append_7 : decode cX8_append 7 = .ok (.aload_n 0, 1) := by decide +kernel
theorem dX8_append_8 : decode cX8_append 8 = .ok (.getfield 15, 3) := by decide +kernel
theorem dX8_append_11 : decode cX8_append 11 = .ok (.aload_n 0, 1) := by decide +kernel
theorem dX8_append_12 : decode cX8_append 12 = .ok (.getfield 9, 3) := by decide +kernel
theorem dX8_append_15 : decode cX8_append 15 = .ok (.arraylength, 1) := by decide +kernel
theorem dX8_append_16 : decode cX8_append 16 = .ok (.if_icmp .lt 5, 3) := by decide +kernel
theorem dX8_append_19 : decode cX8_append 19 = .ok (.iconst 0, 1) := by decide +kernel
theorem dX8_append_20 : decode cX8_append 20 = .ok (.ireturn, 1) := by decide +kernel
theorem dX8_append_21 : decode cX8_append 21 = .ok (.aload_n 0, 1) := by decide +kernel
theorem dX8_append_22 : decode cX8_append 22 = .ok (.getfield 9, 3) := by decide +kernel
theorem dX8_append_25 : decode cX8_append 25 = .ok (.aload_n 0, 1) := by decide +kernel
theorem dX8_append_26 : decode cX8_append 26 = .ok (.getfield 15, 3) := by decide +kernel
theorem dX8_append_29 : decode cX8_append 29 = .ok (.iload_n 1, 1) := by decide +kernel
theorem dX8_append_30 : decode cX8_append 30 = .ok (.castore, 1) := by decide +kernel
theorem dX8_append_31 : decode cX8_append 31 = .ok (.aload_n 0, 1) := by decide +kernel
theorem dX8_append_32 : decode cX8_append 32 = .ok (.dup, 1) := by decide +kernel
theorem dX8_append_33 : decode cX8_append 33 = .ok (.getfield 15, 3) := by decide +kernel
theorem dX8_append_36 : decode cX8_append 36 = .ok (.iconst 1, 1) := by decide +kernel
theorem dX8_append_37 : decode cX8_append 37 = .ok (.iadd, 1) := by decide +kernel
theorem dX8_append_38 : decode cX8_append 38 = .ok (.putfield 15, 3) := by decide +kernel
theorem dX8_append_41 : decode cX8_append 41 = .ok (.iconst 1, 1) := by decide +kernel
theorem dX8_append_42 : decode cX8_append 42 = .ok (.ireturn, 1) := by decide +kernel
theorem dX8_readInto_0 : decode cX8_readInto 0 = .ok (.aload_n 1, 1) := by decide +kernel
theorem dX8_readInto_1 : decode cX8_readInto 1 = .ok (.iconst 0, 1) := by decide +kernel
theorem dX8_readInto_2 : decode cX8_readInto 2 = .ok (.putfield 19, 3) := by decide +kernel
theorem dX8_readInto_5 : decode cX8_readInto 5 = .ok (.aload_n 0, 1) := by decide +kernel
theorem dX8_readInto_6 : decode cX8_readInto 6 = .ok (.iconst 0, 1) := by decide +kernel
theorem dX8_readInto_7 : decode cX8_readInto 7 = .ok (.putfield 24, 3) := by decide +kernel
theorem dX8_readInto_10 : decode cX8_readInto 10 = .ok (.iconst 0, 1) := by decide +kernel
theorem dX8_readInto_11 : decode cX8_readInto 11 = .ok (.istore_n 2, 1) := by decide +kernel
theorem dX8_readInto_12 : decode cX8_readInto 12 = .ok (.iload_n 2, 1) := by decide +kernel
theorem dX8_readInto_13 : decode cX8_readInto 13 = .ok (.aload_n 0, 1) := by decide +kernel
theorem dX8_readInto_14 : decode cX8_readInto 14 = .ok (.getfield 15, 3) := by decide +kernel
theorem dX8_readInto_17 : decode cX8_readInto 17 = .ok (.if_icmp .gt 49, 3) := by decide +kernel
theorem dX8_readInto_20 : decode cX8_readInto 20 = .ok (.aload_n 0, 1) := by decide +kernel
theorem dX8_readInto_21 : decode cX8_readInto 21 = .ok (.aload_n 1, 1) := by decide +kernel
theorem dX8_readInto_22 : decode cX8_readInto 22 = .ok (.invokevirtual 27, 3) := by decide +kernel
theorem dX8_readInto_25 : decode cX8_readInto 25 = .ok (.ifCond .ne 8, 3) := by decide +kernel
theorem dX8_readInto_28 : decode cX8_readInto 28 = .ok (.aload_n 0, 1) := by decide +kernel
theorem dX8_readInto_29 : decode cX8_readInto 29 = .ok (.getfield 24, 3) := by decide +kernel
theorem dX8_readInto_32 : decode cX8_readInto 32 = .ok (.ireturn, 1) := by decide +kernel
theorem dX8_readInto_33 : decode cX8_readInto 33 = .ok (.aload_n 0, 1) := by decide +kernel
theorem dX8_readInto_34 : decode cX8_readInto 34 = .ok (.getfield 24, 3) := by decide +kernel
theorem dX8_readInto_37 : decode cX8_readInto 37 = .ok (.aload_n 0, 1) := by decide +kernel
theorem dX8_readInto_38 : decode cX8_readInto 38 = .ok (.getfield 15, 3) := by decide +kernel
theorem dX8_readInto_41 : decode cX8_readInto 41 = .ok (.if_icmp .ne 5, 3) := by decide +kernel
theorem dX8_readInto_44 : decode cX8_readInto 44 = .ok (.iconst (-1), 1) := by decide +kernel
theorem dX8_readInto_45 : decode cX8_readInto 45 = .ok (.ireturn, 1) := by decide +kernel
theorem dX8_readInto_46 : decode cX8_readInto 46 = .ok (.aload_n 0, 1) := by decide +kernel
theorem dX8_readInto_47 : decode cX8_readInto 47 = .ok (.bipush 59, 2) := by decide +kernel
theorem dX8_readInto_49 : decode cX8_readInto 49 = .ok (.invokevirtual 31, 3) := by decide +kernel
theorem dX8_readInto_52 : decode cX8_readInto 52 = .ok (.ifCond .ne 8, 3) := by decide +kernel
theorem dX8_readInto_55 : decode cX8_readInto 55 = .ok (.aload_n 0, 1) := by decide +kernel
theorem dX8_readInto_56 : decode cX8_readInto 56 = .ok (.getfield 24, 3) := by decide +kernel
theorem dX8_readInto_59 : decode cX8_readInto 59 = .ok (.ireturn, 1) := by decide +kernel
theorem dX8_readInto_60 : decode cX8_readInto 60 = .ok (.iinc 2 1, 3) := by decide +kernel
theorem dX8_readInto_63 : decode cX8_readInto 63 = .ok (.goto (-51), 3) := by decide +kernel
theorem dX8_readInto_66 : decode cX8_readInto 66 = .ok (.aload_n 0, 1) := by decide +kernel
theorem dX8_readInto_67 : decode cX8_readInto 67 = .ok (.getfield 24, 3) := by decide +kernel
theorem dX8_readInto_70 : decode cX8_readInto 70 = .ok (.ireturn, 1) := by decide +kernel
theorem dX8_readFrame_0 : decode cX8_readFrame 0 = .ok (.aload_n 0, 1) := by decide +kernel
theorem dX8_readFrame_1 : decode cX8_readFrame 1 = .ok (.invokevirtual 35, 3) := by decide +kernel
theorem dX8_readFrame_4 : decode cX8_readFrame 4 = .ok (.istore_n 2, 1) := by decide +kernel
theorem dX8_readFrame_5 : decode cX8_readFrame 5 = .ok (.iload_n 2, 1) := by decide +kernel
theorem dX8_readFrame_6 : decode cX8_readFrame 6 = .ok (.bipush (-4), 2) := by decide +kernel
theorem dX8_readFrame_8 : decode cX8_readFrame 8 = .ok (.if_icmp .eq 12, 3) := by decide +kernel
theorem dX8_readFrame_11 : decode cX8_readFrame 11 = .ok (.aload_n 0, 1) := by decide +kernel
theorem dX8_readFrame_12 : decode cX8_readFrame 12 = .ok (.bipush 62, 2) := by decide +kernel
theorem dX8_readFrame_14 : decode cX8_readFrame 14 = .ok (.invokevirtual 31, 3) := by decide +kernel
theorem dX8_readFrame_17 : decode cX8_readFrame 17 = .ok (.ifCond .ne 5, 3) := by decide +kernel
theorem dX8_readFrame_20 : decode cX8_readFrame 20 = .ok (.iconst 0, 1) := by decide +kernel
theorem dX8_readFrame_21 : decode cX8_readFrame 21 = .ok (.ireturn, 1) := by decide +kernel
theorem dX8_readFrame_22 : decode cX8_readFrame 22 = .ok (.aload_n 0, 1) := by decide +kernel
theorem dX8_readFrame_23 : decode cX8_readFrame 23 = .ok (.bipush 42, 2) := by decide +kernel
theorem dX8_readFrame_25 : decode cX8_readFrame 25 = .ok (.invokevirtual 31, 3) := by decide +kernel
theorem dX8_readFrame_28 : decode cX8_readFrame 28 = .ok (.ifCond .eq 7, 3) := by decide +kernel
theorem dX8_readFrame_31 : decode cX8_readFrame 31 = .ok (.iconst 0, 1) := by decide +kernel
theorem dX8_readFrame_32 : decode cX8_readFrame 32 = .ok (.goto 7, 3) := by decide +kernel
theorem dX8_readFrame_35 : decode cX8_readFrame 35 = .ok (.aload_n 0, 1) := by decide +kernel
theorem dX8_readFrame_36 : decode cX8_readFrame 36 = .ok (.invokevirtual 35, 3) := by decide +kernel
theorem dX8_readFrame_39 : decode cX8_readFrame 39 = .ok (.istore_n 3, 1) := by decide +kernel
theorem dX8_readFrame_40 : decode cX8_readFrame 40 = .ok (.iload_n 3, 1) := by decide +kernel
theorem dX8_readFrame_41 : decode cX8_readFrame 41 = .ok (.bipush (-4), 2) := by decide +kernel
theorem dX8_readFrame_43 : decode cX8_readFrame 43 = .ok (.if_icmp .ne 5, 3) := by decide +kernel
theorem dX8_readFrame_46 : decode cX8_readFrame 46 = .ok (.iconst 0, 1) := by decide +kernel
theorem dX8_readFrame_47 : decode cX8_readFrame 47 = .ok (.ireturn, 1) := by decide +kernel
theorem dX8_readFrame_48 : decode cX8_readFrame 48 = .ok (.aload_n 0, 1) := by decide +kernel
theorem dX8_readFrame_49 : decode cX8_readFrame 49 = .ok (.bipush 33, 2) := by decide +kernel
theorem dX8_readFrame_51 : decode cX8_readFrame 51 = .ok (.invokevirtual 31, 3) := by decide +kernel
theorem dX8_readFrame_54 : decode cX8_readFrame 54 = .ok (.ifCond .eq 12, 3) := by decide +kernel
theorem dX8_readFrame_57 : decode cX8_readFrame 57 = .ok (.aload_n 0, 1) := by decide +kernel
theorem dX8_readFrame_58 : decode cX8_readFrame 58 = .ok (.iconst 0, 1) := by decide +kernel
theorem dX8_readFrame_59 : decode cX8_readFrame 59 = .ok (.iconst 3, 1) := by decide +kernel
theorem dX8_readFrame_60 : decode cX8_readFrame 60 = .ok (.invokevirtual 39, 3) := by decide +kernel
theorem dX8_readFrame_63 : decode cX8_readFrame 63 = .ok (.goto 4, 3) := by decide +kernel
theorem dX8_readFrame_66 : decode cX8_readFrame 66 = .ok (.iconst 0, 1) := by decide +kernel
theorem dX8_readFrame_67 : decode cX8_readFrame 67 = .ok (.istore 4, 2) := by decide +kernel
theorem dX8_readFrame_69 : decode cX8_readFrame 69 = .ok (.iload 4, 2) := by decide +kernel
theorem dX8_readFrame_71 : decode cX8_readFrame 71 = .ok (.bipush (-4), 2) := by decide +kernel
theorem dX8_readFrame_73 : decode cX8_readFrame 73 = .ok (.if_icmp .eq 12, 3) := by decide +kernel
theorem dX8_readFrame_76 : decode cX8_readFrame 76 = .ok (.aload_n 0, 1) := by decide +kernel
theorem dX8_readFrame_77 : decode cX8_readFrame 77 = .ok (.bipush 64, 2) := by decide +kernel
theorem dX8_readFrame_79 : decode cX8_readFrame 79 = .ok (.invokevirtual 31, 3) := by decide +kernel
theorem dX8_readFrame_82 : decode cX8_readFrame 82 = .ok (.ifCond .ne 5, 3) := by decide +kernel
theorem dX8_readFrame_85 : decode cX8_readFrame 85 = .ok (.iconst 0, 1) := by decide +kernel
theorem dX8_readFrame_86 : decode cX8_readFrame 86 = .ok (.ireturn, 1) := by decide +kernel
theorem dX8_readFrame_87 : decode cX8_readFrame 87 = .ok (.aload_n 0, 1) := by decide +kernel
theorem dX8_readFrame_88 : decode cX8_readFrame 88 = .ok (.iconst 0, 1) := by decide +kernel
theorem dX8_readFrame_89 : decode cX8_readFrame 89 = .ok (.bipush 7, 2) := by decide +kernel
theorem dX8_readFrame_91 : decode cX8_readFrame 91 = .ok (.invokevirtual 39, 3) := by decide +kernel
theorem dX8_readFrame_94 : decode cX8_readFrame 94 = .ok (.istore 5, 2) := by decide +kernel
theorem dX8_readFrame_96 : decode cX8_readFrame 96 = .ok (.iload 5, 2) := by decide +kernel
theorem dX8_readFrame_98 : decode cX8_readFrame 98 = .ok (.bipush (-4), 2) := by decide +kernel
theorem dX8_readFrame_100 : decode cX8_readFrame 100 = .ok (.if_icmp .ne 5, 3) := by decide +kernel
theorem dX8_readFrame_103 : decode cX8_readFrame 103 = .ok (.iconst 0, 1) := by decide +kernel
theorem dX8_readFrame_104 : decode cX8_readFrame 104 = .ok (.ireturn, 1) := by decide +kernel
theorem dX8_readFrame_105 : decode cX8_readFrame 105 = .ok (.aload_n 1, 1) := by decide +kernel
theorem dX8_readFrame_106 : decode cX8_readFrame 106 = .ok (.iload 5, 2) := by decide +kernel
theorem dX8_readFrame_108 : decode cX8_readFrame 108 = .ok (.iload_n 2, 1) := by decide +kernel
theorem dX8_readFrame_109 : decode cX8_readFrame 109 = .ok (.iload_n 3, 1) := by decide +kernel
theorem dX8_readFrame_110 : decode cX8_readFrame 110 = .ok (.iload 4, 2) := by decide +kernel
theorem dX8_readFrame_112 : decode cX8_readFrame 112 = .ok (.invokevirtual 43, 3) := by decide +kernel
theorem dX8_readFrame_115 : decode cX8_readFrame 115 = .ok (.iconst 1, 1) := by decide +kernel
theorem dX8_readFrame_116 : decode cX8_readFrame 116 = .ok (.ireturn, 1) := by decide +kernel
theorem dX8_readAddress_0 : decode cX8_readAddress 0 = .ok (.aload_n 0, 1) := by decide +kernel
theorem dX8_readAddress_1 : decode cX8_readAddress 1 = .ok (.iconst 1, 1) := by decide +kernel
theorem dX8_readAddress_2 : decode cX8_readAddress 2 = .ok (.bipush 9, 2) := by decide +kernel
theorem dX8_readAddress_4 : decode cX8_readAddress 4 = .ok (.invokevirtual 39, 3) := by decide +kernel
theorem dX8_readAddress_7 : decode cX8_readAddress 7 = .ok (.istore_n 1, 1) := by decide +kernel
theorem dX8_readAddress_8 : decode cX8_readAddress 8 = .ok (.iload_n 1, 1) := by decide +kernel
theorem dX8_readAddress_9 : decode cX8_readAddress 9 = .ok (.bipush (-4), 2) := by decide +kernel
theorem dX8_readAddress_11 : decode cX8_readAddress 11 = .ok (.if_icmp .ne 6, 3) := by decide +kernel
theorem dX8_readAddress_14 : decode cX8_readAddress 14 = .ok (.bipush (-4), 2) := by decide +kernel
theorem dX8_readAddress_16 : decode cX8_readAddress 16 = .ok (.ireturn, 1) := by decide +kernel
theorem dX8_readAddress_17 : decode cX8_readAddress 17 = .ok (.aload_n 0, 1) := by decide +kernel
theorem dX8_readAddress_18 : decode cX8_readAddress 18 = .ok (.iconst 0, 1) := by decide +kernel
theorem dX8_readAddress_19 : decode cX8_readAddress 19 = .ok (.bipush 9, 2) := by decide +kernel
theorem dX8_readAddress_21 : decode cX8_readAddress 21 = .ok (.invokevirtual 39, 3) := by decide +kernel
theorem dX8_readAddress_24 : decode cX8_readAddress 24 = .ok (.istore_n 2, 1) := by decide +kernel
theorem dX8_readAddress_25 : decode cX8_readAddress 25 = .ok (.iload_n 2, 1) := by decide +kernel
theorem dX8_readAddress_26 : decode cX8_readAddress 26 = .ok (.bipush (-4), 2) := by decide +kernel
theorem dX8_readAddress_28 : decode cX8_readAddress 28 = .ok (.if_icmp .ne 7, 3) := by decide +kernel
theorem dX8_readAddress_31 : decode cX8_readAddress 31 = .ok (.iload_n 1, 1) := by decide +kernel
theorem dX8_readAddress_32 : decode cX8_readAddress 32 = .ok (.goto 9, 3) := by decide +kernel
theorem dX8_readAddress_35 : decode cX8_readAddress 35 = .ok (.iload_n 1, 1) := by decide +kernel
theorem dX8_readAddress_36 : decode cX8_readAddress 36 = .ok (.bipush 10, 2) := by decide +kernel
theorem dX8_readAddress_38 : decode cX8_readAddress 38 = .ok (.imul, 1) := by decide +kernel
theorem dX8_readAddress_39 : decode cX8_readAddress 39 = .ok (.iload_n 2, 1) := by decide +kernel
theorem dX8_readAddress_40 : decode cX8_readAddress 40 = .ok (.iadd, 1) := by decide +kernel
theorem dX8_readAddress_41 : decode cX8_readAddress 41 = .ok (.ireturn, 1) := by decide +kernel
theorem dX8_readDigit_0 : decode cX8_readDigit 0 = .ok (.aload_n 0, 1) := by decide +kernel
theorem dX8_readDigit_1 : decode cX8_readDigit 1 = .ok (.aload_n 0, 1) := by decide +kernel
theorem dX8_readDigit_2 : decode cX8_readDigit 2 = .ok (.getfield 24, 3) := by decide +kernel
theorem dX8_readDigit_5 : decode cX8_readDigit 5 = .ok (.invokevirtual 47, 3) := by decide +kernel
theorem dX8_readDigit_8 : decode cX8_readDigit 8 = .ok (.bipush 48, 2) := by decide +kernel
theorem dX8_readDigit_10 : decode cX8_readDigit 10 = .ok (.isub, 1) := by decide +kernel
theorem dX8_readDigit_11 : decode cX8_readDigit 11 = .ok (.istore_n 3, 1) := by decide +kernel
theorem dX8_readDigit_12 : decode cX8_readDigit 12 = .ok (.iload_n 3, 1) := by decide +kernel
theorem dX8_readDigit_13 : decode cX8_readDigit 13 = .ok (.iload_n 1, 1) := by decide +kernel
theorem dX8_readDigit_14 : decode cX8_readDigit 14 = .ok (.if_icmp .lt 8, 3) := by decide +kernel
theorem dX8_readDigit_17 : decode cX8_readDigit 17 = .ok (.iload_n 3, 1) := by decide +kernel
theorem dX8_readDigit_18 : decode cX8_readDigit 18 = .ok (.iload_n 2, 1) := by decide +kernel
theorem dX8_readDigit_19 : decode cX8_readDigit 19 = .ok (.if_icmp .le 6, 3) := by decide +kernel
theorem dX8_readDigit_22 : decode cX8_readDigit 22 = .ok (.bipush (-4), 2) := by decide +kernel
theorem dX8_readDigit_24 : decode cX8_readDigit 24 = .ok (.ireturn, 1) := by decide +kernel
theorem dX8_readDigit_25 : decode cX8_readDigit 25 = .ok (.aload_n 0, 1) := by decide +kernel
theorem dX8_readDigit_26 : decode cX8_readDigit 26 = .ok (.dup, 1) := by decide +kernel
theorem dX8_readDigit_27 : decode cX8_readDigit 27 = .ok (.getfield 24, 3) := by decide +kernel
theorem dX8_readDigit_30 : decode cX8_readDigit 30 = .ok (.iconst 1, 1) := by decide +kernel
theorem dX8_readDigit_31 : decode cX8_readDigit 31 = .ok (.iadd, 1) := by decide +kernel
theorem dX8_readDigit_32 : decode cX8_readDigit 32 = .ok (.putfield 24, 3) := by decide +kernel
theorem dX8_readDigit_35 : decode cX8_readDigit 35 = .ok (.iload_n 3, 1) := by decide +kernel
theorem dX8_readDigit_36 : decode cX8_readDigit 36 = .ok (.ireturn, 1) := by decide +kernel
theorem dX8_skip_0 : decode cX8_skip 0 = .ok (.aload_n 0, 1) := by decide +kernel
theorem dX8_skip_1 : decode cX8_skip 1 = .ok (.aload_n 0, 1) := by decide +kernel
theorem dX8_skip_2 : decode cX8_skip 2 = .ok (.getfield 24, 3) := by decide +kernel
theorem dX8_skip_5 : decode cX8_skip 5 = .ok (.invokevirtual 47, 3) := by decide +kernel
theorem dX8_skip_8 : decode cX8_skip 8 = .ok (.iload_n 1, 1) := by decide +kernel
theorem dX8_skip_9 : decode cX8_skip 9 = .ok (.if_icmp .eq 5, 3) := by decide +kernel
theorem dX8_skip_12 : decode cX8_skip 12 = .ok (.iconst 0, 1) := by decide +kernel
theorem dX8_skip_13 : decode cX8_skip 13 = .ok (.ireturn, 1) := by decide +kernel
theorem dX8_skip_14 : decode cX8_skip 14 = .ok (.aload_n 0, 1) := by decide +kernel
theorem dX8_skip_15 : decode cX8_skip 15 = .ok (.dup, 1) := by decide +kernel
theorem dX8_skip_16 : decode cX8_skip 16 = .ok (.getfield 24, 3) := by decide +kernel
theorem dX8_skip_19 : decode cX8_skip 19 = .ok (.iconst 1, 1) := by decide +kernel
theorem dX8_skip_20 : decode cX8_skip 20 = .ok (.iadd, 1) := by decide +kernel
theorem dX8_skip_21 : decode cX8_skip 21 = .ok (.putfield 24, 3) := by decide +kernel
theorem dX8_skip_24 : decode cX8_skip 24 = .ok (.iconst 1, 1) := by decide +kernel
theorem dX8_skip_25 : decode cX8_skip 25 = .ok (.ireturn, 1) := by decide +kernel
theorem dX8_signAt_0 : decode cX8_signAt 0 = .ok (.iload_n 1, 1) := by decide +kernel
theorem dX8_signAt_1 : decode cX8_signAt 1 = .ok (.ifCond .lt 29, 3) := by decide +kernel
theorem dX8_signAt_4 : decode cX8_signAt 4 = .ok (.iload_n 1, 1) := by decide +kernel
theorem dX8_signAt_5 : decode cX8_signAt 5 = .ok (.aload_n 0, 1) := by decide +kernel
theorem dX8_signAt_6 : decode cX8_signAt 6 = .ok (.getfield 15, 3) := by decide +kernel
theorem dX8_signAt_9 : decode cX8_signAt 9 = .ok (.if_icmp .ge 21, 3) := by decide +kernel
theorem dX8_signAt_12 : decode cX8_signAt 12 = .ok (.iload_n 1, 1) := by decide +kernel
theorem dX8_signAt_13 : decode cX8_signAt 13 = .ok (.aload_n 0, 1) := by decide +kernel
theorem dX8_signAt_14 : decode cX8_signAt 14 = .ok (.getfield 9, 3) := by decide +kernel
theorem dX8_signAt_17 : decode cX8_signAt 17 = .ok (.arraylength, 1) := by decide +kernel
theorem dX8_signAt_18 : decode cX8_signAt 18 = .ok (.if_icmp .ge 12, 3) := by decide +kernel
theorem dX8_signAt_21 : decode cX8_signAt 21 = .ok (.aload_n 0, 1) := by decide +kernel
theorem dX8_signAt_22 : decode cX8_signAt 22 = .ok (.getfield 9, 3) := by decide +kernel
theorem dX8_signAt_25 : decode cX8_signAt 25 = .ok (.iload_n 1, 1) := by decide +kernel
theorem dX8_signAt_26 : decode cX8_signAt 26 = .ok (.caload, 1) := by decide +kernel
theorem dX8_signAt_27 : decode cX8_signAt 27 = .ok (.goto 4, 3) := by decide +kernel
theorem dX8_signAt_30 : decode cX8_signAt 30 = .ok (.iconst (-1), 1) := by decide +kernel
theorem dX8_signAt_31 : decode cX8_signAt 31 = .ok (.ireturn, 1) := by decide +kernel
theorem dX9_init_0 : decode cX9_init 0 = .ok (.aload_n 0, 1) := by decide +kernel
theorem dX9_init_1 : decode cX9_init 1 = .ok (.invokespecial 1, 3) := by decide +kernel
theorem dX9_init_4 : decode cX9_init 4 = .ok (.aload_n 0, 1) := by decide +kernel
theorem dX9_init_5 : decode cX9_init 5 = .ok (.new 7, 3) := by decide +kernel
theorem dX9_init_8 : decode cX9_init 8 = .ok (.dup, 1) := by decide +kernel
theorem dX9_init_9 : decode cX9_init 9 = .ok (.invokespecial 9, 3) := by decide +kernel
theorem dX9_init_12 : decode cX9_init 12 = .ok (.putfield 10, 3) := by decide +kernel
theorem dX9_init_15 : decode cX9_init 15 = .ok (.aload_n 0, 1) := by decide +kernel
theorem dX9_init_16 : decode cX9_init 16 = .ok (.new 7, 3) := by decide +kernel
theorem dX9_init_19 : decode cX9_init 19 = .ok (.dup, 1) := by decide +kernel
theorem dX9_init_20 : decode cX9_init 20 = .ok (.invokespecial 9, 3) := by decide +kernel
theorem dX9_init_23 : decode cX9_init 23 = .ok (.putfield 16, 3) := by decide +kernel
theorem dX9_init_26 : decode cX9_init 26 = .ok (.aload_n 0, 1) := by decide +kernel
theorem dX9_init_27 : decode cX9_init 27 = .ok (.new 7, 3) := by decide +kernel
theorem dX9_init_30 : decode cX9_init 30 = .ok (.dup, 1) := by decide +kernel
theorem dX9_init_31 : decode cX9_init 31 = .ok (.invokespecial 9, 3) := by decide +kernel
theorem dX9_init_34 : decode cX9_init 34 = .ok (.putfield 19, 3) := by decide +kernel
theorem dX9_init_37 : decode cX9_init 37 = .ok (.aload_n 0, 1) := by decide +kernel
theorem dX9_init_38 : decode cX9_init 38 = .ok (.new 22, 3) := by decide +kernel
theorem dX9_init_41 : decode cX9_init 41 = .ok (.dup, 1) := by decide +kernel
theorem dX9_init_42 : decode cX9_init 42 = .ok (.invokespecial 24, 3) := by decide +kernel
theorem dX9_init_45 : decode cX9_init 45 = .ok (.putfield 25, 3) := by decide +kernel
theorem dX9_init_48 : decode cX9_init 48 = .ok (.aload_n 0, 1) := by decide +kernel
theorem dX9_init_49 : decode cX9_init 49 = .ok (.new 29, 3) := by decide +kernel
theorem dX9_init_52 : decode cX9_init 52 = .ok (.dup, 1) := by decide +kernel
theorem dX9_init_53 : decode cX9_init 53 = .ok (.invokespecial 31, 3) := by decide +kernel
theorem dX9_init_56 : decode cX9_init 56 = .ok (.putfield 32, 3) := by decide +kernel
theorem dX9_init_59 : decode cX9_init 59 = .ok (.aload_n 0, 1) := by decide +kernel
theorem dX9_init_60 : decode cX9_init 60 = .ok (.new 36, 3) := by decide +kernel
theorem dX9_init_63 : decode cX9_init 63 = .ok (.dup, 1) := by decide +kernel
theorem dX9_init_64 : decode cX9_init 64 = .ok (.invokespecial 38, 3) := by decide +kernel
theorem dX9_init_67 : decode cX9_init 67 = .ok (.putfield 39, 3) := by decide +kernel
theorem dX9_init_70 : decode cX9_init 70 = .ok (.return_, 1) := by decide +kernel
theorem dX9_setPort_0 : decode cX9_setPort 0 = .ok (.iload_n 1, 1) := by decide +kernel
theorem dX9_setPort_1 : decode cX9_setPort 1 = .ok (.invokestatic 43, 3) := by decide +kernel
theorem dX9_setPort_4 : decode cX9_setPort 4 = .ok (.ifCond .ne 5, 3) := by decide +kernel
theorem dX9_setPort_7 : decode cX9_setPort 7 = .ok (.iconst (-1), 1) := by decide +kernel
theorem dX9_setPort_8 : decode cX9_setPort 8 = .ok (.ireturn, 1) := by decide +kernel
theorem dX9_setPort_9 : decode cX9_setPort 9 = .ok (.aload_n 0, 1) := by decide +kernel
theorem dX9_setPort_10 : decode cX9_setPort 10 = .ok (.getfield 10, 3) := by decide +kernel
theorem dX9_setPort_13 : decode cX9_setPort 13 = .ok (.getfield 47, 3) := by decide +kernel
theorem dX9_setPort_16 : decode cX9_setPort 16 = .ok (.iload_n 1, 1) := by decide +kernel
theorem dX9_setPort_17 : decode cX9_setPort 17 = .ok (.invokevirtual 51, 3) := by decide +kernel
theorem dX9_setPort_20 : decode cX9_setPort 20 = .ok (.iload_n 2, 1) := by decide +kernel
theorem dX9_setPort_21 : decode cX9_setPort 21 = .ok (.if_icmp .ne 6, 3) := by decide +kernel
theorem dX9_setPort_24 : decode cX9_setPort 24 = .ok (.bipush (-4), 2) := by decide +kernel
theorem dX9_setPort_26 : decode cX9_setPort 26 = .ok (.ireturn, 1) := by decide +kernel
theorem dX9_setPort_27 : decode cX9_setPort 27 = .ok (.aload_n 0, 1) := by decide +kernel
theorem dX9_setPort_28 : decode cX9_setPort 28 = .ok (.getfield 25, 3) := by decide +kernel
theorem dX9_setPort_31 : decode cX9_setPort 31 = .ok (.aload_n 0, 1) := by decide +kernel
theorem dX9_setPort_32 : decode cX9_setPort 32 = .ok (.getfield 10, 3) := by decide +kernel
theorem dX9_setPort_35 : decode cX9_setPort 35 = .ok (.invokevirtual 56, 3) := by decide +kernel
theorem dX9_setPort_38 : decode cX9_setPort 38 = .ok (.aload_n 0, 1) := by decide +kernel
theorem dX9_setPort_39 : decode cX9_setPort 39 = .ok (.getfield 10, 3) := by decide +kernel
theorem dX9_setPort_42 : decode cX9_setPort 42 = .ok (.getfield 47, 3) := by decide +kernel
theorem dX9_setPort_45 : decode cX9_setPort 45 = .ok (.iload_n 1, 1) := by decide +kernel
theorem dX9_setPort_46 : decode cX9_setPort 46 = .ok (.iload_n 2, 1) := by decide +kernel
theorem dX9_setPort_47 : decode cX9_setPort 47 = .ok (.invokevirtual 60, 3) := by decide +kernel
theorem dX9_setPort_50 : decode cX9_setPort 50 = .ok (.iload_n 2, 1) := by decide +kernel
theorem dX9_setPort_51 : decode cX9_setPort 51 = .ok (.ifCond .ne 11, 3) := by decide +kernel
theorem dX9_setPort_54 : decode cX9_setPort 54 = .ok (.aload_n 0, 1) := by decide +kernel
theorem dX9_setPort_55 : decode cX9_setPort 55 = .ok (.getfield 10, 3) := by decide +kernel
theorem dX9_setPort_58 : decode cX9_setPort 58 = .ok (.iload_n 1, 1) := by decide +kernel
theorem dX9_setPort_59 : decode cX9_setPort 59 = .ok (.invokevirtual 64, 3) := by decide +kernel
theorem dX9_setPort_62 : decode cX9_setPort 62 = .ok (.aload_n 0, 1) := by decide +kernel
theorem dX9_setPort_63 : decode cX9_setPort 63 = .ok (.getfield 10, 3) := by decide +kernel
theorem dX9_setPort_66 : decode cX9_setPort 66 = .ok (.getfield 47, 3) := by decide +kernel
theorem dX9_setPort_69 : decode cX9_setPort 69 = .ok (.invokevirtual 68, 3) := by decide +kernel
theorem dX9_setPort_72 : decode cX9_setPort 72 = .ok (.invokestatic 72, 3) := by decide +kernel
theorem dX9_setPort_75 : decode cX9_setPort 75 = .ok (.ireturn, 1) := by decide +kernel
theorem dX9_join_0 : decode cX9_join 0 = .ok (.iload_n 1, 1) := by decide +kernel
theorem dX9_join_1 : decode cX9_join 1 = .ok (.invokestatic 43, 3) := by decide +kernel
theorem dX9_join_4 : decode cX9_join 4 = .ok (.ifCond .eq 10, 3) := by decide +kernel
theorem dX9_join_7 : decode cX9_join 7 = .ok (.iload_n 2, 1) := by decide +kernel
theorem dX9_join_8 : decode cX9_join 8 = .ok (.invokestatic 43, 3) := by decide +kernel
theorem dX9_join_11 : decode cX9_join 11 = .ok (.ifCond .ne 5, 3) := by decide +kernel
theorem dX9_join_14 : decode cX9_join 14 = .ok (.iconst (-1), 1) := by decide +kernel
theorem dX9_join_15 : decode cX9_join 15 = .ok (.ireturn, 1) := by decide +kernel
theorem dX9_join_16 : decode cX9_join 16 = .ok (.iload_n 1, 1) := by decide +kernel
theorem dX9_join_17 : decode cX9_join 17 = .ok (.iload_n 2, 1) := by decide +kernel
theorem dX9_join_18 : decode cX9_join 18 = .ok (.if_icmp .ne 6, 3) := by decide +kernel
theorem dX9_join_21 : decode cX9_join 21 = .ok (.bipush (-2), 2) := by decide +kernel
theorem dX9_join_23 : decode cX9_join 23 = .ok (.ireturn, 1) := by decide +kernel
theorem dX9_join_24 : decode cX9_join 24 = .ok (.aload_n 0, 1) := by decide +kernel
theorem dX9_join_25 : decode cX9_join 25 = .ok (.getfield 10, 3) := by decide +kernel
theorem dX9_join_28 : decode cX9_join 28 = .ok (.getfield 47, 3) := by decide +kernel
theorem dX9_join_31 : decode cX9_join 31 = .ok (.iload_n 1, 1) := by decide +kernel
theorem dX9_join_32 : decode cX9_join 32 = .ok (.invokevirtual 78, 3) := by decide +kernel
theorem dX9_join_35 : decode cX9_join 35 = .ok (.bipush (-4), 2) := by decide +kernel
theorem dX9_join_37 : decode cX9_join 37 = .ok (.if_icmp .ne 19, 3) := by decide +kernel
theorem dX9_join_40 : decode cX9_join 40 = .ok (.aload_n 0, 1) := by decide +kernel
theorem dX9_join_41 : decode cX9_join 41 = .ok (.getfield 10, 3) := by decide +kernel
theorem dX9_join_44 : decode cX9_join 44 = .ok (.getfield 47, 3) := by decide +kernel
theorem dX9_join_47 : decode cX9_join 47 = .ok (.iload_n 2, 1) := by decide +kernel
theorem dX9_join_48 : decode cX9_join 48 = .ok (.invokevirtual 78, 3) := by decide +kernel
theorem dX9_join_51 : decode cX9_join 51 = .ok (.bipush (-4), 2) := by decide +kernel
end
section
theorem dX9_join_53 : decode cX9_join 53 = .ok (.if_icmp .eq 6, 3) := by decide +kernel
theorem dX9_join_56 : decode cX9_join 56 = .ok (.bipush (-3), 2) := by decide +kernel
theorem dX9_join_58 : decode cX9_join 58 = .ok (.ireturn, 1) := by decide +kernel
theorem dX9_join_59 : decode cX9_join 59 = .ok (.aload_n 0, 1) := by decide +kernel
theorem dX9_join_60 : decode cX9_join 60 = .ok (.getfield 25, 3) := by decide +kernel
theorem dX9_join_63 : decode cX9_join 63 = .ok (.aload_n 0, 1) := by decide +kernel
theorem dX9_join_64 : decode cX9_join 64 = .ok (.getfield 10, 3) := by decide +kernel
theorem dX9_join_67 : decode cX9_join 67 = .ok (.invokevirtual 56, 3) := by decide +kernel
theorem dX9_join_70 : decode cX9_join 70 = .ok (.aload_n 0, 1) := by decide +kernel
theorem dX9_join_71 : decode cX9_join 71 = .ok (.getfield 10, 3) := by decide +kernel
theorem dX9_join_74 : decode cX9_join 74 = .ok (.getfield 47, 3) := by decide +kernel
theorem dX9_join_77 : decode cX9_join 77 = .ok (.iload_n 1, 1) := by decide +kernel
theorem dX9_join_78 : decode cX9_join 78 = .ok (.iload_n 2, 1) := by decide +kernel
theorem dX9_join_79 : decode cX9_join 79 = .ok (.invokevirtual 81, 3) := by decide +kernel
theorem dX9_join_82 : decode cX9_join 82 = .ok (.aload_n 0, 1) := by decide +kernel
theorem dX9_join_83 : decode cX9_join 83 = .ok (.getfield 10, 3) := by decide +kernel
theorem dX9_join_86 : decode cX9_join 86 = .ok (.getfield 47, 3) := by decide +kernel
theorem dX9_join_89 : decode cX9_join 89 = .ok (.invokevirtual 85, 3) := by decide +kernel
theorem dX9_join_92 : decode cX9_join 92 = .ok (.ireturn, 1) := by decide +kernel
theorem dX9_part_0 : decode cX9_part 0 = .ok (.iload_n 1, 1) := by decide +kernel
theorem dX9_part_1 : decode cX9_part 1 = .ok (.invokestatic 43, 3) := by decide +kernel
theorem dX9_part_4 : decode cX9_part 4 = .ok (.ifCond .ne 5, 3) := by decide +kernel
theorem dX9_part_7 : decode cX9_part 7 = .ok (.iconst (-1), 1) := by decide +kernel
theorem dX9_part_8 : decode cX9_part 8 = .ok (.ireturn, 1) := by decide +kernel
theorem dX9_part_9 : decode cX9_part 9 = .ok (.aload_n 0, 1) := by decide +kernel
theorem dX9_part_10 : decode cX9_part 10 = .ok (.getfield 10, 3) := by decide +kernel
theorem dX9_part_13 : decode cX9_part 13 = .ok (.getfield 47, 3) := by decide +kernel
theorem dX9_part_16 : decode cX9_part 16 = .ok (.iload_n 1, 1) := by decide +kernel
theorem dX9_part_17 : decode cX9_part 17 = .ok (.invokevirtual 78, 3) := by decide +kernel
theorem dX9_part_20 : decode cX9_part 20 = .ok (.istore_n 2, 1) := by decide +kernel
theorem dX9_part_21 : decode cX9_part 21 = .ok (.iload_n 2, 1) := by decide +kernel
theorem dX9_part_22 : decode cX9_part 22 = .ok (.bipush (-4), 2) := by decide +kernel
theorem dX9_part_24 : decode cX9_part 24 = .ok (.if_icmp .ne 6, 3) := by decide +kernel
theorem dX9_part_27 : decode cX9_part 27 = .ok (.bipush (-4), 2) := by decide +kernel
theorem dX9_part_29 : decode cX9_part 29 = .ok (.ireturn, 1) := by decide +kernel
theorem dX9_part_30 : decode cX9_part 30 = .ok (.aload_n 0, 1) := by decide +kernel
theorem dX9_part_31 : decode cX9_part 31 = .ok (.getfield 25, 3) := by decide +kernel
theorem dX9_part_34 : decode cX9_part 34 = .ok (.aload_n 0, 1) := by decide +kernel
theorem dX9_part_35 : decode cX9_part 35 = .ok (.getfield 10, 3) := by decide +kernel
theorem dX9_part_38 : decode cX9_part 38 = .ok (.invokevirtual 56, 3) := by decide +kernel
theorem dX9_part_41 : decode cX9_part 41 = .ok (.aload_n 0, 1) := by decide +kernel
theorem dX9_part_42 : decode cX9_part 42 = .ok (.getfield 10, 3) := by decide +kernel
theorem dX9_part_45 : decode cX9_part 45 = .ok (.getfield 47, 3) := by decide +kernel
theorem dX9_part_48 : decode cX9_part 48 = .ok (.iload_n 1, 1) := by decide +kernel
theorem dX9_part_49 : decode cX9_part 49 = .ok (.iload_n 2, 1) := by decide +kernel
theorem dX9_part_50 : decode cX9_part 50 = .ok (.invokevirtual 88, 3) := by decide +kernel
theorem dX9_part_53 : decode cX9_part 53 = .ok (.iload_n 2, 1) := by decide +kernel
theorem dX9_part_54 : decode cX9_part 54 = .ok (.ireturn, 1) := by decide +kernel
theorem dX9_release_0 : decode cX9_release 0 = .ok (.iload_n 1, 1) := by decide +kernel
theorem dX9_release_1 : decode cX9_release 1 = .ok (.invokestatic 43, 3) := by decide +kernel
theorem dX9_release_4 : decode cX9_release 4 = .ok (.ifCond .ne 5, 3) := by decide +kernel
theorem dX9_release_7 : decode cX9_release 7 = .ok (.iconst (-1), 1) := by decide +kernel
theorem dX9_release_8 : decode cX9_release 8 = .ok (.ireturn, 1) := by decide +kernel
theorem dX9_release_9 : decode cX9_release 9 = .ok (.aload_n 0, 1) := by decide +kernel
theorem dX9_release_10 : decode cX9_release 10 = .ok (.getfield 10, 3) := by decide +kernel
theorem dX9_release_13 : decode cX9_release 13 = .ok (.getfield 47, 3) := by decide +kernel
theorem dX9_release_16 : decode cX9_release 16 = .ok (.iload_n 1, 1) := by decide +kernel
theorem dX9_release_17 : decode cX9_release 17 = .ok (.invokevirtual 91, 3) := by decide +kernel
theorem dX9_release_20 : decode cX9_release 20 = .ok (.istore_n 2, 1) := by decide +kernel
theorem dX9_release_21 : decode cX9_release 21 = .ok (.iload_n 2, 1) := by decide +kernel
theorem dX9_release_22 : decode cX9_release 22 = .ok (.ifCond .ne 6, 3) := by decide +kernel
theorem dX9_release_25 : decode cX9_release 25 = .ok (.bipush (-4), 2) := by decide +kernel
theorem dX9_release_27 : decode cX9_release 27 = .ok (.ireturn, 1) := by decide +kernel
theorem dX9_release_28 : decode cX9_release 28 = .ok (.aload_n 0, 1) := by decide +kernel
theorem dX9_release_29 : decode cX9_release 29 = .ok (.getfield 25, 3) := by decide +kernel
theorem dX9_release_32 : decode cX9_release 32 = .ok (.aload_n 0, 1) := by decide +kernel
theorem dX9_release_33 : decode cX9_release 33 = .ok (.getfield 10, 3) := by decide +kernel
theorem dX9_release_36 : decode cX9_release 36 = .ok (.invokevirtual 56, 3) := by decide +kernel
theorem dX9_release_39 : decode cX9_release 39 = .ok (.aload_n 0, 1) := by decide +kernel
theorem dX9_release_40 : decode cX9_release 40 = .ok (.getfield 10, 3) := by decide +kernel
theorem dX9_release_43 : decode cX9_release 43 = .ok (.getfield 47, 3) := by decide +kernel
theorem dX9_release_46 : decode cX9_release 46 = .ok (.iload_n 1, 1) := by decide +kernel
theorem dX9_release_47 : decode cX9_release 47 = .ok (.invokevirtual 94, 3) := by decide +kernel
theorem dX9_release_50 : decode cX9_release 50 = .ok (.iload_n 2, 1) := by decide +kernel
theorem dX9_release_51 : decode cX9_release 51 = .ok (.ireturn, 1) := by decide +kernel
theorem dX9_set_0 : decode cX9_set 0 = .ok (.iload_n 1, 1) := by decide +kernel
theorem dX9_set_1 : decode cX9_set 1 = .ok (.invokestatic 97, 3) := by decide +kernel
theorem dX9_set_4 : decode cX9_set 4 = .ok (.ifCond .eq 17, 3) := by decide +kernel
theorem dX9_set_7 : decode cX9_set 7 = .ok (.iload_n 2, 1) := by decide +kernel
theorem dX9_set_8 : decode cX9_set 8 = .ok (.iconst 1, 1) := by decide +kernel
theorem dX9_set_9 : decode cX9_set 9 = .ok (.if_icmp .lt 12, 3) := by decide +kernel
theorem dX9_set_12 : decode cX9_set 12 = .ok (.iload_n 2, 1) := by decide +kernel
theorem dX9_set_13 : decode cX9_set 13 = .ok (.getstatic 100, 3) := by decide +kernel
theorem dX9_set_16 : decode cX9_set 16 = .ok (.iload_n 1, 1) := by decide +kernel
theorem dX9_set_17 : decode cX9_set 17 = .ok (.iaload, 1) := by decide +kernel
theorem dX9_set_18 : decode cX9_set 18 = .ok (.if_icmp .le 6, 3) := by decide +kernel
theorem dX9_set_21 : decode cX9_set 21 = .ok (.bipush (-2), 2) := by decide +kernel
theorem dX9_set_23 : decode cX9_set 23 = .ok (.ireturn, 1) := by decide +kernel
theorem dX9_set_24 : decode cX9_set 24 = .ok (.aload_n 0, 1) := by decide +kernel
theorem dX9_set_25 : decode cX9_set 25 = .ok (.getfield 10, 3) := by decide +kernel
theorem dX9_set_28 : decode cX9_set 28 = .ok (.getfield 104, 3) := by decide +kernel
theorem dX9_set_31 : decode cX9_set 31 = .ok (.iload_n 1, 1) := by decide +kernel
theorem dX9_set_32 : decode cX9_set 32 = .ok (.invokevirtual 108, 3) := by decide +kernel
theorem dX9_set_35 : decode cX9_set 35 = .ok (.istore_n 3, 1) := by decide +kernel
theorem dX9_set_36 : decode cX9_set 36 = .ok (.iload_n 3, 1) := by decide +kernel
theorem dX9_set_37 : decode cX9_set 37 = .ok (.iload_n 2, 1) := by decide +kernel
theorem dX9_set_38 : decode cX9_set 38 = .ok (.if_icmp .ne 6, 3) := by decide +kernel
theorem dX9_set_41 : decode cX9_set 41 = .ok (.bipush (-4), 2) := by decide +kernel
theorem dX9_set_43 : decode cX9_set 43 = .ok (.ireturn, 1) := by decide +kernel
theorem dX9_set_44 : decode cX9_set 44 = .ok (.aload_n 0, 1) := by decide +kernel
theorem dX9_set_45 : decode cX9_set 45 = .ok (.getfield 25, 3) := by decide +kernel
theorem dX9_set_48 : decode cX9_set 48 = .ok (.aload_n 0, 1) := by decide +kernel
theorem dX9_set_49 : decode cX9_set 49 = .ok (.getfield 10, 3) := by decide +kernel
theorem dX9_set_52 : decode cX9_set 52 = .ok (.invokevirtual 56, 3) := by decide +kernel
theorem dX9_set_55 : decode cX9_set 55 = .ok (.aload_n 0, 1) := by decide +kernel
theorem dX9_set_56 : decode cX9_set 56 = .ok (.getfield 10, 3) := by decide +kernel
theorem dX9_set_59 : decode cX9_set 59 = .ok (.getfield 104, 3) := by decide +kernel
theorem dX9_set_62 : decode cX9_set 62 = .ok (.iload_n 1, 1) := by decide +kernel
theorem dX9_set_63 : decode cX9_set 63 = .ok (.iload_n 2, 1) := by decide +kernel
theorem dX9_set_64 : decode cX9_set 64 = .ok (.invokevirtual 113, 3) := by decide +kernel
theorem dX9_set_67 : decode cX9_set 67 = .ok (.iload_n 3, 1) := by decide +kernel
theorem dX9_set_68 : decode cX9_set 68 = .ok (.ireturn, 1) := by decide +kernel
theorem dX9_frame_0 : decode cX9_frame 0 = .ok (.iload_n 1, 1) := by decide +kernel
theorem dX9_frame_1 : decode cX9_frame 1 = .ok (.invokestatic 43, 3) := by decide +kernel
theorem dX9_frame_4 : decode cX9_frame 4 = .ok (.ifCond .ne 5, 3) := by decide +kernel
theorem dX9_frame_7 : decode cX9_frame 7 = .ok (.iconst (-1), 1) := by decide +kernel
theorem dX9_frame_8 : decode cX9_frame 8 = .ok (.ireturn, 1) := by decide +kernel
theorem dX9_frame_9 : decode cX9_frame 9 = .ok (.iload_n 2, 1) := by decide +kernel
theorem dX9_frame_10 : decode cX9_frame 10 = .ok (.invokestatic 116, 3) := by decide +kernel
theorem dX9_frame_13 : decode cX9_frame 13 = .ok (.ifCond .eq 21, 3) := by decide +kernel
theorem dX9_frame_16 : decode cX9_frame 16 = .ok (.iload_n 3, 1) := by decide +kernel
theorem dX9_frame_17 : decode cX9_frame 17 = .ok (.invokestatic 119, 3) := by decide +kernel
theorem dX9_frame_20 : decode cX9_frame 20 = .ok (.ifCond .eq 14, 3) := by decide +kernel
theorem dX9_frame_23 : decode cX9_frame 23 = .ok (.iload 4, 2) := by decide +kernel
theorem dX9_frame_25 : decode cX9_frame 25 = .ok (.ifCond .lt 9, 3) := by decide +kernel
theorem dX9_frame_28 : decode cX9_frame 28 = .ok (.iload 4, 2) := by decide +kernel
theorem dX9_frame_30 : decode cX9_frame 30 = .ok (.iconst 3, 1) := by decide +kernel
theorem dX9_frame_31 : decode cX9_frame 31 = .ok (.if_icmp .le 6, 3) := by decide +kernel
theorem dX9_frame_34 : decode cX9_frame 34 = .ok (.bipush (-2), 2) := by decide +kernel
theorem dX9_frame_36 : decode cX9_frame 36 = .ok (.ireturn, 1) := by decide +kernel
theorem dX9_frame_37 : decode cX9_frame 37 = .ok (.aload_n 0, 1) := by decide +kernel
theorem dX9_frame_38 : decode cX9_frame 38 = .ok (.getfield 25, 3) := by decide +kernel
theorem dX9_frame_41 : decode cX9_frame 41 = .ok (.aload_n 0, 1) := by decide +kernel
theorem dX9_frame_42 : decode cX9_frame 42 = .ok (.getfield 10, 3) := by decide +kernel
theorem dX9_frame_45 : decode cX9_frame 45 = .ok (.invokevirtual 56, 3) := by decide +kernel
theorem dX9_frame_48 : decode cX9_frame 48 = .ok (.aload_n 0, 1) := by decide +kernel
theorem dX9_frame_49 : decode cX9_frame 49 = .ok (.getfield 10, 3) := by decide +kernel
theorem dX9_frame_52 : decode cX9_frame 52 = .ok (.iload_n 1, 1) := by decide +kernel
theorem dX9_frame_53 : decode cX9_frame 53 = .ok (.iload_n 2, 1) := by decide +kernel
theorem dX9_frame_54 : decode cX9_frame 54 = .ok (.iload_n 3, 1) := by decide +kernel
theorem dX9_frame_55 : decode cX9_frame 55 = .ok (.iload 4, 2) := by decide +kernel
theorem dX9_frame_57 : decode cX9_frame 57 = .ok (.invokevirtual 122, 3) := by decide +kernel
theorem dX9_frame_60 : decode cX9_frame 60 = .ok (.ireturn, 1) := by decide +kernel
theorem dX9_forget_0 : decode cX9_forget 0 = .ok (.iload_n 1, 1) := by decide +kernel
theorem dX9_forget_1 : decode cX9_forget 1 = .ok (.invokestatic 116, 3) := by decide +kernel
theorem dX9_forget_4 : decode cX9_forget 4 = .ok (.ifCond .ne 6, 3) := by decide +kernel
theorem dX9_forget_7 : decode cX9_forget 7 = .ok (.bipush (-2), 2) := by decide +kernel
theorem dX9_forget_9 : decode cX9_forget 9 = .ok (.ireturn, 1) := by decide +kernel
theorem dX9_forget_10 : decode cX9_forget 10 = .ok (.aload_n 0, 1) := by decide +kernel
theorem dX9_forget_11 : decode cX9_forget 11 = .ok (.getfield 10, 3) := by decide +kernel
theorem dX9_forget_14 : decode cX9_forget 14 = .ok (.getfield 126, 3) := by decide +kernel
theorem dX9_forget_17 : decode cX9_forget 17 = .ok (.iload_n 1, 1) := by decide +kernel
theorem dX9_forget_18 : decode cX9_forget 18 = .ok (.invokevirtual 130, 3) := by decide +kernel
theorem dX9_forget_21 : decode cX9_forget 21 = .ok (.istore_n 2, 1) := by decide +kernel
theorem dX9_forget_22 : decode cX9_forget 22 = .ok (.iload_n 2, 1) := by decide +kernel
theorem dX9_forget_23 : decode cX9_forget 23 = .ok (.bipush (-4), 2) := by decide +kernel
theorem dX9_forget_25 : decode cX9_forget 25 = .ok (.if_icmp .ne 6, 3) := by decide +kernel
theorem dX9_forget_28 : decode cX9_forget 28 = .ok (.bipush (-4), 2) := by decide +kernel
theorem dX9_forget_30 : decode cX9_forget 30 = .ok (.ireturn, 1) := by decide +kernel
theorem dX9_forget_31 : decode cX9_forget 31 = .ok (.aload_n 0, 1) := by decide +kernel
theorem dX9_forget_32 : decode cX9_forget 32 = .ok (.getfield 25, 3) := by decide +kernel
theorem dX9_forget_35 : decode cX9_forget 35 = .ok (.aload_n 0, 1) := by decide +kernel
theorem dX9_forget_36 : decode cX9_forget 36 = .ok (.getfield 10, 3) := by decide +kernel
theorem dX9_forget_39 : decode cX9_forget 39 = .ok (.invokevirtual 56, 3) := by decide +kernel
theorem dX9_forget_42 : decode cX9_forget 42 = .ok (.aload_n 0, 1) := by decide +kernel
theorem dX9_forget_43 : decode cX9_forget 43 = .ok (.getfield 10, 3) := by decide +kernel
theorem dX9_forget_46 : decode cX9_forget 46 = .ok (.getfield 126, 3) := by decide +kernel
theorem dX9_forget_49 : decode cX9_forget 49 = .ok (.iload_n 1, 1) := by decide +kernel
theorem dX9_forget_50 : decode cX9_forget 50 = .ok (.invokevirtual 135, 3) := by decide +kernel
theorem dX9_forget_53 : decode cX9_forget 53 = .ok (.iload_n 2, 1) := by decide +kernel
theorem dX9_forget_54 : decode cX9_forget 54 = .ok (.ireturn, 1) := by decide +kernel
theorem dX9_pass_0 : decode cX9_pass 0 = .ok (.iload_n 1, 1) := by decide +kernel
theorem dX9_pass_1 : decode cX9_pass 1 = .ok (.iconst 1, 1) := by decide +kernel
theorem dX9_pass_2 : decode cX9_pass 2 = .ok (.if_icmp .lt 9, 3) := by decide +kernel
theorem dX9_pass_5 : decode cX9_pass 5 = .ok (.iload_n 1, 1) := by decide +kernel
theorem dX9_pass_6 : decode cX9_pass 6 = .ok (.bipush 10, 2) := by decide +kernel
theorem dX9_pass_8 : decode cX9_pass 8 = .ok (.if_icmp .le 6, 3) := by decide +kernel
theorem dX9_pass_11 : decode cX9_pass 11 = .ok (.bipush (-2), 2) := by decide +kernel
theorem dX9_pass_13 : decode cX9_pass 13 = .ok (.ireturn, 1) := by decide +kernel
theorem dX9_pass_14 : decode cX9_pass 14 = .ok (.aload_n 0, 1) := by decide +kernel
theorem dX9_pass_15 : decode cX9_pass 15 = .ok (.getfield 25, 3) := by decide +kernel
theorem dX9_pass_18 : decode cX9_pass 18 = .ok (.aload_n 0, 1) := by decide +kernel
theorem dX9_pass_19 : decode cX9_pass 19 = .ok (.getfield 10, 3) := by decide +kernel
theorem dX9_pass_22 : decode cX9_pass 22 = .ok (.invokevirtual 56, 3) := by decide +kernel
theorem dX9_pass_25 : decode cX9_pass 25 = .ok (.iconst 0, 1) := by decide +kernel
theorem dX9_pass_26 : decode cX9_pass 26 = .ok (.istore_n 2, 1) := by decide +kernel
theorem dX9_pass_27 : decode cX9_pass 27 = .ok (.iconst 0, 1) := by decide +kernel
theorem dX9_pass_28 : decode cX9_pass 28 = .ok (.istore_n 3, 1) := by decide +kernel
theorem dX9_pass_29 : decode cX9_pass 29 = .ok (.iload_n 3, 1) := by decide +kernel
theorem dX9_pass_30 : decode cX9_pass 30 = .ok (.iload_n 1, 1) := by decide +kernel
theorem dX9_pass_31 : decode cX9_pass 31 = .ok (.if_icmp .ge 42, 3) := by decide +kernel
theorem dX9_pass_34 : decode cX9_pass 34 = .ok (.iload_n 2, 1) := by decide +kernel
theorem dX9_pass_35 : decode cX9_pass 35 = .ok (.aload_n 0, 1) := by decide +kernel
theorem dX9_pass_36 : decode cX9_pass 36 = .ok (.getfield 10, 3) := by decide +kernel
theorem dX9_pass_39 : decode cX9_pass 39 = .ok (.aload_n 0, 1) := by decide +kernel
theorem dX9_pass_40 : decode cX9_pass 40 = .ok (.getfield 39, 3) := by decide +kernel
theorem dX9_pass_43 : decode cX9_pass 43 = .ok (.invokevirtual 138, 3) := by decide +kernel
theorem dX9_pass_46 : decode cX9_pass 46 = .ok (.iadd, 1) := by decide +kernel
theorem dX9_pass_47 : decode cX9_pass 47 = .ok (.istore_n 2, 1) := by decide +kernel
theorem dX9_pass_48 : decode cX9_pass 48 = .ok (.aload_n 0, 1) := by decide +kernel
theorem dX9_pass_49 : decode cX9_pass 49 = .ok (.getfield 10, 3) := by decide +kernel
theorem dX9_pass_52 : decode cX9_pass 52 = .ok (.aload_n 0, 1) := by decide +kernel
theorem dX9_pass_53 : decode cX9_pass 53 = .ok (.getfield 39, 3) := by decide +kernel
theorem dX9_pass_56 : decode cX9_pass 56 = .ok (.invokevirtual 142, 3) := by decide +kernel
theorem dX9_pass_59 : decode cX9_pass 59 = .ok (.pop, 1) := by decide +kernel
theorem dX9_pass_60 : decode cX9_pass 60 = .ok (.aload_n 0, 1) := by decide +kernel
theorem dX9_pass_61 : decode cX9_pass 61 = .ok (.getfield 10, 3) := by decide +kernel
theorem dX9_pass_64 : decode cX9_pass 64 = .ok (.invokevirtual 145, 3) := by decide +kernel
theorem dX9_pass_67 : decode cX9_pass 67 = .ok (.iinc 3 1, 3) := by decide +kernel
theorem dX9_pass_70 : decode cX9_pass 70 = .ok (.goto (-41), 3) := by decide +kernel
theorem dX9_pass_73 : decode cX9_pass 73 = .ok (.iload_n 2, 1) := by decide +kernel
theorem dX9_pass_74 : decode cX9_pass 74 = .ok (.ireturn, 1) := by decide +kernel
theorem dX9_type_0 : decode cX9_type 0 = .ok (.aload_n 0, 1) := by decide +kernel
theorem dX9_type_1 : decode cX9_type 1 = .ok (.getfield 32, 3) := by decide +kernel
theorem dX9_type_4 : decode cX9_type 4 = .ok (.iload_n 1, 1) := by decide +kernel
theorem dX9_type_5 : decode cX9_type 5 = .ok (.invokevirtual 148, 3) := by decide +kernel
theorem dX9_type_8 : decode cX9_type 8 = .ok (.ifCond .eq 13, 3) := by decide +kernel
theorem dX9_type_11 : decode cX9_type 11 = .ok (.aload_n 0, 1) := by decide +kernel
theorem dX9_type_12 : decode cX9_type 12 = .ok (.getfield 32, 3) := by decide +kernel
theorem dX9_type_15 : decode cX9_type 15 = .ok (.getfield 152, 3) := by decide +kernel
theorem dX9_type_18 : decode cX9_type 18 = .ok (.goto 5, 3) := by decide +kernel
theorem dX9_type_21 : decode cX9_type 21 = .ok (.bipush (-3), 2) := by decide +kernel
theorem dX9_type_23 : decode cX9_type 23 = .ok (.ireturn, 1) := by decide +kernel
theorem dX9_clearText_0 : decode cX9_clearText 0 = .ok (.aload_n 0, 1) := by decide +kernel
theorem dX9_clearText_1 : decode cX9_clearText 1 = .ok (.getfield 32, 3) := by decide +kernel
theorem dX9_clearText_4 : decode cX9_clearText 4 = .ok (.getfield 152, 3) := by decide +kernel
theorem dX9_clearText_7 : decode cX9_clearText 7 = .ok (.istore_n 1, 1) := by decide +kernel
theorem dX9_clearText_8 : decode cX9_clearText 8 = .ok (.aload_n 0, 1) := by decide +kernel
theorem dX9_clearText_9 : decode cX9_clearText 9 = .ok (.getfield 32, 3) := by decide +kernel
theorem dX9_clearText_12 : decode cX9_clearText 12 = .ok (.iconst 0, 1) := by decide +kernel
theorem dX9_clearText_13 : decode cX9_clearText 13 = .ok (.putfield 152, 3) := by decide +kernel
theorem dX9_clearText_16 : decode cX9_clearText 16 = .ok (.iload_n 1, 1) := by decide +kernel
theorem dX9_clearText_17 : decode cX9_clearText 17 = .ok (.ireturn, 1) := by decide +kernel
theorem dX9_readFrames_0 : decode cX9_readFrames 0 = .ok (.aload_n 0, 1) := by decide +kernel
theorem dX9_readFrames_1 : decode cX9_readFrames 1 = .ok (.getfield 32, 3) := by decide +kernel
theorem dX9_readFrames_4 : decode cX9_readFrames 4 = .ok (.aload_n 0, 1) := by decide +kernel
theorem dX9_readFrames_5 : decode cX9_readFrames 5 = .ok (.getfield 39, 3) := by decide +kernel
theorem dX9_readFrames_8 : decode cX9_readFrames 8 = .ok (.invokevirtual 156, 3) := by decide +kernel
theorem dX9_readFrames_11 : decode cX9_readFrames 11 = .ok (.istore_n 1, 1) := by decide +kernel
theorem dX9_readFrames_12 : decode cX9_readFrames 12 = .ok (.iload_n 1, 1) := by decide +kernel
theorem dX9_readFrames_13 : decode cX9_readFrames 13 = .ok (.iconst (-1), 1) := by decide +kernel
theorem dX9_readFrames_14 : decode cX9_readFrames 14 = .ok (.if_icmp .eq 8, 3) := by decide +kernel
theorem dX9_readFrames_17 : decode cX9_readFrames 17 = .ok (.bipush (-100), 2) := by decide +kernel
theorem dX9_readFrames_19 : decode cX9_readFrames 19 = .ok (.iload_n 1, 1) := by decide +kernel
theorem dX9_readFrames_20 : decode cX9_readFrames 20 = .ok (.isub, 1) := by decide +kernel
theorem dX9_readFrames_21 : decode cX9_readFrames 21 = .ok (.ireturn, 1) := by decide +kernel
theorem dX9_readFrames_22 : decode cX9_readFrames 22 = .ok (.aload_n 0, 1) := by decide +kernel
theorem dX9_readFrames_23 : decode cX9_readFrames 23 = .ok (.getfield 25, 3) := by decide +kernel
theorem dX9_readFrames_26 : decode cX9_readFrames 26 = .ok (.aload_n 0, 1) := by decide +kernel
theorem dX9_readFrames_27 : decode cX9_readFrames 27 = .ok (.getfield 10, 3) := by decide +kernel
theorem dX9_readFrames_30 : decode cX9_readFrames 30 = .ok (.invokevirtual 56, 3) := by decide +kernel
theorem dX9_readFrames_33 : decode cX9_readFrames 33 = .ok (.aload_n 0, 1) := by decide +kernel
theorem dX9_readFrames_34 : decode cX9_readFrames 34 = .ok (.getfield 10, 3) := by decide +kernel
theorem dX9_readFrames_37 : decode cX9_readFrames 37 = .ok (.aload_n 0, 1) := by decide +kernel
theorem dX9_readFrames_38 : decode cX9_readFrames 38 = .ok (.getfield 39, 3) := by decide +kernel
theorem dX9_readFrames_41 : decode cX9_readFrames 41 = .ok (.invokevirtual 142, 3) := by decide +kernel
theorem dX9_readFrames_44 : decode cX9_readFrames 44 = .ok (.ireturn, 1) := by decide +kernel
theorem dX9_undo_0 : decode cX9_undo 0 = .ok (.aload_n 0, 1) := by decide +kernel
theorem dX9_undo_1 : decode cX9_undo 1 = .ok (.getfield 25, 3) := by decide +kernel
theorem dX9_undo_4 : decode cX9_undo 4 = .ok (.aload_n 0, 1) := by decide +kernel
theorem dX9_undo_5 : decode cX9_undo 5 = .ok (.getfield 10, 3) := by decide +kernel
theorem dX9_undo_8 : decode cX9_undo 8 = .ok (.invokevirtual 159, 3) := by decide +kernel
theorem dX9_undo_11 : decode cX9_undo 11 = .ok (.ifCond .eq 13, 3) := by decide +kernel
theorem dX9_undo_14 : decode cX9_undo 14 = .ok (.aload_n 0, 1) := by decide +kernel
theorem dX9_undo_15 : decode cX9_undo 15 = .ok (.getfield 25, 3) := by decide +kernel
theorem dX9_undo_18 : decode cX9_undo 18 = .ok (.getfield 163, 3) := by decide +kernel
theorem dX9_undo_21 : decode cX9_undo 21 = .ok (.goto 5, 3) := by decide +kernel
theorem dX9_undo_24 : decode cX9_undo 24 = .ok (.bipush (-4), 2) := by decide +kernel
theorem dX9_undo_26 : decode cX9_undo 26 = .ok (.ireturn, 1) := by decide +kernel
theorem dX9_keep_0 : decode cX9_keep 0 = .ok (.aload_n 0, 1) := by decide +kernel
theorem dX9_keep_1 : decode cX9_keep 1 = .ok (.getfield 16, 3) := by decide +kernel
theorem dX9_keep_4 : decode cX9_keep 4 = .ok (.aload_n 0, 1) := by decide +kernel
theorem dX9_keep_5 : decode cX9_keep 5 = .ok (.getfield 10, 3) := by decide +kernel
theorem dX9_keep_8 : decode cX9_keep 8 = .ok (.invokevirtual 166, 3) := by decide +kernel
theorem dX9_keep_11 : decode cX9_keep 11 = .ok (.aload_n 0, 1) := by decide +kernel
theorem dX9_keep_12 : decode cX9_keep 12 = .ok (.iconst 1, 1) := by decide +kernel
theorem dX9_keep_13 : decode cX9_keep 13 = .ok (.putfield 169, 3) := by decide +kernel
theorem dX9_keep_16 : decode cX9_keep 16 = .ok (.aload_n 0, 1) := by decide +kernel
theorem dX9_keep_17 : decode cX9_keep 17 = .ok (.getfield 10, 3) := by decide +kernel
theorem dX9_keep_20 : decode cX9_keep 20 = .ok (.getfield 173, 3) := by decide +kernel
theorem dX9_keep_23 : decode cX9_keep 23 = .ok (.ireturn, 1) := by decide +kernel
theorem dX9_restore_0 : decode cX9_restore 0 = .ok (.aload_n 0, 1) := by decide +kernel
theorem dX9_restore_1 : decode cX9_restore 1 = .ok (.getfield 169, 3) := by decide +kernel
theorem dX9_restore_4 : decode cX9_restore 4 = .ok (.ifCond .ne 6, 3) := by decide +kernel
theorem dX9_restore_7 : decode cX9_restore 7 = .ok (.bipush (-4), 2) := by decide +kernel
theorem dX9_restore_9 : decode cX9_restore 9 = .ok (.ireturn, 1) := by decide +kernel
theorem dX9_restore_10 : decode cX9_restore 10 = .ok (.aload_n 0, 1) := by decide +kernel
theorem dX9_restore_11 : decode cX9_restore 11 = .ok (.getfield 25, 3) := by decide +kernel
theorem dX9_restore_14 : decode cX9_restore 14 = .ok (.aload_n 0, 1) := by decide +kernel
theorem dX9_restore_15 : decode cX9_restore 15 = .ok (.getfield 10, 3) := by decide +kernel
theorem dX9_restore_18 : decode cX9_restore 18 = .ok (.invokevirtual 56, 3) := by decide +kernel
theorem dX9_restore_21 : decode cX9_restore 21 = .ok (.aload_n 0, 1) := by decide +kernel
theorem dX9_restore_22 : decode cX9_restore 22 = .ok (.getfield 10, 3) := by decide +kernel
theorem dX9_restore_25 : decode cX9_restore 25 = .ok (.aload_n 0, 1) := by decide +kernel
theorem dX9_restore_26 : decode cX9_restore 26 = .ok (.getfield 16, 3) := by decide +kernel
theorem dX9_restore_29 : decode cX9_restore 29 = .ok (.invokevirtual 166, 3) := by decide +kernel
theorem dX9_restore_32 : decode cX9_restore 32 = .ok (.aload_n 0, 1) := by decide +kernel
theorem dX9_restore_33 : decode cX9_restore 33 = .ok (.getfield 10, 3) := by decide +kernel
theorem dX9_restore_36 : decode cX9_restore 36 = .ok (.getfield 173, 3) := by decide +kernel
theorem dX9_restore_39 : decode cX9_restore 39 = .ok (.ireturn, 1) := by decide +kernel
theorem dX9_port_0 : decode cX9_port 0 = .ok (.iload_n 1, 1) := by decide +kernel
theorem dX9_port_1 : decode cX9_port 1 = .ok (.invokestatic 43, 3) := by decide +kernel
theorem dX9_port_4 : decode cX9_port 4 = .ok (.ifCond .ne 5, 3) := by decide +kernel
theorem dX9_port_7 : decode cX9_port 7 = .ok (.iconst (-1), 1) := by decide +kernel
theorem dX9_port_8 : decode cX9_port 8 = .ok (.ireturn, 1) := by decide +kernel
theorem dX9_port_9 : decode cX9_port 9 = .ok (.iload_n 2, 1) := by decide +kernel
theorem dX9_port_10 : decode cX9_port 10 = .ok (.tableswitch 167 0 7 #[46, 66, 86, 98, 113, 125, 140, 152], 46) := by decide +kernel
theorem dX9_port_56 : decode cX9_port 56 = .ok (.aload_n 0, 1) := by decide +kernel
theorem dX9_port_57 : decode cX9_port 57 = .ok (.getfield 10, 3) := by decide +kernel
theorem dX9_port_60 : decode cX9_port 60 = .ok (.getfield 47, 3) := by decide +kernel
theorem dX9_port_63 : decode cX9_port 63 = .ok (.iload_n 1, 1) := by decide +kernel
theorem dX9_port_64 : decode cX9_port 64 = .ok (.invokevirtual 51, 3) := by decide +kernel
theorem dX9_port_67 : decode cX9_port 67 = .ok (.ifCond .eq 7, 3) := by decide +kernel
theorem dX9_port_70 : decode cX9_port 70 = .ok (.iconst 1, 1) := by decide +kernel
theorem dX9_port_71 : decode cX9_port 71 = .ok (.goto 4, 3) := by decide +kernel
theorem dX9_port_74 : decode cX9_port 74 = .ok (.iconst 0, 1) := by decide +kernel
theorem dX9_port_75 : decode cX9_port 75 = .ok (.ireturn, 1) := by decide +kernel
theorem dX9_port_76 : decode cX9_port 76 = .ok (.aload_n 0, 1) := by decide +kernel
theorem dX9_port_77 : decode cX9_port 77 = .ok (.getfield 10, 3) := by decide +kernel
theorem dX9_port_80 : decode cX9_port 80 = .ok (.getfield 47, 3) := by decide +kernel
theorem dX9_port_83 : decode cX9_port 83 = .ok (.iload_n 1, 1) := by decide +kernel
theorem dX9_port_84 : decode cX9_port 84 = .ok (.invokevirtual 176, 3) := by decide +kernel
theorem dX9_port_87 : decode cX9_port 87 = .ok (.ifCond .eq 7, 3) := by decide +kernel
theorem dX9_port_90 : decode cX9_port 90 = .ok (.iconst 1, 1) := by decide +kernel
theorem dX9_port_91 : decode cX9_port 91 = .ok (.goto 4, 3) := by decide +kernel
theorem dX9_port_94 : decode cX9_port 94 = .ok (.iconst 0, 1) := by decide +kernel
theorem dX9_port_95 : decode cX9_port 95 = .ok (.ireturn, 1) := by decide +kernel
theorem dX9_port_96 : decode cX9_port 96 = .ok (.aload_n 0, 1) := by decide +kernel
theorem dX9_port_97 : decode cX9_port 97 = .ok (.getfield 10, 3) := by decide +kernel
theorem dX9_port_100 : decode cX9_port 100 = .ok (.getfield 47, 3) := by decide +kernel
theorem dX9_port_103 : decode cX9_port 103 = .ok (.iload_n 1, 1) := by decide +kernel
theorem dX9_port_104 : decode cX9_port 104 = .ok (.invokevirtual 91, 3) := by decide +kernel
theorem dX9_port_107 : decode cX9_port 107 = .ok (.ireturn, 1) := by decide +kernel
theorem dX9_port_108 : decode cX9_port 108 = .ok (.aload_n 0, 1) := by decide +kernel
theorem dX9_port_109 : decode cX9_port 109 = .ok (.getfield 10, 3) := by decide +kernel
theorem dX9_port_112 : decode cX9_port 112 = .ok (.getfield 47, 3) := by decide +kernel
theorem dX9_port_115 : decode cX9_port 115 = .ok (.getfield 179, 3) := by decide +kernel
theorem dX9_port_118 : decode cX9_port 118 = .ok (.iload_n 1, 1) := by decide +kernel
theorem dX9_port_119 : decode cX9_port 119 = .ok (.invokevirtual 108, 3) := by decide +kernel
theorem dX9_port_122 : decode cX9_port 122 = .ok (.ireturn, 1) := by decide +kernel
theorem dX9_port_123 : decode cX9_port 123 = .ok (.aload_n 0, 1) := by decide +kernel
theorem dX9_port_124 : decode cX9_port 124 = .ok (.getfield 10, 3) := by decide +kernel
theorem dX9_port_127 : decode cX9_port 127 = .ok (.getfield 47, 3) := by decide +kernel
theorem dX9_port_130 : decode cX9_port 130 = .ok (.iload_n 1, 1) := by decide +kernel
theorem dX9_port_131 : decode cX9_port 131 = .ok (.invokevirtual 78, 3) := by decide +kernel
theorem dX9_port_134 : decode cX9_port 134 = .ok (.ireturn, 1) := by decide +kernel
theorem dX9_port_135 : decode cX9_port 135 = .ok (.aload_n 0, 1) := by decide +kernel
theorem dX9_port_136 : decode cX9_port 136 = .ok (.getfield 10, 3) := by decide +kernel
theorem dX9_port_139 : decode cX9_port 139 = .ok (.getfield 182, 3) := by decide +kernel
theorem dX9_port_142 : decode cX9_port 142 = .ok (.getfield 186, 3) := by decide +kernel
theorem dX9_port_145 : decode cX9_port 145 = .ok (.iload_n 1, 1) := by decide +kernel
theorem dX9_port_146 : decode cX9_port 146 = .ok (.invokevirtual 108, 3) := by decide +kernel
theorem dX9_port_149 : decode cX9_port 149 = .ok (.ireturn, 1) := by decide +kernel
theorem dX9_port_150 : decode cX9_port 150 = .ok (.aload_n 0, 1) := by decide +kernel
theorem dX9_port_151 : decode cX9_port 151 = .ok (.getfield 10, 3) := by decide +kernel
theorem dX9_port_154 : decode cX9_port 154 = .ok (.getfield 126, 3) := by decide +kernel
theorem dX9_port_157 : decode cX9_port 157 = .ok (.iload_n 1, 1) := by decide +kernel
theorem dX9_port_158 : decode cX9_port 158 = .ok (.invokevirtual 191, 3) := by decide +kernel
theorem dX9_port_161 : decode cX9_port 161 = .ok (.ireturn, 1) := by decide +kernel
theorem dX9_port_162 : decode cX9_port 162 = .ok (.aload_n 0, 1) := by decide +kernel
theorem dX9_port_163 : decode cX9_port 163 = .ok (.getfield 10, 3) := by decide +kernel
theorem dX9_port_166 : decode cX9_port 166 = .ok (.getfield 47, 3) := by decide +kernel
theorem dX9_port_169 : decode cX9_port 169 = .ok (.getfield 194, 3) := by decide +kernel
theorem dX9_port_172 : decode cX9_port 172 = .ok (.iload_n 1, 1) := by decide +kernel
theorem dX9_port_173 : decode cX9_port 173 = .ok (.invokevirtual 108, 3) := by decide +kernel
theorem dX9_port_176 : decode cX9_port 176 = .ok (.ireturn, 1) := by decide +kernel
theorem dX9_port_177 : decode cX9_port 177 = .ok (.bipush (-2), 2) := by decide +kernel
theorem dX9_port_179 : decode cX9_port 179 = .ok (.ireturn, 1) := by decide +kernel
theorem dX9_account_0 : decode cX9_account 0 = .ok (.iload_n 1, 1) := by decide +kernel
theorem dX9_account_1 : decode cX9_account 1 = .ok (.invokestatic 43, 3) := by decide +kernel
theorem dX9_account_4 : decode cX9_account 4 = .ok (.ifCond .ne 5, 3) := by decide +kernel
theorem dX9_account_7 : decode cX9_account 7 = .ok (.iconst (-1), 1) := by decide +kernel
theorem dX9_account_8 : decode cX9_account 8 = .ok (.ireturn, 1) := by decide +kernel
theorem dX9_account_9 : decode cX9_account 9 = .ok (.iload_n 2, 1) := by decide +kernel
theorem dX9_account_10 : decode cX9_account 10 = .ok (.ifCond .lt 9, 3) := by decide +kernel
theorem dX9_account_13 : decode cX9_account 13 = .ok (.iload_n 2, 1) := by decide +kernel
theorem dX9_account_14 : decode cX9_account 14 = .ok (.bipush 11, 2) := by decide +kernel
theorem dX9_account_16 : decode cX9_account 16 = .ok (.if_icmp .lt 6, 3) := by decide +kernel
theorem dX9_account_19 : decode cX9_account 19 = .ok (.bipush (-2), 2) := by decide +kernel
theorem dX9_account_21 : decode cX9_account 21 = .ok (.ireturn, 1) := by decide +kernel
theorem dX9_account_22 : decode cX9_account 22 = .ok (.aload_n 0, 1) := by decide +kernel
theorem dX9_account_23 : decode cX9_account 23 = .ok (.getfield 10, 3) := by decide +kernel
theorem dX9_account_26 : decode cX9_account 26 = .ok (.getfield 47, 3) := by decide +kernel
theorem dX9_account_29 : decode cX9_account 29 = .ok (.iload_n 1, 1) := by decide +kernel
theorem dX9_account_30 : decode cX9_account 30 = .ok (.iload_n 2, 1) := by decide +kernel
theorem dX9_account_31 : decode cX9_account 31 = .ok (.invokevirtual 197, 3) := by decide +kernel
theorem dX9_account_34 : decode cX9_account 34 = .ok (.ireturn, 1) := by decide +kernel
theorem dX9_entry_0 : decode cX9_entry 0 = .ok (.iload_n 1, 1) := by decide +kernel
theorem dX9_entry_1 : decode cX9_entry 1 = .ok (.ifCond .lt 12, 3) := by decide +kernel
theorem dX9_entry_4 : decode cX9_entry 4 = .ok (.iload_n 2, 1) := by decide +kernel
theorem dX9_entry_5 : decode cX9_entry 5 = .ok (.ifCond .lt 8, 3) := by decide +kernel
theorem dX9_entry_8 : decode cX9_entry 8 = .ok (.iload_n 2, 1) := by decide +kernel
theorem dX9_entry_9 : decode cX9_entry 9 = .ok (.iconst 3, 1) := by decide +kernel
theorem dX9_entry_10 : decode cX9_entry 10 = .ok (.if_icmp .le 6, 3) := by decide +kernel
theorem dX9_entry_13 : decode cX9_entry 13 = .ok (.bipush (-2), 2) := by decide +kernel
theorem dX9_entry_15 : decode cX9_entry 15 = .ok (.ireturn, 1) := by decide +kernel
theorem dX9_entry_16 : decode cX9_entry 16 = .ok (.iload_n 1, 1) := by decide +kernel
theorem dX9_entry_17 : decode cX9_entry 17 = .ok (.aload_n 0, 1) := by decide +kernel
theorem dX9_entry_18 : decode cX9_entry 18 = .ok (.getfield 10, 3) := by decide +kernel
theorem dX9_entry_21 : decode cX9_entry 21 = .ok (.getfield 126, 3) := by decide +kernel
theorem dX9_entry_24 : decode cX9_entry 24 = .ok (.getfield 201, 3) := by decide +kernel
theorem dX9_entry_27 : decode cX9_entry 27 = .ok (.if_icmp .lt 6, 3) := by decide +kernel
theorem dX9_entry_30 : decode cX9_entry 30 = .ok (.bipush (-4), 2) := by decide +kernel
theorem dX9_entry_32 : decode cX9_entry 32 = .ok (.ireturn, 1) := by decide +kernel
theorem dX9_entry_33 : decode cX9_entry 33 = .ok (.aload_n 0, 1) := by decide +kernel
theorem dX9_entry_34 : decode cX9_entry 34 = .ok (.getfield 10, 3) := by decide +kernel
theorem dX9_entry_37 : decode cX9_entry 37 = .ok (.getfield 126, 3) := by decide +kernel
theorem dX9_entry_40 : decode cX9_entry 40 = .ok (.iload_n 1, 1) := by decide +kernel
theorem dX9_entry_41 : decode cX9_entry 41 = .ok (.invokevirtual 202, 3) := by decide +kernel
theorem dX9_entry_44 : decode cX9_entry 44 = .ok (.istore_n 3, 1) := by decide +kernel
theorem dX9_entry_45 : decode cX9_entry 45 = .ok (.iload_n 2, 1) := by decide +kernel
theorem dX9_entry_46 : decode cX9_entry 46 = .ok (.tableswitch 63 0 2 #[26, 28, 40], 26) := by decide +kernel
theorem dX9_entry_72 : decode cX9_entry 72 = .ok (.iload_n 3, 1) := by decide +kernel
theorem dX9_entry_73 : decode cX9_entry 73 = .ok (.ireturn, 1) := by decide +kernel
theorem dX9_entry_74 : decode cX9_entry 74 = .ok (.aload_n 0, 1) := by decide +kernel
theorem dX9_entry_75 : decode cX9_entry 75 = .ok (.getfield 10, 3) := by decide +kernel
theorem dX9_entry_78 : decode cX9_entry 78 = .ok (.getfield 126, 3) := by decide +kernel
theorem dX9_entry_81 : decode cX9_entry 81 = .ok (.iload_n 3, 1) := by decide +kernel
theorem dX9_entry_82 : decode cX9_entry 82 = .ok (.invokevirtual 130, 3) := by decide +kernel
theorem dX9_entry_85 : decode cX9_entry 85 = .ok (.ireturn, 1) := by decide +kernel
theorem dX9_entry_86 : decode cX9_entry 86 = .ok (.aload_n 0, 1) := by decide +kernel
theorem dX9_entry_87 : decode cX9_entry 87 = .ok (.getfield 10, 3) := by decide +kernel
theorem dX9_entry_90 : decode cX9_entry 90 = .ok (.getfield 173, 3) := by decide +kernel
theorem dX9_entry_93 : decode cX9_entry 93 = .ok (.aload_n 0, 1) := by decide +kernel
theorem dX9_entry_94 : decode cX9_entry 94 = .ok (.getfield 10, 3) := by decide +kernel
theorem dX9_entry_97 : decode cX9_entry 97 = .ok (.getfield 126, 3) := by decide +kernel
theorem dX9_entry_100 : decode cX9_entry 100 = .ok (.getfield 205, 3) := by decide +kernel
theorem dX9_entry_103 : decode cX9_entry 103 = .ok (.iload_n 3, 1) := by decide +kernel
theorem dX9_entry_104 : decode cX9_entry 104 = .ok (.invokevirtual 108, 3) := by decide +kernel
theorem dX9_entry_107 : decode cX9_entry 107 = .ok (.isub, 1) := by decide +kernel
theorem dX9_entry_108 : decode cX9_entry 108 = .ok (.ireturn, 1) := by decide +kernel
theorem dX9_entry_109 : decode cX9_entry 109 = .ok (.aload_n 0, 1) := by decide +kernel
theorem dX9_entry_110 : decode cX9_entry 110 = .ok (.getfield 10, 3) := by decide +kernel
theorem dX9_entry_113 : decode cX9_entry 113 = .ok (.getfield 208, 3) := by decide +kernel
theorem dX9_entry_116 : decode cX9_entry 116 = .ok (.iload_n 3, 1) := by decide +kernel
theorem dX9_entry_117 : decode cX9_entry 117 = .ok (.invokevirtual 212, 3) := by decide +kernel
theorem dX9_entry_120 : decode cX9_entry 120 = .ok (.ireturn, 1) := by decide +kernel
theorem dX9_where_0 : decode cX9_where 0 = .ok (.iload_n 1, 1) := by decide +kernel
theorem dX9_where_1 : decode cX9_where 1 = .ok (.invokestatic 116, 3) := by decide +kernel
theorem dX9_where_4 : decode cX9_where 4 = .ok (.ifCond .ne 6, 3) := by decide +kernel
theorem dX9_where_7 : decode cX9_where 7 = .ok (.bipush (-2), 2) := by decide +kernel
theorem dX9_where_9 : decode cX9_where 9 = .ok (.ireturn, 1) := by decide +kernel
theorem dX9_where_10 : decode cX9_where 10 = .ok (.aload_n 0, 1) := by decide +kernel
theorem dX9_where_11 : decode cX9_where 11 = .ok (.getfield 10, 3) := by decide +kernel
theorem dX9_where_14 : decode cX9_where 14 = .ok (.getfield 126, 3) := by decide +kernel
theorem dX9_where_17 : decode cX9_where 17 = .ok (.iload_n 1, 1) := by decide +kernel
theorem dX9_where_18 : decode cX9_where 18 = .ok (.invokevirtual 130, 3) := by decide +kernel
theorem dX9_where_21 : decode cX9_where 21 = .ok (.ireturn, 1) := by decide +kernel
theorem dX9_queued_0 : decode cX9_queued 0 = .ok (.iload_n 1, 1) := by decide +kernel
theorem dX9_queued_1 : decode cX9_queued 1 = .ok (.invokestatic 43, 3) := by decide +kernel
theorem dX9_queued_4 : decode cX9_queued 4 = .ok (.ifCond .ne 5, 3) := by decide +kernel
theorem dX9_queued_7 : decode cX9_queued 7 = .ok (.iconst (-1), 1) := by decide +kernel
theorem dX9_queued_8 : decode cX9_queued 8 = .ok (.ireturn, 1) := by decide +kernel
theorem dX9_queued_9 : decode cX9_queued 9 = .ok (.iload_n 2, 1) := by decide +kernel
theorem dX9_queued_10 : decode cX9_queued 10 = .ok (.ifCond .lt 12, 3) := by decide +kernel
theorem dX9_queued_13 : decode cX9_queued 13 = .ok (.iload_n 3, 1) := by decide +kernel
theorem dX9_queued_14 : decode cX9_queued 14 = .ok (.ifCond .lt 8, 3) := by decide +kernel
theorem dX9_queued_17 : decode cX9_queued 17 = .ok (.iload_n 3, 1) := by decide +kernel
theorem dX9_queued_18 : decode cX9_queued 18 = .ok (.iconst 4, 1) := by decide +kernel
theorem dX9_queued_19 : decode cX9_queued 19 = .ok (.if_icmp .lt 6, 3) := by decide +kernel
theorem dX9_queued_22 : decode cX9_queued 22 = .ok (.bipush (-2), 2) := by decide +kernel
theorem dX9_queued_24 : decode cX9_queued 24 = .ok (.ireturn, 1) := by decide +kernel
theorem dX9_queued_25 : decode cX9_queued 25 = .ok (.iload_n 2, 1) := by decide +kernel
theorem dX9_queued_26 : decode cX9_queued 26 = .ok (.aload_n 0, 1) := by decide +kernel
theorem dX9_queued_27 : decode cX9_queued 27 = .ok (.getfield 10, 3) := by decide +kernel
theorem dX9_queued_30 : decode cX9_queued 30 = .ok (.getfield 182, 3) := by decide +kernel
theorem dX9_queued_33 : decode cX9_queued 33 = .ok (.getfield 186, 3) := by decide +kernel
theorem dX9_queued_36 : decode cX9_queued 36 = .ok (.iload_n 1, 1) := by decide +kernel
theorem dX9_queued_37 : decode cX9_queued 37 = .ok (.invokevirtual 108, 3) := by decide +kernel
theorem dX9_queued_40 : decode cX9_queued 40 = .ok (.if_icmp .lt 6, 3) := by decide +kernel
theorem dX9_queued_43 : decode cX9_queued 43 = .ok (.bipush (-4), 2) := by decide +kernel
theorem dX9_queued_45 : decode cX9_queued 45 = .ok (.ireturn, 1) := by decide +kernel
theorem dX9_queued_46 : decode cX9_queued 46 = .ok (.aload_n 0, 1) := by decide +kernel
theorem dX9_queued_47 : decode cX9_queued 47 = .ok (.getfield 10, 3) := by decide +kernel
theorem dX9_queued_50 : decode cX9_queued 50 = .ok (.getfield 182, 3) := by decide +kernel
theorem dX9_queued_53 : decode cX9_queued 53 = .ok (.iload_n 1, 1) := by decide +kernel
theorem dX9_queued_54 : decode cX9_queued 54 = .ok (.iload_n 2, 1) := by decide +kernel
theorem dX9_queued_55 : decode cX9_queued 55 = .ok (.iload_n 3, 1) := by decide +kernel
theorem dX9_queued_56 : decode cX9_queued 56 = .ok (.invokevirtual 217, 3) := by decide +kernel
theorem dX9_queued_59 : decode cX9_queued 59 = .ok (.ireturn, 1) := by decide +kernel
theorem dX9_wouldGo_0 : decode cX9_wouldGo 0 = .ok (.iload_n 1, 1) := by decide +kernel
theorem dX9_wouldGo_1 : decode cX9_wouldGo 1 = .ok (.invokestatic 43, 3) := by decide +kernel
theorem dX9_wouldGo_4 : decode cX9_wouldGo 4 = .ok (.ifCond .ne 5, 3) := by decide +kernel
theorem dX9_wouldGo_7 : decode cX9_wouldGo 7 = .ok (.iconst (-1), 1) := by decide +kernel
theorem dX9_wouldGo_8 : decode cX9_wouldGo 8 = .ok (.ireturn, 1) := by decide +kernel
theorem dX9_wouldGo_9 : decode cX9_wouldGo 9 = .ok (.iload_n 2, 1) := by decide +kernel
theorem dX9_wouldGo_10 : decode cX9_wouldGo 10 = .ok (.invokestatic 116, 3) := by decide +kernel
theorem dX9_wouldGo_13 : decode cX9_wouldGo 13 = .ok (.ifCond .eq 10, 3) := by decide +kernel
theorem dX9_wouldGo_16 : decode cX9_wouldGo 16 = .ok (.iload_n 3, 1) := by decide +kernel
theorem dX9_wouldGo_17 : decode cX9_wouldGo 17 = .ok (.invokestatic 119, 3) := by decide +kernel
theorem dX9_wouldGo_20 : decode cX9_wouldGo 20 = .ok (.ifCond .ne 6, 3) := by decide +kernel
theorem dX9_wouldGo_23 : decode cX9_wouldGo 23 = .ok (.bipush (-2), 2) := by decide +kernel
theorem dX9_wouldGo_25 : decode cX9_wouldGo 25 = .ok (.ireturn, 1) := by decide +kernel
theorem dX9_wouldGo_26 : decode cX9_wouldGo 26 = .ok (.aload_n 0, 1) := by decide +kernel
theorem dX9_wouldGo_27 : decode cX9_wouldGo 27 = .ok (.getfield 19, 3) := by decide +kernel
theorem dX9_wouldGo_30 : decode cX9_wouldGo 30 = .ok (.aload_n 0, 1) := by decide +kernel
theorem dX9_wouldGo_31 : decode cX9_wouldGo 31 = .ok (.getfield 10, 3) := by decide +kernel
theorem dX9_wouldGo_34 : decode cX9_wouldGo 34 = .ok (.invokevirtual 166, 3) := by decide +kernel
theorem dX9_wouldGo_37 : decode cX9_wouldGo 37 = .ok (.aload_n 0, 1) := by decide +kernel
theorem dX9_wouldGo_38 : decode cX9_wouldGo 38 = .ok (.getfield 19, 3) := by decide +kernel
theorem dX9_wouldGo_41 : decode cX9_wouldGo 41 = .ok (.iload_n 1, 1) := by decide +kernel
theorem dX9_wouldGo_42 : decode cX9_wouldGo 42 = .ok (.iload_n 2, 1) := by decide +kernel
theorem dX9_wouldGo_43 : decode cX9_wouldGo 43 = .ok (.iload_n 3, 1) := by decide +kernel
theorem dX9_wouldGo_44 : decode cX9_wouldGo 44 = .ok (.invokevirtual 221, 3) := by decide +kernel
theorem dX9_wouldGo_47 : decode cX9_wouldGo 47 = .ok (.istore 4, 2) := by decide +kernel
theorem dX9_wouldGo_49 : decode cX9_wouldGo 49 = .ok (.aload_n 0, 1) := by decide +kernel
theorem dX9_wouldGo_50 : decode cX9_wouldGo 50 = .ok (.getfield 19, 3) := by decide +kernel
theorem dX9_wouldGo_53 : decode cX9_wouldGo 53 = .ok (.iload 4, 2) := by decide +kernel
theorem dX9_wouldGo_55 : decode cX9_wouldGo 55 = .ok (.iload_n 1, 1) := by decide +kernel
theorem dX9_wouldGo_56 : decode cX9_wouldGo 56 = .ok (.iload_n 3, 1) := by decide +kernel
theorem dX9_wouldGo_57 : decode cX9_wouldGo 57 = .ok (.invokevirtual 224, 3) := by decide +kernel
theorem dX9_wouldGo_60 : decode cX9_wouldGo 60 = .ok (.ireturn, 1) := by decide +kernel
theorem dX9_loops_0 : decode cX9_loops 0 = .ok (.aload_n 0, 1) := by decide +kernel
theorem dX9_loops_1 : decode cX9_loops 1 = .ok (.getfield 10, 3) := by decide +kernel
theorem dX9_loops_4 : decode cX9_loops 4 = .ok (.getfield 47, 3) := by decide +kernel
theorem dX9_loops_7 : decode cX9_loops 7 = .ok (.invokevirtual 68, 3) := by decide +kernel
theorem dX9_loops_10 : decode cX9_loops 10 = .ok (.istore_n 1, 1) := by decide +kernel
theorem dX9_loops_11 : decode cX9_loops 11 = .ok (.iconst 0, 1) := by decide +kernel
theorem dX9_loops_12 : decode cX9_loops 12 = .ok (.istore_n 2, 1) := by decide +kernel
theorem dX9_loops_13 : decode cX9_loops 13 = .ok (.iconst 0, 1) := by decide +kernel
theorem dX9_loops_14 : decode cX9_loops 14 = .ok (.istore_n 3, 1) := by decide +kernel
theorem dX9_loops_15 : decode cX9_loops 15 = .ok (.iload_n 3, 1) := by decide +kernel
theorem dX9_loops_16 : decode cX9_loops 16 = .ok (.bipush 8, 2) := by decide +kernel
theorem dX9_loops_18 : decode cX9_loops 18 = .ok (.if_icmp .ge 54, 3) := by decide +kernel
theorem dX9_loops_21 : decode cX9_loops 21 = .ok (.aload_n 0, 1) := by decide +kernel
theorem dX9_loops_22 : decode cX9_loops 22 = .ok (.getfield 10, 3) := by decide +kernel
theorem dX9_loops_25 : decode cX9_loops 25 = .ok (.getfield 47, 3) := by decide +kernel
theorem dX9_loops_28 : decode cX9_loops 28 = .ok (.iload_n 3, 1) := by decide +kernel
theorem dX9_loops_29 : decode cX9_loops 29 = .ok (.invokevirtual 78, 3) := by decide +kernel
theorem dX9_loops_32 : decode cX9_loops 32 = .ok (.istore 4, 2) := by decide +kernel
theorem dX9_loops_34 : decode cX9_loops 34 = .ok (.iload 4, 2) := by decide +kernel
theorem dX9_loops_36 : decode cX9_loops 36 = .ok (.bipush (-4), 2) := by decide +kernel
theorem dX9_loops_38 : decode cX9_loops 38 = .ok (.if_icmp .eq 28, 3) := by decide +kernel
theorem dX9_loops_41 : decode cX9_loops 41 = .ok (.iload_n 1, 1) := by decide +kernel
theorem dX9_loops_42 : decode cX9_loops 42 = .ok (.iload_n 3, 1) := by decide +kernel
theorem dX9_loops_43 : decode cX9_loops 43 = .ok (.ishr, 1) := by decide +kernel
theorem dX9_loops_44 : decode cX9_loops 44 = .ok (.iconst 1, 1) := by decide +kernel
theorem dX9_loops_45 : decode cX9_loops 45 = .ok (.iand, 1) := by decide +kernel
theorem dX9_loops_46 : decode cX9_loops 46 = .ok (.iconst 1, 1) := by decide +kernel
theorem dX9_loops_47 : decode cX9_loops 47 = .ok (.if_icmp .ne 19, 3) := by decide +kernel
theorem dX9_loops_50 : decode cX9_loops 50 = .ok (.iload_n 1, 1) := by decide +kernel
theorem dX9_loops_51 : decode cX9_loops 51 = .ok (.iload 4, 2) := by decide +kernel
theorem dX9_loops_53 : decode cX9_loops 53 = .ok (.ishr, 1) := by decide +kernel
theorem dX9_loops_54 : decode cX9_loops 54 = .ok (.iconst 1, 1) := by decide +kernel
theorem dX9_loops_55 : decode cX9_loops 55 = .ok (.iand, 1) := by decide +kernel
theorem dX9_loops_56 : decode cX9_loops 56 = .ok (.iconst 1, 1) := by decide +kernel
theorem dX9_loops_57 : decode cX9_loops 57 = .ok (.if_icmp .ne 9, 3) := by decide +kernel
theorem dX9_loops_60 : decode cX9_loops 60 = .ok (.iload_n 2, 1) := by decide +kernel
theorem dX9_loops_61 : decode cX9_loops 61 = .ok (.iconst 1, 1) := by decide +kernel
theorem dX9_loops_62 : decode cX9_loops 62 = .ok (.iload_n 3, 1) := by decide +kernel
theorem dX9_loops_63 : decode cX9_loops 63 = .ok (.ishl, 1) := by decide +kernel
theorem dX9_loops_64 : decode cX9_loops 64 = .ok (.ior, 1) := by decide +kernel
theorem dX9_loops_65 : decode cX9_loops 65 = .ok (.istore_n 2, 1) := by decide +kernel
theorem dX9_loops_66 : decode cX9_loops 66 = .ok (.iinc 3 1, 3) := by decide +kernel
theorem dX9_loops_69 : decode cX9_loops 69 = .ok (.goto (-54), 3) := by decide +kernel
theorem dX9_loops_72 : decode cX9_loops 72 = .ok (.iload_n 2, 1) := by decide +kernel
theorem dX9_loops_73 : decode cX9_loops 73 = .ok (.ireturn, 1) := by decide +kernel
theorem dX9_count_0 : decode cX9_count 0 = .ok (.iload_n 1, 1) := by decide +kernel
theorem dX9_count_1 : decode cX9_count 1 = .ok (.tableswitch 199 0 14 #[75, 75, 75, 75, 87, 95, 106, 120, 131, 142, 156, 167, 175, 183, 191], 75) := by decide +kernel
theorem dX9_count_76 : decode cX9_count 76 = .ok (.aload_n 0, 1) := by decide +kernel
theorem dX9_count_77 : decode cX9_count 77 = .ok (.getfield 10, 3) := by decide +kernel
theorem dX9_count_80 : decode cX9_count 80 = .ok (.getfield 104, 3) := by decide +kernel
theorem dX9_count_83 : decode cX9_count 83 = .ok (.iload_n 1, 1) := by decide +kernel
theorem dX9_count_84 : decode cX9_count 84 = .ok (.invokevirtual 108, 3) := by decide +kernel
theorem dX9_count_87 : decode cX9_count 87 = .ok (.ireturn, 1) := by decide +kernel
theorem dX9_count_88 : decode cX9_count 88 = .ok (.aload_n 0, 1) := by decide +kernel
theorem dX9_count_89 : decode cX9_count 89 = .ok (.getfield 10, 3) := by decide +kernel
theorem dX9_count_92 : decode cX9_count 92 = .ok (.getfield 173, 3) := by decide +kernel
theorem dX9_count_95 : decode cX9_count 95 = .ok (.ireturn, 1) := by decide +kernel
theorem dX9_count_96 : decode cX9_count 96 = .ok (.aload_n 0, 1) := by decide +kernel
theorem dX9_count_97 : decode cX9_count 97 = .ok (.getfield 10, 3) := by decide +kernel
theorem dX9_count_100 : decode cX9_count 100 = .ok (.getfield 126, 3) := by decide +kernel
theorem dX9_count_103 : decode cX9_count 103 = .ok (.getfield 201, 3) := by decide +kernel
theorem dX9_count_106 : decode cX9_count 106 = .ok (.ireturn, 1) := by decide +kernel
theorem dX9_count_107 : decode cX9_count 107 = .ok (.aload_n 0, 1) := by decide +kernel
theorem dX9_count_108 : decode cX9_count 108 = .ok (.getfield 10, 3) := by decide +kernel
theorem dX9_count_111 : decode cX9_count 111 = .ok (.getfield 47, 3) := by decide +kernel
theorem dX9_count_114 : decode cX9_count 114 = .ok (.invokevirtual 68, 3) := by decide +kernel
theorem dX9_count_117 : decode cX9_count 117 = .ok (.invokestatic 72, 3) := by decide +kernel
theorem dX9_count_120 : decode cX9_count 120 = .ok (.ireturn, 1) := by decide +kernel
theorem dX9_count_121 : decode cX9_count 121 = .ok (.aload_n 0, 1) := by decide +kernel
theorem dX9_count_122 : decode cX9_count 122 = .ok (.getfield 10, 3) := by decide +kernel
theorem dX9_count_125 : decode cX9_count 125 = .ok (.getfield 47, 3) := by decide +kernel
theorem dX9_count_128 : decode cX9_count 128 = .ok (.invokevirtual 227, 3) := by decide +kernel
theorem dX9_count_131 : decode cX9_count 131 = .ok (.ireturn, 1) := by decide +kernel
theorem dX9_count_132 : decode cX9_count 132 = .ok (.aload_n 0, 1) := by decide +kernel
theorem dX9_count_133 : decode cX9_count 133 = .ok (.getfield 10, 3) := by decide +kernel
theorem dX9_count_136 : decode cX9_count 136 = .ok (.getfield 47, 3) := by decide +kernel
theorem dX9_count_139 : decode cX9_count 139 = .ok (.invokevirtual 85, 3) := by decide +kernel
theorem dX9_count_142 : decode cX9_count 142 = .ok (.ireturn, 1) := by decide +kernel
theorem dX9_count_143 : decode cX9_count 143 = .ok (.aload_n 0, 1) := by decide +kernel
theorem dX9_count_144 : decode cX9_count 144 = .ok (.getfield 10, 3) := by decide +kernel
theorem dX9_count_147 : decode cX9_count 147 = .ok (.getfield 182, 3) := by decide +kernel
theorem dX9_count_150 : decode cX9_count 150 = .ok (.getfield 186, 3) := by decide +kernel
theorem dX9_count_153 : decode cX9_count 153 = .ok (.invokevirtual 230, 3) := by decide +kernel
theorem dX9_count_156 : decode cX9_count 156 = .ok (.ireturn, 1) := by decide +kernel
theorem dX9_count_157 : decode cX9_count 157 = .ok (.aload_n 0, 1) := by decide +kernel
theorem dX9_count_158 : decode cX9_count 158 = .ok (.getfield 10, 3) := by decide +kernel
theorem dX9_count_161 : decode cX9_count 161 = .ok (.getfield 47, 3) := by decide +kernel
theorem dX9_count_164 : decode cX9_count 164 = .ok (.invokevirtual 233, 3) := by decide +kernel
theorem dX9_count_167 : decode cX9_count 167 = .ok (.ireturn, 1) := by decide +kernel
theorem dX9_count_168 : decode cX9_count 168 = .ok (.aload_n 0, 1) := by decide +kernel
theorem dX9_count_169 : decode cX9_count 169 = .ok (.getfield 10, 3) := by decide +kernel
theorem dX9_count_172 : decode cX9_count 172 = .ok (.getfield 236, 3) := by decide +kernel
theorem dX9_count_175 : decode cX9_count 175 = .ok (.ireturn, 1) := by decide +kernel
theorem dX9_count_176 : decode cX9_count 176 = .ok (.aload_n 0, 1) := by decide +kernel
theorem dX9_count_177 : decode cX9_count 177 = .ok (.getfield 10, 3) := by decide +kernel
theorem dX9_count_180 : decode cX9_count 180 = .ok (.getfield 239, 3) := by decide +kernel
theorem dX9_count_183 : decode cX9_count 183 = .ok (.ireturn, 1) := by decide +kernel
theorem dX9_count_184 : decode cX9_count 184 = .ok (.aload_n 0, 1) := by decide +kernel
theorem dX9_count_185 : decode cX9_count 185 = .ok (.getfield 25, 3) := by decide +kernel
theorem dX9_count_188 : decode cX9_count 188 = .ok (.getfield 163, 3) := by decide +kernel
theorem dX9_count_191 : decode cX9_count 191 = .ok (.ireturn, 1) := by decide +kernel
theorem dX9_count_192 : decode cX9_count 192 = .ok (.aload_n 0, 1) := by decide +kernel
theorem dX9_count_193 : decode cX9_count 193 = .ok (.getfield 32, 3) := by decide +kernel
theorem dX9_count_196 : decode cX9_count 196 = .ok (.getfield 152, 3) := by decide +kernel
theorem dX9_count_199 : decode cX9_count 199 = .ok (.ireturn, 1) := by decide +kernel
theorem dX9_count_200 : decode cX9_count 200 = .ok (.bipush (-2), 2) := by decide +kernel
theorem dX9_count_202 : decode cX9_count 202 = .ok (.ireturn, 1) := by decide +kernel
theorem dX9_isPort_0 : decode cX9_isPort 0 = .ok (.iload_n 0, 1) := by decide +kernel
theorem dX9_isPort_1 : decode cX9_isPort 1 = .ok (.ifCond .lt 13, 3) := by decide +kernel
theorem dX9_isPort_4 : decode cX9_isPort 4 = .ok (.iload_n 0, 1) := by decide +kernel
theorem dX9_isPort_5 : decode cX9_isPort 5 = .ok (.bipush 8, 2) := by decide +kernel
theorem dX9_isPort_7 : decode cX9_isPort 7 = .ok (.if_icmp .ge 7, 3) := by decide +kernel
theorem dX9_isPort_10 : decode cX9_isPort 10 = .ok (.iconst 1, 1) := by decide +kernel
theorem dX9_isPort_11 : decode cX9_isPort 11 = .ok (.goto 4, 3) := by decide +kernel
theorem dX9_isPort_14 : decode cX9_isPort 14 = .ok (.iconst 0, 1) := by decide +kernel
theorem dX9_isPort_15 : decode cX9_isPort 15 = .ok (.ireturn, 1) := by decide +kernel
theorem dX9_isAddress_0 : decode cX9_isAddress 0 = .ok (.iload_n 0, 1) := by decide +kernel
theorem dX9_isAddress_1 : decode cX9_isAddress 1 = .ok (.iconst 1, 1) := by decide +kernel
theorem dX9_isAddress_2 : decode cX9_isAddress 2 = .ok (.if_icmp .lt 13, 3) := by decide +kernel
theorem dX9_isAddress_5 : decode cX9_isAddress 5 = .ok (.iload_n 0, 1) := by decide +kernel
theorem dX9_isAddress_6 : decode cX9_isAddress 6 = .ok (.bipush 99, 2) := by decide +kernel
theorem dX9_isAddress_8 : decode cX9_isAddress 8 = .ok (.if_icmp .gt 7, 3) := by decide +kernel
theorem dX9_isAddress_11 : decode cX9_isAddress 11 = .ok (.iconst 1, 1) := by decide +kernel
theorem dX9_isAddress_12 : decode cX9_isAddress 12 = .ok (.goto 4, 3) := by decide +kernel
theorem dX9_isAddress_15 : decode cX9_isAddress 15 = .ok (.iconst 0, 1) := by decide +kernel
theorem dX9_isAddress_16 : decode cX9_isAddress 16 = .ok (.ireturn, 1) := by decide +kernel
theorem dX9_isDestination_0 : decode cX9_isDestination 0 = .ok (.iload_n 0, 1) := by decide +kernel
theorem dX9_isDestination_1 : decode cX9_isDestination 1 = .ok (.ifCond .eq 10, 3) := by decide +kernel
theorem dX9_isDestination_4 : decode cX9_isDestination 4 = .ok (.iload_n 0, 1) := by decide +kernel
theorem dX9_isDestination_5 : decode cX9_isDestination 5 = .ok (.invokestatic 116, 3) := by decide +kernel
theorem dX9_isDestination_8 : decode cX9_isDestination 8 = .ok (.ifCond .eq 7, 3) := by decide +kernel
theorem dX9_isDestination_11 : decode cX9_isDestination 11 = .ok (.iconst 1, 1) := by decide +kernel
theorem dX9_isDestination_12 : decode cX9_isDestination 12 = .ok (.goto 4, 3) := by decide +kernel
theorem dX9_isDestination_15 : decode cX9_isDestination 15 = .ok (.iconst 0, 1) := by decide +kernel
theorem dX9_isDestination_16 : decode cX9_isDestination 16 = .ok (.ireturn, 1) := by decide +kernel
theorem dX9_isSetting_0 : decode cX9_isSetting 0 = .ok (.iload_n 0, 1) := by decide +kernel
theorem dX9_isSetting_1 : decode cX9_isSetting 1 = .ok (.ifCond .lt 15, 3) := by decide +kernel
theorem dX9_isSetting_4 : decode cX9_isSetting 4 = .ok (.iload_n 0, 1) := by decide +kernel
theorem dX9_isSetting_5 : decode cX9_isSetting 5 = .ok (.getstatic 100, 3) := by decide +kernel
theorem dX9_isSetting_8 : decode cX9_isSetting 8 = .ok (.arraylength, 1) := by decide +kernel
theorem dX9_isSetting_9 : decode cX9_isSetting 9 = .ok (.if_icmp .ge 7, 3) := by decide +kernel
theorem dX9_isSetting_12 : decode cX9_isSetting 12 = .ok (.iconst 1, 1) := by decide +kernel
theorem dX9_isSetting_13 : decode cX9_isSetting 13 = .ok (.goto 4, 3) := by decide +kernel
theorem dX9_isSetting_16 : decode cX9_isSetting 16 = .ok (.iconst 0, 1) := by decide +kernel
theorem dX9_isSetting_17 : decode cX9_isSetting 17 = .ok (.ireturn, 1) := by decide +kernel
theorem dX10_init_0 : decode cX10_init 0 = .ok (.aload_n 0, 1) := by decide +kernel
theorem dX10_init_1 : decode cX10_init 1 = .ok (.invokespecial 1, 3) := by decide +kernel
theorem dX10_init_4 : decode cX10_init 4 = .ok (.aload_n 0, 1) := by decide +kernel
theorem dX10_init_5 : decode cX10_init 5 = .ok (.sipush 1752, 3) := by decide +kernel
theorem dX10_init_8 : decode cX10_init 8 = .ok (.newarray .int, 2) := by decide +kernel
theorem dX10_init_10 : decode cX10_init 10 = .ok (.putfield 7, 3) := by decide +kernel
theorem dX10_init_13 : decode cX10_init 13 = .ok (.aload_n 0, 1) := by decide +kernel
theorem dX10_init_14 : decode cX10_init 14 = .ok (.sipush 7008, 3) := by decide +kernel
theorem dX10_init_17 : decode cX10_init 17 = .ok (.newarray .int, 2) := by decide +kernel
theorem dX10_init_19 : decode cX10_init 19 = .ok (.putfield 13, 3) := by decide +kernel
theorem dX10_init_22 : decode cX10_init 22 = .ok (.aload_n 0, 1) := by decide +kernel
theorem dX10_init_23 : decode cX10_init 23 = .ok (.sipush 1752, 3) := by decide +kernel
theorem dX10_init_26 : decode cX10_init 26 = .ok (.newarray .int, 2) := by decide +kernel
theorem dX10_init_28 : decode cX10_init 28 = .ok (.putfield 16, 3) := by decide +kernel
theorem dX10_init_31 : decode cX10_init 31 = .ok (.aload_n 0, 1) := by decide +kernel
theorem dX10_init_32 : decode cX10_init 32 = .ok (.sipush 1752, 3) := by decide +kernel
theorem dX10_init_35 : decode cX10_init 35 = .ok (.newarray .int, 2) := by decide +kernel
theorem dX10_init_37 : decode cX10_init 37 = .ok (.putfield 19, 3) := by decide +kernel
theorem dX10_init_40 : decode cX10_init 40 = .ok (.aload_n 0, 1) := by decide +kernel
theorem dX10_init_41 : decode cX10_init 41 = .ok (.sipush 320, 3) := by decide +kernel
theorem dX10_init_44 : decode cX10_init 44 = .ok (.newarray .int, 2) := by decide +kernel
theorem dX10_init_46 : decode cX10_init 46 = .ok (.putfield 22, 3) := by decide +kernel
theorem dX10_init_49 : decode cX10_init 49 = .ok (.aload_n 0, 1) := by decide +kernel
theorem dX10_init_50 : decode cX10_init 50 = .ok (.bipush 70, 2) := by decide +kernel
theorem dX10_init_52 : decode cX10_init 52 = .ok (.newarray .char, 2) := by decide +kernel
theorem dX10_init_54 : decode cX10_init 54 = .ok (.putfield 25, 3) := by decide +kernel
theorem dX10_init_57 : decode cX10_init 57 = .ok (.aload_n 0, 1) := by decide +kernel
theorem dX10_init_58 : decode cX10_init 58 = .ok (.bipush 56, 2) := by decide +kernel
theorem dX10_init_60 : decode cX10_init 60 = .ok (.newarray .int, 2) := by decide +kernel
theorem dX10_init_62 : decode cX10_init 62 = .ok (.putfield 29, 3) := by decide +kernel
theorem dX10_init_65 : decode cX10_init 65 = .ok (.aload_n 0, 1) := by decide +kernel
theorem dX10_init_66 : decode cX10_init 66 = .ok (.getfield 7, 3) := by decide +kernel
theorem dX10_init_69 : decode cX10_init 69 = .ok (.iconst 0, 1) := by decide +kernel
theorem dX10_init_70 : decode cX10_init 70 = .ok (.bipush 60, 2) := by decide +kernel
theorem dX10_init_72 : decode cX10_init 72 = .ok (.iastore, 1) := by decide +kernel
theorem dX10_init_73 : decode cX10_init 73 = .ok (.aload_n 0, 1) := by decide +kernel
theorem dX10_init_74 : decode cX10_init 74 = .ok (.getfield 7, 3) := by decide +kernel
theorem dX10_init_77 : decode cX10_init 77 = .ok (.iconst 1, 1) := by decide +kernel
theorem dX10_init_78 : decode cX10_init 78 = .ok (.bipush 30, 2) := by decide +kernel
theorem dX10_init_80 : decode cX10_init 80 = .ok (.iastore, 1) := by decide +kernel
theorem dX10_init_81 : decode cX10_init 81 = .ok (.aload_n 0, 1) := by decide +kernel
theorem dX10_init_82 : decode cX10_init 82 = .ok (.getfield 7, 3) := by decide +kernel
theorem dX10_init_85 : decode cX10_init 85 = .ok (.iconst 2, 1) := by decide +kernel
theorem dX10_init_86 : decode cX10_init 86 = .ok (.bipush 10, 2) := by decide +kernel
theorem dX10_init_88 : decode cX10_init 88 = .ok (.iastore, 1) := by decide +kernel
theorem dX10_init_89 : decode cX10_init 89 = .ok (.aload_n 0, 1) := by decide +kernel
theorem dX10_init_90 : decode cX10_init 90 = .ok (.getfield 7, 3) := by decide +kernel
theorem dX10_init_93 : decode cX10_init 93 = .ok (.iconst 3, 1) := by decide +kernel
theorem dX10_init_94 : decode cX10_init 94 = .ok (.iconst 4, 1) := by decide +kernel
theorem dX10_init_95 : decode cX10_init 95 = .ok (.iastore, 1) := by decide +kernel
theorem dX10_init_96 : decode cX10_init 96 = .ok (.iconst 0, 1) := by decide +kernel
theorem dX10_init_97 : decode cX10_init 97 = .ok (.istore_n 1, 1) := by decide +kernel
theorem dX10_init_98 : decode cX10_init 98 = .ok (.iload_n 1, 1) := by decide +kernel
theorem dX10_init_99 : decode cX10_init 99 = .ok (.bipush 8, 2) := by decide +kernel
theorem dX10_init_101 : decode cX10_init 101 = .ok (.if_icmp .ge 16, 3) := by decide +kernel
theorem dX10_init_104 : decode cX10_init 104 = .ok (.aload_n 0, 1) := by decide +kernel
theorem dX10_init_105 : decode cX10_init 105 = .ok (.iload_n 1, 1) := by decide +kernel
theorem dX10_init_106 : decode cX10_init 106 = .ok (.iconst 0, 1) := by decide +kernel
theorem dX10_init_107 : decode cX10_init 107 = .ok (.iconst 1, 1) := by decide +kernel
theorem dX10_init_108 : decode cX10_init 108 = .ok (.invokevirtual 32, 3) := by decide +kernel
theorem dX10_init_111 : decode cX10_init 111 = .ok (.iinc 1 1, 3) := by decide +kernel
theorem dX10_init_114 : decode cX10_init 114 = .ok (.goto (-16), 3) := by decide +kernel
theorem dX10_init_117 : decode cX10_init 117 = .ok (.return_, 1) := by decide +kernel
theorem dX10_in_0 : decode cX10_in 0 = .ok (.iload_n 0, 1) := by decide +kernel
theorem dX10_in_1 : decode cX10_in 1 = .ok (.iload_n 1, 1) := by decide +kernel
theorem dX10_in_2 : decode cX10_in 2 = .ok (.if_icmp .lt 12, 3) := by decide +kernel
theorem dX10_in_5 : decode cX10_in 5 = .ok (.iload_n 0, 1) := by decide +kernel
theorem dX10_in_6 : decode cX10_in 6 = .ok (.iload_n 2, 1) := by decide +kernel
theorem dX10_in_7 : decode cX10_in 7 = .ok (.if_icmp .gt 7, 3) := by decide +kernel
theorem dX10_in_10 : decode cX10_in 10 = .ok (.iconst 1, 1) := by decide +kernel
theorem dX10_in_11 : decode cX10_in 11 = .ok (.goto 4, 3) := by decide +kernel
theorem dX10_in_14 : decode cX10_in 14 = .ok (.iconst 0, 1) := by decide +kernel
theorem dX10_in_15 : decode cX10_in 15 = .ok (.ireturn, 1) := by decide +kernel
theorem dX10_noPort_0 : decode cX10_noPort 0 = .ok (.iload_n 0, 1) := by decide +kernel
theorem dX10_noPort_1 : decode cX10_noPort 1 = .ok (.iconst 0, 1) := by decide +kernel
theorem dX10_noPort_2 : decode cX10_noPort 2 = .ok (.bipush 7, 2) := by decide +kernel
theorem dX10_noPort_4 : decode cX10_noPort 4 = .ok (.invokestatic 36, 3) := by decide +kernel
theorem dX10_noPort_7 : decode cX10_noPort 7 = .ok (.ifCond .ne 7, 3) := by decide +kernel
theorem dX10_noPort_10 : decode cX10_noPort 10 = .ok (.iconst 1, 1) := by decide +kernel
theorem dX10_noPort_11 : decode cX10_noPort 11 = .ok (.goto 4, 3) := by decide +kernel
theorem dX10_noPort_14 : decode cX10_noPort 14 = .ok (.iconst 0, 1) := by decide +kernel
theorem dX10_noPort_15 : decode cX10_noPort 15 = .ok (.ireturn, 1) := by decide +kernel
theorem dX10_noAddress_0 : decode cX10_noAddress 0 = .ok (.iload_n 0, 1) := by decide +kernel
theorem dX10_noAddress_1 : decode cX10_noAddress 1 = .ok (.iconst 1, 1) := by decide +kernel
theorem dX10_noAddress_2 : decode cX10_noAddress 2 = .ok (.bipush 99, 2) := by decide +kernel
theorem dX10_noAddress_4 : decode cX10_noAddress 4 = .ok (.invokestatic 36, 3) := by decide +kernel
theorem dX10_noAddress_7 : decode cX10_noAddress 7 = .ok (.ifCond .ne 7, 3) := by decide +kernel
theorem dX10_noAddress_10 : decode cX10_noAddress 10 = .ok (.iconst 1, 1) := by decide +kernel
theorem dX10_noAddress_11 : decode cX10_noAddress 11 = .ok (.goto 4, 3) := by decide +kernel
theorem dX10_noAddress_14 : decode cX10_noAddress 14 = .ok (.iconst 0, 1) := by decide +kernel
theorem dX10_noAddress_15 : decode cX10_noAddress 15 = .ok (.ireturn, 1) := by decide +kernel
theorem dX10_of_0 : decode cX10_of 0 = .ok (.aload_n 0, 1) := by decide +kernel
theorem dX10_of_1 : decode cX10_of 1 = .ok (.getfield 7, 3) := by decide +kernel
theorem dX10_of_4 : decode cX10_of 4 = .ok (.bipush 8, 2) := by decide +kernel
theorem dX10_of_6 : decode cX10_of 6 = .ok (.bipush 20, 2) := by decide +kernel
theorem dX10_of_8 : decode cX10_of 8 = .ok (.iload_n 1, 1) := by decide +kernel
theorem dX10_of_9 : decode cX10_of 9 = .ok (.imul, 1) := by decide +kernel
theorem dX10_of_10 : decode cX10_of 10 = .ok (.iadd, 1) := by decide +kernel
theorem dX10_of_11 : decode cX10_of 11 = .ok (.iload_n 2, 1) := by decide +kernel
theorem dX10_of_12 : decode cX10_of 12 = .ok (.iadd, 1) := by decide +kernel
theorem dX10_of_13 : decode cX10_of 13 = .ok (.iaload, 1) := by decide +kernel
theorem dX10_of_14 : decode cX10_of 14 = .ok (.ireturn, 1) := by decide +kernel
theorem dX10_to_0 : decode cX10_to 0 = .ok (.aload_n 0, 1) := by decide +kernel
theorem dX10_to_1 : decode cX10_to 1 = .ok (.getfield 7, 3) := by decide +kernel
theorem dX10_to_4 : decode cX10_to 4 = .ok (.bipush 8, 2) := by decide +kernel
theorem dX10_to_6 : decode cX10_to 6 = .ok (.bipush 20, 2) := by decide +kernel
theorem dX10_to_8 : decode cX10_to 8 = .ok (.iload_n 1, 1) := by decide +kernel
theorem dX10_to_9 : decode cX10_to 9 = .ok (.imul, 1) := by decide +kernel
theorem dX10_to_10 : decode cX10_to 10 = .ok (.iadd, 1) := by decide +kernel
theorem dX10_to_11 : decode cX10_to 11 = .ok (.iload_n 2, 1) := by decide +kernel
theorem dX10_to_12 : decode cX10_to 12 = .ok (.iadd, 1) := by decide +kernel
theorem dX10_to_13 : decode cX10_to 13 = .ok (.iload_n 3, 1) := by decide +kernel
theorem dX10_to_14 : decode cX10_to 14 = .ok (.iastore, 1) := by decide +kernel
theorem dX10_to_15 : decode cX10_to 15 = .ok (.return_, 1) := by decide +kernel
theorem dX10_more_0 : decode cX10_more 0 = .ok (.aload_n 0, 1) := by decide +kernel
theorem dX10_more_1 : decode cX10_more 1 = .ok (.getfield 7, 3) := by decide +kernel
theorem dX10_more_4 : decode cX10_more 4 = .ok (.bipush 8, 2) := by decide +kernel
theorem dX10_more_6 : decode cX10_more 6 = .ok (.bipush 20, 2) := by decide +kernel
theorem dX10_more_8 : decode cX10_more 8 = .ok (.iload_n 1, 1) := by decide +kernel
theorem dX10_more_9 : decode cX10_more 9 = .ok (.imul, 1) := by decide +kernel
theorem dX10_more_10 : decode cX10_more 10 = .ok (.iadd, 1) := by decide +kernel
theorem dX10_more_11 : decode cX10_more 11 = .ok (.bipush 6, 2) := by decide +kernel
theorem dX10_more_13 : decode cX10_more 13 = .ok (.iadd, 1) := by decide +kernel
theorem dX10_more_14 : decode cX10_more 14 = .ok (.iload_n 2, 1) := by decide +kernel
theorem dX10_more_15 : decode cX10_more 15 = .ok (.iadd, 1) := by decide +kernel
theorem dX10_more_16 : decode cX10_more 16 = .ok (.dup2, 1) := by decide +kernel
theorem dX10_more_17 : decode cX10_more 17 = .ok (.iaload, 1) := by decide +kernel
theorem dX10_more_18 : decode cX10_more 18 = .ok (.iconst 1, 1) := by decide +kernel
theorem dX10_more_19 : decode cX10_more 19 = .ok (.iadd, 1) := by decide +kernel
theorem dX10_more_20 : decode cX10_more 20 = .ok (.iastore, 1) := by decide +kernel
theorem dX10_more_21 : decode cX10_more 21 = .ok (.return_, 1) := by decide +kernel
theorem dX10_record_0 : decode cX10_record 0 = .ok (.aload_n 0, 1) := by decide +kernel
theorem dX10_record_1 : decode cX10_record 1 = .ok (.getfield 40, 3) := by decide +kernel
theorem dX10_record_4 : decode cX10_record 4 = .ok (.iconst 4, 1) := by decide +kernel
theorem dX10_record_5 : decode cX10_record 5 = .ok (.if_icmp .ne 44, 3) := by decide +kernel
theorem dX10_record_8 : decode cX10_record 8 = .ok (.iconst 0, 1) := by decide +kernel
theorem dX10_record_9 : decode cX10_record 9 = .ok (.istore_n 1, 1) := by decide +kernel
theorem dX10_record_10 : decode cX10_record 10 = .ok (.iload_n 1, 1) := by decide +kernel
theorem dX10_record_11 : decode cX10_record 11 = .ok (.sipush 5256, 3) := by decide +kernel
theorem dX10_record_14 : decode cX10_record 14 = .ok (.if_icmp .ge 25, 3) := by decide +kernel
theorem dX10_record_17 : decode cX10_record 17 = .ok (.aload_n 0, 1) := by decide +kernel
theorem dX10_record_18 : decode cX10_record 18 = .ok (.getfield 13, 3) := by decide +kernel
theorem dX10_record_21 : decode cX10_record 21 = .ok (.iload_n 1, 1) := by decide +kernel
theorem dX10_record_22 : decode cX10_record 22 = .ok (.aload_n 0, 1) := by decide +kernel
theorem dX10_record_23 : decode cX10_record 23 = .ok (.getfield 13, 3) := by decide +kernel
theorem dX10_record_26 : decode cX10_record 26 = .ok (.iload_n 1, 1) := by decide +kernel
theorem dX10_record_27 : decode cX10_record 27 = .ok (.sipush 1752, 3) := by decide +kernel
theorem dX10_record_30 : decode cX10_record 30 = .ok (.iadd, 1) := by decide +kernel
theorem dX10_record_31 : decode cX10_record 31 = .ok (.iaload, 1) := by decide +kernel
theorem dX10_record_32 : decode cX10_record 32 = .ok (.iastore, 1) := by decide +kernel
theorem dX10_record_33 : decode cX10_record 33 = .ok (.iinc 1 1, 3) := by decide +kernel
theorem dX10_record_36 : decode cX10_record 36 = .ok (.goto (-26), 3) := by decide +kernel
theorem dX10_record_39 : decode cX10_record 39 = .ok (.aload_n 0, 1) := by decide +kernel
theorem dX10_record_40 : decode cX10_record 40 = .ok (.dup, 1) := by decide +kernel
theorem dX10_record_41 : decode cX10_record 41 = .ok (.getfield 40, 3) := by decide +kernel
theorem dX10_record_44 : decode cX10_record 44 = .ok (.iconst 1, 1) := by decide +kernel
theorem dX10_record_45 : decode cX10_record 45 = .ok (.isub, 1) := by decide +kernel
theorem dX10_record_46 : decode cX10_record 46 = .ok (.putfield 40, 3) := by decide +kernel
theorem dX10_record_49 : decode cX10_record 49 = .ok (.iconst 0, 1) := by decide +kernel
theorem dX10_record_50 : decode cX10_record 50 = .ok (.istore_n 1, 1) := by decide +kernel
theorem dX10_record_51 : decode cX10_record 51 = .ok (.iload_n 1, 1) := by decide +kernel
theorem dX10_record_52 : decode cX10_record 52 = .ok (.sipush 1752, 3) := by decide +kernel
theorem dX10_record_55 : decode cX10_record 55 = .ok (.if_icmp .ge 30, 3) := by decide +kernel
theorem dX10_record_58 : decode cX10_record 58 = .ok (.aload_n 0, 1) := by decide +kernel
theorem dX10_record_59 : decode cX10_record 59 = .ok (.getfield 13, 3) := by decide +kernel
theorem dX10_record_62 : decode cX10_record 62 = .ok (.sipush 1752, 3) := by decide +kernel
theorem dX10_record_65 : decode cX10_record 65 = .ok (.aload_n 0, 1) := by decide +kernel
theorem dX10_record_66 : decode cX10_record 66 = .ok (.getfield 40, 3) := by decide +kernel
theorem dX10_record_69 : decode cX10_record 69 = .ok (.imul, 1) := by decide +kernel
theorem dX10_record_70 : decode cX10_record 70 = .ok (.iload_n 1, 1) := by decide +kernel
theorem dX10_record_71 : decode cX10_record 71 = .ok (.iadd, 1) := by decide +kernel
theorem dX10_record_72 : decode cX10_record 72 = .ok (.aload_n 0, 1) := by decide +kernel
theorem dX10_record_73 : decode cX10_record 73 = .ok (.getfield 7, 3) := by decide +kernel
theorem dX10_record_76 : decode cX10_record 76 = .ok (.iload_n 1, 1) := by decide +kernel
theorem dX10_record_77 : decode cX10_record 77 = .ok (.iaload, 1) := by decide +kernel
theorem dX10_record_78 : decode cX10_record 78 = .ok (.iastore, 1) := by decide +kernel
theorem dX10_record_79 : decode cX10_record 79 = .ok (.iinc 1 1, 3) := by decide +kernel
theorem dX10_record_82 : decode cX10_record 82 = .ok (.goto (-31), 3) := by decide +kernel
theorem dX10_record_85 : decode cX10_record 85 = .ok (.aload_n 0, 1) := by decide +kernel
theorem dX10_record_86 : decode cX10_record 86 = .ok (.dup, 1) := by decide +kernel
theorem dX10_record_87 : decode cX10_record 87 = .ok (.getfield 40, 3) := by decide +kernel
theorem dX10_record_90 : decode cX10_record 90 = .ok (.iconst 1, 1) := by decide +kernel
theorem dX10_record_91 : decode cX10_record 91 = .ok (.iadd, 1) := by decide +kernel
theorem dX10_record_92 : decode cX10_record 92 = .ok (.putfield 40, 3) := by decide +kernel
theorem dX10_record_95 : decode cX10_record 95 = .ok (.return_, 1) := by decide +kernel
theorem dX10_isOpen_0 : decode cX10_isOpen 0 = .ok (.aload_n 0, 1) := by decide +kernel
theorem dX10_isOpen_1 : decode cX10_isOpen 1 = .ok (.iload_n 1, 1) := by decide +kernel
theorem dX10_isOpen_2 : decode cX10_isOpen 2 = .ok (.iconst 0, 1) := by decide +kernel
theorem dX10_isOpen_3 : decode cX10_isOpen 3 = .ok (.invokevirtual 44, 3) := by decide +kernel
theorem dX10_isOpen_6 : decode cX10_isOpen 6 = .ok (.iconst 1, 1) := by decide +kernel
theorem dX10_isOpen_7 : decode cX10_isOpen 7 = .ok (.if_icmp .ne 16, 3) := by decide +kernel
theorem dX10_isOpen_10 : decode cX10_isOpen 10 = .ok (.aload_n 0, 1) := by decide +kernel
theorem dX10_isOpen_11 : decode cX10_isOpen 11 = .ok (.iload_n 1, 1) := by decide +kernel
theorem dX10_isOpen_12 : decode cX10_isOpen 12 = .ok (.iconst 1, 1) := by decide +kernel
theorem dX10_isOpen_13 : decode cX10_isOpen 13 = .ok (.invokevirtual 44, 3) := by decide +kernel
theorem dX10_isOpen_16 : decode cX10_isOpen 16 = .ok (.ifCond .ne 7, 3) := by decide +kernel
theorem dX10_isOpen_19 : decode cX10_isOpen 19 = .ok (.iconst 1, 1) := by decide +kernel
theorem dX10_isOpen_20 : decode cX10_isOpen 20 = .ok (.goto 4, 3) := by decide +kernel
theorem dX10_isOpen_23 : decode cX10_isOpen 23 = .ok (.iconst 0, 1) := by decide +kernel
theorem dX10_isOpen_24 : decode cX10_isOpen 24 = .ok (.ireturn, 1) := by decide +kernel
theorem dX10_openPorts_0 : decode cX10_openPorts 0 = .ok (.iconst 0, 1) := by decide +kernel
theorem dX10_openPorts_1 : decode cX10_openPorts 1 = .ok (.istore_n 1, 1) := by decide +kernel
theorem dX10_openPorts_2 : decode cX10_openPorts 2 = .ok (.iconst 0, 1) := by decide +kernel
theorem dX10_openPorts_3 : decode cX10_openPorts 3 = .ok (.istore_n 2, 1) := by decide +kernel
theorem dX10_openPorts_4 : decode cX10_openPorts 4 = .ok (.iload_n 2, 1) := by decide +kernel
theorem dX10_openPorts_5 : decode cX10_openPorts 5 = .ok (.bipush 8, 2) := by decide +kernel
theorem dX10_openPorts_7 : decode cX10_openPorts 7 = .ok (.if_icmp .ge 25, 3) := by decide +kernel
theorem dX10_openPorts_10 : decode cX10_openPorts 10 = .ok (.iload_n 1, 1) := by decide +kernel
theorem dX10_openPorts_11 : decode cX10_openPorts 11 = .ok (.aload_n 0, 1) := by decide +kernel
theorem dX10_openPorts_12 : decode cX10_openPorts 12 = .ok (.iload_n 2, 1) := by decide +kernel
theorem dX10_openPorts_13 : decode cX10_openPorts 13 = .ok (.invokevirtual 48, 3) := by decide +kernel
theorem dX10_openPorts_16 : decode cX10_openPorts 16 = .ok (.ifCond .eq 7, 3) := by decide +kernel
theorem dX10_openPorts_19 : decode cX10_openPorts 19 = .ok (.iconst 1, 1) := by decide +kernel
theorem dX10_openPorts_20 : decode cX10_openPorts 20 = .ok (.goto 4, 3) := by decide +kernel
theorem dX10_openPorts_23 : decode cX10_openPorts 23 = .ok (.iconst 0, 1) := by decide +kernel
theorem dX10_openPorts_24 : decode cX10_openPorts 24 = .ok (.iadd, 1) := by decide +kernel
theorem dX10_openPorts_25 : decode cX10_openPorts 25 = .ok (.istore_n 1, 1) := by decide +kernel
theorem dX10_openPorts_26 : decode cX10_openPorts 26 = .ok (.iinc 2 1, 3) := by decide +kernel
theorem dX10_openPorts_29 : decode cX10_openPorts 29 = .ok (.goto (-25), 3) := by decide +kernel
theorem dX10_openPorts_32 : decode cX10_openPorts 32 = .ok (.iload_n 1, 1) := by decide +kernel
theorem dX10_openPorts_33 : decode cX10_openPorts 33 = .ok (.ireturn, 1) := by decide +kernel
theorem dX10_removeEntries_0 : decode cX10_removeEntries 0 = .ok (.iconst 1, 1) := by decide +kernel
theorem dX10_removeEntries_1 : decode cX10_removeEntries 1 = .ok (.istore_n 2, 1) := by decide +kernel
theorem dX10_removeEntries_2 : decode cX10_removeEntries 2 = .ok (.iload_n 2, 1) := by decide +kernel
theorem dX10_removeEntries_3 : decode cX10_removeEntries 3 = .ok (.bipush 100, 2) := by decide +kernel
theorem dX10_removeEntries_5 : decode cX10_removeEntries 5 = .ok (.if_icmp .ge 36, 3) := by decide +kernel
theorem dX10_removeEntries_8 : decode cX10_removeEntries 8 = .ok (.aload_n 0, 1) := by decide +kernel
theorem dX10_removeEntries_9 : decode cX10_removeEntries 9 = .ok (.getfield 7, 3) := by decide +kernel
theorem dX10_removeEntries_12 : decode cX10_removeEntries 12 = .ok (.sipush 552, 3) := by decide +kernel
theorem dX10_removeEntries_15 : decode cX10_removeEntries 15 = .ok (.iload_n 2, 1) := by decide +kernel
theorem dX10_removeEntries_16 : decode cX10_removeEntries 16 = .ok (.iadd, 1) := by decide +kernel
theorem dX10_removeEntries_17 : decode cX10_removeEntries 17 = .ok (.iaload, 1) := by decide +kernel
theorem dX10_removeEntries_18 : decode cX10_removeEntries 18 = .ok (.iload_n 1, 1) := by decide +kernel
theorem dX10_removeEntries_19 : decode cX10_removeEntries 19 = .ok (.iconst 1, 1) := by decide +kernel
theorem dX10_removeEntries_20 : decode cX10_removeEntries 20 = .ok (.iadd, 1) := by decide +kernel
theorem dX10_removeEntries_21 : decode cX10_removeEntries 21 = .ok (.if_icmp .ne 14, 3) := by decide +kernel
theorem dX10_removeEntries_24 : decode cX10_removeEntries 24 = .ok (.aload_n 0, 1) := by decide +kernel
theorem dX10_removeEntries_25 : decode cX10_removeEntries 25 = .ok (.getfield 7, 3) := by decide +kernel
theorem dX10_removeEntries_28 : decode cX10_removeEntries 28 = .ok (.sipush 552, 3) := by decide +kernel
theorem dX10_removeEntries_31 : decode cX10_removeEntries 31 = .ok (.iload_n 2, 1) := by decide +kernel
theorem dX10_removeEntries_32 : decode cX10_removeEntries 32 = .ok (.iadd, 1) := by decide +kernel
theorem dX10_removeEntries_33 : decode cX10_removeEntries 33 = .ok (.iconst 0, 1) := by decide +kernel
theorem dX10_removeEntries_34 : decode cX10_removeEntries 34 = .ok (.iastore, 1) := by decide +kernel
theorem dX10_removeEntries_35 : decode cX10_removeEntries 35 = .ok (.iinc 2 1, 3) := by decide +kernel
theorem dX10_removeEntries_38 : decode cX10_removeEntries 38 = .ok (.goto (-36), 3) := by decide +kernel
theorem dX10_removeEntries_41 : decode cX10_removeEntries 41 = .ok (.return_, 1) := by decide +kernel
theorem dX10_setPort_0 : decode cX10_setPort 0 = .ok (.iload_n 1, 1) := by decide +kernel
theorem dX10_setPort_1 : decode cX10_setPort 1 = .ok (.invokestatic 52, 3) := by decide +kernel
theorem dX10_setPort_4 : decode cX10_setPort 4 = .ok (.ifCond .eq 5, 3) := by decide +kernel
theorem dX10_setPort_7 : decode cX10_setPort 7 = .ok (.iconst (-1), 1) := by decide +kernel
theorem dX10_setPort_8 : decode cX10_setPort 8 = .ok (.ireturn, 1) := by decide +kernel
theorem dX10_setPort_9 : decode cX10_setPort 9 = .ok (.aload_n 0, 1) := by decide +kernel
theorem dX10_setPort_10 : decode cX10_setPort 10 = .ok (.iload_n 1, 1) := by decide +kernel
theorem dX10_setPort_11 : decode cX10_setPort 11 = .ok (.iconst 0, 1) := by decide +kernel
theorem dX10_setPort_12 : decode cX10_setPort 12 = .ok (.invokevirtual 44, 3) := by decide +kernel
theorem dX10_setPort_15 : decode cX10_setPort 15 = .ok (.iload_n 2, 1) := by decide +kernel
theorem dX10_setPort_16 : decode cX10_setPort 16 = .ok (.ifCond .eq 7, 3) := by decide +kernel
theorem dX10_setPort_19 : decode cX10_setPort 19 = .ok (.iconst 1, 1) := by decide +kernel
theorem dX10_setPort_20 : decode cX10_setPort 20 = .ok (.goto 4, 3) := by decide +kernel
theorem dX10_setPort_23 : decode cX10_setPort 23 = .ok (.iconst 0, 1) := by decide +kernel
theorem dX10_setPort_24 : decode cX10_setPort 24 = .ok (.if_icmp .ne 6, 3) := by decide +kernel
theorem dX10_setPort_27 : decode cX10_setPort 27 = .ok (.bipush (-4), 2) := by decide +kernel
theorem dX10_setPort_29 : decode cX10_setPort 29 = .ok (.ireturn, 1) := by decide +kernel
theorem dX10_setPort_30 : decode cX10_setPort 30 = .ok (.aload_n 0, 1) := by decide +kernel
theorem dX10_setPort_31 : decode cX10_setPort 31 = .ok (.invokevirtual 55, 3) := by decide +kernel
theorem dX10_setPort_34 : decode cX10_setPort 34 = .ok (.aload_n 0, 1) := by decide +kernel
theorem dX10_setPort_35 : decode cX10_setPort 35 = .ok (.iload_n 1, 1) := by decide +kernel
theorem dX10_setPort_36 : decode cX10_setPort 36 = .ok (.iconst 0, 1) := by decide +kernel
theorem dX10_setPort_37 : decode cX10_setPort 37 = .ok (.iload_n 2, 1) := by decide +kernel
theorem dX10_setPort_38 : decode cX10_setPort 38 = .ok (.ifCond .eq 7, 3) := by decide +kernel
theorem dX10_setPort_41 : decode cX10_setPort 41 = .ok (.iconst 1, 1) := by decide +kernel
theorem dX10_setPort_42 : decode cX10_setPort 42 = .ok (.goto 4, 3) := by decide +kernel
theorem dX10_setPort_45 : decode cX10_setPort 45 = .ok (.iconst 0, 1) := by decide +kernel
theorem dX10_setPort_46 : decode cX10_setPort 46 = .ok (.invokevirtual 32, 3) := by decide +kernel
theorem dX10_setPort_49 : decode cX10_setPort 49 = .ok (.iload_n 2, 1) := by decide +kernel
theorem dX10_setPort_50 : decode cX10_setPort 50 = .ok (.ifCond .ne 37, 3) := by decide +kernel
theorem dX10_setPort_53 : decode cX10_setPort 53 = .ok (.aload_n 0, 1) := by decide +kernel
theorem dX10_setPort_54 : decode cX10_setPort 54 = .ok (.getfield 7, 3) := by decide +kernel
theorem dX10_setPort_57 : decode cX10_setPort 57 = .ok (.bipush 8, 2) := by decide +kernel
theorem dX10_setPort_59 : decode cX10_setPort 59 = .ok (.bipush 20, 2) := by decide +kernel
theorem dX10_setPort_61 : decode cX10_setPort 61 = .ok (.iload_n 1, 1) := by decide +kernel
theorem dX10_setPort_62 : decode cX10_setPort 62 = .ok (.imul, 1) := by decide +kernel
theorem dX10_setPort_63 : decode cX10_setPort 63 = .ok (.iadd, 1) := by decide +kernel
theorem dX10_setPort_64 : decode cX10_setPort 64 = .ok (.bipush 6, 2) := by decide +kernel
theorem dX10_setPort_66 : decode cX10_setPort 66 = .ok (.iadd, 1) := by decide +kernel
theorem dX10_setPort_67 : decode cX10_setPort 67 = .ok (.bipush 8, 2) := by decide +kernel
theorem dX10_setPort_69 : decode cX10_setPort 69 = .ok (.iadd, 1) := by decide +kernel
theorem dX10_setPort_70 : decode cX10_setPort 70 = .ok (.dup2, 1) := by decide +kernel
theorem dX10_setPort_71 : decode cX10_setPort 71 = .ok (.iaload, 1) := by decide +kernel
theorem dX10_setPort_72 : decode cX10_setPort 72 = .ok (.aload_n 0, 1) := by decide +kernel
theorem dX10_setPort_73 : decode cX10_setPort 73 = .ok (.iload_n 1, 1) := by decide +kernel
theorem dX10_setPort_74 : decode cX10_setPort 74 = .ok (.iconst 5, 1) := by decide +kernel
theorem dX10_setPort_75 : decode cX10_setPort 75 = .ok (.invokevirtual 44, 3) := by decide +kernel
theorem dX10_setPort_78 : decode cX10_setPort 78 = .ok (.iadd, 1) := by decide +kernel
theorem dX10_setPort_79 : decode cX10_setPort 79 = .ok (.iastore, 1) := by decide +kernel
theorem dX10_setPort_80 : decode cX10_setPort 80 = .ok (.aload_n 0, 1) := by decide +kernel
theorem dX10_setPort_81 : decode cX10_setPort 81 = .ok (.iload_n 1, 1) := by decide +kernel
theorem dX10_setPort_82 : decode cX10_setPort 82 = .ok (.iconst 5, 1) := by decide +kernel
theorem dX10_setPort_83 : decode cX10_setPort 83 = .ok (.iconst 0, 1) := by decide +kernel
theorem dX10_setPort_84 : decode cX10_setPort 84 = .ok (.invokevirtual 32, 3) := by decide +kernel
theorem dX10_setPort_87 : decode cX10_setPort 87 = .ok (.aload_n 0, 1) := by decide +kernel
theorem dX10_setPort_88 : decode cX10_setPort 88 = .ok (.invokevirtual 58, 3) := by decide +kernel
theorem dX10_setPort_91 : decode cX10_setPort 91 = .ok (.ireturn, 1) := by decide +kernel
theorem dX10_cables_0 : decode cX10_cables 0 = .ok (.iconst 0, 1) := by decide +kernel
theorem dX10_cables_1 : decode cX10_cables 1 = .ok (.istore_n 1, 1) := by decide +kernel
theorem dX10_cables_2 : decode cX10_cables 2 = .ok (.iconst 0, 1) := by decide +kernel
theorem dX10_cables_3 : decode cX10_cables 3 = .ok (.istore_n 2, 1) := by decide +kernel
theorem dX10_cables_4 : decode cX10_cables 4 = .ok (.iload_n 2, 1) := by decide +kernel
theorem dX10_cables_5 : decode cX10_cables 5 = .ok (.bipush 8, 2) := by decide +kernel
theorem dX10_cables_7 : decode cX10_cables 7 = .ok (.if_icmp .ge 26, 3) := by decide +kernel
theorem dX10_cables_10 : decode cX10_cables 10 = .ok (.iload_n 1, 1) := by decide +kernel
theorem dX10_cables_11 : decode cX10_cables 11 = .ok (.aload_n 0, 1) := by decide +kernel
theorem dX10_cables_12 : decode cX10_cables 12 = .ok (.iload_n 2, 1) := by decide +kernel
theorem dX10_cables_13 : decode cX10_cables 13 = .ok (.iconst 3, 1) := by decide +kernel
theorem dX10_cables_14 : decode cX10_cables 14 = .ok (.invokevirtual 44, 3) := by decide +kernel
theorem dX10_cables_17 : decode cX10_cables 17 = .ok (.ifCond .le 7, 3) := by decide +kernel
theorem dX10_cables_20 : decode cX10_cables 20 = .ok (.iconst 1, 1) := by decide +kernel
theorem dX10_cables_21 : decode cX10_cables 21 = .ok (.goto 4, 3) := by decide +kernel
theorem dX10_cables_24 : decode cX10_cables 24 = .ok (.iconst 0, 1) := by decide +kernel
theorem dX10_cables_25 : decode cX10_cables 25 = .ok (.iadd, 1) := by decide +kernel
theorem dX10_cables_26 : decode cX10_cables 26 = .ok (.istore_n 1, 1) := by decide +kernel
theorem dX10_cables_27 : decode cX10_cables 27 = .ok (.iinc 2 1, 3) := by decide +kernel
theorem dX10_cables_30 : decode cX10_cables 30 = .ok (.goto (-26), 3) := by decide +kernel
theorem dX10_cables_33 : decode cX10_cables 33 = .ok (.iload_n 1, 1) := by decide +kernel
theorem dX10_cables_34 : decode cX10_cables 34 = .ok (.iconst 2, 1) := by decide +kernel
theorem dX10_cables_35 : decode cX10_cables 35 = .ok (.idiv, 1) := by decide +kernel
theorem dX10_cables_36 : decode cX10_cables 36 = .ok (.ireturn, 1) := by decide +kernel
theorem dX10_join_0 : decode cX10_join 0 = .ok (.iload_n 1, 1) := by decide +kernel
theorem dX10_join_1 : decode cX10_join 1 = .ok (.invokestatic 52, 3) := by decide +kernel
theorem dX10_join_4 : decode cX10_join 4 = .ok (.ifCond .ne 10, 3) := by decide +kernel
theorem dX10_join_7 : decode cX10_join 7 = .ok (.iload_n 2, 1) := by decide +kernel
theorem dX10_join_8 : decode cX10_join 8 = .ok (.invokestatic 52, 3) := by decide +kernel
theorem dX10_join_11 : decode cX10_join 11 = .ok (.ifCond .eq 5, 3) := by decide +kernel
theorem dX10_join_14 : decode cX10_join 14 = .ok (.iconst (-1), 1) := by decide +kernel
theorem dX10_join_15 : decode cX10_join 15 = .ok (.ireturn, 1) := by decide +kernel
theorem dX10_join_16 : decode cX10_join 16 = .ok (.iload_n 1, 1) := by decide +kernel
theorem dX10_join_17 : decode cX10_join 17 = .ok (.iload_n 2, 1) := by decide +kernel
theorem dX10_join_18 : decode cX10_join 18 = .ok (.if_icmp .ne 6, 3) := by decide +kernel
theorem dX10_join_21 : decode cX10_join 21 = .ok (.bipush (-2), 2) := by decide +kernel
theorem dX10_join_23 : decode cX10_join 23 = .ok (.ireturn, 1) := by decide +kernel
theorem dX10_join_24 : decode cX10_join 24 = .ok (.aload_n 0, 1) := by decide +kernel
theorem dX10_join_25 : decode cX10_join 25 = .ok (.iload_n 1, 1) := by decide +kernel
theorem dX10_join_26 : decode cX10_join 26 = .ok (.iconst 3, 1) := by decide +kernel
theorem dX10_join_27 : decode cX10_join 27 = .ok (.invokevirtual 44, 3) := by decide +kernel
theorem dX10_join_30 : decode cX10_join 30 = .ok (.ifCond .gt 12, 3) := by decide +kernel
theorem dX10_join_33 : decode cX10_join 33 = .ok (.aload_n 0, 1) := by decide +kernel
theorem dX10_join_34 : decode cX10_join 34 = .ok (.iload_n 2, 1) := by decide +kernel
theorem dX10_join_35 : decode cX10_join 35 = .ok (.iconst 3, 1) := by decide +kernel
theorem dX10_join_36 : decode cX10_join 36 = .ok (.invokevirtual 44, 3) := by decide +kernel
theorem dX10_join_39 : decode cX10_join 39 = .ok (.ifCond .le 6, 3) := by decide +kernel
theorem dX10_join_42 : decode cX10_join 42 = .ok (.bipush (-3), 2) := by decide +kernel
theorem dX10_join_44 : decode cX10_join 44 = .ok (.ireturn, 1) := by decide +kernel
theorem dX10_join_45 : decode cX10_join 45 = .ok (.aload_n 0, 1) := by decide +kernel
theorem dX10_join_46 : decode cX10_join 46 = .ok (.invokevirtual 55, 3) := by decide +kernel
theorem dX10_join_49 : decode cX10_join 49 = .ok (.aload_n 0, 1) := by decide +kernel
theorem dX10_join_50 : decode cX10_join 50 = .ok (.iload_n 1, 1) := by decide +kernel
theorem dX10_join_51 : decode cX10_join 51 = .ok (.iconst 3, 1) := by decide +kernel
theorem dX10_join_52 : decode cX10_join 52 = .ok (.iload_n 2, 1) := by decide +kernel
theorem dX10_join_53 : decode cX10_join 53 = .ok (.iconst 1, 1) := by decide +kernel
theorem dX10_join_54 : decode cX10_join 54 = .ok (.iadd, 1) := by decide +kernel
theorem dX10_join_55 : decode cX10_join 55 = .ok (.invokevirtual 32, 3) := by decide +kernel
theorem dX10_join_58 : decode cX10_join 58 = .ok (.aload_n 0, 1) := by decide +kernel
theorem dX10_join_59 : decode cX10_join 59 = .ok (.iload_n 2, 1) := by decide +kernel
theorem dX10_join_60 : decode cX10_join 60 = .ok (.iconst 3, 1) := by decide +kernel
theorem dX10_join_61 : decode cX10_join 61 = .ok (.iload_n 1, 1) := by decide +kernel
theorem dX10_join_62 : decode cX10_join 62 = .ok (.iconst 1, 1) := by decide +kernel
theorem dX10_join_63 : decode cX10_join 63 = .ok (.iadd, 1) := by decide +kernel
theorem dX10_join_64 : decode cX10_join 64 = .ok (.invokevirtual 32, 3) := by decide +kernel
theorem dX10_join_67 : decode cX10_join 67 = .ok (.aload_n 0, 1) := by decide +kernel
theorem dX10_join_68 : decode cX10_join 68 = .ok (.invokevirtual 62, 3) := by decide +kernel
theorem dX10_join_71 : decode cX10_join 71 = .ok (.ireturn, 1) := by decide +kernel
theorem dX10_part_0 : decode cX10_part 0 = .ok (.iload_n 1, 1) := by decide +kernel
theorem dX10_part_1 : decode cX10_part 1 = .ok (.invokestatic 52, 3) := by decide +kernel
theorem dX10_part_4 : decode cX10_part 4 = .ok (.ifCond .eq 5, 3) := by decide +kernel
theorem dX10_part_7 : decode cX10_part 7 = .ok (.iconst (-1), 1) := by decide +kernel
theorem dX10_part_8 : decode cX10_part 8 = .ok (.ireturn, 1) := by decide +kernel
theorem dX10_part_9 : decode cX10_part 9 = .ok (.aload_n 0, 1) := by decide +kernel
theorem dX10_part_10 : decode cX10_part 10 = .ok (.iload_n 1, 1) := by decide +kernel
theorem dX10_part_11 : decode cX10_part 11 = .ok (.iconst 3, 1) := by decide +kernel
theorem dX10_part_12 : decode cX10_part 12 = .ok (.invokevirtual 44, 3) := by decide +kernel
theorem dX10_part_15 : decode cX10_part 15 = .ok (.iconst 1, 1) := by decide +kernel
theorem dX10_part_16 : decode cX10_part 16 = .ok (.isub, 1) := by decide +kernel
theorem dX10_part_17 : decode cX10_part 17 = .ok (.istore_n 2, 1) := by decide +kernel
theorem dX10_part_18 : decode cX10_part 18 = .ok (.iload_n 2, 1) := by decide +kernel
theorem dX10_part_19 : decode cX10_part 19 = .ok (.ifCond .ge 6, 3) := by decide +kernel
theorem dX10_part_22 : decode cX10_part 22 = .ok (.bipush (-4), 2) := by decide +kernel
theorem dX10_part_24 : decode cX10_part 24 = .ok (.ireturn, 1) := by decide +kernel
theorem dX10_part_25 : decode cX10_part 25 = .ok (.aload_n 0, 1) := by decide +kernel
theorem dX10_part_26 : decode cX10_part 26 = .ok (.invokevirtual 55, 3) := by decide +kernel
theorem dX10_part_29 : decode cX10_part 29 = .ok (.aload_n 0, 1) := by decide +kernel
theorem dX10_part_30 : decode cX10_part 30 = .ok (.iload_n 1, 1) := by decide +kernel
theorem dX10_part_31 : decode cX10_part 31 = .ok (.iconst 3, 1) := by decide +kernel
theorem dX10_part_32 : decode cX10_part 32 = .ok (.iconst 0, 1) := by decide +kernel
theorem dX10_part_33 : decode cX10_part 33 = .ok (.invokevirtual 32, 3) := by decide +kernel
theorem dX10_part_36 : decode cX10_part 36 = .ok (.aload_n 0, 1) := by decide +kernel
theorem dX10_part_37 : decode cX10_part 37 = .ok (.iload_n 2, 1) := by decide +kernel
theorem dX10_part_38 : decode cX10_part 38 = .ok (.iconst 3, 1) := by decide +kernel
theorem dX10_part_39 : decode cX10_part 39 = .ok (.iconst 0, 1) := by decide +kernel
theorem dX10_part_40 : decode cX10_part 40 = .ok (.invokevirtual 32, 3) := by decide +kernel
theorem dX10_part_43 : decode cX10_part 43 = .ok (.iload_n 2, 1) := by decide +kernel
theorem dX10_part_44 : decode cX10_part 44 = .ok (.ireturn, 1) := by decide +kernel
theorem dX10_holdLeft_0 : decode cX10_holdLeft 0 = .ok (.aload_n 0, 1) := by decide +kernel
theorem dX10_holdLeft_1 : decode cX10_holdLeft 1 = .ok (.iload_n 1, 1) := by decide +kernel
theorem dX10_holdLeft_2 : decode cX10_holdLeft 2 = .ok (.iconst 1, 1) := by decide +kernel
theorem dX10_holdLeft_3 : decode cX10_holdLeft 3 = .ok (.invokevirtual 44, 3) := by decide +kernel
theorem dX10_holdLeft_6 : decode cX10_holdLeft 6 = .ok (.ifCond .ne 7, 3) := by decide +kernel
theorem dX10_holdLeft_9 : decode cX10_holdLeft 9 = .ok (.iconst 0, 1) := by decide +kernel
theorem dX10_holdLeft_10 : decode cX10_holdLeft 10 = .ok (.goto 16, 3) := by decide +kernel
theorem dX10_holdLeft_13 : decode cX10_holdLeft 13 = .ok (.aload_n 0, 1) := by decide +kernel
theorem dX10_holdLeft_14 : decode cX10_holdLeft 14 = .ok (.iload_n 1, 1) := by decide +kernel
theorem dX10_holdLeft_15 : decode cX10_holdLeft 15 = .ok (.iconst 1, 1) := by decide +kernel
theorem dX10_holdLeft_16 : decode cX10_holdLeft 16 = .ok (.invokevirtual 44, 3) := by decide +kernel
theorem dX10_holdLeft_19 : decode cX10_holdLeft 19 = .ok (.aload_n 0, 1) := by decide +kernel
theorem dX10_holdLeft_20 : decode cX10_holdLeft 20 = .ok (.getfield 7, 3) := by decide +kernel
theorem dX10_holdLeft_23 : decode cX10_holdLeft 23 = .ok (.iconst 4, 1) := by decide +kernel
theorem dX10_holdLeft_24 : decode cX10_holdLeft 24 = .ok (.iaload, 1) := by decide +kernel
theorem dX10_holdLeft_25 : decode cX10_holdLeft 25 = .ok (.isub, 1) := by decide +kernel
theorem dX10_holdLeft_26 : decode cX10_holdLeft 26 = .ok (.ireturn, 1) := by decide +kernel
theorem dX10_release_0 : decode cX10_release 0 = .ok (.iload_n 1, 1) := by decide +kernel
theorem dX10_release_1 : decode cX10_release 1 = .ok (.invokestatic 52, 3) := by decide +kernel
theorem dX10_release_4 : decode cX10_release 4 = .ok (.ifCond .eq 5, 3) := by decide +kernel
theorem dX10_release_7 : decode cX10_release 7 = .ok (.iconst (-1), 1) := by decide +kernel
theorem dX10_release_8 : decode cX10_release 8 = .ok (.ireturn, 1) := by decide +kernel
theorem dX10_release_9 : decode cX10_release 9 = .ok (.aload_n 0, 1) := by decide +kernel
theorem dX10_release_10 : decode cX10_release 10 = .ok (.iload_n 1, 1) := by decide +kernel
theorem dX10_release_11 : decode cX10_release 11 = .ok (.iconst 1, 1) := by decide +kernel
theorem dX10_release_12 : decode cX10_release 12 = .ok (.invokevirtual 44, 3) := by decide +kernel
theorem dX10_release_15 : decode cX10_release 15 = .ok (.ifCond .ne 6, 3) := by decide +kernel
theorem dX10_release_18 : decode cX10_release 18 = .ok (.bipush (-4), 2) := by decide +kernel
theorem dX10_release_20 : decode cX10_release 20 = .ok (.ireturn, 1) := by decide +kernel
theorem dX10_release_21 : decode cX10_release 21 = .ok (.aload_n 0, 1) := by decide +kernel
theorem dX10_release_22 : decode cX10_release 22 = .ok (.invokevirtual 55, 3) := by decide +kernel
theorem dX10_release_25 : decode cX10_release 25 = .ok (.aload_n 0, 1) := by decide +kernel
theorem dX10_release_26 : decode cX10_release 26 = .ok (.iload_n 1, 1) := by decide +kernel
theorem dX10_release_27 : decode cX10_release 27 = .ok (.invokevirtual 65, 3) := by decide +kernel
theorem dX10_release_30 : decode cX10_release 30 = .ok (.istore_n 2, 1) := by decide +kernel
theorem dX10_release_31 : decode cX10_release 31 = .ok (.aload_n 0, 1) := by decide +kernel
theorem dX10_release_32 : decode cX10_release 32 = .ok (.iload_n 1, 1) := by decide +kernel
theorem dX10_release_33 : decode cX10_release 33 = .ok (.iconst 1, 1) := by decide +kernel
theorem dX10_release_34 : decode cX10_release 34 = .ok (.iconst 0, 1) := by decide +kernel
theorem dX10_release_35 : decode cX10_release 35 = .ok (.invokevirtual 32, 3) := by decide +kernel
theorem dX10_release_38 : decode cX10_release 38 = .ok (.iload_n 2, 1) := by decide +kernel
theorem dX10_release_39 : decode cX10_release 39 = .ok (.ireturn, 1) := by decide +kernel
theorem dX10_mostOf_0 : decode cX10_mostOf 0 = .ok (.iload_n 0, 1) := by decide +kernel
theorem dX10_mostOf_1 : decode cX10_mostOf 1 = .ok (.ifCond .ne 9, 3) := by decide +kernel
theorem dX10_mostOf_4 : decode cX10_mostOf 4 = .ok (.sipush 1000, 3) := by decide +kernel
theorem dX10_mostOf_7 : decode cX10_mostOf 7 = .ok (.goto 26, 3) := by decide +kernel
theorem dX10_mostOf_10 : decode cX10_mostOf 10 = .ok (.iload_n 0, 1) := by decide +kernel
theorem dX10_mostOf_11 : decode cX10_mostOf 11 = .ok (.iconst 1, 1) := by decide +kernel
theorem dX10_mostOf_12 : decode cX10_mostOf 12 = .ok (.if_icmp .ne 9, 3) := by decide +kernel
theorem dX10_mostOf_15 : decode cX10_mostOf 15 = .ok (.sipush 600, 3) := by decide +kernel
theorem dX10_mostOf_18 : decode cX10_mostOf 18 = .ok (.goto 15, 3) := by decide +kernel
theorem dX10_mostOf_21 : decode cX10_mostOf 21 = .ok (.iload_n 0, 1) := by decide +kernel
theorem dX10_mostOf_22 : decode cX10_mostOf 22 = .ok (.iconst 2, 1) := by decide +kernel
theorem dX10_mostOf_23 : decode cX10_mostOf 23 = .ok (.if_icmp .ne 8, 3) := by decide +kernel
theorem dX10_mostOf_26 : decode cX10_mostOf 26 = .ok (.bipush 50, 2) := by decide +kernel
theorem dX10_mostOf_28 : decode cX10_mostOf 28 = .ok (.goto 5, 3) := by decide +kernel
theorem dX10_mostOf_31 : decode cX10_mostOf 31 = .ok (.bipush 10, 2) := by decide +kernel
theorem dX10_mostOf_33 : decode cX10_mostOf 33 = .ok (.ireturn, 1) := by decide +kernel
theorem dX10_set_0 : decode cX10_set 0 = .ok (.iload_n 1, 1) := by decide +kernel
theorem dX10_set_1 : decode cX10_set 1 = .ok (.iconst 0, 1) := by decide +kernel
theorem dX10_set_2 : decode cX10_set 2 = .ok (.iconst 3, 1) := by decide +kernel
theorem dX10_set_3 : decode cX10_set 3 = .ok (.invokestatic 36, 3) := by decide +kernel
theorem dX10_set_6 : decode cX10_set 6 = .ok (.ifCond .eq 15, 3) := by decide +kernel
theorem dX10_set_9 : decode cX10_set 9 = .ok (.iload_n 2, 1) := by decide +kernel
theorem dX10_set_10 : decode cX10_set 10 = .ok (.iconst 1, 1) := by decide +kernel
theorem dX10_set_11 : decode cX10_set 11 = .ok (.iload_n 1, 1) := by decide +kernel
theorem dX10_set_12 : decode cX10_set 12 = .ok (.invokestatic 69, 3) := by decide +kernel
theorem dX10_set_15 : decode cX10_set 15 = .ok (.invokestatic 36, 3) := by decide +kernel
theorem dX10_set_18 : decode cX10_set 18 = .ok (.ifCond .ne 6, 3) := by decide +kernel
theorem dX10_set_21 : decode cX10_set 21 = .ok (.bipush (-2), 2) := by decide +kernel
theorem dX10_set_23 : decode cX10_set 23 = .ok (.ireturn, 1) := by decide +kernel
theorem dX10_set_24 : decode cX10_set 24 = .ok (.aload_n 0, 1) := by decide +kernel
theorem dX10_set_25 : decode cX10_set 25 = .ok (.getfield 7, 3) := by decide +kernel
theorem dX10_set_28 : decode cX10_set 28 = .ok (.iload_n 1, 1) := by decide +kernel
theorem dX10_set_29 : decode cX10_set 29 = .ok (.iaload, 1) := by decide +kernel
theorem dX10_set_30 : decode cX10_set 30 = .ok (.istore_n 3, 1) := by decide +kernel
theorem dX10_set_31 : decode cX10_set 31 = .ok (.iload_n 3, 1) := by decide +kernel
theorem dX10_set_32 : decode cX10_set 32 = .ok (.iload_n 2, 1) := by decide +kernel
theorem dX10_set_33 : decode cX10_set 33 = .ok (.if_icmp .ne 6, 3) := by decide +kernel
theorem dX10_set_36 : decode cX10_set 36 = .ok (.bipush (-4), 2) := by decide +kernel
theorem dX10_set_38 : decode cX10_set 38 = .ok (.ireturn, 1) := by decide +kernel
theorem dX10_set_39 : decode cX10_set 39 = .ok (.aload_n 0, 1) := by decide +kernel
theorem dX10_set_40 : decode cX10_set 40 = .ok (.invokevirtual 55, 3) := by decide +kernel
theorem dX10_set_43 : decode cX10_set 43 = .ok (.aload_n 0, 1) := by decide +kernel
theorem dX10_set_44 : decode cX10_set 44 = .ok (.getfield 7, 3) := by decide +kernel
theorem dX10_set_47 : decode cX10_set 47 = .ok (.iload_n 1, 1) := by decide +kernel
theorem dX10_set_48 : decode cX10_set 48 = .ok (.iload_n 2, 1) := by decide +kernel
theorem dX10_set_49 : decode cX10_set 49 = .ok (.iastore, 1) := by decide +kernel
theorem dX10_set_50 : decode cX10_set 50 = .ok (.iload_n 3, 1) := by decide +kernel
theorem dX10_set_51 : decode cX10_set 51 = .ok (.ireturn, 1) := by decide +kernel
theorem dX10_entries_0 : decode cX10_entries 0 = .ok (.iconst 0, 1) := by decide +kernel
theorem dX10_entries_1 : decode cX10_entries 1 = .ok (.istore_n 1, 1) := by decide +kernel
theorem dX10_entries_2 : decode cX10_entries 2 = .ok (.iconst 1, 1) := by decide +kernel
theorem dX10_entries_3 : decode cX10_entries 3 = .ok (.istore_n 2, 1) := by decide +kernel
theorem dX10_entries_4 : decode cX10_entries 4 = .ok (.iload_n 2, 1) := by decide +kernel
theorem dX10_entries_5 : decode cX10_entries 5 = .ok (.bipush 100, 2) := by decide +kernel
theorem dX10_entries_7 : decode cX10_entries 7 = .ok (.if_icmp .ge 30, 3) := by decide +kernel
theorem dX10_entries_10 : decode cX10_entries 10 = .ok (.iload_n 1, 1) := by decide +kernel
theorem dX10_entries_11 : decode cX10_entries 11 = .ok (.aload_n 0, 1) := by decide +kernel
theorem dX10_entries_12 : decode cX10_entries 12 = .ok (.getfield 7, 3) := by decide +kernel
theorem dX10_entries_15 : decode cX10_entries 15 = .ok (.sipush 552, 3) := by decide +kernel
theorem dX10_entries_18 : decode cX10_entries 18 = .ok (.iload_n 2, 1) := by decide +kernel
theorem dX10_entries_19 : decode cX10_entries 19 = .ok (.iadd, 1) := by decide +kernel
theorem dX10_entries_20 : decode cX10_entries 20 = .ok (.iaload, 1) := by decide +kernel
theorem dX10_entries_21 : decode cX10_entries 21 = .ok (.ifCond .le 7, 3) := by decide +kernel
theorem dX10_entries_24 : decode cX10_entries 24 = .ok (.iconst 1, 1) := by decide +kernel
theorem dX10_entries_25 : decode cX10_entries 25 = .ok (.goto 4, 3) := by decide +kernel
theorem dX10_entries_28 : decode cX10_entries 28 = .ok (.iconst 0, 1) := by decide +kernel
theorem dX10_entries_29 : decode cX10_entries 29 = .ok (.iadd, 1) := by decide +kernel
theorem dX10_entries_30 : decode cX10_entries 30 = .ok (.istore_n 1, 1) := by decide +kernel
theorem dX10_entries_31 : decode cX10_entries 31 = .ok (.iinc 2 1, 3) := by decide +kernel
theorem dX10_entries_34 : decode cX10_entries 34 = .ok (.goto (-30), 3) := by decide +kernel
theorem dX10_entries_37 : decode cX10_entries 37 = .ok (.iload_n 1, 1) := by decide +kernel
theorem dX10_entries_38 : decode cX10_entries 38 = .ok (.ireturn, 1) := by decide +kernel
theorem dX10_movesOf_0 : decode cX10_movesOf 0 = .ok (.iconst 0, 1) := by decide +kernel
theorem dX10_movesOf_1 : decode cX10_movesOf 1 = .ok (.istore_n 2, 1) := by decide +kernel
theorem dX10_movesOf_2 : decode cX10_movesOf 2 = .ok (.iconst 0, 1) := by decide +kernel
theorem dX10_movesOf_3 : decode cX10_movesOf 3 = .ok (.istore_n 3, 1) := by decide +kernel
theorem dX10_movesOf_4 : decode cX10_movesOf 4 = .ok (.iload_n 3, 1) := by decide +kernel
theorem dX10_movesOf_5 : decode cX10_movesOf 5 = .ok (.bipush 10, 2) := by decide +kernel
theorem dX10_movesOf_7 : decode cX10_movesOf 7 = .ok (.if_icmp .ge 27, 3) := by decide +kernel
theorem dX10_movesOf_10 : decode cX10_movesOf 10 = .ok (.iload_n 2, 1) := by decide +kernel
theorem dX10_movesOf_11 : decode cX10_movesOf 11 = .ok (.aload_n 0, 1) := by decide +kernel
theorem dX10_movesOf_12 : decode cX10_movesOf 12 = .ok (.getfield 7, 3) := by decide +kernel
theorem dX10_movesOf_15 : decode cX10_movesOf 15 = .ok (.sipush 752, 3) := by decide +kernel
theorem dX10_movesOf_18 : decode cX10_movesOf 18 = .ok (.bipush 10, 2) := by decide +kernel
theorem dX10_movesOf_20 : decode cX10_movesOf 20 = .ok (.iload_n 1, 1) := by decide +kernel
theorem dX10_movesOf_21 : decode cX10_movesOf 21 = .ok (.imul, 1) := by decide +kernel
theorem dX10_movesOf_22 : decode cX10_movesOf 22 = .ok (.iadd, 1) := by decide +kernel
theorem dX10_movesOf_23 : decode cX10_movesOf 23 = .ok (.iload_n 3, 1) := by decide +kernel
theorem dX10_movesOf_24 : decode cX10_movesOf 24 = .ok (.iadd, 1) := by decide +kernel
theorem dX10_movesOf_25 : decode cX10_movesOf 25 = .ok (.iaload, 1) := by decide +kernel
theorem dX10_movesOf_26 : decode cX10_movesOf 26 = .ok (.iadd, 1) := by decide +kernel
theorem dX10_movesOf_27 : decode cX10_movesOf 27 = .ok (.istore_n 2, 1) := by decide +kernel
theorem dX10_movesOf_28 : decode cX10_movesOf 28 = .ok (.iinc 3 1, 3) := by decide +kernel
theorem dX10_movesOf_31 : decode cX10_movesOf 31 = .ok (.goto (-27), 3) := by decide +kernel
theorem dX10_movesOf_34 : decode cX10_movesOf 34 = .ok (.iload_n 2, 1) := by decide +kernel
theorem dX10_movesOf_35 : decode cX10_movesOf 35 = .ok (.ireturn, 1) := by decide +kernel
theorem dX10_removeOldest_0 : decode cX10_removeOldest 0 = .ok (.bipush (-4), 2) := by decide +kernel
theorem dX10_removeOldest_2 : decode cX10_removeOldest 2 = .ok (.istore_n 1, 1) := by decide +kernel
theorem dX10_removeOldest_3 : decode cX10_removeOldest 3 = .ok (.iconst 1, 1) := by decide +kernel
theorem dX10_removeOldest_4 : decode cX10_removeOldest 4 = .ok (.istore_n 2, 1) := by decide +kernel
theorem dX10_removeOldest_5 : decode cX10_removeOldest 5 = .ok (.iload_n 2, 1) := by decide +kernel
theorem dX10_removeOldest_6 : decode cX10_removeOldest 6 = .ok (.bipush 100, 2) := by decide +kernel
theorem dX10_removeOldest_8 : decode cX10_removeOldest 8 = .ok (.if_icmp .ge 53, 3) := by decide +kernel
theorem dX10_removeOldest_11 : decode cX10_removeOldest 11 = .ok (.aload_n 0, 1) := by decide +kernel
theorem dX10_removeOldest_12 : decode cX10_removeOldest 12 = .ok (.getfield 7, 3) := by decide +kernel
theorem dX10_removeOldest_15 : decode cX10_removeOldest 15 = .ok (.sipush 552, 3) := by decide +kernel
theorem dX10_removeOldest_18 : decode cX10_removeOldest 18 = .ok (.iload_n 2, 1) := by decide +kernel
theorem dX10_removeOldest_19 : decode cX10_removeOldest 19 = .ok (.iadd, 1) := by decide +kernel
theorem dX10_removeOldest_20 : decode cX10_removeOldest 20 = .ok (.iaload, 1) := by decide +kernel
theorem dX10_removeOldest_21 : decode cX10_removeOldest 21 = .ok (.ifCond .le 34, 3) := by decide +kernel
theorem dX10_removeOldest_24 : decode cX10_removeOldest 24 = .ok (.iload_n 1, 1) := by decide +kernel
theorem dX10_removeOldest_25 : decode cX10_removeOldest 25 = .ok (.bipush (-4), 2) := by decide +kernel
theorem dX10_removeOldest_27 : decode cX10_removeOldest 27 = .ok (.if_icmp .eq 26, 3) := by decide +kernel
theorem dX10_removeOldest_30 : decode cX10_removeOldest 30 = .ok (.aload_n 0, 1) := by decide +kernel
theorem dX10_removeOldest_31 : decode cX10_removeOldest 31 = .ok (.getfield 7, 3) := by decide +kernel
theorem dX10_removeOldest_34 : decode cX10_removeOldest 34 = .ok (.sipush 652, 3) := by decide +kernel
theorem dX10_removeOldest_37 : decode cX10_removeOldest 37 = .ok (.iload_n 2, 1) := by decide +kernel
theorem dX10_removeOldest_38 : decode cX10_removeOldest 38 = .ok (.iadd, 1) := by decide +kernel
theorem dX10_removeOldest_39 : decode cX10_removeOldest 39 = .ok (.iaload, 1) := by decide +kernel
theorem dX10_removeOldest_40 : decode cX10_removeOldest 40 = .ok (.aload_n 0, 1) := by decide +kernel
theorem dX10_removeOldest_41 : decode cX10_removeOldest 41 = .ok (.getfield 7, 3) := by decide +kernel
theorem dX10_removeOldest_44 : decode cX10_removeOldest 44 = .ok (.sipush 652, 3) := by decide +kernel
theorem dX10_removeOldest_47 : decode cX10_removeOldest 47 = .ok (.iload_n 1, 1) := by decide +kernel
theorem dX10_removeOldest_48 : decode cX10_removeOldest 48 = .ok (.iadd, 1) := by decide +kernel
theorem dX10_removeOldest_49 : decode cX10_removeOldest 49 = .ok (.iaload, 1) := by decide +kernel
theorem dX10_removeOldest_50 : decode cX10_removeOldest 50 = .ok (.if_icmp .ge 5, 3) := by decide +kernel
theorem dX10_removeOldest_53 : decode cX10_removeOldest 53 = .ok (.iload_n 2, 1) := by decide +kernel
theorem dX10_removeOldest_54 : decode cX10_removeOldest 54 = .ok (.istore_n 1, 1) := by decide +kernel
theorem dX10_removeOldest_55 : decode cX10_removeOldest 55 = .ok (.iinc 2 1, 3) := by decide +kernel
theorem dX10_removeOldest_58 : decode cX10_removeOldest 58 = .ok (.goto (-53), 3) := by decide +kernel
theorem dX10_removeOldest_61 : decode cX10_removeOldest 61 = .ok (.aload_n 0, 1) := by decide +kernel
theorem dX10_removeOldest_62 : decode cX10_removeOldest 62 = .ok (.getfield 7, 3) := by decide +kernel
theorem dX10_removeOldest_65 : decode cX10_removeOldest 65 = .ok (.sipush 552, 3) := by decide +kernel
theorem dX10_removeOldest_68 : decode cX10_removeOldest 68 = .ok (.iload_n 1, 1) := by decide +kernel
theorem dX10_removeOldest_69 : decode cX10_removeOldest 69 = .ok (.iadd, 1) := by decide +kernel
theorem dX10_removeOldest_70 : decode cX10_removeOldest 70 = .ok (.iconst 0, 1) := by decide +kernel
theorem dX10_removeOldest_71 : decode cX10_removeOldest 71 = .ok (.iastore, 1) := by decide +kernel
theorem dX10_removeOldest_72 : decode cX10_removeOldest 72 = .ok (.return_, 1) := by decide +kernel
theorem dX10_quarantine_0 : decode cX10_quarantine 0 = .ok (.aload_n 0, 1) := by decide +kernel
theorem dX10_quarantine_1 : decode cX10_quarantine 1 = .ok (.iload_n 1, 1) := by decide +kernel
theorem dX10_quarantine_2 : decode cX10_quarantine 2 = .ok (.iconst 1, 1) := by decide +kernel
theorem dX10_quarantine_3 : decode cX10_quarantine 3 = .ok (.aload_n 0, 1) := by decide +kernel
theorem dX10_quarantine_4 : decode cX10_quarantine 4 = .ok (.getfield 7, 3) := by decide +kernel
theorem dX10_quarantine_7 : decode cX10_quarantine 7 = .ok (.iconst 4, 1) := by decide +kernel
theorem dX10_quarantine_8 : decode cX10_quarantine 8 = .ok (.iaload, 1) := by decide +kernel
theorem dX10_quarantine_9 : decode cX10_quarantine 9 = .ok (.aload_n 0, 1) := by decide +kernel
theorem dX10_quarantine_10 : decode cX10_quarantine 10 = .ok (.getfield 7, 3) := by decide +kernel
theorem dX10_quarantine_13 : decode cX10_quarantine 13 = .ok (.iconst 1, 1) := by decide +kernel
theorem dX10_quarantine_14 : decode cX10_quarantine 14 = .ok (.iaload, 1) := by decide +kernel
theorem dX10_quarantine_15 : decode cX10_quarantine 15 = .ok (.iadd, 1) := by decide +kernel
theorem dX10_quarantine_16 : decode cX10_quarantine 16 = .ok (.invokevirtual 32, 3) := by decide +kernel
theorem dX10_quarantine_19 : decode cX10_quarantine 19 = .ok (.aload_n 0, 1) := by decide +kernel
theorem dX10_quarantine_20 : decode cX10_quarantine 20 = .ok (.iload_n 1, 1) := by decide +kernel
theorem dX10_quarantine_21 : decode cX10_quarantine 21 = .ok (.iconst 2, 1) := by decide +kernel
theorem dX10_quarantine_22 : decode cX10_quarantine 22 = .ok (.iload_n 2, 1) := by decide +kernel
theorem dX10_quarantine_23 : decode cX10_quarantine 23 = .ok (.invokevirtual 32, 3) := by decide +kernel
theorem dX10_quarantine_26 : decode cX10_quarantine 26 = .ok (.aload_n 0, 1) := by decide +kernel
theorem dX10_quarantine_27 : decode cX10_quarantine 27 = .ok (.getfield 7, 3) := by decide +kernel
theorem dX10_quarantine_30 : decode cX10_quarantine 30 = .ok (.iconst 5, 1) := by decide +kernel
theorem dX10_quarantine_31 : decode cX10_quarantine 31 = .ok (.dup2, 1) := by decide +kernel
theorem dX10_quarantine_32 : decode cX10_quarantine 32 = .ok (.iaload, 1) := by decide +kernel
theorem dX10_quarantine_33 : decode cX10_quarantine 33 = .ok (.iconst 1, 1) := by decide +kernel
theorem dX10_quarantine_34 : decode cX10_quarantine 34 = .ok (.iadd, 1) := by decide +kernel
theorem dX10_quarantine_35 : decode cX10_quarantine 35 = .ok (.iastore, 1) := by decide +kernel
theorem dX10_quarantine_36 : decode cX10_quarantine 36 = .ok (.aload_n 0, 1) := by decide +kernel
theorem dX10_quarantine_37 : decode cX10_quarantine 37 = .ok (.iload_n 1, 1) := by decide +kernel
theorem dX10_quarantine_38 : decode cX10_quarantine 38 = .ok (.invokevirtual 72, 3) := by decide +kernel
theorem dX10_quarantine_41 : decode cX10_quarantine 41 = .ok (.return_, 1) := by decide +kernel
theorem dX10_queueCell_0 : decode cX10_queueCell 0 = .ok (.sipush 168, 3) := by decide +kernel
theorem dX10_queueCell_3 : decode cX10_queueCell 3 = .ok (.bipush 48, 2) := by decide +kernel
theorem dX10_queueCell_5 : decode cX10_queueCell 5 = .ok (.iload_n 1, 1) := by decide +kernel
theorem dX10_queueCell_6 : decode cX10_queueCell 6 = .ok (.imul, 1) := by decide +kernel
theorem dX10_queueCell_7 : decode cX10_queueCell 7 = .ok (.iadd, 1) := by decide +kernel
theorem dX10_queueCell_8 : decode cX10_queueCell 8 = .ok (.iconst 4, 1) := by decide +kernel
theorem dX10_queueCell_9 : decode cX10_queueCell 9 = .ok (.iload_n 2, 1) := by decide +kernel
theorem dX10_queueCell_10 : decode cX10_queueCell 10 = .ok (.imul, 1) := by decide +kernel
theorem dX10_queueCell_11 : decode cX10_queueCell 11 = .ok (.iadd, 1) := by decide +kernel
theorem dX10_queueCell_12 : decode cX10_queueCell 12 = .ok (.ireturn, 1) := by decide +kernel
theorem dX10_goesOut_0 : decode cX10_goesOut 0 = .ok (.aload_n 0, 1) := by decide +kernel
theorem dX10_goesOut_1 : decode cX10_goesOut 1 = .ok (.iload_n 1, 1) := by decide +kernel
theorem dX10_goesOut_2 : decode cX10_goesOut 2 = .ok (.iconst 5, 1) := by decide +kernel
theorem dX10_goesOut_3 : decode cX10_goesOut 3 = .ok (.invokevirtual 44, 3) := by decide +kernel
theorem dX10_goesOut_6 : decode cX10_goesOut 6 = .ok (.bipush 12, 2) := by decide +kernel
theorem dX10_goesOut_8 : decode cX10_goesOut 8 = .ok (.if_icmp .ne 11, 3) := by decide +kernel
theorem dX10_goesOut_11 : decode cX10_goesOut 11 = .ok (.aload_n 0, 1) := by decide +kernel
theorem dX10_goesOut_12 : decode cX10_goesOut 12 = .ok (.iload_n 1, 1) := by decide +kernel
theorem dX10_goesOut_13 : decode cX10_goesOut 13 = .ok (.bipush 8, 2) := by decide +kernel
theorem dX10_goesOut_15 : decode cX10_goesOut 15 = .ok (.invokevirtual 76, 3) := by decide +kernel
theorem dX10_goesOut_18 : decode cX10_goesOut 18 = .ok (.return_, 1) := by decide +kernel
theorem dX10_goesOut_19 : decode cX10_goesOut 19 = .ok (.aload_n 0, 1) := by decide +kernel
theorem dX10_goesOut_20 : decode cX10_goesOut 20 = .ok (.iload_n 1, 1) := by decide +kernel
theorem dX10_goesOut_21 : decode cX10_goesOut 21 = .ok (.aload_n 0, 1) := by decide +kernel
theorem dX10_goesOut_22 : decode cX10_goesOut 22 = .ok (.iload_n 1, 1) := by decide +kernel
theorem dX10_goesOut_23 : decode cX10_goesOut 23 = .ok (.iconst 5, 1) := by decide +kernel
theorem dX10_goesOut_24 : decode cX10_goesOut 24 = .ok (.invokevirtual 44, 3) := by decide +kernel
theorem dX10_goesOut_27 : decode cX10_goesOut 27 = .ok (.invokevirtual 80, 3) := by decide +kernel
theorem dX10_goesOut_30 : decode cX10_goesOut 30 = .ok (.istore 5, 2) := by decide +kernel
theorem dX10_goesOut_32 : decode cX10_goesOut 32 = .ok (.aload_n 0, 1) := by decide +kernel
theorem dX10_goesOut_33 : decode cX10_goesOut 33 = .ok (.getfield 7, 3) := by decide +kernel
theorem dX10_goesOut_36 : decode cX10_goesOut 36 = .ok (.iload 5, 2) := by decide +kernel
theorem dX10_goesOut_38 : decode cX10_goesOut 38 = .ok (.aload_n 0, 1) := by decide +kernel
theorem dX10_goesOut_39 : decode cX10_goesOut 39 = .ok (.getfield 7, 3) := by decide +kernel
theorem dX10_goesOut_42 : decode cX10_goesOut 42 = .ok (.bipush 6, 2) := by decide +kernel
theorem dX10_goesOut_44 : decode cX10_goesOut 44 = .ok (.iaload, 1) := by decide +kernel
theorem dX10_goesOut_45 : decode cX10_goesOut 45 = .ok (.iastore, 1) := by decide +kernel
theorem dX10_goesOut_46 : decode cX10_goesOut 46 = .ok (.aload_n 0, 1) := by decide +kernel
theorem dX10_goesOut_47 : decode cX10_goesOut 47 = .ok (.getfield 7, 3) := by decide +kernel
theorem dX10_goesOut_50 : decode cX10_goesOut 50 = .ok (.iload 5, 2) := by decide +kernel
theorem dX10_goesOut_52 : decode cX10_goesOut 52 = .ok (.iconst 1, 1) := by decide +kernel
theorem dX10_goesOut_53 : decode cX10_goesOut 53 = .ok (.iadd, 1) := by decide +kernel
theorem dX10_goesOut_54 : decode cX10_goesOut 54 = .ok (.iload_n 2, 1) := by decide +kernel
theorem dX10_goesOut_55 : decode cX10_goesOut 55 = .ok (.iastore, 1) := by decide +kernel
theorem dX10_goesOut_56 : decode cX10_goesOut 56 = .ok (.aload_n 0, 1) := by decide +kernel
theorem dX10_goesOut_57 : decode cX10_goesOut 57 = .ok (.getfield 7, 3) := by decide +kernel
theorem dX10_goesOut_60 : decode cX10_goesOut 60 = .ok (.iload 5, 2) := by decide +kernel
theorem dX10_goesOut_62 : decode cX10_goesOut 62 = .ok (.iconst 2, 1) := by decide +kernel
theorem dX10_goesOut_63 : decode cX10_goesOut 63 = .ok (.iadd, 1) := by decide +kernel
theorem dX10_goesOut_64 : decode cX10_goesOut 64 = .ok (.iload_n 3, 1) := by decide +kernel
theorem dX10_goesOut_65 : decode cX10_goesOut 65 = .ok (.iastore, 1) := by decide +kernel
theorem dX10_goesOut_66 : decode cX10_goesOut 66 = .ok (.aload_n 0, 1) := by decide +kernel
theorem dX10_goesOut_67 : decode cX10_goesOut 67 = .ok (.getfield 7, 3) := by decide +kernel
theorem dX10_goesOut_70 : decode cX10_goesOut 70 = .ok (.iload 5, 2) := by decide +kernel
theorem dX10_goesOut_72 : decode cX10_goesOut 72 = .ok (.iconst 3, 1) := by decide +kernel
theorem dX10_goesOut_73 : decode cX10_goesOut 73 = .ok (.iadd, 1) := by decide +kernel
theorem dX10_goesOut_74 : decode cX10_goesOut 74 = .ok (.iload 4, 2) := by decide +kernel
theorem dX10_goesOut_76 : decode cX10_goesOut 76 = .ok (.iastore, 1) := by decide +kernel
theorem dX10_goesOut_77 : decode cX10_goesOut 77 = .ok (.aload_n 0, 1) := by decide +kernel
theorem dX10_goesOut_78 : decode cX10_goesOut 78 = .ok (.iload_n 1, 1) := by decide +kernel
theorem dX10_goesOut_79 : decode cX10_goesOut 79 = .ok (.iconst 5, 1) := by decide +kernel
theorem dX10_goesOut_80 : decode cX10_goesOut 80 = .ok (.aload_n 0, 1) := by decide +kernel
theorem dX10_goesOut_81 : decode cX10_goesOut 81 = .ok (.iload_n 1, 1) := by decide +kernel
theorem dX10_goesOut_82 : decode cX10_goesOut 82 = .ok (.iconst 5, 1) := by decide +kernel
theorem dX10_goesOut_83 : decode cX10_goesOut 83 = .ok (.invokevirtual 44, 3) := by decide +kernel
theorem dX10_goesOut_86 : decode cX10_goesOut 86 = .ok (.iconst 1, 1) := by decide +kernel
theorem dX10_goesOut_87 : decode cX10_goesOut 87 = .ok (.iadd, 1) := by decide +kernel
theorem dX10_goesOut_88 : decode cX10_goesOut 88 = .ok (.invokevirtual 32, 3) := by decide +kernel
theorem dX10_goesOut_91 : decode cX10_goesOut 91 = .ok (.aload_n 0, 1) := by decide +kernel
theorem dX10_goesOut_92 : decode cX10_goesOut 92 = .ok (.getfield 7, 3) := by decide +kernel
theorem dX10_goesOut_95 : decode cX10_goesOut 95 = .ok (.bipush 6, 2) := by decide +kernel
theorem dX10_goesOut_97 : decode cX10_goesOut 97 = .ok (.dup2, 1) := by decide +kernel
theorem dX10_goesOut_98 : decode cX10_goesOut 98 = .ok (.iaload, 1) := by decide +kernel
theorem dX10_goesOut_99 : decode cX10_goesOut 99 = .ok (.iconst 1, 1) := by decide +kernel
theorem dX10_goesOut_100 : decode cX10_goesOut 100 = .ok (.iadd, 1) := by decide +kernel
theorem dX10_goesOut_101 : decode cX10_goesOut 101 = .ok (.iastore, 1) := by decide +kernel
theorem dX10_goesOut_102 : decode cX10_goesOut 102 = .ok (.aload_n 0, 1) := by decide +kernel
theorem dX10_goesOut_103 : decode cX10_goesOut 103 = .ok (.iload_n 1, 1) := by decide +kernel
theorem dX10_goesOut_104 : decode cX10_goesOut 104 = .ok (.bipush 7, 2) := by decide +kernel
theorem dX10_goesOut_106 : decode cX10_goesOut 106 = .ok (.invokevirtual 76, 3) := by decide +kernel
theorem dX10_goesOut_109 : decode cX10_goesOut 109 = .ok (.return_, 1) := by decide +kernel
theorem dX10_comesIn_0 : decode cX10_comesIn 0 = .ok (.aload_n 0, 1) := by decide +kernel
theorem dX10_comesIn_1 : decode cX10_comesIn 1 = .ok (.iload_n 1, 1) := by decide +kernel
theorem dX10_comesIn_2 : decode cX10_comesIn 2 = .ok (.iload_n 2, 1) := by decide +kernel
theorem dX10_comesIn_3 : decode cX10_comesIn 3 = .ok (.iload_n 3, 1) := by decide +kernel
theorem dX10_comesIn_4 : decode cX10_comesIn 4 = .ok (.iload 4, 2) := by decide +kernel
theorem dX10_comesIn_6 : decode cX10_comesIn 6 = .ok (.invokevirtual 83, 3) := by decide +kernel
theorem dX10_comesIn_9 : decode cX10_comesIn 9 = .ok (.istore 5, 2) := by decide +kernel
theorem dX10_comesIn_11 : decode cX10_comesIn 11 = .ok (.aload_n 0, 1) := by decide +kernel
theorem dX10_comesIn_12 : decode cX10_comesIn 12 = .ok (.iload_n 1, 1) := by decide +kernel
theorem dX10_comesIn_13 : decode cX10_comesIn 13 = .ok (.iconst 0, 1) := by decide +kernel
theorem dX10_comesIn_14 : decode cX10_comesIn 14 = .ok (.invokevirtual 76, 3) := by decide +kernel
theorem dX10_comesIn_17 : decode cX10_comesIn 17 = .ok (.aload_n 0, 1) := by decide +kernel
theorem dX10_comesIn_18 : decode cX10_comesIn 18 = .ok (.iload_n 1, 1) := by decide +kernel
theorem dX10_comesIn_19 : decode cX10_comesIn 19 = .ok (.iload 5, 2) := by decide +kernel
theorem dX10_comesIn_21 : decode cX10_comesIn 21 = .ok (.iconst 4, 1) := by decide +kernel
theorem dX10_comesIn_22 : decode cX10_comesIn 22 = .ok (.if_icmp .eq 9, 3) := by decide +kernel
theorem dX10_comesIn_25 : decode cX10_comesIn 25 = .ok (.iload 5, 2) := by decide +kernel
theorem dX10_comesIn_27 : decode cX10_comesIn 27 = .ok (.iconst 5, 1) := by decide +kernel
theorem dX10_comesIn_28 : decode cX10_comesIn 28 = .ok (.if_icmp .ne 7, 3) := by decide +kernel
theorem dX10_comesIn_31 : decode cX10_comesIn 31 = .ok (.iconst 5, 1) := by decide +kernel
theorem dX10_comesIn_32 : decode cX10_comesIn 32 = .ok (.goto 28, 3) := by decide +kernel
theorem dX10_comesIn_35 : decode cX10_comesIn 35 = .ok (.iload 5, 2) := by decide +kernel
theorem dX10_comesIn_37 : decode cX10_comesIn 37 = .ok (.ifCond .ne 7, 3) := by decide +kernel
theorem dX10_comesIn_40 : decode cX10_comesIn 40 = .ok (.iconst 1, 1) := by decide +kernel
theorem dX10_comesIn_41 : decode cX10_comesIn 41 = .ok (.goto 19, 3) := by decide +kernel
theorem dX10_comesIn_44 : decode cX10_comesIn 44 = .ok (.iload 5, 2) := by decide +kernel
theorem dX10_comesIn_46 : decode cX10_comesIn 46 = .ok (.bipush 6, 2) := by decide +kernel
theorem dX10_comesIn_48 : decode cX10_comesIn 48 = .ok (.if_icmp .ne 8, 3) := by decide +kernel
theorem dX10_comesIn_51 : decode cX10_comesIn 51 = .ok (.bipush 6, 2) := by decide +kernel
theorem dX10_comesIn_53 : decode cX10_comesIn 53 = .ok (.goto 7, 3) := by decide +kernel
theorem dX10_comesIn_56 : decode cX10_comesIn 56 = .ok (.iload 5, 2) := by decide +kernel
theorem dX10_comesIn_58 : decode cX10_comesIn 58 = .ok (.iconst 1, 1) := by decide +kernel
theorem dX10_comesIn_59 : decode cX10_comesIn 59 = .ok (.iadd, 1) := by decide +kernel
theorem dX10_comesIn_60 : decode cX10_comesIn 60 = .ok (.invokevirtual 76, 3) := by decide +kernel
theorem dX10_comesIn_63 : decode cX10_comesIn 63 = .ok (.iload 5, 2) := by decide +kernel
theorem dX10_comesIn_65 : decode cX10_comesIn 65 = .ok (.ireturn, 1) := by decide +kernel
theorem dX10_becomes_0 : decode cX10_becomes 0 = .ok (.aload_n 0, 1) := by decide +kernel
theorem dX10_becomes_1 : decode cX10_becomes 1 = .ok (.iconst 0, 1) := by decide +kernel
theorem dX10_becomes_2 : decode cX10_becomes 2 = .ok (.putfield 87, 3) := by decide +kernel
theorem dX10_becomes_5 : decode cX10_becomes 5 = .ok (.aload_n 0, 1) := by decide +kernel
theorem dX10_becomes_6 : decode cX10_becomes 6 = .ok (.iload_n 1, 1) := by decide +kernel
theorem dX10_becomes_7 : decode cX10_becomes 7 = .ok (.invokevirtual 48, 3) := by decide +kernel
theorem dX10_becomes_10 : decode cX10_becomes 10 = .ok (.ifCond .ne 5, 3) := by decide +kernel
theorem dX10_becomes_13 : decode cX10_becomes 13 = .ok (.iconst 0, 1) := by decide +kernel
theorem dX10_becomes_14 : decode cX10_becomes 14 = .ok (.ireturn, 1) := by decide +kernel
theorem dX10_becomes_15 : decode cX10_becomes 15 = .ok (.aload_n 0, 1) := by decide +kernel
theorem dX10_becomes_16 : decode cX10_becomes 16 = .ok (.getfield 7, 3) := by decide +kernel
theorem dX10_becomes_19 : decode cX10_becomes 19 = .ok (.sipush 552, 3) := by decide +kernel
theorem dX10_becomes_22 : decode cX10_becomes 22 = .ok (.iload_n 2, 1) := by decide +kernel
theorem dX10_becomes_23 : decode cX10_becomes 23 = .ok (.iadd, 1) := by decide +kernel
theorem dX10_becomes_24 : decode cX10_becomes 24 = .ok (.iaload, 1) := by decide +kernel
theorem dX10_becomes_25 : decode cX10_becomes 25 = .ok (.ifCond .le 92, 3) := by decide +kernel
theorem dX10_becomes_28 : decode cX10_becomes 28 = .ok (.aload_n 0, 1) := by decide +kernel
theorem dX10_becomes_29 : decode cX10_becomes 29 = .ok (.getfield 7, 3) := by decide +kernel
theorem dX10_becomes_32 : decode cX10_becomes 32 = .ok (.sipush 552, 3) := by decide +kernel
theorem dX10_becomes_35 : decode cX10_becomes 35 = .ok (.iload_n 2, 1) := by decide +kernel
theorem dX10_becomes_36 : decode cX10_becomes 36 = .ok (.iadd, 1) := by decide +kernel
theorem dX10_becomes_37 : decode cX10_becomes 37 = .ok (.iaload, 1) := by decide +kernel
theorem dX10_becomes_38 : decode cX10_becomes 38 = .ok (.iload_n 1, 1) := by decide +kernel
theorem dX10_becomes_39 : decode cX10_becomes 39 = .ok (.iconst 1, 1) := by decide +kernel
theorem dX10_becomes_40 : decode cX10_becomes 40 = .ok (.iadd, 1) := by decide +kernel
theorem dX10_becomes_41 : decode cX10_becomes 41 = .ok (.if_icmp .eq 76, 3) := by decide +kernel
theorem dX10_becomes_44 : decode cX10_becomes 44 = .ok (.aload_n 0, 1) := by decide +kernel
theorem dX10_becomes_45 : decode cX10_becomes 45 = .ok (.getfield 7, 3) := by decide +kernel
theorem dX10_becomes_48 : decode cX10_becomes 48 = .ok (.sipush 552, 3) := by decide +kernel
theorem dX10_becomes_51 : decode cX10_becomes 51 = .ok (.iload_n 2, 1) := by decide +kernel
theorem dX10_becomes_52 : decode cX10_becomes 52 = .ok (.iadd, 1) := by decide +kernel
theorem dX10_becomes_53 : decode cX10_becomes 53 = .ok (.iload_n 1, 1) := by decide +kernel
theorem dX10_becomes_54 : decode cX10_becomes 54 = .ok (.iconst 1, 1) := by decide +kernel
theorem dX10_becomes_55 : decode cX10_becomes 55 = .ok (.iadd, 1) := by decide +kernel
theorem dX10_becomes_56 : decode cX10_becomes 56 = .ok (.iastore, 1) := by decide +kernel
theorem dX10_becomes_57 : decode cX10_becomes 57 = .ok (.aload_n 0, 1) := by decide +kernel
theorem dX10_becomes_58 : decode cX10_becomes 58 = .ok (.getfield 7, 3) := by decide +kernel
theorem dX10_becomes_61 : decode cX10_becomes 61 = .ok (.sipush 652, 3) := by decide +kernel
theorem dX10_becomes_64 : decode cX10_becomes 64 = .ok (.iload_n 2, 1) := by decide +kernel
theorem dX10_becomes_65 : decode cX10_becomes 65 = .ok (.iadd, 1) := by decide +kernel
theorem dX10_becomes_66 : decode cX10_becomes 66 = .ok (.aload_n 0, 1) := by decide +kernel
theorem dX10_becomes_67 : decode cX10_becomes 67 = .ok (.getfield 7, 3) := by decide +kernel
theorem dX10_becomes_70 : decode cX10_becomes 70 = .ok (.iconst 4, 1) := by decide +kernel
theorem dX10_becomes_71 : decode cX10_becomes 71 = .ok (.iaload, 1) := by decide +kernel
theorem dX10_becomes_72 : decode cX10_becomes 72 = .ok (.iastore, 1) := by decide +kernel
theorem dX10_becomes_73 : decode cX10_becomes 73 = .ok (.aload_n 0, 1) := by decide +kernel
theorem dX10_becomes_74 : decode cX10_becomes 74 = .ok (.getfield 7, 3) := by decide +kernel
theorem dX10_becomes_77 : decode cX10_becomes 77 = .ok (.sipush 752, 3) := by decide +kernel
theorem dX10_becomes_80 : decode cX10_becomes 80 = .ok (.bipush 10, 2) := by decide +kernel
theorem dX10_becomes_82 : decode cX10_becomes 82 = .ok (.iload_n 2, 1) := by decide +kernel
theorem dX10_becomes_83 : decode cX10_becomes 83 = .ok (.imul, 1) := by decide +kernel
theorem dX10_becomes_84 : decode cX10_becomes 84 = .ok (.iadd, 1) := by decide +kernel
theorem dX10_becomes_85 : decode cX10_becomes 85 = .ok (.aload_n 0, 1) := by decide +kernel
theorem dX10_becomes_86 : decode cX10_becomes 86 = .ok (.getfield 7, 3) := by decide +kernel
theorem dX10_becomes_89 : decode cX10_becomes 89 = .ok (.iconst 4, 1) := by decide +kernel
theorem dX10_becomes_90 : decode cX10_becomes 90 = .ok (.iaload, 1) := by decide +kernel
theorem dX10_becomes_91 : decode cX10_becomes 91 = .ok (.bipush 10, 2) := by decide +kernel
theorem dX10_becomes_93 : decode cX10_becomes 93 = .ok (.irem, 1) := by decide +kernel
theorem dX10_becomes_94 : decode cX10_becomes 94 = .ok (.iadd, 1) := by decide +kernel
theorem dX10_becomes_95 : decode cX10_becomes 95 = .ok (.dup2, 1) := by decide +kernel
theorem dX10_becomes_96 : decode cX10_becomes 96 = .ok (.iaload, 1) := by decide +kernel
theorem dX10_becomes_97 : decode cX10_becomes 97 = .ok (.iconst 1, 1) := by decide +kernel
theorem dX10_becomes_98 : decode cX10_becomes 98 = .ok (.iadd, 1) := by decide +kernel
theorem dX10_becomes_99 : decode cX10_becomes 99 = .ok (.iastore, 1) := by decide +kernel
theorem dX10_becomes_100 : decode cX10_becomes 100 = .ok (.aload_n 0, 1) := by decide +kernel
theorem dX10_becomes_101 : decode cX10_becomes 101 = .ok (.iload_n 2, 1) := by decide +kernel
theorem dX10_becomes_102 : decode cX10_becomes 102 = .ok (.invokevirtual 90, 3) := by decide +kernel
theorem dX10_becomes_105 : decode cX10_becomes 105 = .ok (.iconst 3, 1) := by decide +kernel
theorem dX10_becomes_106 : decode cX10_becomes 106 = .ok (.if_icmp .lt 11, 3) := by decide +kernel
theorem dX10_becomes_109 : decode cX10_becomes 109 = .ok (.aload_n 0, 1) := by decide +kernel
theorem dX10_becomes_110 : decode cX10_becomes 110 = .ok (.iload_n 1, 1) := by decide +kernel
theorem dX10_becomes_111 : decode cX10_becomes 111 = .ok (.iconst 1, 1) := by decide +kernel
theorem dX10_becomes_112 : decode cX10_becomes 112 = .ok (.invokevirtual 93, 3) := by decide +kernel
theorem dX10_becomes_115 : decode cX10_becomes 115 = .ok (.iconst 4, 1) := by decide +kernel
theorem dX10_becomes_116 : decode cX10_becomes 116 = .ok (.ireturn, 1) := by decide +kernel
theorem dX10_becomes_117 : decode cX10_becomes 117 = .ok (.aload_n 0, 1) := by decide +kernel
theorem dX10_becomes_118 : decode cX10_becomes 118 = .ok (.getfield 7, 3) := by decide +kernel
theorem dX10_becomes_121 : decode cX10_becomes 121 = .ok (.sipush 552, 3) := by decide +kernel
theorem dX10_becomes_124 : decode cX10_becomes 124 = .ok (.iload_n 2, 1) := by decide +kernel
theorem dX10_becomes_125 : decode cX10_becomes 125 = .ok (.iadd, 1) := by decide +kernel
theorem dX10_becomes_126 : decode cX10_becomes 126 = .ok (.iaload, 1) := by decide +kernel
theorem dX10_becomes_127 : decode cX10_becomes 127 = .ok (.ifCond .ne 16, 3) := by decide +kernel
theorem dX10_becomes_130 : decode cX10_becomes 130 = .ok (.aload_n 0, 1) := by decide +kernel
theorem dX10_becomes_131 : decode cX10_becomes 131 = .ok (.invokevirtual 96, 3) := by decide +kernel
theorem dX10_becomes_134 : decode cX10_becomes 134 = .ok (.bipush 20, 2) := by decide +kernel
theorem dX10_becomes_136 : decode cX10_becomes 136 = .ok (.if_icmp .ne 7, 3) := by decide +kernel
theorem dX10_becomes_139 : decode cX10_becomes 139 = .ok (.aload_n 0, 1) := by decide +kernel
theorem dX10_becomes_140 : decode cX10_becomes 140 = .ok (.invokevirtual 99, 3) := by decide +kernel
theorem dX10_becomes_143 : decode cX10_becomes 143 = .ok (.aload_n 0, 1) := by decide +kernel
theorem dX10_becomes_144 : decode cX10_becomes 144 = .ok (.getfield 7, 3) := by decide +kernel
theorem dX10_becomes_147 : decode cX10_becomes 147 = .ok (.sipush 552, 3) := by decide +kernel
theorem dX10_becomes_150 : decode cX10_becomes 150 = .ok (.iload_n 2, 1) := by decide +kernel
theorem dX10_becomes_151 : decode cX10_becomes 151 = .ok (.iadd, 1) := by decide +kernel
theorem dX10_becomes_152 : decode cX10_becomes 152 = .ok (.iload_n 1, 1) := by decide +kernel
theorem dX10_becomes_153 : decode cX10_becomes 153 = .ok (.iconst 1, 1) := by decide +kernel
theorem dX10_becomes_154 : decode cX10_becomes 154 = .ok (.iadd, 1) := by decide +kernel
theorem dX10_becomes_155 : decode cX10_becomes 155 = .ok (.iastore, 1) := by decide +kernel
theorem dX10_becomes_156 : decode cX10_becomes 156 = .ok (.aload_n 0, 1) := by decide +kernel
theorem dX10_becomes_157 : decode cX10_becomes 157 = .ok (.getfield 7, 3) := by decide +kernel
theorem dX10_becomes_160 : decode cX10_becomes 160 = .ok (.sipush 652, 3) := by decide +kernel
theorem dX10_becomes_163 : decode cX10_becomes 163 = .ok (.iload_n 2, 1) := by decide +kernel
theorem dX10_becomes_164 : decode cX10_becomes 164 = .ok (.iadd, 1) := by decide +kernel
theorem dX10_becomes_165 : decode cX10_becomes 165 = .ok (.aload_n 0, 1) := by decide +kernel
theorem dX10_becomes_166 : decode cX10_becomes 166 = .ok (.getfield 7, 3) := by decide +kernel
theorem dX10_becomes_169 : decode cX10_becomes 169 = .ok (.iconst 4, 1) := by decide +kernel
theorem dX10_becomes_170 : decode cX10_becomes 170 = .ok (.iaload, 1) := by decide +kernel
theorem dX10_becomes_171 : decode cX10_becomes 171 = .ok (.iastore, 1) := by decide +kernel
theorem dX10_becomes_172 : decode cX10_becomes 172 = .ok (.iload_n 3, 1) := by decide +kernel
theorem dX10_becomes_173 : decode cX10_becomes 173 = .ok (.ifCond .ne 8, 3) := by decide +kernel
theorem dX10_becomes_176 : decode cX10_becomes 176 = .ok (.bipush (-4), 2) := by decide +kernel
theorem dX10_becomes_178 : decode cX10_becomes 178 = .ok (.goto 15, 3) := by decide +kernel
theorem dX10_becomes_181 : decode cX10_becomes 181 = .ok (.aload_n 0, 1) := by decide +kernel
theorem dX10_becomes_182 : decode cX10_becomes 182 = .ok (.getfield 7, 3) := by decide +kernel
theorem dX10_becomes_185 : decode cX10_becomes 185 = .ok (.sipush 552, 3) := by decide +kernel
theorem dX10_becomes_188 : decode cX10_becomes 188 = .ok (.iload_n 3, 1) := by decide +kernel
theorem dX10_becomes_189 : decode cX10_becomes 189 = .ok (.iadd, 1) := by decide +kernel
theorem dX10_becomes_190 : decode cX10_becomes 190 = .ok (.iaload, 1) := by decide +kernel
theorem dX10_becomes_191 : decode cX10_becomes 191 = .ok (.iconst 1, 1) := by decide +kernel
theorem dX10_becomes_192 : decode cX10_becomes 192 = .ok (.isub, 1) := by decide +kernel
theorem dX10_becomes_193 : decode cX10_becomes 193 = .ok (.istore 5, 2) := by decide +kernel
theorem dX10_becomes_195 : decode cX10_becomes 195 = .ok (.iload 5, 2) := by decide +kernel
theorem dX10_becomes_197 : decode cX10_becomes 197 = .ok (.iload_n 1, 1) := by decide +kernel
theorem dX10_becomes_198 : decode cX10_becomes 198 = .ok (.if_icmp .ne 5, 3) := by decide +kernel
theorem dX10_becomes_201 : decode cX10_becomes 201 = .ok (.iconst 1, 1) := by decide +kernel
theorem dX10_becomes_202 : decode cX10_becomes 202 = .ok (.ireturn, 1) := by decide +kernel
theorem dX10_becomes_203 : decode cX10_becomes 203 = .ok (.iload 5, 2) := by decide +kernel
theorem dX10_becomes_205 : decode cX10_becomes 205 = .ok (.ifCond .lt 35, 3) := by decide +kernel
theorem dX10_becomes_208 : decode cX10_becomes 208 = .ok (.aload_n 0, 1) := by decide +kernel
theorem dX10_becomes_209 : decode cX10_becomes 209 = .ok (.iload 5, 2) := by decide +kernel
theorem dX10_becomes_211 : decode cX10_becomes 211 = .ok (.invokevirtual 48, 3) := by decide +kernel
theorem dX10_becomes_214 : decode cX10_becomes 214 = .ok (.ifCond .ne 6, 3) := by decide +kernel
theorem dX10_becomes_217 : decode cX10_becomes 217 = .ok (.bipush 6, 2) := by decide +kernel
theorem dX10_becomes_219 : decode cX10_becomes 219 = .ok (.ireturn, 1) := by decide +kernel
theorem dX10_becomes_220 : decode cX10_becomes 220 = .ok (.aload_n 0, 1) := by decide +kernel
theorem dX10_becomes_221 : decode cX10_becomes 221 = .ok (.iconst 1, 1) := by decide +kernel
theorem dX10_becomes_222 : decode cX10_becomes 222 = .ok (.iload 5, 2) := by decide +kernel
theorem dX10_becomes_224 : decode cX10_becomes 224 = .ok (.ishl, 1) := by decide +kernel
theorem dX10_becomes_225 : decode cX10_becomes 225 = .ok (.putfield 87, 3) := by decide +kernel
theorem dX10_becomes_228 : decode cX10_becomes 228 = .ok (.aload_n 0, 1) := by decide +kernel
theorem dX10_becomes_229 : decode cX10_becomes 229 = .ok (.iload 5, 2) := by decide +kernel
theorem dX10_becomes_231 : decode cX10_becomes 231 = .ok (.iload_n 2, 1) := by decide +kernel
theorem dX10_becomes_232 : decode cX10_becomes 232 = .ok (.iload_n 3, 1) := by decide +kernel
theorem dX10_becomes_233 : decode cX10_becomes 233 = .ok (.iload 4, 2) := by decide +kernel
theorem dX10_becomes_235 : decode cX10_becomes 235 = .ok (.invokevirtual 102, 3) := by decide +kernel
theorem dX10_becomes_238 : decode cX10_becomes 238 = .ok (.iconst 2, 1) := by decide +kernel
theorem dX10_becomes_239 : decode cX10_becomes 239 = .ok (.ireturn, 1) := by decide +kernel
theorem dX10_becomes_240 : decode cX10_becomes 240 = .ok (.aload_n 0, 1) := by decide +kernel
theorem dX10_becomes_241 : decode cX10_becomes 241 = .ok (.iload_n 1, 1) := by decide +kernel
theorem dX10_becomes_242 : decode cX10_becomes 242 = .ok (.iconst 4, 1) := by decide +kernel
theorem dX10_becomes_243 : decode cX10_becomes 243 = .ok (.invokevirtual 44, 3) := by decide +kernel
theorem dX10_becomes_246 : decode cX10_becomes 246 = .ok (.aload_n 0, 1) := by decide +kernel
theorem dX10_becomes_247 : decode cX10_becomes 247 = .ok (.getfield 7, 3) := by decide +kernel
theorem dX10_becomes_250 : decode cX10_becomes 250 = .ok (.iconst 2, 1) := by decide +kernel
theorem dX10_becomes_251 : decode cX10_becomes 251 = .ok (.iaload, 1) := by decide +kernel
theorem dX10_becomes_252 : decode cX10_becomes 252 = .ok (.if_icmp .lt 11, 3) := by decide +kernel
theorem dX10_becomes_255 : decode cX10_becomes 255 = .ok (.aload_n 0, 1) := by decide +kernel
theorem dX10_becomes_256 : decode cX10_becomes 256 = .ok (.iload_n 1, 1) := by decide +kernel
theorem dX10_becomes_257 : decode cX10_becomes 257 = .ok (.iconst 2, 1) := by decide +kernel
theorem dX10_becomes_258 : decode cX10_becomes 258 = .ok (.invokevirtual 93, 3) := by decide +kernel
theorem dX10_becomes_261 : decode cX10_becomes 261 = .ok (.iconst 5, 1) := by decide +kernel
theorem dX10_becomes_262 : decode cX10_becomes 262 = .ok (.ireturn, 1) := by decide +kernel
theorem dX10_becomes_263 : decode cX10_becomes 263 = .ok (.aload_n 0, 1) := by decide +kernel
theorem dX10_becomes_264 : decode cX10_becomes 264 = .ok (.iload_n 1, 1) := by decide +kernel
theorem dX10_becomes_265 : decode cX10_becomes 265 = .ok (.iconst 4, 1) := by decide +kernel
theorem dX10_becomes_266 : decode cX10_becomes 266 = .ok (.aload_n 0, 1) := by decide +kernel
theorem dX10_becomes_267 : decode cX10_becomes 267 = .ok (.iload_n 1, 1) := by decide +kernel
theorem dX10_becomes_268 : decode cX10_becomes 268 = .ok (.iconst 4, 1) := by decide +kernel
theorem dX10_becomes_269 : decode cX10_becomes 269 = .ok (.invokevirtual 44, 3) := by decide +kernel
theorem dX10_becomes_272 : decode cX10_becomes 272 = .ok (.iconst 1, 1) := by decide +kernel
theorem dX10_becomes_273 : decode cX10_becomes 273 = .ok (.iadd, 1) := by decide +kernel
theorem dX10_becomes_274 : decode cX10_becomes 274 = .ok (.invokevirtual 32, 3) := by decide +kernel
theorem dX10_becomes_277 : decode cX10_becomes 277 = .ok (.iconst 0, 1) := by decide +kernel
theorem dX10_becomes_278 : decode cX10_becomes 278 = .ok (.istore 6, 2) := by decide +kernel
theorem dX10_becomes_280 : decode cX10_becomes 280 = .ok (.iload 6, 2) := by decide +kernel
theorem dX10_becomes_282 : decode cX10_becomes 282 = .ok (.bipush 8, 2) := by decide +kernel
theorem dX10_becomes_284 : decode cX10_becomes 284 = .ok (.if_icmp .ge 47, 3) := by decide +kernel
theorem dX10_becomes_287 : decode cX10_becomes 287 = .ok (.iload 6, 2) := by decide +kernel
theorem dX10_becomes_289 : decode cX10_becomes 289 = .ok (.iload_n 1, 1) := by decide +kernel
theorem dX10_becomes_290 : decode cX10_becomes 290 = .ok (.if_icmp .eq 35, 3) := by decide +kernel
theorem dX10_becomes_293 : decode cX10_becomes 293 = .ok (.aload_n 0, 1) := by decide +kernel
theorem dX10_becomes_294 : decode cX10_becomes 294 = .ok (.iload 6, 2) := by decide +kernel
theorem dX10_becomes_296 : decode cX10_becomes 296 = .ok (.invokevirtual 48, 3) := by decide +kernel
theorem dX10_becomes_299 : decode cX10_becomes 299 = .ok (.ifCond .eq 26, 3) := by decide +kernel
theorem dX10_becomes_302 : decode cX10_becomes 302 = .ok (.aload_n 0, 1) := by decide +kernel
theorem dX10_becomes_303 : decode cX10_becomes 303 = .ok (.dup, 1) := by decide +kernel
theorem dX10_becomes_304 : decode cX10_becomes 304 = .ok (.getfield 87, 3) := by decide +kernel
theorem dX10_becomes_307 : decode cX10_becomes 307 = .ok (.iconst 1, 1) := by decide +kernel
theorem dX10_becomes_308 : decode cX10_becomes 308 = .ok (.iload 6, 2) := by decide +kernel
theorem dX10_becomes_310 : decode cX10_becomes 310 = .ok (.ishl, 1) := by decide +kernel
theorem dX10_becomes_311 : decode cX10_becomes 311 = .ok (.ior, 1) := by decide +kernel
theorem dX10_becomes_312 : decode cX10_becomes 312 = .ok (.putfield 87, 3) := by decide +kernel
theorem dX10_becomes_315 : decode cX10_becomes 315 = .ok (.aload_n 0, 1) := by decide +kernel
theorem dX10_becomes_316 : decode cX10_becomes 316 = .ok (.iload 6, 2) := by decide +kernel
theorem dX10_becomes_318 : decode cX10_becomes 318 = .ok (.iload_n 2, 1) := by decide +kernel
theorem dX10_becomes_319 : decode cX10_becomes 319 = .ok (.iload_n 3, 1) := by decide +kernel
theorem dX10_becomes_320 : decode cX10_becomes 320 = .ok (.iload 4, 2) := by decide +kernel
theorem dX10_becomes_322 : decode cX10_becomes 322 = .ok (.invokevirtual 102, 3) := by decide +kernel
theorem dX10_becomes_325 : decode cX10_becomes 325 = .ok (.iinc 6 1, 3) := by decide +kernel
theorem dX10_becomes_328 : decode cX10_becomes 328 = .ok (.goto (-48), 3) := by decide +kernel
theorem dX10_becomes_331 : decode cX10_becomes 331 = .ok (.iconst 3, 1) := by decide +kernel
theorem dX10_becomes_332 : decode cX10_becomes 332 = .ok (.ireturn, 1) := by decide +kernel
theorem dX10_frame_0 : decode cX10_frame 0 = .ok (.iload_n 1, 1) := by decide +kernel
theorem dX10_frame_1 : decode cX10_frame 1 = .ok (.invokestatic 52, 3) := by decide +kernel
theorem dX10_frame_4 : decode cX10_frame 4 = .ok (.ifCond .eq 5, 3) := by decide +kernel
theorem dX10_frame_7 : decode cX10_frame 7 = .ok (.iconst (-1), 1) := by decide +kernel
theorem dX10_frame_8 : decode cX10_frame 8 = .ok (.ireturn, 1) := by decide +kernel
theorem dX10_frame_9 : decode cX10_frame 9 = .ok (.iload_n 2, 1) := by decide +kernel
theorem dX10_frame_10 : decode cX10_frame 10 = .ok (.invokestatic 106, 3) := by decide +kernel
theorem dX10_frame_13 : decode cX10_frame 13 = .ok (.ifCond .ne 23, 3) := by decide +kernel
theorem dX10_frame_16 : decode cX10_frame 16 = .ok (.iload_n 3, 1) := by decide +kernel
theorem dX10_frame_17 : decode cX10_frame 17 = .ok (.iconst 0, 1) := by decide +kernel
theorem dX10_frame_18 : decode cX10_frame 18 = .ok (.bipush 99, 2) := by decide +kernel
theorem dX10_frame_20 : decode cX10_frame 20 = .ok (.invokestatic 36, 3) := by decide +kernel
theorem dX10_frame_23 : decode cX10_frame 23 = .ok (.ifCond .eq 13, 3) := by decide +kernel
theorem dX10_frame_26 : decode cX10_frame 26 = .ok (.iload 4, 2) := by decide +kernel
theorem dX10_frame_28 : decode cX10_frame 28 = .ok (.iconst 0, 1) := by decide +kernel
theorem dX10_frame_29 : decode cX10_frame 29 = .ok (.iconst 3, 1) := by decide +kernel
theorem dX10_frame_30 : decode cX10_frame 30 = .ok (.invokestatic 36, 3) := by decide +kernel
theorem dX10_frame_33 : decode cX10_frame 33 = .ok (.ifCond .ne 6, 3) := by decide +kernel
theorem dX10_frame_36 : decode cX10_frame 36 = .ok (.bipush (-2), 2) := by decide +kernel
theorem dX10_frame_38 : decode cX10_frame 38 = .ok (.ireturn, 1) := by decide +kernel
theorem dX10_frame_39 : decode cX10_frame 39 = .ok (.aload_n 0, 1) := by decide +kernel
theorem dX10_frame_40 : decode cX10_frame 40 = .ok (.invokevirtual 55, 3) := by decide +kernel
theorem dX10_frame_43 : decode cX10_frame 43 = .ok (.aload_n 0, 1) := by decide +kernel
theorem dX10_frame_44 : decode cX10_frame 44 = .ok (.iload_n 1, 1) := by decide +kernel
theorem dX10_frame_45 : decode cX10_frame 45 = .ok (.iload_n 2, 1) := by decide +kernel
theorem dX10_frame_46 : decode cX10_frame 46 = .ok (.iload_n 3, 1) := by decide +kernel
theorem dX10_frame_47 : decode cX10_frame 47 = .ok (.iload 4, 2) := by decide +kernel
theorem dX10_frame_49 : decode cX10_frame 49 = .ok (.invokevirtual 109, 3) := by decide +kernel
theorem dX10_frame_52 : decode cX10_frame 52 = .ok (.ireturn, 1) := by decide +kernel
theorem dX10_forget_0 : decode cX10_forget 0 = .ok (.iload_n 1, 1) := by decide +kernel
theorem dX10_forget_1 : decode cX10_forget 1 = .ok (.invokestatic 106, 3) := by decide +kernel
theorem dX10_forget_4 : decode cX10_forget 4 = .ok (.ifCond .eq 6, 3) := by decide +kernel
theorem dX10_forget_7 : decode cX10_forget 7 = .ok (.bipush (-2), 2) := by decide +kernel
theorem dX10_forget_9 : decode cX10_forget 9 = .ok (.ireturn, 1) := by decide +kernel
theorem dX10_forget_10 : decode cX10_forget 10 = .ok (.aload_n 0, 1) := by decide +kernel
theorem dX10_forget_11 : decode cX10_forget 11 = .ok (.getfield 7, 3) := by decide +kernel
theorem dX10_forget_14 : decode cX10_forget 14 = .ok (.sipush 552, 3) := by decide +kernel
theorem dX10_forget_17 : decode cX10_forget 17 = .ok (.iload_n 1, 1) := by decide +kernel
theorem dX10_forget_18 : decode cX10_forget 18 = .ok (.iadd, 1) := by decide +kernel
theorem dX10_forget_19 : decode cX10_forget 19 = .ok (.iaload, 1) := by decide +kernel
theorem dX10_forget_20 : decode cX10_forget 20 = .ok (.iconst 1, 1) := by decide +kernel
theorem dX10_forget_21 : decode cX10_forget 21 = .ok (.isub, 1) := by decide +kernel
theorem dX10_forget_22 : decode cX10_forget 22 = .ok (.istore_n 2, 1) := by decide +kernel
theorem dX10_forget_23 : decode cX10_forget 23 = .ok (.iload_n 2, 1) := by decide +kernel
theorem dX10_forget_24 : decode cX10_forget 24 = .ok (.ifCond .ge 6, 3) := by decide +kernel
theorem dX10_forget_27 : decode cX10_forget 27 = .ok (.bipush (-4), 2) := by decide +kernel
theorem dX10_forget_29 : decode cX10_forget 29 = .ok (.ireturn, 1) := by decide +kernel
theorem dX10_forget_30 : decode cX10_forget 30 = .ok (.aload_n 0, 1) := by decide +kernel
theorem dX10_forget_31 : decode cX10_forget 31 = .ok (.invokevirtual 55, 3) := by decide +kernel
theorem dX10_forget_34 : decode cX10_forget 34 = .ok (.aload_n 0, 1) := by decide +kernel
theorem dX10_forget_35 : decode cX10_forget 35 = .ok (.getfield 7, 3) := by decide +kernel
theorem dX10_forget_38 : decode cX10_forget 38 = .ok (.sipush 552, 3) := by decide +kernel
theorem dX10_forget_41 : decode cX10_forget 41 = .ok (.iload_n 1, 1) := by decide +kernel
theorem dX10_forget_42 : decode cX10_forget 42 = .ok (.iadd, 1) := by decide +kernel
theorem dX10_forget_43 : decode cX10_forget 43 = .ok (.iconst 0, 1) := by decide +kernel
theorem dX10_forget_44 : decode cX10_forget 44 = .ok (.iastore, 1) := by decide +kernel
theorem dX10_forget_45 : decode cX10_forget 45 = .ok (.iload_n 2, 1) := by decide +kernel
theorem dX10_forget_46 : decode cX10_forget 46 = .ok (.ireturn, 1) := by decide +kernel
theorem dX10_wouldGo_0 : decode cX10_wouldGo 0 = .ok (.iload_n 1, 1) := by decide +kernel
theorem dX10_wouldGo_1 : decode cX10_wouldGo 1 = .ok (.invokestatic 52, 3) := by decide +kernel
theorem dX10_wouldGo_4 : decode cX10_wouldGo 4 = .ok (.ifCond .eq 5, 3) := by decide +kernel
theorem dX10_wouldGo_7 : decode cX10_wouldGo 7 = .ok (.iconst (-1), 1) := by decide +kernel
theorem dX10_wouldGo_8 : decode cX10_wouldGo 8 = .ok (.ireturn, 1) := by decide +kernel
theorem dX10_wouldGo_9 : decode cX10_wouldGo 9 = .ok (.iload_n 2, 1) := by decide +kernel
theorem dX10_wouldGo_10 : decode cX10_wouldGo 10 = .ok (.invokestatic 106, 3) := by decide +kernel
theorem dX10_wouldGo_13 : decode cX10_wouldGo 13 = .ok (.ifCond .ne 13, 3) := by decide +kernel
theorem dX10_wouldGo_16 : decode cX10_wouldGo 16 = .ok (.iload_n 3, 1) := by decide +kernel
theorem dX10_wouldGo_17 : decode cX10_wouldGo 17 = .ok (.iconst 0, 1) := by decide +kernel
theorem dX10_wouldGo_18 : decode cX10_wouldGo 18 = .ok (.bipush 99, 2) := by decide +kernel
theorem dX10_wouldGo_20 : decode cX10_wouldGo 20 = .ok (.invokestatic 36, 3) := by decide +kernel
theorem dX10_wouldGo_23 : decode cX10_wouldGo 23 = .ok (.ifCond .ne 6, 3) := by decide +kernel
theorem dX10_wouldGo_26 : decode cX10_wouldGo 26 = .ok (.bipush (-2), 2) := by decide +kernel
theorem dX10_wouldGo_28 : decode cX10_wouldGo 28 = .ok (.ireturn, 1) := by decide +kernel
theorem dX10_wouldGo_29 : decode cX10_wouldGo 29 = .ok (.iconst 0, 1) := by decide +kernel
theorem dX10_wouldGo_30 : decode cX10_wouldGo 30 = .ok (.istore 4, 2) := by decide +kernel
theorem dX10_wouldGo_32 : decode cX10_wouldGo 32 = .ok (.iload 4, 2) := by decide +kernel
theorem dX10_wouldGo_34 : decode cX10_wouldGo 34 = .ok (.sipush 1752, 3) := by decide +kernel
theorem dX10_wouldGo_37 : decode cX10_wouldGo 37 = .ok (.if_icmp .ge 23, 3) := by decide +kernel
theorem dX10_wouldGo_40 : decode cX10_wouldGo 40 = .ok (.aload_n 0, 1) := by decide +kernel
theorem dX10_wouldGo_41 : decode cX10_wouldGo 41 = .ok (.getfield 19, 3) := by decide +kernel
theorem dX10_wouldGo_44 : decode cX10_wouldGo 44 = .ok (.iload 4, 2) := by decide +kernel
theorem dX10_wouldGo_46 : decode cX10_wouldGo 46 = .ok (.aload_n 0, 1) := by decide +kernel
theorem dX10_wouldGo_47 : decode cX10_wouldGo 47 = .ok (.getfield 7, 3) := by decide +kernel
theorem dX10_wouldGo_50 : decode cX10_wouldGo 50 = .ok (.iload 4, 2) := by decide +kernel
theorem dX10_wouldGo_52 : decode cX10_wouldGo 52 = .ok (.iaload, 1) := by decide +kernel
theorem dX10_wouldGo_53 : decode cX10_wouldGo 53 = .ok (.iastore, 1) := by decide +kernel
theorem dX10_wouldGo_54 : decode cX10_wouldGo 54 = .ok (.iinc 4 1, 3) := by decide +kernel
theorem dX10_wouldGo_57 : decode cX10_wouldGo 57 = .ok (.goto (-25), 3) := by decide +kernel
theorem dX10_wouldGo_60 : decode cX10_wouldGo 60 = .ok (.aload_n 0, 1) := by decide +kernel
theorem dX10_wouldGo_61 : decode cX10_wouldGo 61 = .ok (.iload_n 1, 1) := by decide +kernel
theorem dX10_wouldGo_62 : decode cX10_wouldGo 62 = .ok (.iload_n 2, 1) := by decide +kernel
theorem dX10_wouldGo_63 : decode cX10_wouldGo 63 = .ok (.iload_n 3, 1) := by decide +kernel
theorem dX10_wouldGo_64 : decode cX10_wouldGo 64 = .ok (.iconst 0, 1) := by decide +kernel
theorem dX10_wouldGo_65 : decode cX10_wouldGo 65 = .ok (.invokevirtual 109, 3) := by decide +kernel
theorem dX10_wouldGo_68 : decode cX10_wouldGo 68 = .ok (.istore 4, 2) := by decide +kernel
theorem dX10_wouldGo_70 : decode cX10_wouldGo 70 = .ok (.iconst 0, 1) := by decide +kernel
theorem dX10_wouldGo_71 : decode cX10_wouldGo 71 = .ok (.istore 5, 2) := by decide +kernel
theorem dX10_wouldGo_73 : decode cX10_wouldGo 73 = .ok (.iload 5, 2) := by decide +kernel
theorem dX10_wouldGo_75 : decode cX10_wouldGo 75 = .ok (.sipush 1752, 3) := by decide +kernel
theorem dX10_wouldGo_78 : decode cX10_wouldGo 78 = .ok (.if_icmp .ge 23, 3) := by decide +kernel
theorem dX10_wouldGo_81 : decode cX10_wouldGo 81 = .ok (.aload_n 0, 1) := by decide +kernel
theorem dX10_wouldGo_82 : decode cX10_wouldGo 82 = .ok (.getfield 7, 3) := by decide +kernel
theorem dX10_wouldGo_85 : decode cX10_wouldGo 85 = .ok (.iload 5, 2) := by decide +kernel
theorem dX10_wouldGo_87 : decode cX10_wouldGo 87 = .ok (.aload_n 0, 1) := by decide +kernel
theorem dX10_wouldGo_88 : decode cX10_wouldGo 88 = .ok (.getfield 19, 3) := by decide +kernel
theorem dX10_wouldGo_91 : decode cX10_wouldGo 91 = .ok (.iload 5, 2) := by decide +kernel
theorem dX10_wouldGo_93 : decode cX10_wouldGo 93 = .ok (.iaload, 1) := by decide +kernel
theorem dX10_wouldGo_94 : decode cX10_wouldGo 94 = .ok (.iastore, 1) := by decide +kernel
theorem dX10_wouldGo_95 : decode cX10_wouldGo 95 = .ok (.iinc 5 1, 3) := by decide +kernel
theorem dX10_wouldGo_98 : decode cX10_wouldGo 98 = .ok (.goto (-25), 3) := by decide +kernel
theorem dX10_wouldGo_101 : decode cX10_wouldGo 101 = .ok (.aload_n 0, 1) := by decide +kernel
theorem dX10_wouldGo_102 : decode cX10_wouldGo 102 = .ok (.getfield 87, 3) := by decide +kernel
theorem dX10_wouldGo_105 : decode cX10_wouldGo 105 = .ok (.ireturn, 1) := by decide +kernel
theorem dX10_atPlace_0 : decode cX10_atPlace 0 = .ok (.iconst 0, 1) := by decide +kernel
theorem dX10_atPlace_1 : decode cX10_atPlace 1 = .ok (.istore_n 3, 1) := by decide +kernel
theorem dX10_atPlace_2 : decode cX10_atPlace 2 = .ok (.iload_n 3, 1) := by decide +kernel
theorem dX10_atPlace_3 : decode cX10_atPlace 3 = .ok (.aload_n 0, 1) := by decide +kernel
theorem dX10_atPlace_4 : decode cX10_atPlace 4 = .ok (.iload_n 1, 1) := by decide +kernel
theorem dX10_atPlace_5 : decode cX10_atPlace 5 = .ok (.iconst 5, 1) := by decide +kernel
theorem dX10_atPlace_6 : decode cX10_atPlace 6 = .ok (.invokevirtual 44, 3) := by decide +kernel
theorem dX10_atPlace_9 : decode cX10_atPlace 9 = .ok (.if_icmp .ge 116, 3) := by decide +kernel
theorem dX10_atPlace_12 : decode cX10_atPlace 12 = .ok (.iconst 0, 1) := by decide +kernel
theorem dX10_atPlace_13 : decode cX10_atPlace 13 = .ok (.istore 4, 2) := by decide +kernel
theorem dX10_atPlace_15 : decode cX10_atPlace 15 = .ok (.iconst 0, 1) := by decide +kernel
theorem dX10_atPlace_16 : decode cX10_atPlace 16 = .ok (.istore 5, 2) := by decide +kernel
theorem dX10_atPlace_18 : decode cX10_atPlace 18 = .ok (.iload 5, 2) := by decide +kernel
theorem dX10_atPlace_20 : decode cX10_atPlace 20 = .ok (.aload_n 0, 1) := by decide +kernel
theorem dX10_atPlace_21 : decode cX10_atPlace 21 = .ok (.iload_n 1, 1) := by decide +kernel
theorem dX10_atPlace_22 : decode cX10_atPlace 22 = .ok (.iconst 5, 1) := by decide +kernel
theorem dX10_atPlace_23 : decode cX10_atPlace 23 = .ok (.invokevirtual 44, 3) := by decide +kernel
theorem dX10_atPlace_26 : decode cX10_atPlace 26 = .ok (.if_icmp .ge 85, 3) := by decide +kernel
theorem dX10_atPlace_29 : decode cX10_atPlace 29 = .ok (.aload_n 0, 1) := by decide +kernel
theorem dX10_atPlace_30 : decode cX10_atPlace 30 = .ok (.getfield 7, 3) := by decide +kernel
theorem dX10_atPlace_33 : decode cX10_atPlace 33 = .ok (.aload_n 0, 1) := by decide +kernel
theorem dX10_atPlace_34 : decode cX10_atPlace 34 = .ok (.iload_n 1, 1) := by decide +kernel
theorem dX10_atPlace_35 : decode cX10_atPlace 35 = .ok (.iload 5, 2) := by decide +kernel
theorem dX10_atPlace_37 : decode cX10_atPlace 37 = .ok (.invokevirtual 80, 3) := by decide +kernel
theorem dX10_atPlace_40 : decode cX10_atPlace 40 = .ok (.iconst 3, 1) := by decide +kernel
theorem dX10_atPlace_41 : decode cX10_atPlace 41 = .ok (.iadd, 1) := by decide +kernel
theorem dX10_atPlace_42 : decode cX10_atPlace 42 = .ok (.iaload, 1) := by decide +kernel
theorem dX10_atPlace_43 : decode cX10_atPlace 43 = .ok (.aload_n 0, 1) := by decide +kernel
theorem dX10_atPlace_44 : decode cX10_atPlace 44 = .ok (.getfield 7, 3) := by decide +kernel
theorem dX10_atPlace_47 : decode cX10_atPlace 47 = .ok (.aload_n 0, 1) := by decide +kernel
theorem dX10_atPlace_48 : decode cX10_atPlace 48 = .ok (.iload_n 1, 1) := by decide +kernel
theorem dX10_atPlace_49 : decode cX10_atPlace 49 = .ok (.iload_n 3, 1) := by decide +kernel
theorem dX10_atPlace_50 : decode cX10_atPlace 50 = .ok (.invokevirtual 80, 3) := by decide +kernel
theorem dX10_atPlace_53 : decode cX10_atPlace 53 = .ok (.iconst 3, 1) := by decide +kernel
theorem dX10_atPlace_54 : decode cX10_atPlace 54 = .ok (.iadd, 1) := by decide +kernel
theorem dX10_atPlace_55 : decode cX10_atPlace 55 = .ok (.iaload, 1) := by decide +kernel
theorem dX10_atPlace_56 : decode cX10_atPlace 56 = .ok (.isub, 1) := by decide +kernel
theorem dX10_atPlace_57 : decode cX10_atPlace 57 = .ok (.istore 6, 2) := by decide +kernel
theorem dX10_atPlace_59 : decode cX10_atPlace 59 = .ok (.iload 4, 2) := by decide +kernel
theorem dX10_atPlace_61 : decode cX10_atPlace 61 = .ok (.iload 6, 2) := by decide +kernel
theorem dX10_atPlace_63 : decode cX10_atPlace 63 = .ok (.ifCond .gt 34, 3) := by decide +kernel
theorem dX10_atPlace_66 : decode cX10_atPlace 66 = .ok (.iload 6, 2) := by decide +kernel
theorem dX10_atPlace_68 : decode cX10_atPlace 68 = .ok (.ifCond .ne 33, 3) := by decide +kernel
theorem dX10_atPlace_71 : decode cX10_atPlace 71 = .ok (.aload_n 0, 1) := by decide +kernel
theorem dX10_atPlace_72 : decode cX10_atPlace 72 = .ok (.getfield 7, 3) := by decide +kernel
theorem dX10_atPlace_75 : decode cX10_atPlace 75 = .ok (.aload_n 0, 1) := by decide +kernel
theorem dX10_atPlace_76 : decode cX10_atPlace 76 = .ok (.iload_n 1, 1) := by decide +kernel
theorem dX10_atPlace_77 : decode cX10_atPlace 77 = .ok (.iload 5, 2) := by decide +kernel
theorem dX10_atPlace_79 : decode cX10_atPlace 79 = .ok (.invokevirtual 80, 3) := by decide +kernel
theorem dX10_atPlace_82 : decode cX10_atPlace 82 = .ok (.iaload, 1) := by decide +kernel
theorem dX10_atPlace_83 : decode cX10_atPlace 83 = .ok (.aload_n 0, 1) := by decide +kernel
theorem dX10_atPlace_84 : decode cX10_atPlace 84 = .ok (.getfield 7, 3) := by decide +kernel
theorem dX10_atPlace_87 : decode cX10_atPlace 87 = .ok (.aload_n 0, 1) := by decide +kernel
theorem dX10_atPlace_88 : decode cX10_atPlace 88 = .ok (.iload_n 1, 1) := by decide +kernel
theorem dX10_atPlace_89 : decode cX10_atPlace 89 = .ok (.iload_n 3, 1) := by decide +kernel
theorem dX10_atPlace_90 : decode cX10_atPlace 90 = .ok (.invokevirtual 80, 3) := by decide +kernel
theorem dX10_atPlace_93 : decode cX10_atPlace 93 = .ok (.iaload, 1) := by decide +kernel
theorem dX10_atPlace_94 : decode cX10_atPlace 94 = .ok (.if_icmp .ge 7, 3) := by decide +kernel
theorem dX10_atPlace_97 : decode cX10_atPlace 97 = .ok (.iconst 1, 1) := by decide +kernel
theorem dX10_atPlace_98 : decode cX10_atPlace 98 = .ok (.goto 4, 3) := by decide +kernel
theorem dX10_atPlace_101 : decode cX10_atPlace 101 = .ok (.iconst 0, 1) := by decide +kernel
theorem dX10_atPlace_102 : decode cX10_atPlace 102 = .ok (.iadd, 1) := by decide +kernel
theorem dX10_atPlace_103 : decode cX10_atPlace 103 = .ok (.istore 4, 2) := by decide +kernel
theorem dX10_atPlace_105 : decode cX10_atPlace 105 = .ok (.iinc 5 1, 3) := by decide +kernel
theorem dX10_atPlace_108 : decode cX10_atPlace 108 = .ok (.goto (-90), 3) := by decide +kernel
theorem dX10_atPlace_111 : decode cX10_atPlace 111 = .ok (.iload 4, 2) := by decide +kernel
theorem dX10_atPlace_113 : decode cX10_atPlace 113 = .ok (.iload_n 2, 1) := by decide +kernel
theorem dX10_atPlace_114 : decode cX10_atPlace 114 = .ok (.if_icmp .ne 5, 3) := by decide +kernel
theorem dX10_atPlace_117 : decode cX10_atPlace 117 = .ok (.iload_n 3, 1) := by decide +kernel
theorem dX10_atPlace_118 : decode cX10_atPlace 118 = .ok (.ireturn, 1) := by decide +kernel
theorem dX10_atPlace_119 : decode cX10_atPlace 119 = .ok (.iinc 3 1, 3) := by decide +kernel
theorem dX10_atPlace_122 : decode cX10_atPlace 122 = .ok (.goto (-120), 3) := by decide +kernel
theorem dX10_atPlace_125 : decode cX10_atPlace 125 = .ok (.bipush (-4), 2) := by decide +kernel
theorem dX10_atPlace_127 : decode cX10_atPlace 127 = .ok (.ireturn, 1) := by decide +kernel
theorem dX10_sends_0 : decode cX10_sends 0 = .ok (.aload_n 0, 1) := by decide +kernel
theorem dX10_sends_1 : decode cX10_sends 1 = .ok (.iload_n 1, 1) := by decide +kernel
theorem dX10_sends_2 : decode cX10_sends 2 = .ok (.iconst 0, 1) := by decide +kernel
theorem dX10_sends_3 : decode cX10_sends 3 = .ok (.invokevirtual 112, 3) := by decide +kernel
theorem dX10_sends_6 : decode cX10_sends 6 = .ok (.istore_n 2, 1) := by decide +kernel
theorem dX10_sends_7 : decode cX10_sends 7 = .ok (.aload_n 0, 1) := by decide +kernel
theorem dX10_sends_8 : decode cX10_sends 8 = .ok (.iload_n 1, 1) := by decide +kernel
theorem dX10_sends_9 : decode cX10_sends 9 = .ok (.iload_n 2, 1) := by decide +kernel
theorem dX10_sends_10 : decode cX10_sends 10 = .ok (.invokevirtual 80, 3) := by decide +kernel
theorem dX10_sends_13 : decode cX10_sends 13 = .ok (.istore_n 3, 1) := by decide +kernel
theorem dX10_sends_14 : decode cX10_sends 14 = .ok (.aload_n 0, 1) := by decide +kernel
theorem dX10_sends_15 : decode cX10_sends 15 = .ok (.iload_n 1, 1) := by decide +kernel
theorem dX10_sends_16 : decode cX10_sends 16 = .ok (.bipush 9, 2) := by decide +kernel
theorem dX10_sends_18 : decode cX10_sends 18 = .ok (.invokevirtual 76, 3) := by decide +kernel
theorem dX10_sends_21 : decode cX10_sends 21 = .ok (.aload_n 0, 1) := by decide +kernel
theorem dX10_sends_22 : decode cX10_sends 22 = .ok (.iload_n 1, 1) := by decide +kernel
theorem dX10_sends_23 : decode cX10_sends 23 = .ok (.iconst 3, 1) := by decide +kernel
theorem dX10_sends_24 : decode cX10_sends 24 = .ok (.invokevirtual 44, 3) := by decide +kernel
theorem dX10_sends_27 : decode cX10_sends 27 = .ok (.ifCond .le 98, 3) := by decide +kernel
theorem dX10_sends_30 : decode cX10_sends 30 = .ok (.aload_n 0, 1) := by decide +kernel
theorem dX10_sends_31 : decode cX10_sends 31 = .ok (.getfield 22, 3) := by decide +kernel
theorem dX10_sends_34 : decode cX10_sends 34 = .ok (.iconst 4, 1) := by decide +kernel
theorem dX10_sends_35 : decode cX10_sends 35 = .ok (.aload_n 0, 1) := by decide +kernel
theorem dX10_sends_36 : decode cX10_sends 36 = .ok (.getfield 115, 3) := by decide +kernel
theorem dX10_sends_39 : decode cX10_sends 39 = .ok (.imul, 1) := by decide +kernel
theorem dX10_sends_40 : decode cX10_sends 40 = .ok (.aload_n 0, 1) := by decide +kernel
theorem dX10_sends_41 : decode cX10_sends 41 = .ok (.iload_n 1, 1) := by decide +kernel
end
section
theorem dX10_sends_42 : decode cX10_sends 42 = .ok (.iconst 3, 1) := by decide +kernel
theorem dX10_sends_43 : decode cX10_sends 43 = .ok (.invokevirtual 44, 3) := by decide +kernel
theorem dX10_sends_46 : decode cX10_sends 46 = .ok (.iconst 1, 1) := by decide +kernel
theorem dX10_sends_47 : decode cX10_sends 47 = .ok (.isub, 1) := by decide +kernel
theorem dX10_sends_48 : decode cX10_sends 48 = .ok (.iastore, 1) := by decide +kernel
theorem dX10_sends_49 : decode cX10_sends 49 = .ok (.aload_n 0, 1) := by decide +kernel
theorem dX10_sends_50 : decode cX10_sends 50 = .ok (.getfield 22, 3) := by decide +kernel
theorem dX10_sends_53 : decode cX10_sends 53 = .ok (.iconst 4, 1) := by decide +kernel
theorem dX10_sends_54 : decode cX10_sends 54 = .ok (.aload_n 0, 1) := by decide +kernel
theorem dX10_sends_55 : decode cX10_sends 55 = .ok (.getfield 115, 3) := by decide +kernel
theorem dX10_sends_58 : decode cX10_sends 58 = .ok (.imul, 1) := by decide +kernel
theorem dX10_sends_59 : decode cX10_sends 59 = .ok (.iconst 1, 1) := by decide +kernel
theorem dX10_sends_60 : decode cX10_sends 60 = .ok (.iadd, 1) := by decide +kernel
theorem dX10_sends_61 : decode cX10_sends 61 = .ok (.aload_n 0, 1) := by decide +kernel
theorem dX10_sends_62 : decode cX10_sends 62 = .ok (.getfield 7, 3) := by decide +kernel
theorem dX10_sends_65 : decode cX10_sends 65 = .ok (.iload_n 3, 1) := by decide +kernel
theorem dX10_sends_66 : decode cX10_sends 66 = .ok (.iconst 1, 1) := by decide +kernel
theorem dX10_sends_67 : decode cX10_sends 67 = .ok (.iadd, 1) := by decide +kernel
theorem dX10_sends_68 : decode cX10_sends 68 = .ok (.iaload, 1) := by decide +kernel
theorem dX10_sends_69 : decode cX10_sends 69 = .ok (.iastore, 1) := by decide +kernel
theorem dX10_sends_70 : decode cX10_sends 70 = .ok (.aload_n 0, 1) := by decide +kernel
theorem dX10_sends_71 : decode cX10_sends 71 = .ok (.getfield 22, 3) := by decide +kernel
theorem dX10_sends_74 : decode cX10_sends 74 = .ok (.iconst 4, 1) := by decide +kernel
theorem dX10_sends_75 : decode cX10_sends 75 = .ok (.aload_n 0, 1) := by decide +kernel
theorem dX10_sends_76 : decode cX10_sends 76 = .ok (.getfield 115, 3) := by decide +kernel
theorem dX10_sends_79 : decode cX10_sends 79 = .ok (.imul, 1) := by decide +kernel
theorem dX10_sends_80 : decode cX10_sends 80 = .ok (.iconst 2, 1) := by decide +kernel
theorem dX10_sends_81 : decode cX10_sends 81 = .ok (.iadd, 1) := by decide +kernel
theorem dX10_sends_82 : decode cX10_sends 82 = .ok (.aload_n 0, 1) := by decide +kernel
theorem dX10_sends_83 : decode cX10_sends 83 = .ok (.getfield 7, 3) := by decide +kernel
theorem dX10_sends_86 : decode cX10_sends 86 = .ok (.iload_n 3, 1) := by decide +kernel
theorem dX10_sends_87 : decode cX10_sends 87 = .ok (.iconst 2, 1) := by decide +kernel
theorem dX10_sends_88 : decode cX10_sends 88 = .ok (.iadd, 1) := by decide +kernel
theorem dX10_sends_89 : decode cX10_sends 89 = .ok (.iaload, 1) := by decide +kernel
theorem dX10_sends_90 : decode cX10_sends 90 = .ok (.iastore, 1) := by decide +kernel
theorem dX10_sends_91 : decode cX10_sends 91 = .ok (.aload_n 0, 1) := by decide +kernel
theorem dX10_sends_92 : decode cX10_sends 92 = .ok (.getfield 22, 3) := by decide +kernel
theorem dX10_sends_95 : decode cX10_sends 95 = .ok (.iconst 4, 1) := by decide +kernel
theorem dX10_sends_96 : decode cX10_sends 96 = .ok (.aload_n 0, 1) := by decide +kernel
theorem dX10_sends_97 : decode cX10_sends 97 = .ok (.getfield 115, 3) := by decide +kernel
theorem dX10_sends_100 : decode cX10_sends 100 = .ok (.imul, 1) := by decide +kernel
theorem dX10_sends_101 : decode cX10_sends 101 = .ok (.iconst 3, 1) := by decide +kernel
theorem dX10_sends_102 : decode cX10_sends 102 = .ok (.iadd, 1) := by decide +kernel
theorem dX10_sends_103 : decode cX10_sends 103 = .ok (.aload_n 0, 1) := by decide +kernel
theorem dX10_sends_104 : decode cX10_sends 104 = .ok (.getfield 7, 3) := by decide +kernel
theorem dX10_sends_107 : decode cX10_sends 107 = .ok (.iload_n 3, 1) := by decide +kernel
theorem dX10_sends_108 : decode cX10_sends 108 = .ok (.iconst 3, 1) := by decide +kernel
theorem dX10_sends_109 : decode cX10_sends 109 = .ok (.iadd, 1) := by decide +kernel
theorem dX10_sends_110 : decode cX10_sends 110 = .ok (.iaload, 1) := by decide +kernel
theorem dX10_sends_111 : decode cX10_sends 111 = .ok (.iastore, 1) := by decide +kernel
theorem dX10_sends_112 : decode cX10_sends 112 = .ok (.aload_n 0, 1) := by decide +kernel
theorem dX10_sends_113 : decode cX10_sends 113 = .ok (.dup, 1) := by decide +kernel
theorem dX10_sends_114 : decode cX10_sends 114 = .ok (.getfield 115, 3) := by decide +kernel
theorem dX10_sends_117 : decode cX10_sends 117 = .ok (.iconst 1, 1) := by decide +kernel
theorem dX10_sends_118 : decode cX10_sends 118 = .ok (.iadd, 1) := by decide +kernel
theorem dX10_sends_119 : decode cX10_sends 119 = .ok (.putfield 115, 3) := by decide +kernel
theorem dX10_sends_122 : decode cX10_sends 122 = .ok (.goto 10, 3) := by decide +kernel
theorem dX10_sends_125 : decode cX10_sends 125 = .ok (.aload_n 0, 1) := by decide +kernel
theorem dX10_sends_126 : decode cX10_sends 126 = .ok (.iload_n 1, 1) := by decide +kernel
theorem dX10_sends_127 : decode cX10_sends 127 = .ok (.bipush 10, 2) := by decide +kernel
theorem dX10_sends_129 : decode cX10_sends 129 = .ok (.invokevirtual 76, 3) := by decide +kernel
theorem dX10_sends_132 : decode cX10_sends 132 = .ok (.aload_n 0, 1) := by decide +kernel
theorem dX10_sends_133 : decode cX10_sends 133 = .ok (.iload_n 1, 1) := by decide +kernel
theorem dX10_sends_134 : decode cX10_sends 134 = .ok (.iconst 5, 1) := by decide +kernel
theorem dX10_sends_135 : decode cX10_sends 135 = .ok (.aload_n 0, 1) := by decide +kernel
theorem dX10_sends_136 : decode cX10_sends 136 = .ok (.iload_n 1, 1) := by decide +kernel
theorem dX10_sends_137 : decode cX10_sends 137 = .ok (.iconst 5, 1) := by decide +kernel
theorem dX10_sends_138 : decode cX10_sends 138 = .ok (.invokevirtual 44, 3) := by decide +kernel
theorem dX10_sends_141 : decode cX10_sends 141 = .ok (.iconst 1, 1) := by decide +kernel
theorem dX10_sends_142 : decode cX10_sends 142 = .ok (.isub, 1) := by decide +kernel
theorem dX10_sends_143 : decode cX10_sends 143 = .ok (.invokevirtual 32, 3) := by decide +kernel
theorem dX10_sends_146 : decode cX10_sends 146 = .ok (.iload_n 3, 1) := by decide +kernel
theorem dX10_sends_147 : decode cX10_sends 147 = .ok (.istore 4, 2) := by decide +kernel
theorem dX10_sends_149 : decode cX10_sends 149 = .ok (.iload 4, 2) := by decide +kernel
theorem dX10_sends_151 : decode cX10_sends 151 = .ok (.aload_n 0, 1) := by decide +kernel
theorem dX10_sends_152 : decode cX10_sends 152 = .ok (.iload_n 1, 1) := by decide +kernel
theorem dX10_sends_153 : decode cX10_sends 153 = .ok (.aload_n 0, 1) := by decide +kernel
theorem dX10_sends_154 : decode cX10_sends 154 = .ok (.iload_n 1, 1) := by decide +kernel
theorem dX10_sends_155 : decode cX10_sends 155 = .ok (.iconst 5, 1) := by decide +kernel
theorem dX10_sends_156 : decode cX10_sends 156 = .ok (.invokevirtual 44, 3) := by decide +kernel
theorem dX10_sends_159 : decode cX10_sends 159 = .ok (.invokevirtual 80, 3) := by decide +kernel
theorem dX10_sends_162 : decode cX10_sends 162 = .ok (.if_icmp .ge 25, 3) := by decide +kernel
theorem dX10_sends_165 : decode cX10_sends 165 = .ok (.aload_n 0, 1) := by decide +kernel
theorem dX10_sends_166 : decode cX10_sends 166 = .ok (.getfield 7, 3) := by decide +kernel
theorem dX10_sends_169 : decode cX10_sends 169 = .ok (.iload 4, 2) := by decide +kernel
theorem dX10_sends_171 : decode cX10_sends 171 = .ok (.aload_n 0, 1) := by decide +kernel
theorem dX10_sends_172 : decode cX10_sends 172 = .ok (.getfield 7, 3) := by decide +kernel
theorem dX10_sends_175 : decode cX10_sends 175 = .ok (.iload 4, 2) := by decide +kernel
theorem dX10_sends_177 : decode cX10_sends 177 = .ok (.iconst 4, 1) := by decide +kernel
theorem dX10_sends_178 : decode cX10_sends 178 = .ok (.iadd, 1) := by decide +kernel
theorem dX10_sends_179 : decode cX10_sends 179 = .ok (.iaload, 1) := by decide +kernel
theorem dX10_sends_180 : decode cX10_sends 180 = .ok (.iastore, 1) := by decide +kernel
theorem dX10_sends_181 : decode cX10_sends 181 = .ok (.iinc 4 1, 3) := by decide +kernel
theorem dX10_sends_184 : decode cX10_sends 184 = .ok (.goto (-35), 3) := by decide +kernel
theorem dX10_sends_187 : decode cX10_sends 187 = .ok (.return_, 1) := by decide +kernel
theorem dX10_goesOn_0 : decode cX10_goesOn 0 = .ok (.iconst 0, 1) := by decide +kernel
theorem dX10_goesOn_1 : decode cX10_goesOn 1 = .ok (.istore_n 1, 1) := by decide +kernel
theorem dX10_goesOn_2 : decode cX10_goesOn 2 = .ok (.aload_n 0, 1) := by decide +kernel
theorem dX10_goesOn_3 : decode cX10_goesOn 3 = .ok (.iconst 0, 1) := by decide +kernel
theorem dX10_goesOn_4 : decode cX10_goesOn 4 = .ok (.putfield 115, 3) := by decide +kernel
theorem dX10_goesOn_7 : decode cX10_goesOn 7 = .ok (.iconst 0, 1) := by decide +kernel
theorem dX10_goesOn_8 : decode cX10_goesOn 8 = .ok (.istore_n 2, 1) := by decide +kernel
theorem dX10_goesOn_9 : decode cX10_goesOn 9 = .ok (.iload_n 2, 1) := by decide +kernel
theorem dX10_goesOn_10 : decode cX10_goesOn 10 = .ok (.bipush 8, 2) := by decide +kernel
theorem dX10_goesOn_12 : decode cX10_goesOn 12 = .ok (.if_icmp .ge 52, 3) := by decide +kernel
theorem dX10_goesOn_15 : decode cX10_goesOn 15 = .ok (.iconst 0, 1) := by decide +kernel
theorem dX10_goesOn_16 : decode cX10_goesOn 16 = .ok (.istore_n 3, 1) := by decide +kernel
theorem dX10_goesOn_17 : decode cX10_goesOn 17 = .ok (.iload_n 3, 1) := by decide +kernel
theorem dX10_goesOn_18 : decode cX10_goesOn 18 = .ok (.aload_n 0, 1) := by decide +kernel
theorem dX10_goesOn_19 : decode cX10_goesOn 19 = .ok (.getfield 7, 3) := by decide +kernel
theorem dX10_goesOn_22 : decode cX10_goesOn 22 = .ok (.iconst 3, 1) := by decide +kernel
theorem dX10_goesOn_23 : decode cX10_goesOn 23 = .ok (.iaload, 1) := by decide +kernel
theorem dX10_goesOn_24 : decode cX10_goesOn 24 = .ok (.if_icmp .ge 34, 3) := by decide +kernel
theorem dX10_goesOn_27 : decode cX10_goesOn 27 = .ok (.aload_n 0, 1) := by decide +kernel
theorem dX10_goesOn_28 : decode cX10_goesOn 28 = .ok (.iload_n 2, 1) := by decide +kernel
theorem dX10_goesOn_29 : decode cX10_goesOn 29 = .ok (.invokevirtual 48, 3) := by decide +kernel
theorem dX10_goesOn_32 : decode cX10_goesOn 32 = .ok (.ifCond .eq 26, 3) := by decide +kernel
theorem dX10_goesOn_35 : decode cX10_goesOn 35 = .ok (.aload_n 0, 1) := by decide +kernel
theorem dX10_goesOn_36 : decode cX10_goesOn 36 = .ok (.iload_n 2, 1) := by decide +kernel
theorem dX10_goesOn_37 : decode cX10_goesOn 37 = .ok (.iconst 5, 1) := by decide +kernel
theorem dX10_goesOn_38 : decode cX10_goesOn 38 = .ok (.invokevirtual 44, 3) := by decide +kernel
theorem dX10_goesOn_41 : decode cX10_goesOn 41 = .ok (.ifCond .le 17, 3) := by decide +kernel
theorem dX10_goesOn_44 : decode cX10_goesOn 44 = .ok (.aload_n 0, 1) := by decide +kernel
theorem dX10_goesOn_45 : decode cX10_goesOn 45 = .ok (.iload_n 2, 1) := by decide +kernel
theorem dX10_goesOn_46 : decode cX10_goesOn 46 = .ok (.invokevirtual 118, 3) := by decide +kernel
theorem dX10_goesOn_49 : decode cX10_goesOn 49 = .ok (.iinc 1 1, 3) := by decide +kernel
theorem dX10_goesOn_52 : decode cX10_goesOn 52 = .ok (.iinc 3 1, 3) := by decide +kernel
theorem dX10_goesOn_55 : decode cX10_goesOn 55 = .ok (.goto (-38), 3) := by decide +kernel
theorem dX10_goesOn_58 : decode cX10_goesOn 58 = .ok (.iinc 2 1, 3) := by decide +kernel
theorem dX10_goesOn_61 : decode cX10_goesOn 61 = .ok (.goto (-52), 3) := by decide +kernel
theorem dX10_goesOn_64 : decode cX10_goesOn 64 = .ok (.iconst 0, 1) := by decide +kernel
theorem dX10_goesOn_65 : decode cX10_goesOn 65 = .ok (.istore_n 2, 1) := by decide +kernel
theorem dX10_goesOn_66 : decode cX10_goesOn 66 = .ok (.iload_n 2, 1) := by decide +kernel
theorem dX10_goesOn_67 : decode cX10_goesOn 67 = .ok (.aload_n 0, 1) := by decide +kernel
theorem dX10_goesOn_68 : decode cX10_goesOn 68 = .ok (.getfield 115, 3) := by decide +kernel
theorem dX10_goesOn_71 : decode cX10_goesOn 71 = .ok (.if_icmp .ge 52, 3) := by decide +kernel
theorem dX10_goesOn_74 : decode cX10_goesOn 74 = .ok (.aload_n 0, 1) := by decide +kernel
theorem dX10_goesOn_75 : decode cX10_goesOn 75 = .ok (.aload_n 0, 1) := by decide +kernel
theorem dX10_goesOn_76 : decode cX10_goesOn 76 = .ok (.getfield 22, 3) := by decide +kernel
theorem dX10_goesOn_79 : decode cX10_goesOn 79 = .ok (.iconst 4, 1) := by decide +kernel
theorem dX10_goesOn_80 : decode cX10_goesOn 80 = .ok (.iload_n 2, 1) := by decide +kernel
theorem dX10_goesOn_81 : decode cX10_goesOn 81 = .ok (.imul, 1) := by decide +kernel
theorem dX10_goesOn_82 : decode cX10_goesOn 82 = .ok (.iaload, 1) := by decide +kernel
theorem dX10_goesOn_83 : decode cX10_goesOn 83 = .ok (.aload_n 0, 1) := by decide +kernel
theorem dX10_goesOn_84 : decode cX10_goesOn 84 = .ok (.getfield 22, 3) := by decide +kernel
theorem dX10_goesOn_87 : decode cX10_goesOn 87 = .ok (.iconst 4, 1) := by decide +kernel
theorem dX10_goesOn_88 : decode cX10_goesOn 88 = .ok (.iload_n 2, 1) := by decide +kernel
theorem dX10_goesOn_89 : decode cX10_goesOn 89 = .ok (.imul, 1) := by decide +kernel
theorem dX10_goesOn_90 : decode cX10_goesOn 90 = .ok (.iconst 1, 1) := by decide +kernel
theorem dX10_goesOn_91 : decode cX10_goesOn 91 = .ok (.iadd, 1) := by decide +kernel
theorem dX10_goesOn_92 : decode cX10_goesOn 92 = .ok (.iaload, 1) := by decide +kernel
theorem dX10_goesOn_93 : decode cX10_goesOn 93 = .ok (.aload_n 0, 1) := by decide +kernel
theorem dX10_goesOn_94 : decode cX10_goesOn 94 = .ok (.getfield 22, 3) := by decide +kernel
theorem dX10_goesOn_97 : decode cX10_goesOn 97 = .ok (.iconst 4, 1) := by decide +kernel
theorem dX10_goesOn_98 : decode cX10_goesOn 98 = .ok (.iload_n 2, 1) := by decide +kernel
theorem dX10_goesOn_99 : decode cX10_goesOn 99 = .ok (.imul, 1) := by decide +kernel
theorem dX10_goesOn_100 : decode cX10_goesOn 100 = .ok (.iconst 2, 1) := by decide +kernel
theorem dX10_goesOn_101 : decode cX10_goesOn 101 = .ok (.iadd, 1) := by decide +kernel
theorem dX10_goesOn_102 : decode cX10_goesOn 102 = .ok (.iaload, 1) := by decide +kernel
theorem dX10_goesOn_103 : decode cX10_goesOn 103 = .ok (.aload_n 0, 1) := by decide +kernel
theorem dX10_goesOn_104 : decode cX10_goesOn 104 = .ok (.getfield 22, 3) := by decide +kernel
theorem dX10_goesOn_107 : decode cX10_goesOn 107 = .ok (.iconst 4, 1) := by decide +kernel
theorem dX10_goesOn_108 : decode cX10_goesOn 108 = .ok (.iload_n 2, 1) := by decide +kernel
theorem dX10_goesOn_109 : decode cX10_goesOn 109 = .ok (.imul, 1) := by decide +kernel
theorem dX10_goesOn_110 : decode cX10_goesOn 110 = .ok (.iconst 3, 1) := by decide +kernel
theorem dX10_goesOn_111 : decode cX10_goesOn 111 = .ok (.iadd, 1) := by decide +kernel
theorem dX10_goesOn_112 : decode cX10_goesOn 112 = .ok (.iaload, 1) := by decide +kernel
theorem dX10_goesOn_113 : decode cX10_goesOn 113 = .ok (.invokevirtual 109, 3) := by decide +kernel
theorem dX10_goesOn_116 : decode cX10_goesOn 116 = .ok (.istore_n 3, 1) := by decide +kernel
theorem dX10_goesOn_117 : decode cX10_goesOn 117 = .ok (.iinc 2 1, 3) := by decide +kernel
theorem dX10_goesOn_120 : decode cX10_goesOn 120 = .ok (.goto (-54), 3) := by decide +kernel
theorem dX10_goesOn_123 : decode cX10_goesOn 123 = .ok (.aload_n 0, 1) := by decide +kernel
theorem dX10_goesOn_124 : decode cX10_goesOn 124 = .ok (.getfield 7, 3) := by decide +kernel
theorem dX10_goesOn_127 : decode cX10_goesOn 127 = .ok (.iconst 4, 1) := by decide +kernel
theorem dX10_goesOn_128 : decode cX10_goesOn 128 = .ok (.dup2, 1) := by decide +kernel
theorem dX10_goesOn_129 : decode cX10_goesOn 129 = .ok (.iaload, 1) := by decide +kernel
theorem dX10_goesOn_130 : decode cX10_goesOn 130 = .ok (.iconst 1, 1) := by decide +kernel
theorem dX10_goesOn_131 : decode cX10_goesOn 131 = .ok (.iadd, 1) := by decide +kernel
theorem dX10_goesOn_132 : decode cX10_goesOn 132 = .ok (.iastore, 1) := by decide +kernel
theorem dX10_goesOn_133 : decode cX10_goesOn 133 = .ok (.iconst 0, 1) := by decide +kernel
theorem dX10_goesOn_134 : decode cX10_goesOn 134 = .ok (.istore_n 2, 1) := by decide +kernel
theorem dX10_goesOn_135 : decode cX10_goesOn 135 = .ok (.iload_n 2, 1) := by decide +kernel
theorem dX10_goesOn_136 : decode cX10_goesOn 136 = .ok (.bipush 8, 2) := by decide +kernel
theorem dX10_goesOn_138 : decode cX10_goesOn 138 = .ok (.if_icmp .ge 47, 3) := by decide +kernel
theorem dX10_goesOn_141 : decode cX10_goesOn 141 = .ok (.aload_n 0, 1) := by decide +kernel
theorem dX10_goesOn_142 : decode cX10_goesOn 142 = .ok (.iload_n 2, 1) := by decide +kernel
theorem dX10_goesOn_143 : decode cX10_goesOn 143 = .ok (.iconst 1, 1) := by decide +kernel
theorem dX10_goesOn_144 : decode cX10_goesOn 144 = .ok (.aload_n 0, 1) := by decide +kernel
theorem dX10_goesOn_145 : decode cX10_goesOn 145 = .ok (.iload_n 2, 1) := by decide +kernel
theorem dX10_goesOn_146 : decode cX10_goesOn 146 = .ok (.iconst 1, 1) := by decide +kernel
theorem dX10_goesOn_147 : decode cX10_goesOn 147 = .ok (.invokevirtual 44, 3) := by decide +kernel
theorem dX10_goesOn_150 : decode cX10_goesOn 150 = .ok (.aload_n 0, 1) := by decide +kernel
theorem dX10_goesOn_151 : decode cX10_goesOn 151 = .ok (.getfield 7, 3) := by decide +kernel
theorem dX10_goesOn_154 : decode cX10_goesOn 154 = .ok (.iconst 4, 1) := by decide +kernel
theorem dX10_goesOn_155 : decode cX10_goesOn 155 = .ok (.iaload, 1) := by decide +kernel
theorem dX10_goesOn_156 : decode cX10_goesOn 156 = .ok (.if_icmp .gt 7, 3) := by decide +kernel
theorem dX10_goesOn_159 : decode cX10_goesOn 159 = .ok (.iconst 0, 1) := by decide +kernel
theorem dX10_goesOn_160 : decode cX10_goesOn 160 = .ok (.goto 9, 3) := by decide +kernel
theorem dX10_goesOn_163 : decode cX10_goesOn 163 = .ok (.aload_n 0, 1) := by decide +kernel
theorem dX10_goesOn_164 : decode cX10_goesOn 164 = .ok (.iload_n 2, 1) := by decide +kernel
theorem dX10_goesOn_165 : decode cX10_goesOn 165 = .ok (.iconst 1, 1) := by decide +kernel
theorem dX10_goesOn_166 : decode cX10_goesOn 166 = .ok (.invokevirtual 44, 3) := by decide +kernel
theorem dX10_goesOn_169 : decode cX10_goesOn 169 = .ok (.invokevirtual 32, 3) := by decide +kernel
theorem dX10_goesOn_172 : decode cX10_goesOn 172 = .ok (.aload_n 0, 1) := by decide +kernel
theorem dX10_goesOn_173 : decode cX10_goesOn 173 = .ok (.iload_n 2, 1) := by decide +kernel
theorem dX10_goesOn_174 : decode cX10_goesOn 174 = .ok (.iconst 4, 1) := by decide +kernel
theorem dX10_goesOn_175 : decode cX10_goesOn 175 = .ok (.iconst 0, 1) := by decide +kernel
theorem dX10_goesOn_176 : decode cX10_goesOn 176 = .ok (.invokevirtual 32, 3) := by decide +kernel
theorem dX10_goesOn_179 : decode cX10_goesOn 179 = .ok (.iinc 2 1, 3) := by decide +kernel
theorem dX10_goesOn_182 : decode cX10_goesOn 182 = .ok (.goto (-47), 3) := by decide +kernel
theorem dX10_goesOn_185 : decode cX10_goesOn 185 = .ok (.iconst 1, 1) := by decide +kernel
theorem dX10_goesOn_186 : decode cX10_goesOn 186 = .ok (.istore_n 2, 1) := by decide +kernel
theorem dX10_goesOn_187 : decode cX10_goesOn 187 = .ok (.iload_n 2, 1) := by decide +kernel
theorem dX10_goesOn_188 : decode cX10_goesOn 188 = .ok (.bipush 100, 2) := by decide +kernel
theorem dX10_goesOn_190 : decode cX10_goesOn 190 = .ok (.if_icmp .ge 83, 3) := by decide +kernel
theorem dX10_goesOn_193 : decode cX10_goesOn 193 = .ok (.aload_n 0, 1) := by decide +kernel
theorem dX10_goesOn_194 : decode cX10_goesOn 194 = .ok (.getfield 7, 3) := by decide +kernel
theorem dX10_goesOn_197 : decode cX10_goesOn 197 = .ok (.sipush 552, 3) := by decide +kernel
theorem dX10_goesOn_200 : decode cX10_goesOn 200 = .ok (.iload_n 2, 1) := by decide +kernel
theorem dX10_goesOn_201 : decode cX10_goesOn 201 = .ok (.iadd, 1) := by decide +kernel
theorem dX10_goesOn_202 : decode cX10_goesOn 202 = .ok (.iaload, 1) := by decide +kernel
theorem dX10_goesOn_203 : decode cX10_goesOn 203 = .ok (.ifCond .le 40, 3) := by decide +kernel
theorem dX10_goesOn_206 : decode cX10_goesOn 206 = .ok (.aload_n 0, 1) := by decide +kernel
theorem dX10_goesOn_207 : decode cX10_goesOn 207 = .ok (.getfield 7, 3) := by decide +kernel
theorem dX10_goesOn_210 : decode cX10_goesOn 210 = .ok (.iconst 4, 1) := by decide +kernel
theorem dX10_goesOn_211 : decode cX10_goesOn 211 = .ok (.iaload, 1) := by decide +kernel
theorem dX10_goesOn_212 : decode cX10_goesOn 212 = .ok (.aload_n 0, 1) := by decide +kernel
theorem dX10_goesOn_213 : decode cX10_goesOn 213 = .ok (.getfield 7, 3) := by decide +kernel
theorem dX10_goesOn_216 : decode cX10_goesOn 216 = .ok (.sipush 652, 3) := by decide +kernel
theorem dX10_goesOn_219 : decode cX10_goesOn 219 = .ok (.iload_n 2, 1) := by decide +kernel
theorem dX10_goesOn_220 : decode cX10_goesOn 220 = .ok (.iadd, 1) := by decide +kernel
theorem dX10_goesOn_221 : decode cX10_goesOn 221 = .ok (.iaload, 1) := by decide +kernel
theorem dX10_goesOn_222 : decode cX10_goesOn 222 = .ok (.isub, 1) := by decide +kernel
theorem dX10_goesOn_223 : decode cX10_goesOn 223 = .ok (.aload_n 0, 1) := by decide +kernel
theorem dX10_goesOn_224 : decode cX10_goesOn 224 = .ok (.getfield 7, 3) := by decide +kernel
theorem dX10_goesOn_227 : decode cX10_goesOn 227 = .ok (.iconst 0, 1) := by decide +kernel
theorem dX10_goesOn_228 : decode cX10_goesOn 228 = .ok (.iaload, 1) := by decide +kernel
theorem dX10_goesOn_229 : decode cX10_goesOn 229 = .ok (.if_icmp .lt 14, 3) := by decide +kernel
theorem dX10_goesOn_232 : decode cX10_goesOn 232 = .ok (.aload_n 0, 1) := by decide +kernel
theorem dX10_goesOn_233 : decode cX10_goesOn 233 = .ok (.getfield 7, 3) := by decide +kernel
theorem dX10_goesOn_236 : decode cX10_goesOn 236 = .ok (.sipush 552, 3) := by decide +kernel
theorem dX10_goesOn_239 : decode cX10_goesOn 239 = .ok (.iload_n 2, 1) := by decide +kernel
theorem dX10_goesOn_240 : decode cX10_goesOn 240 = .ok (.iadd, 1) := by decide +kernel
theorem dX10_goesOn_241 : decode cX10_goesOn 241 = .ok (.iconst 0, 1) := by decide +kernel
theorem dX10_goesOn_242 : decode cX10_goesOn 242 = .ok (.iastore, 1) := by decide +kernel
theorem dX10_goesOn_243 : decode cX10_goesOn 243 = .ok (.aload_n 0, 1) := by decide +kernel
theorem dX10_goesOn_244 : decode cX10_goesOn 244 = .ok (.getfield 7, 3) := by decide +kernel
theorem dX10_goesOn_247 : decode cX10_goesOn 247 = .ok (.sipush 752, 3) := by decide +kernel
theorem dX10_goesOn_250 : decode cX10_goesOn 250 = .ok (.bipush 10, 2) := by decide +kernel
theorem dX10_goesOn_252 : decode cX10_goesOn 252 = .ok (.iload_n 2, 1) := by decide +kernel
theorem dX10_goesOn_253 : decode cX10_goesOn 253 = .ok (.imul, 1) := by decide +kernel
theorem dX10_goesOn_254 : decode cX10_goesOn 254 = .ok (.iadd, 1) := by decide +kernel
theorem dX10_goesOn_255 : decode cX10_goesOn 255 = .ok (.aload_n 0, 1) := by decide +kernel
theorem dX10_goesOn_256 : decode cX10_goesOn 256 = .ok (.getfield 7, 3) := by decide +kernel
theorem dX10_goesOn_259 : decode cX10_goesOn 259 = .ok (.iconst 4, 1) := by decide +kernel
theorem dX10_goesOn_260 : decode cX10_goesOn 260 = .ok (.iaload, 1) := by decide +kernel
theorem dX10_goesOn_261 : decode cX10_goesOn 261 = .ok (.bipush 10, 2) := by decide +kernel
theorem dX10_goesOn_263 : decode cX10_goesOn 263 = .ok (.irem, 1) := by decide +kernel
theorem dX10_goesOn_264 : decode cX10_goesOn 264 = .ok (.iadd, 1) := by decide +kernel
theorem dX10_goesOn_265 : decode cX10_goesOn 265 = .ok (.iconst 0, 1) := by decide +kernel
theorem dX10_goesOn_266 : decode cX10_goesOn 266 = .ok (.iastore, 1) := by decide +kernel
theorem dX10_goesOn_267 : decode cX10_goesOn 267 = .ok (.iinc 2 1, 3) := by decide +kernel
theorem dX10_goesOn_270 : decode cX10_goesOn 270 = .ok (.goto (-83), 3) := by decide +kernel
theorem dX10_goesOn_273 : decode cX10_goesOn 273 = .ok (.iload_n 1, 1) := by decide +kernel
theorem dX10_goesOn_274 : decode cX10_goesOn 274 = .ok (.ireturn, 1) := by decide +kernel
theorem dX10_pass_0 : decode cX10_pass 0 = .ok (.iload_n 1, 1) := by decide +kernel
theorem dX10_pass_1 : decode cX10_pass 1 = .ok (.iconst 1, 1) := by decide +kernel
theorem dX10_pass_2 : decode cX10_pass 2 = .ok (.bipush 10, 2) := by decide +kernel
theorem dX10_pass_4 : decode cX10_pass 4 = .ok (.invokestatic 36, 3) := by decide +kernel
theorem dX10_pass_7 : decode cX10_pass 7 = .ok (.ifCond .ne 6, 3) := by decide +kernel
theorem dX10_pass_10 : decode cX10_pass 10 = .ok (.bipush (-2), 2) := by decide +kernel
theorem dX10_pass_12 : decode cX10_pass 12 = .ok (.ireturn, 1) := by decide +kernel
theorem dX10_pass_13 : decode cX10_pass 13 = .ok (.aload_n 0, 1) := by decide +kernel
theorem dX10_pass_14 : decode cX10_pass 14 = .ok (.invokevirtual 55, 3) := by decide +kernel
theorem dX10_pass_17 : decode cX10_pass 17 = .ok (.iconst 0, 1) := by decide +kernel
theorem dX10_pass_18 : decode cX10_pass 18 = .ok (.istore_n 2, 1) := by decide +kernel
theorem dX10_pass_19 : decode cX10_pass 19 = .ok (.iconst 0, 1) := by decide +kernel
theorem dX10_pass_20 : decode cX10_pass 20 = .ok (.istore_n 3, 1) := by decide +kernel
theorem dX10_pass_21 : decode cX10_pass 21 = .ok (.iload_n 3, 1) := by decide +kernel
theorem dX10_pass_22 : decode cX10_pass 22 = .ok (.iload_n 1, 1) := by decide +kernel
theorem dX10_pass_23 : decode cX10_pass 23 = .ok (.if_icmp .ge 16, 3) := by decide +kernel
theorem dX10_pass_26 : decode cX10_pass 26 = .ok (.iload_n 2, 1) := by decide +kernel
theorem dX10_pass_27 : decode cX10_pass 27 = .ok (.aload_n 0, 1) := by decide +kernel
theorem dX10_pass_28 : decode cX10_pass 28 = .ok (.invokevirtual 121, 3) := by decide +kernel
theorem dX10_pass_31 : decode cX10_pass 31 = .ok (.iadd, 1) := by decide +kernel
theorem dX10_pass_32 : decode cX10_pass 32 = .ok (.istore_n 2, 1) := by decide +kernel
theorem dX10_pass_33 : decode cX10_pass 33 = .ok (.iinc 3 1, 3) := by decide +kernel
theorem dX10_pass_36 : decode cX10_pass 36 = .ok (.goto (-15), 3) := by decide +kernel
theorem dX10_pass_39 : decode cX10_pass 39 = .ok (.iload_n 2, 1) := by decide +kernel
theorem dX10_pass_40 : decode cX10_pass 40 = .ok (.ireturn, 1) := by decide +kernel
theorem dX10_type_0 : decode cX10_type 0 = .ok (.aload_n 0, 1) := by decide +kernel
theorem dX10_type_1 : decode cX10_type 1 = .ok (.getfield 124, 3) := by decide +kernel
theorem dX10_type_4 : decode cX10_type 4 = .ok (.bipush 70, 2) := by decide +kernel
theorem dX10_type_6 : decode cX10_type 6 = .ok (.if_icmp .ne 6, 3) := by decide +kernel
theorem dX10_type_9 : decode cX10_type 9 = .ok (.bipush (-3), 2) := by decide +kernel
theorem dX10_type_11 : decode cX10_type 11 = .ok (.ireturn, 1) := by decide +kernel
theorem dX10_type_12 : decode cX10_type 12 = .ok (.aload_n 0, 1) := by decide +kernel
theorem dX10_type_13 : decode cX10_type 13 = .ok (.getfield 25, 3) := by decide +kernel
theorem dX10_type_16 : decode cX10_type 16 = .ok (.aload_n 0, 1) := by decide +kernel
theorem dX10_type_17 : decode cX10_type 17 = .ok (.getfield 124, 3) := by decide +kernel
theorem dX10_type_20 : decode cX10_type 20 = .ok (.iload_n 1, 1) := by decide +kernel
theorem dX10_type_21 : decode cX10_type 21 = .ok (.castore, 1) := by decide +kernel
theorem dX10_type_22 : decode cX10_type 22 = .ok (.aload_n 0, 1) := by decide +kernel
theorem dX10_type_23 : decode cX10_type 23 = .ok (.dup, 1) := by decide +kernel
theorem dX10_type_24 : decode cX10_type 24 = .ok (.getfield 124, 3) := by decide +kernel
theorem dX10_type_27 : decode cX10_type 27 = .ok (.iconst 1, 1) := by decide +kernel
theorem dX10_type_28 : decode cX10_type 28 = .ok (.iadd, 1) := by decide +kernel
theorem dX10_type_29 : decode cX10_type 29 = .ok (.putfield 124, 3) := by decide +kernel
theorem dX10_type_32 : decode cX10_type 32 = .ok (.aload_n 0, 1) := by decide +kernel
theorem dX10_type_33 : decode cX10_type 33 = .ok (.getfield 124, 3) := by decide +kernel
theorem dX10_type_36 : decode cX10_type 36 = .ok (.ireturn, 1) := by decide +kernel
theorem dX10_clearText_0 : decode cX10_clearText 0 = .ok (.aload_n 0, 1) := by decide +kernel
theorem dX10_clearText_1 : decode cX10_clearText 1 = .ok (.getfield 124, 3) := by decide +kernel
theorem dX10_clearText_4 : decode cX10_clearText 4 = .ok (.istore_n 1, 1) := by decide +kernel
theorem dX10_clearText_5 : decode cX10_clearText 5 = .ok (.aload_n 0, 1) := by decide +kernel
theorem dX10_clearText_6 : decode cX10_clearText 6 = .ok (.iconst 0, 1) := by decide +kernel
theorem dX10_clearText_7 : decode cX10_clearText 7 = .ok (.putfield 124, 3) := by decide +kernel
theorem dX10_clearText_10 : decode cX10_clearText 10 = .ok (.iload_n 1, 1) := by decide +kernel
theorem dX10_clearText_11 : decode cX10_clearText 11 = .ok (.ireturn, 1) := by decide +kernel
theorem dX10_takes_0 : decode cX10_takes 0 = .ok (.aload_n 0, 1) := by decide +kernel
theorem dX10_takes_1 : decode cX10_takes 1 = .ok (.getfield 127, 3) := by decide +kernel
theorem dX10_takes_4 : decode cX10_takes 4 = .ok (.aload_n 0, 1) := by decide +kernel
theorem dX10_takes_5 : decode cX10_takes 5 = .ok (.getfield 124, 3) := by decide +kernel
theorem dX10_takes_8 : decode cX10_takes 8 = .ok (.if_icmp .ge 16, 3) := by decide +kernel
theorem dX10_takes_11 : decode cX10_takes 11 = .ok (.aload_n 0, 1) := by decide +kernel
theorem dX10_takes_12 : decode cX10_takes 12 = .ok (.getfield 25, 3) := by decide +kernel
theorem dX10_takes_15 : decode cX10_takes 15 = .ok (.aload_n 0, 1) := by decide +kernel
theorem dX10_takes_16 : decode cX10_takes 16 = .ok (.getfield 127, 3) := by decide +kernel
theorem dX10_takes_19 : decode cX10_takes 19 = .ok (.caload, 1) := by decide +kernel
theorem dX10_takes_20 : decode cX10_takes 20 = .ok (.iload_n 1, 1) := by decide +kernel
theorem dX10_takes_21 : decode cX10_takes 21 = .ok (.if_icmp .eq 5, 3) := by decide +kernel
theorem dX10_takes_24 : decode cX10_takes 24 = .ok (.iconst 0, 1) := by decide +kernel
theorem dX10_takes_25 : decode cX10_takes 25 = .ok (.ireturn, 1) := by decide +kernel
theorem dX10_takes_26 : decode cX10_takes 26 = .ok (.aload_n 0, 1) := by decide +kernel
theorem dX10_takes_27 : decode cX10_takes 27 = .ok (.dup, 1) := by decide +kernel
theorem dX10_takes_28 : decode cX10_takes 28 = .ok (.getfield 127, 3) := by decide +kernel
theorem dX10_takes_31 : decode cX10_takes 31 = .ok (.iconst 1, 1) := by decide +kernel
theorem dX10_takes_32 : decode cX10_takes 32 = .ok (.iadd, 1) := by decide +kernel
theorem dX10_takes_33 : decode cX10_takes 33 = .ok (.putfield 127, 3) := by decide +kernel
theorem dX10_takes_36 : decode cX10_takes 36 = .ok (.iconst 1, 1) := by decide +kernel
theorem dX10_takes_37 : decode cX10_takes 37 = .ok (.ireturn, 1) := by decide +kernel
theorem dX10_digit_0 : decode cX10_digit 0 = .ok (.aload_n 0, 1) := by decide +kernel
theorem dX10_digit_1 : decode cX10_digit 1 = .ok (.getfield 127, 3) := by decide +kernel
theorem dX10_digit_4 : decode cX10_digit 4 = .ok (.aload_n 0, 1) := by decide +kernel
theorem dX10_digit_5 : decode cX10_digit 5 = .ok (.getfield 124, 3) := by decide +kernel
theorem dX10_digit_8 : decode cX10_digit 8 = .ok (.if_icmp .ge 26, 3) := by decide +kernel
theorem dX10_digit_11 : decode cX10_digit 11 = .ok (.aload_n 0, 1) := by decide +kernel
theorem dX10_digit_12 : decode cX10_digit 12 = .ok (.getfield 25, 3) := by decide +kernel
theorem dX10_digit_15 : decode cX10_digit 15 = .ok (.aload_n 0, 1) := by decide +kernel
theorem dX10_digit_16 : decode cX10_digit 16 = .ok (.getfield 127, 3) := by decide +kernel
theorem dX10_digit_19 : decode cX10_digit 19 = .ok (.caload, 1) := by decide +kernel
theorem dX10_digit_20 : decode cX10_digit 20 = .ok (.bipush 48, 2) := by decide +kernel
theorem dX10_digit_22 : decode cX10_digit 22 = .ok (.iload_n 1, 1) := by decide +kernel
theorem dX10_digit_23 : decode cX10_digit 23 = .ok (.iadd, 1) := by decide +kernel
theorem dX10_digit_24 : decode cX10_digit 24 = .ok (.bipush 48, 2) := by decide +kernel
theorem dX10_digit_26 : decode cX10_digit 26 = .ok (.iload_n 2, 1) := by decide +kernel
theorem dX10_digit_27 : decode cX10_digit 27 = .ok (.iadd, 1) := by decide +kernel
theorem dX10_digit_28 : decode cX10_digit 28 = .ok (.invokestatic 36, 3) := by decide +kernel
theorem dX10_digit_31 : decode cX10_digit 31 = .ok (.ifCond .ne 6, 3) := by decide +kernel
theorem dX10_digit_34 : decode cX10_digit 34 = .ok (.bipush (-4), 2) := by decide +kernel
theorem dX10_digit_36 : decode cX10_digit 36 = .ok (.ireturn, 1) := by decide +kernel
theorem dX10_digit_37 : decode cX10_digit 37 = .ok (.aload_n 0, 1) := by decide +kernel
theorem dX10_digit_38 : decode cX10_digit 38 = .ok (.dup, 1) := by decide +kernel
theorem dX10_digit_39 : decode cX10_digit 39 = .ok (.getfield 127, 3) := by decide +kernel
theorem dX10_digit_42 : decode cX10_digit 42 = .ok (.iconst 1, 1) := by decide +kernel
theorem dX10_digit_43 : decode cX10_digit 43 = .ok (.iadd, 1) := by decide +kernel
theorem dX10_digit_44 : decode cX10_digit 44 = .ok (.putfield 127, 3) := by decide +kernel
theorem dX10_digit_47 : decode cX10_digit 47 = .ok (.aload_n 0, 1) := by decide +kernel
theorem dX10_digit_48 : decode cX10_digit 48 = .ok (.getfield 25, 3) := by decide +kernel
theorem dX10_digit_51 : decode cX10_digit 51 = .ok (.aload_n 0, 1) := by decide +kernel
theorem dX10_digit_52 : decode cX10_digit 52 = .ok (.getfield 127, 3) := by decide +kernel
theorem dX10_digit_55 : decode cX10_digit 55 = .ok (.iconst 1, 1) := by decide +kernel
theorem dX10_digit_56 : decode cX10_digit 56 = .ok (.isub, 1) := by decide +kernel
theorem dX10_digit_57 : decode cX10_digit 57 = .ok (.caload, 1) := by decide +kernel
theorem dX10_digit_58 : decode cX10_digit 58 = .ok (.bipush 48, 2) := by decide +kernel
theorem dX10_digit_60 : decode cX10_digit 60 = .ok (.isub, 1) := by decide +kernel
theorem dX10_digit_61 : decode cX10_digit 61 = .ok (.ireturn, 1) := by decide +kernel
theorem dX10_address_0 : decode cX10_address 0 = .ok (.aload_n 0, 1) := by decide +kernel
theorem dX10_address_1 : decode cX10_address 1 = .ok (.iconst 1, 1) := by decide +kernel
theorem dX10_address_2 : decode cX10_address 2 = .ok (.bipush 9, 2) := by decide +kernel
theorem dX10_address_4 : decode cX10_address 4 = .ok (.invokevirtual 130, 3) := by decide +kernel
theorem dX10_address_7 : decode cX10_address 7 = .ok (.istore_n 1, 1) := by decide +kernel
theorem dX10_address_8 : decode cX10_address 8 = .ok (.iload_n 1, 1) := by decide +kernel
theorem dX10_address_9 : decode cX10_address 9 = .ok (.bipush (-4), 2) := by decide +kernel
theorem dX10_address_11 : decode cX10_address 11 = .ok (.if_icmp .ne 6, 3) := by decide +kernel
theorem dX10_address_14 : decode cX10_address 14 = .ok (.bipush (-4), 2) := by decide +kernel
theorem dX10_address_16 : decode cX10_address 16 = .ok (.ireturn, 1) := by decide +kernel
theorem dX10_address_17 : decode cX10_address 17 = .ok (.aload_n 0, 1) := by decide +kernel
theorem dX10_address_18 : decode cX10_address 18 = .ok (.iconst 0, 1) := by decide +kernel
theorem dX10_address_19 : decode cX10_address 19 = .ok (.bipush 9, 2) := by decide +kernel
theorem dX10_address_21 : decode cX10_address 21 = .ok (.invokevirtual 130, 3) := by decide +kernel
theorem dX10_address_24 : decode cX10_address 24 = .ok (.istore_n 2, 1) := by decide +kernel
theorem dX10_address_25 : decode cX10_address 25 = .ok (.iload_n 2, 1) := by decide +kernel
theorem dX10_address_26 : decode cX10_address 26 = .ok (.bipush (-4), 2) := by decide +kernel
theorem dX10_address_28 : decode cX10_address 28 = .ok (.if_icmp .ne 7, 3) := by decide +kernel
theorem dX10_address_31 : decode cX10_address 31 = .ok (.iload_n 1, 1) := by decide +kernel
theorem dX10_address_32 : decode cX10_address 32 = .ok (.goto 9, 3) := by decide +kernel
theorem dX10_address_35 : decode cX10_address 35 = .ok (.bipush 10, 2) := by decide +kernel
theorem dX10_address_37 : decode cX10_address 37 = .ok (.iload_n 1, 1) := by decide +kernel
theorem dX10_address_38 : decode cX10_address 38 = .ok (.imul, 1) := by decide +kernel
theorem dX10_address_39 : decode cX10_address 39 = .ok (.iload_n 2, 1) := by decide +kernel
theorem dX10_address_40 : decode cX10_address 40 = .ok (.iadd, 1) := by decide +kernel
theorem dX10_address_41 : decode cX10_address 41 = .ok (.ireturn, 1) := by decide +kernel
theorem dX10_readsFrame_0 : decode cX10_readsFrame 0 = .ok (.iconst 4, 1) := by decide +kernel
theorem dX10_readsFrame_1 : decode cX10_readsFrame 1 = .ok (.aload_n 0, 1) := by decide +kernel
theorem dX10_readsFrame_2 : decode cX10_readsFrame 2 = .ok (.getfield 133, 3) := by decide +kernel
theorem dX10_readsFrame_5 : decode cX10_readsFrame 5 = .ok (.imul, 1) := by decide +kernel
theorem dX10_readsFrame_6 : decode cX10_readsFrame 6 = .ok (.istore_n 1, 1) := by decide +kernel
theorem dX10_readsFrame_7 : decode cX10_readsFrame 7 = .ok (.aload_n 0, 1) := by decide +kernel
theorem dX10_readsFrame_8 : decode cX10_readsFrame 8 = .ok (.getfield 29, 3) := by decide +kernel
theorem dX10_readsFrame_11 : decode cX10_readsFrame 11 = .ok (.iload_n 1, 1) := by decide +kernel
theorem dX10_readsFrame_12 : decode cX10_readsFrame 12 = .ok (.aload_n 0, 1) := by decide +kernel
theorem dX10_readsFrame_13 : decode cX10_readsFrame 13 = .ok (.invokevirtual 136, 3) := by decide +kernel
theorem dX10_readsFrame_16 : decode cX10_readsFrame 16 = .ok (.iastore, 1) := by decide +kernel
theorem dX10_readsFrame_17 : decode cX10_readsFrame 17 = .ok (.aload_n 0, 1) := by decide +kernel
theorem dX10_readsFrame_18 : decode cX10_readsFrame 18 = .ok (.getfield 29, 3) := by decide +kernel
theorem dX10_readsFrame_21 : decode cX10_readsFrame 21 = .ok (.iload_n 1, 1) := by decide +kernel
theorem dX10_readsFrame_22 : decode cX10_readsFrame 22 = .ok (.iaload, 1) := by decide +kernel
theorem dX10_readsFrame_23 : decode cX10_readsFrame 23 = .ok (.bipush (-4), 2) := by decide +kernel
theorem dX10_readsFrame_25 : decode cX10_readsFrame 25 = .ok (.if_icmp .eq 12, 3) := by decide +kernel
theorem dX10_readsFrame_28 : decode cX10_readsFrame 28 = .ok (.aload_n 0, 1) := by decide +kernel
theorem dX10_readsFrame_29 : decode cX10_readsFrame 29 = .ok (.bipush 62, 2) := by decide +kernel
theorem dX10_readsFrame_31 : decode cX10_readsFrame 31 = .ok (.invokevirtual 139, 3) := by decide +kernel
theorem dX10_readsFrame_34 : decode cX10_readsFrame 34 = .ok (.ifCond .ne 5, 3) := by decide +kernel
theorem dX10_readsFrame_37 : decode cX10_readsFrame 37 = .ok (.iconst 0, 1) := by decide +kernel
theorem dX10_readsFrame_38 : decode cX10_readsFrame 38 = .ok (.ireturn, 1) := by decide +kernel
theorem dX10_readsFrame_39 : decode cX10_readsFrame 39 = .ok (.aload_n 0, 1) := by decide +kernel
theorem dX10_readsFrame_40 : decode cX10_readsFrame 40 = .ok (.getfield 29, 3) := by decide +kernel
theorem dX10_readsFrame_43 : decode cX10_readsFrame 43 = .ok (.iload_n 1, 1) := by decide +kernel
theorem dX10_readsFrame_44 : decode cX10_readsFrame 44 = .ok (.iconst 1, 1) := by decide +kernel
theorem dX10_readsFrame_45 : decode cX10_readsFrame 45 = .ok (.iadd, 1) := by decide +kernel
theorem dX10_readsFrame_46 : decode cX10_readsFrame 46 = .ok (.aload_n 0, 1) := by decide +kernel
theorem dX10_readsFrame_47 : decode cX10_readsFrame 47 = .ok (.bipush 42, 2) := by decide +kernel
theorem dX10_readsFrame_49 : decode cX10_readsFrame 49 = .ok (.invokevirtual 139, 3) := by decide +kernel
theorem dX10_readsFrame_52 : decode cX10_readsFrame 52 = .ok (.ifCond .eq 7, 3) := by decide +kernel
theorem dX10_readsFrame_55 : decode cX10_readsFrame 55 = .ok (.iconst 0, 1) := by decide +kernel
theorem dX10_readsFrame_56 : decode cX10_readsFrame 56 = .ok (.goto 7, 3) := by decide +kernel
theorem dX10_readsFrame_59 : decode cX10_readsFrame 59 = .ok (.aload_n 0, 1) := by decide +kernel
theorem dX10_readsFrame_60 : decode cX10_readsFrame 60 = .ok (.invokevirtual 136, 3) := by decide +kernel
theorem dX10_readsFrame_63 : decode cX10_readsFrame 63 = .ok (.iastore, 1) := by decide +kernel
theorem dX10_readsFrame_64 : decode cX10_readsFrame 64 = .ok (.aload_n 0, 1) := by decide +kernel
theorem dX10_readsFrame_65 : decode cX10_readsFrame 65 = .ok (.getfield 29, 3) := by decide +kernel
theorem dX10_readsFrame_68 : decode cX10_readsFrame 68 = .ok (.iload_n 1, 1) := by decide +kernel
theorem dX10_readsFrame_69 : decode cX10_readsFrame 69 = .ok (.iconst 1, 1) := by decide +kernel
theorem dX10_readsFrame_70 : decode cX10_readsFrame 70 = .ok (.iadd, 1) := by decide +kernel
theorem dX10_readsFrame_71 : decode cX10_readsFrame 71 = .ok (.iaload, 1) := by decide +kernel
theorem dX10_readsFrame_72 : decode cX10_readsFrame 72 = .ok (.bipush (-4), 2) := by decide +kernel
theorem dX10_readsFrame_74 : decode cX10_readsFrame 74 = .ok (.if_icmp .ne 5, 3) := by decide +kernel
theorem dX10_readsFrame_77 : decode cX10_readsFrame 77 = .ok (.iconst 0, 1) := by decide +kernel
theorem dX10_readsFrame_78 : decode cX10_readsFrame 78 = .ok (.ireturn, 1) := by decide +kernel
theorem dX10_readsFrame_79 : decode cX10_readsFrame 79 = .ok (.aload_n 0, 1) := by decide +kernel
theorem dX10_readsFrame_80 : decode cX10_readsFrame 80 = .ok (.getfield 29, 3) := by decide +kernel
theorem dX10_readsFrame_83 : decode cX10_readsFrame 83 = .ok (.iload_n 1, 1) := by decide +kernel
theorem dX10_readsFrame_84 : decode cX10_readsFrame 84 = .ok (.iconst 2, 1) := by decide +kernel
theorem dX10_readsFrame_85 : decode cX10_readsFrame 85 = .ok (.iadd, 1) := by decide +kernel
theorem dX10_readsFrame_86 : decode cX10_readsFrame 86 = .ok (.aload_n 0, 1) := by decide +kernel
theorem dX10_readsFrame_87 : decode cX10_readsFrame 87 = .ok (.bipush 33, 2) := by decide +kernel
theorem dX10_readsFrame_89 : decode cX10_readsFrame 89 = .ok (.invokevirtual 139, 3) := by decide +kernel
theorem dX10_readsFrame_92 : decode cX10_readsFrame 92 = .ok (.ifCond .eq 12, 3) := by decide +kernel
theorem dX10_readsFrame_95 : decode cX10_readsFrame 95 = .ok (.aload_n 0, 1) := by decide +kernel
theorem dX10_readsFrame_96 : decode cX10_readsFrame 96 = .ok (.iconst 0, 1) := by decide +kernel
theorem dX10_readsFrame_97 : decode cX10_readsFrame 97 = .ok (.iconst 3, 1) := by decide +kernel
theorem dX10_readsFrame_98 : decode cX10_readsFrame 98 = .ok (.invokevirtual 130, 3) := by decide +kernel
theorem dX10_readsFrame_101 : decode cX10_readsFrame 101 = .ok (.goto 4, 3) := by decide +kernel
theorem dX10_readsFrame_104 : decode cX10_readsFrame 104 = .ok (.iconst 0, 1) := by decide +kernel
theorem dX10_readsFrame_105 : decode cX10_readsFrame 105 = .ok (.iastore, 1) := by decide +kernel
theorem dX10_readsFrame_106 : decode cX10_readsFrame 106 = .ok (.aload_n 0, 1) := by decide +kernel
theorem dX10_readsFrame_107 : decode cX10_readsFrame 107 = .ok (.getfield 29, 3) := by decide +kernel
theorem dX10_readsFrame_110 : decode cX10_readsFrame 110 = .ok (.iload_n 1, 1) := by decide +kernel
theorem dX10_readsFrame_111 : decode cX10_readsFrame 111 = .ok (.iconst 2, 1) := by decide +kernel
theorem dX10_readsFrame_112 : decode cX10_readsFrame 112 = .ok (.iadd, 1) := by decide +kernel
theorem dX10_readsFrame_113 : decode cX10_readsFrame 113 = .ok (.iaload, 1) := by decide +kernel
theorem dX10_readsFrame_114 : decode cX10_readsFrame 114 = .ok (.bipush (-4), 2) := by decide +kernel
theorem dX10_readsFrame_116 : decode cX10_readsFrame 116 = .ok (.if_icmp .eq 12, 3) := by decide +kernel
theorem dX10_readsFrame_119 : decode cX10_readsFrame 119 = .ok (.aload_n 0, 1) := by decide +kernel
theorem dX10_readsFrame_120 : decode cX10_readsFrame 120 = .ok (.bipush 64, 2) := by decide +kernel
theorem dX10_readsFrame_122 : decode cX10_readsFrame 122 = .ok (.invokevirtual 139, 3) := by decide +kernel
theorem dX10_readsFrame_125 : decode cX10_readsFrame 125 = .ok (.ifCond .ne 5, 3) := by decide +kernel
theorem dX10_readsFrame_128 : decode cX10_readsFrame 128 = .ok (.iconst 0, 1) := by decide +kernel
theorem dX10_readsFrame_129 : decode cX10_readsFrame 129 = .ok (.ireturn, 1) := by decide +kernel
theorem dX10_readsFrame_130 : decode cX10_readsFrame 130 = .ok (.aload_n 0, 1) := by decide +kernel
theorem dX10_readsFrame_131 : decode cX10_readsFrame 131 = .ok (.getfield 29, 3) := by decide +kernel
theorem dX10_readsFrame_134 : decode cX10_readsFrame 134 = .ok (.iload_n 1, 1) := by decide +kernel
theorem dX10_readsFrame_135 : decode cX10_readsFrame 135 = .ok (.iconst 3, 1) := by decide +kernel
theorem dX10_readsFrame_136 : decode cX10_readsFrame 136 = .ok (.iadd, 1) := by decide +kernel
theorem dX10_readsFrame_137 : decode cX10_readsFrame 137 = .ok (.aload_n 0, 1) := by decide +kernel
theorem dX10_readsFrame_138 : decode cX10_readsFrame 138 = .ok (.iconst 0, 1) := by decide +kernel
theorem dX10_readsFrame_139 : decode cX10_readsFrame 139 = .ok (.bipush 7, 2) := by decide +kernel
theorem dX10_readsFrame_141 : decode cX10_readsFrame 141 = .ok (.invokevirtual 130, 3) := by decide +kernel
theorem dX10_readsFrame_144 : decode cX10_readsFrame 144 = .ok (.iastore, 1) := by decide +kernel
theorem dX10_readsFrame_145 : decode cX10_readsFrame 145 = .ok (.aload_n 0, 1) := by decide +kernel
theorem dX10_readsFrame_146 : decode cX10_readsFrame 146 = .ok (.getfield 29, 3) := by decide +kernel
theorem dX10_readsFrame_149 : decode cX10_readsFrame 149 = .ok (.iload_n 1, 1) := by decide +kernel
theorem dX10_readsFrame_150 : decode cX10_readsFrame 150 = .ok (.iconst 3, 1) := by decide +kernel
theorem dX10_readsFrame_151 : decode cX10_readsFrame 151 = .ok (.iadd, 1) := by decide +kernel
theorem dX10_readsFrame_152 : decode cX10_readsFrame 152 = .ok (.iaload, 1) := by decide +kernel
theorem dX10_readsFrame_153 : decode cX10_readsFrame 153 = .ok (.bipush (-4), 2) := by decide +kernel
theorem dX10_readsFrame_155 : decode cX10_readsFrame 155 = .ok (.if_icmp .ne 5, 3) := by decide +kernel
theorem dX10_readsFrame_158 : decode cX10_readsFrame 158 = .ok (.iconst 0, 1) := by decide +kernel
theorem dX10_readsFrame_159 : decode cX10_readsFrame 159 = .ok (.ireturn, 1) := by decide +kernel
theorem dX10_readsFrame_160 : decode cX10_readsFrame 160 = .ok (.aload_n 0, 1) := by decide +kernel
theorem dX10_readsFrame_161 : decode cX10_readsFrame 161 = .ok (.dup, 1) := by decide +kernel
theorem dX10_readsFrame_162 : decode cX10_readsFrame 162 = .ok (.getfield 133, 3) := by decide +kernel
theorem dX10_readsFrame_165 : decode cX10_readsFrame 165 = .ok (.iconst 1, 1) := by decide +kernel
theorem dX10_readsFrame_166 : decode cX10_readsFrame 166 = .ok (.iadd, 1) := by decide +kernel
theorem dX10_readsFrame_167 : decode cX10_readsFrame 167 = .ok (.putfield 133, 3) := by decide +kernel
theorem dX10_readsFrame_170 : decode cX10_readsFrame 170 = .ok (.aload_n 0, 1) := by decide +kernel
theorem dX10_readsFrame_171 : decode cX10_readsFrame 171 = .ok (.getfield 127, 3) := by decide +kernel
theorem dX10_readsFrame_174 : decode cX10_readsFrame 174 = .ok (.aload_n 0, 1) := by decide +kernel
theorem dX10_readsFrame_175 : decode cX10_readsFrame 175 = .ok (.getfield 124, 3) := by decide +kernel
theorem dX10_readsFrame_178 : decode cX10_readsFrame 178 = .ok (.if_icmp .eq 17, 3) := by decide +kernel
theorem dX10_readsFrame_181 : decode cX10_readsFrame 181 = .ok (.aload_n 0, 1) := by decide +kernel
theorem dX10_readsFrame_182 : decode cX10_readsFrame 182 = .ok (.getfield 25, 3) := by decide +kernel
theorem dX10_readsFrame_185 : decode cX10_readsFrame 185 = .ok (.aload_n 0, 1) := by decide +kernel
theorem dX10_readsFrame_186 : decode cX10_readsFrame 186 = .ok (.getfield 127, 3) := by decide +kernel
theorem dX10_readsFrame_189 : decode cX10_readsFrame 189 = .ok (.caload, 1) := by decide +kernel
theorem dX10_readsFrame_190 : decode cX10_readsFrame 190 = .ok (.bipush 59, 2) := by decide +kernel
theorem dX10_readsFrame_192 : decode cX10_readsFrame 192 = .ok (.if_icmp .ne 7, 3) := by decide +kernel
theorem dX10_readsFrame_195 : decode cX10_readsFrame 195 = .ok (.iconst 1, 1) := by decide +kernel
theorem dX10_readsFrame_196 : decode cX10_readsFrame 196 = .ok (.goto 4, 3) := by decide +kernel
theorem dX10_readsFrame_199 : decode cX10_readsFrame 199 = .ok (.iconst 0, 1) := by decide +kernel
theorem dX10_readsFrame_200 : decode cX10_readsFrame 200 = .ok (.ireturn, 1) := by decide +kernel
theorem dX10_readFrames_0 : decode cX10_readFrames 0 = .ok (.aload_n 0, 1) := by decide +kernel
theorem dX10_readFrames_1 : decode cX10_readFrames 1 = .ok (.iconst 0, 1) := by decide +kernel
theorem dX10_readFrames_2 : decode cX10_readFrames 2 = .ok (.putfield 127, 3) := by decide +kernel
theorem dX10_readFrames_5 : decode cX10_readFrames 5 = .ok (.aload_n 0, 1) := by decide +kernel
theorem dX10_readFrames_6 : decode cX10_readFrames 6 = .ok (.iconst 0, 1) := by decide +kernel
theorem dX10_readFrames_7 : decode cX10_readFrames 7 = .ok (.putfield 133, 3) := by decide +kernel
theorem dX10_readFrames_10 : decode cX10_readFrames 10 = .ok (.iconst 1, 1) := by decide +kernel
theorem dX10_readFrames_11 : decode cX10_readFrames 11 = .ok (.istore_n 1, 1) := by decide +kernel
theorem dX10_readFrames_12 : decode cX10_readFrames 12 = .ok (.iload_n 1, 1) := by decide +kernel
theorem dX10_readFrames_13 : decode cX10_readFrames 13 = .ok (.ifCond .eq 56, 3) := by decide +kernel
theorem dX10_readFrames_16 : decode cX10_readFrames 16 = .ok (.aload_n 0, 1) := by decide +kernel
theorem dX10_readFrames_17 : decode cX10_readFrames 17 = .ok (.invokevirtual 143, 3) := by decide +kernel
theorem dX10_readFrames_20 : decode cX10_readFrames 20 = .ok (.ifCond .ne 11, 3) := by decide +kernel
theorem dX10_readFrames_23 : decode cX10_readFrames 23 = .ok (.bipush (-100), 2) := by decide +kernel
theorem dX10_readFrames_25 : decode cX10_readFrames 25 = .ok (.aload_n 0, 1) := by decide +kernel
theorem dX10_readFrames_26 : decode cX10_readFrames 26 = .ok (.getfield 127, 3) := by decide +kernel
theorem dX10_readFrames_29 : decode cX10_readFrames 29 = .ok (.isub, 1) := by decide +kernel
theorem dX10_readFrames_30 : decode cX10_readFrames 30 = .ok (.ireturn, 1) := by decide +kernel
theorem dX10_readFrames_31 : decode cX10_readFrames 31 = .ok (.aload_n 0, 1) := by decide +kernel
theorem dX10_readFrames_32 : decode cX10_readFrames 32 = .ok (.getfield 127, 3) := by decide +kernel
theorem dX10_readFrames_35 : decode cX10_readFrames 35 = .ok (.aload_n 0, 1) := by decide +kernel
theorem dX10_readFrames_36 : decode cX10_readFrames 36 = .ok (.getfield 124, 3) := by decide +kernel
theorem dX10_readFrames_39 : decode cX10_readFrames 39 = .ok (.if_icmp .ge 7, 3) := by decide +kernel
theorem dX10_readFrames_42 : decode cX10_readFrames 42 = .ok (.iconst 1, 1) := by decide +kernel
theorem dX10_readFrames_43 : decode cX10_readFrames 43 = .ok (.goto 4, 3) := by decide +kernel
theorem dX10_readFrames_46 : decode cX10_readFrames 46 = .ok (.iconst 0, 1) := by decide +kernel
theorem dX10_readFrames_47 : decode cX10_readFrames 47 = .ok (.istore_n 1, 1) := by decide +kernel
theorem dX10_readFrames_48 : decode cX10_readFrames 48 = .ok (.aload_n 0, 1) := by decide +kernel
theorem dX10_readFrames_49 : decode cX10_readFrames 49 = .ok (.dup, 1) := by decide +kernel
theorem dX10_readFrames_50 : decode cX10_readFrames 50 = .ok (.getfield 127, 3) := by decide +kernel
theorem dX10_readFrames_53 : decode cX10_readFrames 53 = .ok (.iload_n 1, 1) := by decide +kernel
theorem dX10_readFrames_54 : decode cX10_readFrames 54 = .ok (.ifCond .eq 7, 3) := by decide +kernel
theorem dX10_readFrames_57 : decode cX10_readFrames 57 = .ok (.iconst 1, 1) := by decide +kernel
theorem dX10_readFrames_58 : decode cX10_readFrames 58 = .ok (.goto 4, 3) := by decide +kernel
theorem dX10_readFrames_61 : decode cX10_readFrames 61 = .ok (.iconst 0, 1) := by decide +kernel
theorem dX10_readFrames_62 : decode cX10_readFrames 62 = .ok (.iadd, 1) := by decide +kernel
theorem dX10_readFrames_63 : decode cX10_readFrames 63 = .ok (.putfield 127, 3) := by decide +kernel
theorem dX10_readFrames_66 : decode cX10_readFrames 66 = .ok (.goto (-54), 3) := by decide +kernel
theorem dX10_readFrames_69 : decode cX10_readFrames 69 = .ok (.aload_n 0, 1) := by decide +kernel
theorem dX10_readFrames_70 : decode cX10_readFrames 70 = .ok (.invokevirtual 55, 3) := by decide +kernel
theorem dX10_readFrames_73 : decode cX10_readFrames 73 = .ok (.iconst 0, 1) := by decide +kernel
theorem dX10_readFrames_74 : decode cX10_readFrames 74 = .ok (.istore_n 2, 1) := by decide +kernel
theorem dX10_readFrames_75 : decode cX10_readFrames 75 = .ok (.iconst 0, 1) := by decide +kernel
theorem dX10_readFrames_76 : decode cX10_readFrames 76 = .ok (.istore_n 3, 1) := by decide +kernel
theorem dX10_readFrames_77 : decode cX10_readFrames 77 = .ok (.iload_n 3, 1) := by decide +kernel
theorem dX10_readFrames_78 : decode cX10_readFrames 78 = .ok (.aload_n 0, 1) := by decide +kernel
theorem dX10_readFrames_79 : decode cX10_readFrames 79 = .ok (.getfield 133, 3) := by decide +kernel
theorem dX10_readFrames_82 : decode cX10_readFrames 82 = .ok (.if_icmp .ge 66, 3) := by decide +kernel
theorem dX10_readFrames_85 : decode cX10_readFrames 85 = .ok (.aload_n 0, 1) := by decide +kernel
theorem dX10_readFrames_86 : decode cX10_readFrames 86 = .ok (.aload_n 0, 1) := by decide +kernel
theorem dX10_readFrames_87 : decode cX10_readFrames 87 = .ok (.getfield 29, 3) := by decide +kernel
theorem dX10_readFrames_90 : decode cX10_readFrames 90 = .ok (.iconst 4, 1) := by decide +kernel
theorem dX10_readFrames_91 : decode cX10_readFrames 91 = .ok (.iload_n 3, 1) := by decide +kernel
theorem dX10_readFrames_92 : decode cX10_readFrames 92 = .ok (.imul, 1) := by decide +kernel
theorem dX10_readFrames_93 : decode cX10_readFrames 93 = .ok (.iconst 3, 1) := by decide +kernel
theorem dX10_readFrames_94 : decode cX10_readFrames 94 = .ok (.iadd, 1) := by decide +kernel
theorem dX10_readFrames_95 : decode cX10_readFrames 95 = .ok (.iaload, 1) := by decide +kernel
theorem dX10_readFrames_96 : decode cX10_readFrames 96 = .ok (.aload_n 0, 1) := by decide +kernel
theorem dX10_readFrames_97 : decode cX10_readFrames 97 = .ok (.getfield 29, 3) := by decide +kernel
theorem dX10_readFrames_100 : decode cX10_readFrames 100 = .ok (.iconst 4, 1) := by decide +kernel
theorem dX10_readFrames_101 : decode cX10_readFrames 101 = .ok (.iload_n 3, 1) := by decide +kernel
theorem dX10_readFrames_102 : decode cX10_readFrames 102 = .ok (.imul, 1) := by decide +kernel
theorem dX10_readFrames_103 : decode cX10_readFrames 103 = .ok (.iaload, 1) := by decide +kernel
theorem dX10_readFrames_104 : decode cX10_readFrames 104 = .ok (.aload_n 0, 1) := by decide +kernel
theorem dX10_readFrames_105 : decode cX10_readFrames 105 = .ok (.getfield 29, 3) := by decide +kernel
theorem dX10_readFrames_108 : decode cX10_readFrames 108 = .ok (.iconst 4, 1) := by decide +kernel
theorem dX10_readFrames_109 : decode cX10_readFrames 109 = .ok (.iload_n 3, 1) := by decide +kernel
theorem dX10_readFrames_110 : decode cX10_readFrames 110 = .ok (.imul, 1) := by decide +kernel
theorem dX10_readFrames_111 : decode cX10_readFrames 111 = .ok (.iconst 1, 1) := by decide +kernel
theorem dX10_readFrames_112 : decode cX10_readFrames 112 = .ok (.iadd, 1) := by decide +kernel
theorem dX10_readFrames_113 : decode cX10_readFrames 113 = .ok (.iaload, 1) := by decide +kernel
theorem dX10_readFrames_114 : decode cX10_readFrames 114 = .ok (.aload_n 0, 1) := by decide +kernel
theorem dX10_readFrames_115 : decode cX10_readFrames 115 = .ok (.getfield 29, 3) := by decide +kernel
theorem dX10_readFrames_118 : decode cX10_readFrames 118 = .ok (.iconst 4, 1) := by decide +kernel
theorem dX10_readFrames_119 : decode cX10_readFrames 119 = .ok (.iload_n 3, 1) := by decide +kernel
theorem dX10_readFrames_120 : decode cX10_readFrames 120 = .ok (.imul, 1) := by decide +kernel
theorem dX10_readFrames_121 : decode cX10_readFrames 121 = .ok (.iconst 2, 1) := by decide +kernel
theorem dX10_readFrames_122 : decode cX10_readFrames 122 = .ok (.iadd, 1) := by decide +kernel
theorem dX10_readFrames_123 : decode cX10_readFrames 123 = .ok (.iaload, 1) := by decide +kernel
theorem dX10_readFrames_124 : decode cX10_readFrames 124 = .ok (.invokevirtual 109, 3) := by decide +kernel
theorem dX10_readFrames_127 : decode cX10_readFrames 127 = .ok (.istore 4, 2) := by decide +kernel
theorem dX10_readFrames_129 : decode cX10_readFrames 129 = .ok (.iload_n 2, 1) := by decide +kernel
theorem dX10_readFrames_130 : decode cX10_readFrames 130 = .ok (.iload 4, 2) := by decide +kernel
theorem dX10_readFrames_132 : decode cX10_readFrames 132 = .ok (.ifCond .ne 7, 3) := by decide +kernel
theorem dX10_readFrames_135 : decode cX10_readFrames 135 = .ok (.iconst 0, 1) := by decide +kernel
theorem dX10_readFrames_136 : decode cX10_readFrames 136 = .ok (.goto 4, 3) := by decide +kernel
theorem dX10_readFrames_139 : decode cX10_readFrames 139 = .ok (.iconst 1, 1) := by decide +kernel
theorem dX10_readFrames_140 : decode cX10_readFrames 140 = .ok (.iadd, 1) := by decide +kernel
theorem dX10_readFrames_141 : decode cX10_readFrames 141 = .ok (.istore_n 2, 1) := by decide +kernel
theorem dX10_readFrames_142 : decode cX10_readFrames 142 = .ok (.iinc 3 1, 3) := by decide +kernel
theorem dX10_readFrames_145 : decode cX10_readFrames 145 = .ok (.goto (-68), 3) := by decide +kernel
theorem dX10_readFrames_148 : decode cX10_readFrames 148 = .ok (.iload_n 2, 1) := by decide +kernel
theorem dX10_readFrames_149 : decode cX10_readFrames 149 = .ok (.ireturn, 1) := by decide +kernel
theorem dX10_undo_0 : decode cX10_undo 0 = .ok (.aload_n 0, 1) := by decide +kernel
theorem dX10_undo_1 : decode cX10_undo 1 = .ok (.getfield 40, 3) := by decide +kernel
theorem dX10_undo_4 : decode cX10_undo 4 = .ok (.ifCond .ne 6, 3) := by decide +kernel
theorem dX10_undo_7 : decode cX10_undo 7 = .ok (.bipush (-4), 2) := by decide +kernel
theorem dX10_undo_9 : decode cX10_undo 9 = .ok (.ireturn, 1) := by decide +kernel
theorem dX10_undo_10 : decode cX10_undo 10 = .ok (.aload_n 0, 1) := by decide +kernel
theorem dX10_undo_11 : decode cX10_undo 11 = .ok (.dup, 1) := by decide +kernel
theorem dX10_undo_12 : decode cX10_undo 12 = .ok (.getfield 40, 3) := by decide +kernel
theorem dX10_undo_15 : decode cX10_undo 15 = .ok (.iconst 1, 1) := by decide +kernel
theorem dX10_undo_16 : decode cX10_undo 16 = .ok (.isub, 1) := by decide +kernel
theorem dX10_undo_17 : decode cX10_undo 17 = .ok (.putfield 40, 3) := by decide +kernel
theorem dX10_undo_20 : decode cX10_undo 20 = .ok (.iconst 0, 1) := by decide +kernel
theorem dX10_undo_21 : decode cX10_undo 21 = .ok (.istore_n 1, 1) := by decide +kernel
theorem dX10_undo_22 : decode cX10_undo 22 = .ok (.iload_n 1, 1) := by decide +kernel
theorem dX10_undo_23 : decode cX10_undo 23 = .ok (.sipush 1752, 3) := by decide +kernel
theorem dX10_undo_26 : decode cX10_undo 26 = .ok (.if_icmp .ge 30, 3) := by decide +kernel
theorem dX10_undo_29 : decode cX10_undo 29 = .ok (.aload_n 0, 1) := by decide +kernel
theorem dX10_undo_30 : decode cX10_undo 30 = .ok (.getfield 7, 3) := by decide +kernel
theorem dX10_undo_33 : decode cX10_undo 33 = .ok (.iload_n 1, 1) := by decide +kernel
theorem dX10_undo_34 : decode cX10_undo 34 = .ok (.aload_n 0, 1) := by decide +kernel
theorem dX10_undo_35 : decode cX10_undo 35 = .ok (.getfield 13, 3) := by decide +kernel
theorem dX10_undo_38 : decode cX10_undo 38 = .ok (.sipush 1752, 3) := by decide +kernel
theorem dX10_undo_41 : decode cX10_undo 41 = .ok (.aload_n 0, 1) := by decide +kernel
theorem dX10_undo_42 : decode cX10_undo 42 = .ok (.getfield 40, 3) := by decide +kernel
theorem dX10_undo_45 : decode cX10_undo 45 = .ok (.imul, 1) := by decide +kernel
theorem dX10_undo_46 : decode cX10_undo 46 = .ok (.iload_n 1, 1) := by decide +kernel
theorem dX10_undo_47 : decode cX10_undo 47 = .ok (.iadd, 1) := by decide +kernel
theorem dX10_undo_48 : decode cX10_undo 48 = .ok (.iaload, 1) := by decide +kernel
theorem dX10_undo_49 : decode cX10_undo 49 = .ok (.iastore, 1) := by decide +kernel
theorem dX10_undo_50 : decode cX10_undo 50 = .ok (.iinc 1 1, 3) := by decide +kernel
theorem dX10_undo_53 : decode cX10_undo 53 = .ok (.goto (-31), 3) := by decide +kernel
theorem dX10_undo_56 : decode cX10_undo 56 = .ok (.aload_n 0, 1) := by decide +kernel
theorem dX10_undo_57 : decode cX10_undo 57 = .ok (.getfield 40, 3) := by decide +kernel
theorem dX10_undo_60 : decode cX10_undo 60 = .ok (.ireturn, 1) := by decide +kernel
theorem dX10_keep_0 : decode cX10_keep 0 = .ok (.iconst 0, 1) := by decide +kernel
theorem dX10_keep_1 : decode cX10_keep 1 = .ok (.istore_n 1, 1) := by decide +kernel
theorem dX10_keep_2 : decode cX10_keep 2 = .ok (.iload_n 1, 1) := by decide +kernel
theorem dX10_keep_3 : decode cX10_keep 3 = .ok (.sipush 1752, 3) := by decide +kernel
theorem dX10_keep_6 : decode cX10_keep 6 = .ok (.if_icmp .ge 21, 3) := by decide +kernel
theorem dX10_keep_9 : decode cX10_keep 9 = .ok (.aload_n 0, 1) := by decide +kernel
theorem dX10_keep_10 : decode cX10_keep 10 = .ok (.getfield 16, 3) := by decide +kernel
theorem dX10_keep_13 : decode cX10_keep 13 = .ok (.iload_n 1, 1) := by decide +kernel
theorem dX10_keep_14 : decode cX10_keep 14 = .ok (.aload_n 0, 1) := by decide +kernel
theorem dX10_keep_15 : decode cX10_keep 15 = .ok (.getfield 7, 3) := by decide +kernel
theorem dX10_keep_18 : decode cX10_keep 18 = .ok (.iload_n 1, 1) := by decide +kernel
theorem dX10_keep_19 : decode cX10_keep 19 = .ok (.iaload, 1) := by decide +kernel
theorem dX10_keep_20 : decode cX10_keep 20 = .ok (.iastore, 1) := by decide +kernel
theorem dX10_keep_21 : decode cX10_keep 21 = .ok (.iinc 1 1, 3) := by decide +kernel
theorem dX10_keep_24 : decode cX10_keep 24 = .ok (.goto (-22), 3) := by decide +kernel
theorem dX10_keep_27 : decode cX10_keep 27 = .ok (.aload_n 0, 1) := by decide +kernel
theorem dX10_keep_28 : decode cX10_keep 28 = .ok (.iconst 1, 1) := by decide +kernel
theorem dX10_keep_29 : decode cX10_keep 29 = .ok (.putfield 147, 3) := by decide +kernel
theorem dX10_keep_32 : decode cX10_keep 32 = .ok (.aload_n 0, 1) := by decide +kernel
theorem dX10_keep_33 : decode cX10_keep 33 = .ok (.getfield 7, 3) := by decide +kernel
theorem dX10_keep_36 : decode cX10_keep 36 = .ok (.iconst 4, 1) := by decide +kernel
theorem dX10_keep_37 : decode cX10_keep 37 = .ok (.iaload, 1) := by decide +kernel
theorem dX10_keep_38 : decode cX10_keep 38 = .ok (.ireturn, 1) := by decide +kernel
theorem dX10_restore_0 : decode cX10_restore 0 = .ok (.aload_n 0, 1) := by decide +kernel
theorem dX10_restore_1 : decode cX10_restore 1 = .ok (.getfield 147, 3) := by decide +kernel
theorem dX10_restore_4 : decode cX10_restore 4 = .ok (.ifCond .ne 6, 3) := by decide +kernel
theorem dX10_restore_7 : decode cX10_restore 7 = .ok (.bipush (-4), 2) := by decide +kernel
theorem dX10_restore_9 : decode cX10_restore 9 = .ok (.ireturn, 1) := by decide +kernel
theorem dX10_restore_10 : decode cX10_restore 10 = .ok (.aload_n 0, 1) := by decide +kernel
theorem dX10_restore_11 : decode cX10_restore 11 = .ok (.invokevirtual 55, 3) := by decide +kernel
theorem dX10_restore_14 : decode cX10_restore 14 = .ok (.iconst 0, 1) := by decide +kernel
theorem dX10_restore_15 : decode cX10_restore 15 = .ok (.istore_n 1, 1) := by decide +kernel
theorem dX10_restore_16 : decode cX10_restore 16 = .ok (.iload_n 1, 1) := by decide +kernel
theorem dX10_restore_17 : decode cX10_restore 17 = .ok (.sipush 1752, 3) := by decide +kernel
theorem dX10_restore_20 : decode cX10_restore 20 = .ok (.if_icmp .ge 21, 3) := by decide +kernel
theorem dX10_restore_23 : decode cX10_restore 23 = .ok (.aload_n 0, 1) := by decide +kernel
theorem dX10_restore_24 : decode cX10_restore 24 = .ok (.getfield 7, 3) := by decide +kernel
theorem dX10_restore_27 : decode cX10_restore 27 = .ok (.iload_n 1, 1) := by decide +kernel
theorem dX10_restore_28 : decode cX10_restore 28 = .ok (.aload_n 0, 1) := by decide +kernel
theorem dX10_restore_29 : decode cX10_restore 29 = .ok (.getfield 16, 3) := by decide +kernel
theorem dX10_restore_32 : decode cX10_restore 32 = .ok (.iload_n 1, 1) := by decide +kernel
theorem dX10_restore_33 : decode cX10_restore 33 = .ok (.iaload, 1) := by decide +kernel
theorem dX10_restore_34 : decode cX10_restore 34 = .ok (.iastore, 1) := by decide +kernel
theorem dX10_restore_35 : decode cX10_restore 35 = .ok (.iinc 1 1, 3) := by decide +kernel
theorem dX10_restore_38 : decode cX10_restore 38 = .ok (.goto (-22), 3) := by decide +kernel
theorem dX10_restore_41 : decode cX10_restore 41 = .ok (.aload_n 0, 1) := by decide +kernel
theorem dX10_restore_42 : decode cX10_restore 42 = .ok (.getfield 7, 3) := by decide +kernel
theorem dX10_restore_45 : decode cX10_restore 45 = .ok (.iconst 4, 1) := by decide +kernel
theorem dX10_restore_46 : decode cX10_restore 46 = .ok (.iaload, 1) := by decide +kernel
theorem dX10_restore_47 : decode cX10_restore 47 = .ok (.ireturn, 1) := by decide +kernel
theorem dX10_entriesWith_0 : decode cX10_entriesWith 0 = .ok (.iconst 0, 1) := by decide +kernel
theorem dX10_entriesWith_1 : decode cX10_entriesWith 1 = .ok (.istore_n 2, 1) := by decide +kernel
theorem dX10_entriesWith_2 : decode cX10_entriesWith 2 = .ok (.iconst 1, 1) := by decide +kernel
theorem dX10_entriesWith_3 : decode cX10_entriesWith 3 = .ok (.istore_n 3, 1) := by decide +kernel
theorem dX10_entriesWith_4 : decode cX10_entriesWith 4 = .ok (.iload_n 3, 1) := by decide +kernel
theorem dX10_entriesWith_5 : decode cX10_entriesWith 5 = .ok (.bipush 100, 2) := by decide +kernel
theorem dX10_entriesWith_7 : decode cX10_entriesWith 7 = .ok (.if_icmp .ge 33, 3) := by decide +kernel
theorem dX10_entriesWith_10 : decode cX10_entriesWith 10 = .ok (.iload_n 2, 1) := by decide +kernel
theorem dX10_entriesWith_11 : decode cX10_entriesWith 11 = .ok (.aload_n 0, 1) := by decide +kernel
theorem dX10_entriesWith_12 : decode cX10_entriesWith 12 = .ok (.getfield 7, 3) := by decide +kernel
theorem dX10_entriesWith_15 : decode cX10_entriesWith 15 = .ok (.sipush 552, 3) := by decide +kernel
theorem dX10_entriesWith_18 : decode cX10_entriesWith 18 = .ok (.iload_n 3, 1) := by decide +kernel
theorem dX10_entriesWith_19 : decode cX10_entriesWith 19 = .ok (.iadd, 1) := by decide +kernel
theorem dX10_entriesWith_20 : decode cX10_entriesWith 20 = .ok (.iaload, 1) := by decide +kernel
theorem dX10_entriesWith_21 : decode cX10_entriesWith 21 = .ok (.iload_n 1, 1) := by decide +kernel
theorem dX10_entriesWith_22 : decode cX10_entriesWith 22 = .ok (.iconst 1, 1) := by decide +kernel
theorem dX10_entriesWith_23 : decode cX10_entriesWith 23 = .ok (.iadd, 1) := by decide +kernel
theorem dX10_entriesWith_24 : decode cX10_entriesWith 24 = .ok (.if_icmp .ne 7, 3) := by decide +kernel
theorem dX10_entriesWith_27 : decode cX10_entriesWith 27 = .ok (.iconst 1, 1) := by decide +kernel
theorem dX10_entriesWith_28 : decode cX10_entriesWith 28 = .ok (.goto 4, 3) := by decide +kernel
theorem dX10_entriesWith_31 : decode cX10_entriesWith 31 = .ok (.iconst 0, 1) := by decide +kernel
theorem dX10_entriesWith_32 : decode cX10_entriesWith 32 = .ok (.iadd, 1) := by decide +kernel
theorem dX10_entriesWith_33 : decode cX10_entriesWith 33 = .ok (.istore_n 2, 1) := by decide +kernel
theorem dX10_entriesWith_34 : decode cX10_entriesWith 34 = .ok (.iinc 3 1, 3) := by decide +kernel
theorem dX10_entriesWith_37 : decode cX10_entriesWith 37 = .ok (.goto (-33), 3) := by decide +kernel
theorem dX10_entriesWith_40 : decode cX10_entriesWith 40 = .ok (.iload_n 2, 1) := by decide +kernel
theorem dX10_entriesWith_41 : decode cX10_entriesWith 41 = .ok (.ireturn, 1) := by decide +kernel
theorem dX10_port_0 : decode cX10_port 0 = .ok (.iload_n 1, 1) := by decide +kernel
theorem dX10_port_1 : decode cX10_port 1 = .ok (.invokestatic 52, 3) := by decide +kernel
theorem dX10_port_4 : decode cX10_port 4 = .ok (.ifCond .eq 5, 3) := by decide +kernel
theorem dX10_port_7 : decode cX10_port 7 = .ok (.iconst (-1), 1) := by decide +kernel
theorem dX10_port_8 : decode cX10_port 8 = .ok (.ireturn, 1) := by decide +kernel
theorem dX10_port_9 : decode cX10_port 9 = .ok (.iload_n 2, 1) := by decide +kernel
theorem dX10_port_10 : decode cX10_port 10 = .ok (.tableswitch 123 0 7 #[46, 53, 67, 73, 80, 103, 110, 116], 46) := by decide +kernel
theorem dX10_port_56 : decode cX10_port 56 = .ok (.aload_n 0, 1) := by decide +kernel
theorem dX10_port_57 : decode cX10_port 57 = .ok (.iload_n 1, 1) := by decide +kernel
theorem dX10_port_58 : decode cX10_port 58 = .ok (.iconst 0, 1) := by decide +kernel
theorem dX10_port_59 : decode cX10_port 59 = .ok (.invokevirtual 44, 3) := by decide +kernel
theorem dX10_port_62 : decode cX10_port 62 = .ok (.ireturn, 1) := by decide +kernel
theorem dX10_port_63 : decode cX10_port 63 = .ok (.aload_n 0, 1) := by decide +kernel
theorem dX10_port_64 : decode cX10_port 64 = .ok (.iload_n 1, 1) := by decide +kernel
theorem dX10_port_65 : decode cX10_port 65 = .ok (.invokevirtual 48, 3) := by decide +kernel
theorem dX10_port_68 : decode cX10_port 68 = .ok (.ifCond .eq 7, 3) := by decide +kernel
theorem dX10_port_71 : decode cX10_port 71 = .ok (.iconst 1, 1) := by decide +kernel
theorem dX10_port_72 : decode cX10_port 72 = .ok (.goto 4, 3) := by decide +kernel
theorem dX10_port_75 : decode cX10_port 75 = .ok (.iconst 0, 1) := by decide +kernel
theorem dX10_port_76 : decode cX10_port 76 = .ok (.ireturn, 1) := by decide +kernel
theorem dX10_port_77 : decode cX10_port 77 = .ok (.aload_n 0, 1) := by decide +kernel
theorem dX10_port_78 : decode cX10_port 78 = .ok (.iload_n 1, 1) := by decide +kernel
theorem dX10_port_79 : decode cX10_port 79 = .ok (.invokevirtual 65, 3) := by decide +kernel
theorem dX10_port_82 : decode cX10_port 82 = .ok (.ireturn, 1) := by decide +kernel
theorem dX10_port_83 : decode cX10_port 83 = .ok (.aload_n 0, 1) := by decide +kernel
theorem dX10_port_84 : decode cX10_port 84 = .ok (.iload_n 1, 1) := by decide +kernel
theorem dX10_port_85 : decode cX10_port 85 = .ok (.iconst 2, 1) := by decide +kernel
theorem dX10_port_86 : decode cX10_port 86 = .ok (.invokevirtual 44, 3) := by decide +kernel
theorem dX10_port_89 : decode cX10_port 89 = .ok (.ireturn, 1) := by decide +kernel
theorem dX10_port_90 : decode cX10_port 90 = .ok (.aload_n 0, 1) := by decide +kernel
theorem dX10_port_91 : decode cX10_port 91 = .ok (.iload_n 1, 1) := by decide +kernel
theorem dX10_port_92 : decode cX10_port 92 = .ok (.iconst 3, 1) := by decide +kernel
theorem dX10_port_93 : decode cX10_port 93 = .ok (.invokevirtual 44, 3) := by decide +kernel
theorem dX10_port_96 : decode cX10_port 96 = .ok (.ifCond .ne 8, 3) := by decide +kernel
theorem dX10_port_99 : decode cX10_port 99 = .ok (.bipush (-4), 2) := by decide +kernel
theorem dX10_port_101 : decode cX10_port 101 = .ok (.goto 11, 3) := by decide +kernel
theorem dX10_port_104 : decode cX10_port 104 = .ok (.aload_n 0, 1) := by decide +kernel
theorem dX10_port_105 : decode cX10_port 105 = .ok (.iload_n 1, 1) := by decide +kernel
theorem dX10_port_106 : decode cX10_port 106 = .ok (.iconst 3, 1) := by decide +kernel
theorem dX10_port_107 : decode cX10_port 107 = .ok (.invokevirtual 44, 3) := by decide +kernel
theorem dX10_port_110 : decode cX10_port 110 = .ok (.iconst 1, 1) := by decide +kernel
theorem dX10_port_111 : decode cX10_port 111 = .ok (.isub, 1) := by decide +kernel
theorem dX10_port_112 : decode cX10_port 112 = .ok (.ireturn, 1) := by decide +kernel
theorem dX10_port_113 : decode cX10_port 113 = .ok (.aload_n 0, 1) := by decide +kernel
theorem dX10_port_114 : decode cX10_port 114 = .ok (.iload_n 1, 1) := by decide +kernel
theorem dX10_port_115 : decode cX10_port 115 = .ok (.iconst 5, 1) := by decide +kernel
theorem dX10_port_116 : decode cX10_port 116 = .ok (.invokevirtual 44, 3) := by decide +kernel
theorem dX10_port_119 : decode cX10_port 119 = .ok (.ireturn, 1) := by decide +kernel
theorem dX10_port_120 : decode cX10_port 120 = .ok (.aload_n 0, 1) := by decide +kernel
theorem dX10_port_121 : decode cX10_port 121 = .ok (.iload_n 1, 1) := by decide +kernel
theorem dX10_port_122 : decode cX10_port 122 = .ok (.invokevirtual 151, 3) := by decide +kernel
theorem dX10_port_125 : decode cX10_port 125 = .ok (.ireturn, 1) := by decide +kernel
theorem dX10_port_126 : decode cX10_port 126 = .ok (.aload_n 0, 1) := by decide +kernel
theorem dX10_port_127 : decode cX10_port 127 = .ok (.iload_n 1, 1) := by decide +kernel
theorem dX10_port_128 : decode cX10_port 128 = .ok (.iconst 4, 1) := by decide +kernel
theorem dX10_port_129 : decode cX10_port 129 = .ok (.invokevirtual 44, 3) := by decide +kernel
theorem dX10_port_132 : decode cX10_port 132 = .ok (.ireturn, 1) := by decide +kernel
theorem dX10_port_133 : decode cX10_port 133 = .ok (.bipush (-2), 2) := by decide +kernel
theorem dX10_port_135 : decode cX10_port 135 = .ok (.ireturn, 1) := by decide +kernel
theorem dX10_account_0 : decode cX10_account 0 = .ok (.iload_n 1, 1) := by decide +kernel
theorem dX10_account_1 : decode cX10_account 1 = .ok (.invokestatic 52, 3) := by decide +kernel
theorem dX10_account_4 : decode cX10_account 4 = .ok (.ifCond .eq 5, 3) := by decide +kernel
theorem dX10_account_7 : decode cX10_account 7 = .ok (.iconst (-1), 1) := by decide +kernel
theorem dX10_account_8 : decode cX10_account 8 = .ok (.ireturn, 1) := by decide +kernel
theorem dX10_account_9 : decode cX10_account 9 = .ok (.iload_n 2, 1) := by decide +kernel
theorem dX10_account_10 : decode cX10_account 10 = .ok (.iconst 0, 1) := by decide +kernel
theorem dX10_account_11 : decode cX10_account 11 = .ok (.bipush 10, 2) := by decide +kernel
theorem dX10_account_13 : decode cX10_account 13 = .ok (.invokestatic 36, 3) := by decide +kernel
theorem dX10_account_16 : decode cX10_account 16 = .ok (.ifCond .eq 15, 3) := by decide +kernel
theorem dX10_account_19 : decode cX10_account 19 = .ok (.aload_n 0, 1) := by decide +kernel
theorem dX10_account_20 : decode cX10_account 20 = .ok (.iload_n 1, 1) := by decide +kernel
theorem dX10_account_21 : decode cX10_account 21 = .ok (.bipush 6, 2) := by decide +kernel
theorem dX10_account_23 : decode cX10_account 23 = .ok (.iload_n 2, 1) := by decide +kernel
theorem dX10_account_24 : decode cX10_account 24 = .ok (.iadd, 1) := by decide +kernel
theorem dX10_account_25 : decode cX10_account 25 = .ok (.invokevirtual 44, 3) := by decide +kernel
theorem dX10_account_28 : decode cX10_account 28 = .ok (.goto 5, 3) := by decide +kernel
theorem dX10_account_31 : decode cX10_account 31 = .ok (.bipush (-2), 2) := by decide +kernel
theorem dX10_account_33 : decode cX10_account 33 = .ok (.ireturn, 1) := by decide +kernel
theorem dX10_entry_0 : decode cX10_entry 0 = .ok (.iload_n 1, 1) := by decide +kernel
theorem dX10_entry_1 : decode cX10_entry 1 = .ok (.ifCond .lt 12, 3) := by decide +kernel
theorem dX10_entry_4 : decode cX10_entry 4 = .ok (.iload_n 2, 1) := by decide +kernel
theorem dX10_entry_5 : decode cX10_entry 5 = .ok (.iconst 0, 1) := by decide +kernel
theorem dX10_entry_6 : decode cX10_entry 6 = .ok (.iconst 3, 1) := by decide +kernel
theorem dX10_entry_7 : decode cX10_entry 7 = .ok (.invokestatic 36, 3) := by decide +kernel
theorem dX10_entry_10 : decode cX10_entry 10 = .ok (.ifCond .ne 6, 3) := by decide +kernel
theorem dX10_entry_13 : decode cX10_entry 13 = .ok (.bipush (-2), 2) := by decide +kernel
theorem dX10_entry_15 : decode cX10_entry 15 = .ok (.ireturn, 1) := by decide +kernel
theorem dX10_entry_16 : decode cX10_entry 16 = .ok (.iconst 0, 1) := by decide +kernel
theorem dX10_entry_17 : decode cX10_entry 17 = .ok (.istore_n 3, 1) := by decide +kernel
theorem dX10_entry_18 : decode cX10_entry 18 = .ok (.iconst 1, 1) := by decide +kernel
theorem dX10_entry_19 : decode cX10_entry 19 = .ok (.istore 4, 2) := by decide +kernel
theorem dX10_entry_21 : decode cX10_entry 21 = .ok (.iload 4, 2) := by decide +kernel
theorem dX10_entry_23 : decode cX10_entry 23 = .ok (.bipush 100, 2) := by decide +kernel
theorem dX10_entry_25 : decode cX10_entry 25 = .ok (.if_icmp .ge 94, 3) := by decide +kernel
theorem dX10_entry_28 : decode cX10_entry 28 = .ok (.aload_n 0, 1) := by decide +kernel
theorem dX10_entry_29 : decode cX10_entry 29 = .ok (.getfield 7, 3) := by decide +kernel
theorem dX10_entry_32 : decode cX10_entry 32 = .ok (.sipush 552, 3) := by decide +kernel
theorem dX10_entry_35 : decode cX10_entry 35 = .ok (.iload 4, 2) := by decide +kernel
theorem dX10_entry_37 : decode cX10_entry 37 = .ok (.iadd, 1) := by decide +kernel
theorem dX10_entry_38 : decode cX10_entry 38 = .ok (.iaload, 1) := by decide +kernel
theorem dX10_entry_39 : decode cX10_entry 39 = .ok (.ifCond .le 74, 3) := by decide +kernel
theorem dX10_entry_42 : decode cX10_entry 42 = .ok (.iload_n 3, 1) := by decide +kernel
theorem dX10_entry_43 : decode cX10_entry 43 = .ok (.iload_n 1, 1) := by decide +kernel
theorem dX10_entry_44 : decode cX10_entry 44 = .ok (.if_icmp .ne 66, 3) := by decide +kernel
theorem dX10_entry_47 : decode cX10_entry 47 = .ok (.iload_n 2, 1) := by decide +kernel
theorem dX10_entry_48 : decode cX10_entry 48 = .ok (.ifCond .ne 8, 3) := by decide +kernel
theorem dX10_entry_51 : decode cX10_entry 51 = .ok (.iload 4, 2) := by decide +kernel
theorem dX10_entry_53 : decode cX10_entry 53 = .ok (.goto 56, 3) := by decide +kernel
theorem dX10_entry_56 : decode cX10_entry 56 = .ok (.iload_n 2, 1) := by decide +kernel
theorem dX10_entry_57 : decode cX10_entry 57 = .ok (.iconst 1, 1) := by decide +kernel
theorem dX10_entry_58 : decode cX10_entry 58 = .ok (.if_icmp .ne 19, 3) := by decide +kernel
theorem dX10_entry_61 : decode cX10_entry 61 = .ok (.aload_n 0, 1) := by decide +kernel
theorem dX10_entry_62 : decode cX10_entry 62 = .ok (.getfield 7, 3) := by decide +kernel
theorem dX10_entry_65 : decode cX10_entry 65 = .ok (.sipush 552, 3) := by decide +kernel
theorem dX10_entry_68 : decode cX10_entry 68 = .ok (.iload 4, 2) := by decide +kernel
theorem dX10_entry_70 : decode cX10_entry 70 = .ok (.iadd, 1) := by decide +kernel
theorem dX10_entry_71 : decode cX10_entry 71 = .ok (.iaload, 1) := by decide +kernel
theorem dX10_entry_72 : decode cX10_entry 72 = .ok (.iconst 1, 1) := by decide +kernel
theorem dX10_entry_73 : decode cX10_entry 73 = .ok (.isub, 1) := by decide +kernel
theorem dX10_entry_74 : decode cX10_entry 74 = .ok (.goto 35, 3) := by decide +kernel
theorem dX10_entry_77 : decode cX10_entry 77 = .ok (.iload_n 2, 1) := by decide +kernel
theorem dX10_entry_78 : decode cX10_entry 78 = .ok (.iconst 2, 1) := by decide +kernel
theorem dX10_entry_79 : decode cX10_entry 79 = .ok (.if_icmp .ne 24, 3) := by decide +kernel
theorem dX10_entry_82 : decode cX10_entry 82 = .ok (.aload_n 0, 1) := by decide +kernel
theorem dX10_entry_83 : decode cX10_entry 83 = .ok (.getfield 7, 3) := by decide +kernel
theorem dX10_entry_86 : decode cX10_entry 86 = .ok (.iconst 4, 1) := by decide +kernel
theorem dX10_entry_87 : decode cX10_entry 87 = .ok (.iaload, 1) := by decide +kernel
theorem dX10_entry_88 : decode cX10_entry 88 = .ok (.aload_n 0, 1) := by decide +kernel
theorem dX10_entry_89 : decode cX10_entry 89 = .ok (.getfield 7, 3) := by decide +kernel
theorem dX10_entry_92 : decode cX10_entry 92 = .ok (.sipush 652, 3) := by decide +kernel
theorem dX10_entry_95 : decode cX10_entry 95 = .ok (.iload 4, 2) := by decide +kernel
theorem dX10_entry_97 : decode cX10_entry 97 = .ok (.iadd, 1) := by decide +kernel
theorem dX10_entry_98 : decode cX10_entry 98 = .ok (.iaload, 1) := by decide +kernel
theorem dX10_entry_99 : decode cX10_entry 99 = .ok (.isub, 1) := by decide +kernel
theorem dX10_entry_100 : decode cX10_entry 100 = .ok (.goto 9, 3) := by decide +kernel
theorem dX10_entry_103 : decode cX10_entry 103 = .ok (.aload_n 0, 1) := by decide +kernel
theorem dX10_entry_104 : decode cX10_entry 104 = .ok (.iload 4, 2) := by decide +kernel
theorem dX10_entry_106 : decode cX10_entry 106 = .ok (.invokevirtual 90, 3) := by decide +kernel
theorem dX10_entry_109 : decode cX10_entry 109 = .ok (.ireturn, 1) := by decide +kernel
theorem dX10_entry_110 : decode cX10_entry 110 = .ok (.iinc 3 1, 3) := by decide +kernel
theorem dX10_entry_113 : decode cX10_entry 113 = .ok (.iinc 4 1, 3) := by decide +kernel
theorem dX10_entry_116 : decode cX10_entry 116 = .ok (.goto (-95), 3) := by decide +kernel
theorem dX10_entry_119 : decode cX10_entry 119 = .ok (.bipush (-4), 2) := by decide +kernel
theorem dX10_entry_121 : decode cX10_entry 121 = .ok (.ireturn, 1) := by decide +kernel
theorem dX10_where_0 : decode cX10_where 0 = .ok (.iload_n 1, 1) := by decide +kernel
theorem dX10_where_1 : decode cX10_where 1 = .ok (.invokestatic 106, 3) := by decide +kernel
theorem dX10_where_4 : decode cX10_where 4 = .ok (.ifCond .eq 6, 3) := by decide +kernel
theorem dX10_where_7 : decode cX10_where 7 = .ok (.bipush (-2), 2) := by decide +kernel
theorem dX10_where_9 : decode cX10_where 9 = .ok (.ireturn, 1) := by decide +kernel
theorem dX10_where_10 : decode cX10_where 10 = .ok (.aload_n 0, 1) := by decide +kernel
theorem dX10_where_11 : decode cX10_where 11 = .ok (.getfield 7, 3) := by decide +kernel
theorem dX10_where_14 : decode cX10_where 14 = .ok (.sipush 552, 3) := by decide +kernel
theorem dX10_where_17 : decode cX10_where 17 = .ok (.iload_n 1, 1) := by decide +kernel
theorem dX10_where_18 : decode cX10_where 18 = .ok (.iadd, 1) := by decide +kernel
theorem dX10_where_19 : decode cX10_where 19 = .ok (.iaload, 1) := by decide +kernel
theorem dX10_where_20 : decode cX10_where 20 = .ok (.ifCond .le 18, 3) := by decide +kernel
theorem dX10_where_23 : decode cX10_where 23 = .ok (.aload_n 0, 1) := by decide +kernel
theorem dX10_where_24 : decode cX10_where 24 = .ok (.getfield 7, 3) := by decide +kernel
theorem dX10_where_27 : decode cX10_where 27 = .ok (.sipush 552, 3) := by decide +kernel
theorem dX10_where_30 : decode cX10_where 30 = .ok (.iload_n 1, 1) := by decide +kernel
theorem dX10_where_31 : decode cX10_where 31 = .ok (.iadd, 1) := by decide +kernel
theorem dX10_where_32 : decode cX10_where 32 = .ok (.iaload, 1) := by decide +kernel
theorem dX10_where_33 : decode cX10_where 33 = .ok (.iconst 1, 1) := by decide +kernel
theorem dX10_where_34 : decode cX10_where 34 = .ok (.isub, 1) := by decide +kernel
theorem dX10_where_35 : decode cX10_where 35 = .ok (.goto 5, 3) := by decide +kernel
theorem dX10_where_38 : decode cX10_where 38 = .ok (.bipush (-4), 2) := by decide +kernel
theorem dX10_where_40 : decode cX10_where 40 = .ok (.ireturn, 1) := by decide +kernel
theorem dX10_queued_0 : decode cX10_queued 0 = .ok (.iload_n 1, 1) := by decide +kernel
theorem dX10_queued_1 : decode cX10_queued 1 = .ok (.invokestatic 52, 3) := by decide +kernel
theorem dX10_queued_4 : decode cX10_queued 4 = .ok (.ifCond .eq 5, 3) := by decide +kernel
theorem dX10_queued_7 : decode cX10_queued 7 = .ok (.iconst (-1), 1) := by decide +kernel
theorem dX10_queued_8 : decode cX10_queued 8 = .ok (.ireturn, 1) := by decide +kernel
theorem dX10_queued_9 : decode cX10_queued 9 = .ok (.iload_n 2, 1) := by decide +kernel
theorem dX10_queued_10 : decode cX10_queued 10 = .ok (.ifCond .lt 12, 3) := by decide +kernel
theorem dX10_queued_13 : decode cX10_queued 13 = .ok (.iload_n 3, 1) := by decide +kernel
theorem dX10_queued_14 : decode cX10_queued 14 = .ok (.iconst 0, 1) := by decide +kernel
theorem dX10_queued_15 : decode cX10_queued 15 = .ok (.iconst 3, 1) := by decide +kernel
theorem dX10_queued_16 : decode cX10_queued 16 = .ok (.invokestatic 36, 3) := by decide +kernel
theorem dX10_queued_19 : decode cX10_queued 19 = .ok (.ifCond .ne 6, 3) := by decide +kernel
theorem dX10_queued_22 : decode cX10_queued 22 = .ok (.bipush (-2), 2) := by decide +kernel
theorem dX10_queued_24 : decode cX10_queued 24 = .ok (.ireturn, 1) := by decide +kernel
theorem dX10_queued_25 : decode cX10_queued 25 = .ok (.aload_n 0, 1) := by decide +kernel
theorem dX10_queued_26 : decode cX10_queued 26 = .ok (.iload_n 1, 1) := by decide +kernel
theorem dX10_queued_27 : decode cX10_queued 27 = .ok (.iload_n 2, 1) := by decide +kernel
theorem dX10_queued_28 : decode cX10_queued 28 = .ok (.invokevirtual 112, 3) := by decide +kernel
theorem dX10_queued_31 : decode cX10_queued 31 = .ok (.istore 4, 2) := by decide +kernel
theorem dX10_queued_33 : decode cX10_queued 33 = .ok (.iload 4, 2) := by decide +kernel
theorem dX10_queued_35 : decode cX10_queued 35 = .ok (.bipush (-4), 2) := by decide +kernel
theorem dX10_queued_37 : decode cX10_queued 37 = .ok (.if_icmp .ne 8, 3) := by decide +kernel
theorem dX10_queued_40 : decode cX10_queued 40 = .ok (.bipush (-4), 2) := by decide +kernel
theorem dX10_queued_42 : decode cX10_queued 42 = .ok (.goto 28, 3) := by decide +kernel
theorem dX10_queued_45 : decode cX10_queued 45 = .ok (.aload_n 0, 1) := by decide +kernel
theorem dX10_queued_46 : decode cX10_queued 46 = .ok (.getfield 7, 3) := by decide +kernel
theorem dX10_queued_49 : decode cX10_queued 49 = .ok (.aload_n 0, 1) := by decide +kernel
theorem dX10_queued_50 : decode cX10_queued 50 = .ok (.iload_n 1, 1) := by decide +kernel
theorem dX10_queued_51 : decode cX10_queued 51 = .ok (.iload 4, 2) := by decide +kernel
theorem dX10_queued_53 : decode cX10_queued 53 = .ok (.invokevirtual 80, 3) := by decide +kernel
theorem dX10_queued_56 : decode cX10_queued 56 = .ok (.iload_n 3, 1) := by decide +kernel
theorem dX10_queued_57 : decode cX10_queued 57 = .ok (.iconst 3, 1) := by decide +kernel
theorem dX10_queued_58 : decode cX10_queued 58 = .ok (.if_icmp .ne 7, 3) := by decide +kernel
theorem dX10_queued_61 : decode cX10_queued 61 = .ok (.iconst 0, 1) := by decide +kernel
theorem dX10_queued_62 : decode cX10_queued 62 = .ok (.goto 6, 3) := by decide +kernel
theorem dX10_queued_65 : decode cX10_queued 65 = .ok (.iload_n 3, 1) := by decide +kernel
theorem dX10_queued_66 : decode cX10_queued 66 = .ok (.iconst 1, 1) := by decide +kernel
theorem dX10_queued_67 : decode cX10_queued 67 = .ok (.iadd, 1) := by decide +kernel
theorem dX10_queued_68 : decode cX10_queued 68 = .ok (.iadd, 1) := by decide +kernel
theorem dX10_queued_69 : decode cX10_queued 69 = .ok (.iaload, 1) := by decide +kernel
theorem dX10_queued_70 : decode cX10_queued 70 = .ok (.ireturn, 1) := by decide +kernel
theorem dX10_loops_0 : decode cX10_loops 0 = .ok (.iconst 0, 1) := by decide +kernel
theorem dX10_loops_1 : decode cX10_loops 1 = .ok (.istore_n 1, 1) := by decide +kernel
theorem dX10_loops_2 : decode cX10_loops 2 = .ok (.iconst 0, 1) := by decide +kernel
theorem dX10_loops_3 : decode cX10_loops 3 = .ok (.istore_n 2, 1) := by decide +kernel
theorem dX10_loops_4 : decode cX10_loops 4 = .ok (.iload_n 2, 1) := by decide +kernel
theorem dX10_loops_5 : decode cX10_loops 5 = .ok (.bipush 8, 2) := by decide +kernel
theorem dX10_loops_7 : decode cX10_loops 7 = .ok (.if_icmp .ge 51, 3) := by decide +kernel
theorem dX10_loops_10 : decode cX10_loops 10 = .ok (.iload_n 1, 1) := by decide +kernel
theorem dX10_loops_11 : decode cX10_loops 11 = .ok (.aload_n 0, 1) := by decide +kernel
theorem dX10_loops_12 : decode cX10_loops 12 = .ok (.iload_n 2, 1) := by decide +kernel
theorem dX10_loops_13 : decode cX10_loops 13 = .ok (.invokevirtual 48, 3) := by decide +kernel
theorem dX10_loops_16 : decode cX10_loops 16 = .ok (.ifCond .eq 33, 3) := by decide +kernel
theorem dX10_loops_19 : decode cX10_loops 19 = .ok (.aload_n 0, 1) := by decide +kernel
theorem dX10_loops_20 : decode cX10_loops 20 = .ok (.iload_n 2, 1) := by decide +kernel
theorem dX10_loops_21 : decode cX10_loops 21 = .ok (.iconst 3, 1) := by decide +kernel
theorem dX10_loops_22 : decode cX10_loops 22 = .ok (.invokevirtual 44, 3) := by decide +kernel
theorem dX10_loops_25 : decode cX10_loops 25 = .ok (.ifCond .le 24, 3) := by decide +kernel
theorem dX10_loops_28 : decode cX10_loops 28 = .ok (.aload_n 0, 1) := by decide +kernel
theorem dX10_loops_29 : decode cX10_loops 29 = .ok (.aload_n 0, 1) := by decide +kernel
theorem dX10_loops_30 : decode cX10_loops 30 = .ok (.iload_n 2, 1) := by decide +kernel
theorem dX10_loops_31 : decode cX10_loops 31 = .ok (.iconst 3, 1) := by decide +kernel
theorem dX10_loops_32 : decode cX10_loops 32 = .ok (.invokevirtual 44, 3) := by decide +kernel
theorem dX10_loops_35 : decode cX10_loops 35 = .ok (.iconst 1, 1) := by decide +kernel
theorem dX10_loops_36 : decode cX10_loops 36 = .ok (.isub, 1) := by decide +kernel
theorem dX10_loops_37 : decode cX10_loops 37 = .ok (.invokevirtual 48, 3) := by decide +kernel
theorem dX10_loops_40 : decode cX10_loops 40 = .ok (.ifCond .eq 9, 3) := by decide +kernel
theorem dX10_loops_43 : decode cX10_loops 43 = .ok (.iconst 1, 1) := by decide +kernel
theorem dX10_loops_44 : decode cX10_loops 44 = .ok (.iload_n 2, 1) := by decide +kernel
theorem dX10_loops_45 : decode cX10_loops 45 = .ok (.ishl, 1) := by decide +kernel
theorem dX10_loops_46 : decode cX10_loops 46 = .ok (.goto 4, 3) := by decide +kernel
theorem dX10_loops_49 : decode cX10_loops 49 = .ok (.iconst 0, 1) := by decide +kernel
theorem dX10_loops_50 : decode cX10_loops 50 = .ok (.ior, 1) := by decide +kernel
theorem dX10_loops_51 : decode cX10_loops 51 = .ok (.istore_n 1, 1) := by decide +kernel
theorem dX10_loops_52 : decode cX10_loops 52 = .ok (.iinc 2 1, 3) := by decide +kernel
theorem dX10_loops_55 : decode cX10_loops 55 = .ok (.goto (-51), 3) := by decide +kernel
theorem dX10_loops_58 : decode cX10_loops 58 = .ok (.iload_n 1, 1) := by decide +kernel
theorem dX10_loops_59 : decode cX10_loops 59 = .ok (.ireturn, 1) := by decide +kernel
theorem dX10_inAll_0 : decode cX10_inAll 0 = .ok (.iconst 0, 1) := by decide +kernel
theorem dX10_inAll_1 : decode cX10_inAll 1 = .ok (.istore_n 2, 1) := by decide +kernel
theorem dX10_inAll_2 : decode cX10_inAll 2 = .ok (.iconst 0, 1) := by decide +kernel
theorem dX10_inAll_3 : decode cX10_inAll 3 = .ok (.istore_n 3, 1) := by decide +kernel
theorem dX10_inAll_4 : decode cX10_inAll 4 = .ok (.iload_n 3, 1) := by decide +kernel
theorem dX10_inAll_5 : decode cX10_inAll 5 = .ok (.bipush 8, 2) := by decide +kernel
theorem dX10_inAll_7 : decode cX10_inAll 7 = .ok (.if_icmp .ge 18, 3) := by decide +kernel
theorem dX10_inAll_10 : decode cX10_inAll 10 = .ok (.iload_n 2, 1) := by decide +kernel
theorem dX10_inAll_11 : decode cX10_inAll 11 = .ok (.aload_n 0, 1) := by decide +kernel
theorem dX10_inAll_12 : decode cX10_inAll 12 = .ok (.iload_n 3, 1) := by decide +kernel
theorem dX10_inAll_13 : decode cX10_inAll 13 = .ok (.iload_n 1, 1) := by decide +kernel
theorem dX10_inAll_14 : decode cX10_inAll 14 = .ok (.invokevirtual 44, 3) := by decide +kernel
theorem dX10_inAll_17 : decode cX10_inAll 17 = .ok (.iadd, 1) := by decide +kernel
theorem dX10_inAll_18 : decode cX10_inAll 18 = .ok (.istore_n 2, 1) := by decide +kernel
theorem dX10_inAll_19 : decode cX10_inAll 19 = .ok (.iinc 3 1, 3) := by decide +kernel
theorem dX10_inAll_22 : decode cX10_inAll 22 = .ok (.goto (-18), 3) := by decide +kernel
theorem dX10_inAll_25 : decode cX10_inAll 25 = .ok (.iload_n 2, 1) := by decide +kernel
theorem dX10_inAll_26 : decode cX10_inAll 26 = .ok (.ireturn, 1) := by decide +kernel
theorem dX10_held_0 : decode cX10_held 0 = .ok (.iconst 0, 1) := by decide +kernel
theorem dX10_held_1 : decode cX10_held 1 = .ok (.istore_n 1, 1) := by decide +kernel
theorem dX10_held_2 : decode cX10_held 2 = .ok (.iconst 0, 1) := by decide +kernel
theorem dX10_held_3 : decode cX10_held 3 = .ok (.istore_n 2, 1) := by decide +kernel
theorem dX10_held_4 : decode cX10_held 4 = .ok (.iload_n 2, 1) := by decide +kernel
theorem dX10_held_5 : decode cX10_held 5 = .ok (.bipush 8, 2) := by decide +kernel
theorem dX10_held_7 : decode cX10_held 7 = .ok (.if_icmp .ge 26, 3) := by decide +kernel
theorem dX10_held_10 : decode cX10_held 10 = .ok (.iload_n 1, 1) := by decide +kernel
theorem dX10_held_11 : decode cX10_held 11 = .ok (.aload_n 0, 1) := by decide +kernel
theorem dX10_held_12 : decode cX10_held 12 = .ok (.iload_n 2, 1) := by decide +kernel
theorem dX10_held_13 : decode cX10_held 13 = .ok (.iconst 1, 1) := by decide +kernel
theorem dX10_held_14 : decode cX10_held 14 = .ok (.invokevirtual 44, 3) := by decide +kernel
theorem dX10_held_17 : decode cX10_held 17 = .ok (.ifCond .le 7, 3) := by decide +kernel
theorem dX10_held_20 : decode cX10_held 20 = .ok (.iconst 1, 1) := by decide +kernel
theorem dX10_held_21 : decode cX10_held 21 = .ok (.goto 4, 3) := by decide +kernel
theorem dX10_held_24 : decode cX10_held 24 = .ok (.iconst 0, 1) := by decide +kernel
theorem dX10_held_25 : decode cX10_held 25 = .ok (.iadd, 1) := by decide +kernel
theorem dX10_held_26 : decode cX10_held 26 = .ok (.istore_n 1, 1) := by decide +kernel
theorem dX10_held_27 : decode cX10_held 27 = .ok (.iinc 2 1, 3) := by decide +kernel
theorem dX10_held_30 : decode cX10_held 30 = .ok (.goto (-26), 3) := by decide +kernel
theorem dX10_held_33 : decode cX10_held 33 = .ok (.iload_n 1, 1) := by decide +kernel
theorem dX10_held_34 : decode cX10_held 34 = .ok (.ireturn, 1) := by decide +kernel
theorem dX10_count_0 : decode cX10_count 0 = .ok (.iload_n 1, 1) := by decide +kernel
theorem dX10_count_1 : decode cX10_count 1 = .ok (.tableswitch 147 0 14 #[75, 75, 75, 75, 82, 89, 94, 99, 104, 109, 115, 122, 129, 137, 142], 75) := by decide +kernel
theorem dX10_count_76 : decode cX10_count 76 = .ok (.aload_n 0, 1) := by decide +kernel
theorem dX10_count_77 : decode cX10_count 77 = .ok (.getfield 7, 3) := by decide +kernel
theorem dX10_count_80 : decode cX10_count 80 = .ok (.iload_n 1, 1) := by decide +kernel
theorem dX10_count_81 : decode cX10_count 81 = .ok (.iaload, 1) := by decide +kernel
theorem dX10_count_82 : decode cX10_count 82 = .ok (.ireturn, 1) := by decide +kernel
theorem dX10_count_83 : decode cX10_count 83 = .ok (.aload_n 0, 1) := by decide +kernel
theorem dX10_count_84 : decode cX10_count 84 = .ok (.getfield 7, 3) := by decide +kernel
theorem dX10_count_87 : decode cX10_count 87 = .ok (.iconst 4, 1) := by decide +kernel
theorem dX10_count_88 : decode cX10_count 88 = .ok (.iaload, 1) := by decide +kernel
theorem dX10_count_89 : decode cX10_count 89 = .ok (.ireturn, 1) := by decide +kernel
theorem dX10_count_90 : decode cX10_count 90 = .ok (.aload_n 0, 1) := by decide +kernel
theorem dX10_count_91 : decode cX10_count 91 = .ok (.invokevirtual 96, 3) := by decide +kernel
theorem dX10_count_94 : decode cX10_count 94 = .ok (.ireturn, 1) := by decide +kernel
theorem dX10_count_95 : decode cX10_count 95 = .ok (.aload_n 0, 1) := by decide +kernel
theorem dX10_count_96 : decode cX10_count 96 = .ok (.invokevirtual 58, 3) := by decide +kernel
theorem dX10_count_99 : decode cX10_count 99 = .ok (.ireturn, 1) := by decide +kernel
theorem dX10_count_100 : decode cX10_count 100 = .ok (.aload_n 0, 1) := by decide +kernel
theorem dX10_count_101 : decode cX10_count 101 = .ok (.invokevirtual 154, 3) := by decide +kernel
theorem dX10_count_104 : decode cX10_count 104 = .ok (.ireturn, 1) := by decide +kernel
theorem dX10_count_105 : decode cX10_count 105 = .ok (.aload_n 0, 1) := by decide +kernel
theorem dX10_count_106 : decode cX10_count 106 = .ok (.invokevirtual 62, 3) := by decide +kernel
theorem dX10_count_109 : decode cX10_count 109 = .ok (.ireturn, 1) := by decide +kernel
theorem dX10_count_110 : decode cX10_count 110 = .ok (.aload_n 0, 1) := by decide +kernel
theorem dX10_count_111 : decode cX10_count 111 = .ok (.iconst 5, 1) := by decide +kernel
theorem dX10_count_112 : decode cX10_count 112 = .ok (.invokevirtual 157, 3) := by decide +kernel
theorem dX10_count_115 : decode cX10_count 115 = .ok (.ireturn, 1) := by decide +kernel
theorem dX10_count_116 : decode cX10_count 116 = .ok (.aload_n 0, 1) := by decide +kernel
theorem dX10_count_117 : decode cX10_count 117 = .ok (.bipush 6, 2) := by decide +kernel
theorem dX10_count_119 : decode cX10_count 119 = .ok (.invokevirtual 157, 3) := by decide +kernel
theorem dX10_count_122 : decode cX10_count 122 = .ok (.ireturn, 1) := by decide +kernel
theorem dX10_count_123 : decode cX10_count 123 = .ok (.aload_n 0, 1) := by decide +kernel
theorem dX10_count_124 : decode cX10_count 124 = .ok (.getfield 7, 3) := by decide +kernel
theorem dX10_count_127 : decode cX10_count 127 = .ok (.iconst 5, 1) := by decide +kernel
theorem dX10_count_128 : decode cX10_count 128 = .ok (.iaload, 1) := by decide +kernel
theorem dX10_count_129 : decode cX10_count 129 = .ok (.ireturn, 1) := by decide +kernel
theorem dX10_count_130 : decode cX10_count 130 = .ok (.aload_n 0, 1) := by decide +kernel
theorem dX10_count_131 : decode cX10_count 131 = .ok (.getfield 7, 3) := by decide +kernel
theorem dX10_count_134 : decode cX10_count 134 = .ok (.bipush 6, 2) := by decide +kernel
theorem dX10_count_136 : decode cX10_count 136 = .ok (.iaload, 1) := by decide +kernel
theorem dX10_count_137 : decode cX10_count 137 = .ok (.ireturn, 1) := by decide +kernel
theorem dX10_count_138 : decode cX10_count 138 = .ok (.aload_n 0, 1) := by decide +kernel
theorem dX10_count_139 : decode cX10_count 139 = .ok (.getfield 40, 3) := by decide +kernel
theorem dX10_count_142 : decode cX10_count 142 = .ok (.ireturn, 1) := by decide +kernel
theorem dX10_count_143 : decode cX10_count 143 = .ok (.aload_n 0, 1) := by decide +kernel
theorem dX10_count_144 : decode cX10_count 144 = .ok (.getfield 124, 3) := by decide +kernel
theorem dX10_count_147 : decode cX10_count 147 = .ok (.ireturn, 1) := by decide +kernel
theorem dX10_count_148 : decode cX10_count 148 = .ok (.bipush (-2), 2) := by decide +kernel
theorem dX10_count_150 : decode cX10_count 150 = .ok (.ireturn, 1) := by decide +kernel
theorem dJ6_bitCount_0f7a4_0 : decode cJ6_bitCount_0f7a4 0 = .ok (.iload_n 0, 1) := by decide +kernel
theorem dJ6_bitCount_0f7a4_1 : decode cJ6_bitCount_0f7a4 1 = .ok (.iload_n 0, 1) := by decide +kernel
theorem dJ6_bitCount_0f7a4_2 : decode cJ6_bitCount_0f7a4 2 = .ok (.iconst 1, 1) := by decide +kernel
theorem dJ6_bitCount_0f7a4_3 : decode cJ6_bitCount_0f7a4 3 = .ok (.iushr, 1) := by decide +kernel
theorem dJ6_bitCount_0f7a4_4 : decode cJ6_bitCount_0f7a4 4 = .ok (.ldc_w 265, 3) := by decide +kernel
theorem dJ6_bitCount_0f7a4_7 : decode cJ6_bitCount_0f7a4 7 = .ok (.iand, 1) := by decide +kernel
theorem dJ6_bitCount_0f7a4_8 : decode cJ6_bitCount_0f7a4 8 = .ok (.isub, 1) := by decide +kernel
theorem dJ6_bitCount_0f7a4_9 : decode cJ6_bitCount_0f7a4 9 = .ok (.istore_n 0, 1) := by decide +kernel
theorem dJ6_bitCount_0f7a4_10 : decode cJ6_bitCount_0f7a4 10 = .ok (.iload_n 0, 1) := by decide +kernel
theorem dJ6_bitCount_0f7a4_11 : decode cJ6_bitCount_0f7a4 11 = .ok (.ldc_w 266, 3) := by decide +kernel
theorem dJ6_bitCount_0f7a4_14 : decode cJ6_bitCount_0f7a4 14 = .ok (.iand, 1) := by decide +kernel
theorem dJ6_bitCount_0f7a4_15 : decode cJ6_bitCount_0f7a4 15 = .ok (.iload_n 0, 1) := by decide +kernel
theorem dJ6_bitCount_0f7a4_16 : decode cJ6_bitCount_0f7a4 16 = .ok (.iconst 2, 1) := by decide +kernel
theorem dJ6_bitCount_0f7a4_17 : decode cJ6_bitCount_0f7a4 17 = .ok (.iushr, 1) := by decide +kernel
theorem dJ6_bitCount_0f7a4_18 : decode cJ6_bitCount_0f7a4 18 = .ok (.ldc_w 266, 3) := by decide +kernel
theorem dJ6_bitCount_0f7a4_21 : decode cJ6_bitCount_0f7a4 21 = .ok (.iand, 1) := by decide +kernel
theorem dJ6_bitCount_0f7a4_22 : decode cJ6_bitCount_0f7a4 22 = .ok (.iadd, 1) := by decide +kernel
theorem dJ6_bitCount_0f7a4_23 : decode cJ6_bitCount_0f7a4 23 = .ok (.istore_n 0, 1) := by decide +kernel
theorem dJ6_bitCount_0f7a4_24 : decode cJ6_bitCount_0f7a4 24 = .ok (.iload_n 0, 1) := by decide +kernel
theorem dJ6_bitCount_0f7a4_25 : decode cJ6_bitCount_0f7a4 25 = .ok (.iload_n 0, 1) := by decide +kernel
theorem dJ6_bitCount_0f7a4_26 : decode cJ6_bitCount_0f7a4 26 = .ok (.iconst 4, 1) := by decide +kernel
theorem dJ6_bitCount_0f7a4_27 : decode cJ6_bitCount_0f7a4 27 = .ok (.iushr, 1) := by decide +kernel
theorem dJ6_bitCount_0f7a4_28 : decode cJ6_bitCount_0f7a4 28 = .ok (.iadd, 1) := by decide +kernel
theorem dJ6_bitCount_0f7a4_29 : decode cJ6_bitCount_0f7a4 29 = .ok (.ldc_w 267, 3) := by decide +kernel
theorem dJ6_bitCount_0f7a4_32 : decode cJ6_bitCount_0f7a4 32 = .ok (.iand, 1) := by decide +kernel
theorem dJ6_bitCount_0f7a4_33 : decode cJ6_bitCount_0f7a4 33 = .ok (.istore_n 0, 1) := by decide +kernel
theorem dJ6_bitCount_0f7a4_34 : decode cJ6_bitCount_0f7a4 34 = .ok (.iload_n 0, 1) := by decide +kernel
theorem dJ6_bitCount_0f7a4_35 : decode cJ6_bitCount_0f7a4 35 = .ok (.iload_n 0, 1) := by decide +kernel
theorem dJ6_bitCount_0f7a4_36 : decode cJ6_bitCount_0f7a4 36 = .ok (.bipush 8, 2) := by decide +kernel
theorem dJ6_bitCount_0f7a4_38 : decode cJ6_bitCount_0f7a4 38 = .ok (.iushr, 1) := by decide +kernel
theorem dJ6_bitCount_0f7a4_39 : decode cJ6_bitCount_0f7a4 39 = .ok (.iadd, 1) := by decide +kernel
theorem dJ6_bitCount_0f7a4_40 : decode cJ6_bitCount_0f7a4 40 = .ok (.istore_n 0, 1) := by decide +kernel
theorem dJ6_bitCount_0f7a4_41 : decode cJ6_bitCount_0f7a4 41 = .ok (.iload_n 0, 1) := by decide +kernel
theorem dJ6_bitCount_0f7a4_42 : decode cJ6_bitCount_0f7a4 42 = .ok (.iload_n 0, 1) := by decide +kernel
theorem dJ6_bitCount_0f7a4_43 : decode cJ6_bitCount_0f7a4 43 = .ok (.bipush 16, 2) := by decide +kernel
theorem dJ6_bitCount_0f7a4_45 : decode cJ6_bitCount_0f7a4 45 = .ok (.iushr, 1) := by decide +kernel
theorem dJ6_bitCount_0f7a4_46 : decode cJ6_bitCount_0f7a4 46 = .ok (.iadd, 1) := by decide +kernel
theorem dJ6_bitCount_0f7a4_47 : decode cJ6_bitCount_0f7a4 47 = .ok (.istore_n 0, 1) := by decide +kernel
theorem dJ6_bitCount_0f7a4_48 : decode cJ6_bitCount_0f7a4 48 = .ok (.iload_n 0, 1) := by decide +kernel
theorem dJ6_bitCount_0f7a4_49 : decode cJ6_bitCount_0f7a4 49 = .ok (.bipush 63, 2) := by decide +kernel
theorem dJ6_bitCount_0f7a4_51 : decode cJ6_bitCount_0f7a4 51 = .ok (.iand, 1) := by decide +kernel
theorem dJ6_bitCount_0f7a4_52 : decode cJ6_bitCount_0f7a4 52 = .ok (.ireturn, 1) := by decide +kernel
theorem dJ9_max_7cf53_0 : decode cJ9_max_7cf53 0 = .ok (.iload_n 0, 1) := by decide +kernel
theorem dJ9_max_7cf53_1 : decode cJ9_max_7cf53 1 = .ok (.iload_n 1, 1) := by decide +kernel
theorem dJ9_max_7cf53_2 : decode cJ9_max_7cf53 2 = .ok (.if_icmp .lt 7, 3) := by decide +kernel
theorem dJ9_max_7cf53_5 : decode cJ9_max_7cf53 5 = .ok (.iload_n 0, 1) := by decide +kernel
theorem dJ9_max_7cf53_6 : decode cJ9_max_7cf53 6 = .ok (.goto 4, 3) := by decide +kernel
theorem dJ9_max_7cf53_9 : decode cJ9_max_7cf53 9 = .ok (.iload_n 1, 1) := by decide +kernel
theorem dJ9_max_7cf53_10 : decode cJ9_max_7cf53 10 = .ok (.ireturn, 1) := by decide +kernel
theorem dJ9_min_7cf53_0 : decode cJ9_min_7cf53 0 = .ok (.iload_n 0, 1) := by decide +kernel
theorem dJ9_min_7cf53_1 : decode cJ9_min_7cf53 1 = .ok (.iload_n 1, 1) := by decide +kernel
theorem dJ9_min_7cf53_2 : decode cJ9_min_7cf53 2 = .ok (.if_icmp .gt 7, 3) := by decide +kernel
theorem dJ9_min_7cf53_5 : decode cJ9_min_7cf53 5 = .ok (.iload_n 0, 1) := by decide +kernel
theorem dJ9_min_7cf53_6 : decode cJ9_min_7cf53 6 = .ok (.goto 4, 3) := by decide +kernel
theorem dJ9_min_7cf53_9 : decode cJ9_min_7cf53 9 = .ok (.iload_n 1, 1) := by decide +kernel
theorem dJ9_min_7cf53_10 : decode cJ9_min_7cf53 10 = .ok (.ireturn, 1) := by decide +kernel
theorem dJ7_rangeCheck_23922_0 : decode cJ7_rangeCheck_23922 0 = .ok (.iload_n 1, 1) := by decide +kernel
theorem dJ7_rangeCheck_23922_1 : decode cJ7_rangeCheck_23922 1 = .ok (.iload_n 2, 1) := by decide +kernel
theorem dJ7_rangeCheck_23922_2 : decode cJ7_rangeCheck_23922 2 = .ok (.if_icmp .le 44, 3) := by decide +kernel
theorem dJ7_rangeCheck_23922_5 : decode cJ7_rangeCheck_23922 5 = .ok (.new 43, 3) := by decide +kernel
theorem dJ7_rangeCheck_23922_8 : decode cJ7_rangeCheck_23922 8 = .ok (.dup, 1) := by decide +kernel
theorem dJ7_rangeCheck_23922_9 : decode cJ7_rangeCheck_23922 9 = .ok (.new 45, 3) := by decide +kernel
theorem dJ7_rangeCheck_23922_12 : decode cJ7_rangeCheck_23922 12 = .ok (.dup, 1) := by decide +kernel
theorem dJ7_rangeCheck_23922_13 : decode cJ7_rangeCheck_23922 13 = .ok (.invokespecial 47, 3) := by decide +kernel
theorem dJ7_rangeCheck_23922_16 : decode cJ7_rangeCheck_23922 16 = .ok (.ldc 48, 2) := by decide +kernel
theorem dJ7_rangeCheck_23922_18 : decode cJ7_rangeCheck_23922 18 = .ok (.invokevirtual 50, 3) := by decide +kernel
theorem dJ7_rangeCheck_23922_21 : decode cJ7_rangeCheck_23922 21 = .ok (.iload_n 1, 1) := by decide +kernel
theorem dJ7_rangeCheck_23922_22 : decode cJ7_rangeCheck_23922 22 = .ok (.invokevirtual 54, 3) := by decide +kernel
theorem dJ7_rangeCheck_23922_25 : decode cJ7_rangeCheck_23922 25 = .ok (.ldc 57, 2) := by decide +kernel
theorem dJ7_rangeCheck_23922_27 : decode cJ7_rangeCheck_23922 27 = .ok (.invokevirtual 50, 3) := by decide +kernel
theorem dJ7_rangeCheck_23922_30 : decode cJ7_rangeCheck_23922 30 = .ok (.iload_n 2, 1) := by decide +kernel
theorem dJ7_rangeCheck_23922_31 : decode cJ7_rangeCheck_23922 31 = .ok (.invokevirtual 54, 3) := by decide +kernel
theorem dJ7_rangeCheck_23922_34 : decode cJ7_rangeCheck_23922 34 = .ok (.ldc 59, 2) := by decide +kernel
theorem dJ7_rangeCheck_23922_36 : decode cJ7_rangeCheck_23922 36 = .ok (.invokevirtual 50, 3) := by decide +kernel
theorem dJ7_rangeCheck_23922_39 : decode cJ7_rangeCheck_23922 39 = .ok (.invokevirtual 61, 3) := by decide +kernel
theorem dJ7_rangeCheck_23922_42 : decode cJ7_rangeCheck_23922 42 = .ok (.invokespecial 65, 3) := by decide +kernel
theorem dJ7_rangeCheck_23922_45 : decode cJ7_rangeCheck_23922 45 = .ok (.athrow, 1) := by decide +kernel
theorem dJ7_rangeCheck_23922_46 : decode cJ7_rangeCheck_23922 46 = .ok (.iload_n 1, 1) := by decide +kernel
theorem dJ7_rangeCheck_23922_47 : decode cJ7_rangeCheck_23922 47 = .ok (.ifCond .ge 12, 3) := by decide +kernel
theorem dJ7_rangeCheck_23922_50 : decode cJ7_rangeCheck_23922 50 = .ok (.new 68, 3) := by decide +kernel
theorem dJ7_rangeCheck_23922_53 : decode cJ7_rangeCheck_23922 53 = .ok (.dup, 1) := by decide +kernel
theorem dJ7_rangeCheck_23922_54 : decode cJ7_rangeCheck_23922 54 = .ok (.iload_n 1, 1) := by decide +kernel
theorem dJ7_rangeCheck_23922_55 : decode cJ7_rangeCheck_23922 55 = .ok (.invokespecial 70, 3) := by decide +kernel
theorem dJ7_rangeCheck_23922_58 : decode cJ7_rangeCheck_23922 58 = .ok (.athrow, 1) := by decide +kernel
theorem dJ7_rangeCheck_23922_59 : decode cJ7_rangeCheck_23922 59 = .ok (.iload_n 2, 1) := by decide +kernel
theorem dJ7_rangeCheck_23922_60 : decode cJ7_rangeCheck_23922 60 = .ok (.iload_n 0, 1) := by decide +kernel
theorem dJ7_rangeCheck_23922_61 : decode cJ7_rangeCheck_23922 61 = .ok (.if_icmp .le 12, 3) := by decide +kernel
theorem dJ7_rangeCheck_23922_64 : decode cJ7_rangeCheck_23922 64 = .ok (.new 68, 3) := by decide +kernel
theorem dJ7_rangeCheck_23922_67 : decode cJ7_rangeCheck_23922 67 = .ok (.dup, 1) := by decide +kernel
theorem dJ7_rangeCheck_23922_68 : decode cJ7_rangeCheck_23922 68 = .ok (.iload_n 2, 1) := by decide +kernel
theorem dJ7_rangeCheck_23922_69 : decode cJ7_rangeCheck_23922 69 = .ok (.invokespecial 70, 3) := by decide +kernel
theorem dJ7_rangeCheck_23922_72 : decode cJ7_rangeCheck_23922 72 = .ok (.athrow, 1) := by decide +kernel
theorem dJ7_rangeCheck_23922_73 : decode cJ7_rangeCheck_23922 73 = .ok (.return_, 1) := by decide +kernel
theorem dJ7_fill_fda19_0 : decode cJ7_fill_fda19 0 = .ok (.aload_n 0, 1) := by decide +kernel
theorem dJ7_fill_fda19_1 : decode cJ7_fill_fda19 1 = .ok (.arraylength, 1) := by decide +kernel
theorem dJ7_fill_fda19_2 : decode cJ7_fill_fda19 2 = .ok (.iload_n 1, 1) := by decide +kernel
theorem dJ7_fill_fda19_3 : decode cJ7_fill_fda19 3 = .ok (.iload_n 2, 1) := by decide +kernel
theorem dJ7_fill_fda19_4 : decode cJ7_fill_fda19 4 = .ok (.invokestatic 13, 3) := by decide +kernel
theorem dJ7_fill_fda19_7 : decode cJ7_fill_fda19 7 = .ok (.iload_n 1, 1) := by decide +kernel
theorem dJ7_fill_fda19_8 : decode cJ7_fill_fda19 8 = .ok (.istore 4, 2) := by decide +kernel
theorem dJ7_fill_fda19_10 : decode cJ7_fill_fda19 10 = .ok (.iload 4, 2) := by decide +kernel
theorem dJ7_fill_fda19_12 : decode cJ7_fill_fda19 12 = .ok (.iload_n 2, 1) := by decide +kernel
theorem dJ7_fill_fda19_13 : decode cJ7_fill_fda19 13 = .ok (.if_icmp .ge 14, 3) := by decide +kernel
theorem dJ7_fill_fda19_16 : decode cJ7_fill_fda19 16 = .ok (.aload_n 0, 1) := by decide +kernel
theorem dJ7_fill_fda19_17 : decode cJ7_fill_fda19 17 = .ok (.iload 4, 2) := by decide +kernel
theorem dJ7_fill_fda19_19 : decode cJ7_fill_fda19 19 = .ok (.iload_n 3, 1) := by decide +kernel
theorem dJ7_fill_fda19_20 : decode cJ7_fill_fda19 20 = .ok (.iastore, 1) := by decide +kernel
theorem dJ7_fill_fda19_21 : decode cJ7_fill_fda19 21 = .ok (.iinc 4 1, 3) := by decide +kernel
theorem dJ7_fill_fda19_24 : decode cJ7_fill_fda19 24 = .ok (.goto (-14), 3) := by decide +kernel
theorem dJ7_fill_fda19_27 : decode cJ7_fill_fda19 27 = .ok (.return_, 1) := by decide +kernel
theorem dL_law_0 : decode cL_law 0 = .ok (.new 7, 3) := by decide +kernel
theorem dL_law_3 : decode cL_law 3 = .ok (.dup, 1) := by decide +kernel
theorem dL_law_4 : decode cL_law 4 = .ok (.invokespecial 9, 3) := by decide +kernel
theorem dL_law_7 : decode cL_law 7 = .ok (.astore_n 1, 1) := by decide +kernel
theorem dL_law_8 : decode cL_law 8 = .ok (.new 10, 3) := by decide +kernel
theorem dL_law_11 : decode cL_law 11 = .ok (.dup, 1) := by decide +kernel
theorem dL_law_12 : decode cL_law 12 = .ok (.invokespecial 12, 3) := by decide +kernel
theorem dL_law_15 : decode cL_law 15 = .ok (.astore_n 2, 1) := by decide +kernel
theorem dL_law_16 : decode cL_law 16 = .ok (.iconst 0, 1) := by decide +kernel
theorem dL_law_17 : decode cL_law 17 = .ok (.istore_n 3, 1) := by decide +kernel
theorem dL_law_18 : decode cL_law 18 = .ok (.iload_n 3, 1) := by decide +kernel
theorem dL_law_19 : decode cL_law 19 = .ok (.aload_n 0, 1) := by decide +kernel
theorem dL_law_20 : decode cL_law 20 = .ok (.arraylength, 1) := by decide +kernel
theorem dL_law_21 : decode cL_law 21 = .ok (.iconst 5, 1) := by decide +kernel
theorem dL_law_22 : decode cL_law 22 = .ok (.isub, 1) := by decide +kernel
theorem dL_law_23 : decode cL_law 23 = .ok (.if_icmp .gt 713, 3) := by decide +kernel
theorem dL_law_26 : decode cL_law 26 = .ok (.aload_n 0, 1) := by decide +kernel
theorem dL_law_27 : decode cL_law 27 = .ok (.iload_n 3, 1) := by decide +kernel
theorem dL_law_28 : decode cL_law 28 = .ok (.iaload, 1) := by decide +kernel
theorem dL_law_29 : decode cL_law 29 = .ok (.bipush 31, 2) := by decide +kernel
theorem dL_law_31 : decode cL_law 31 = .ok (.iand, 1) := by decide +kernel
theorem dL_law_32 : decode cL_law 32 = .ok (.tableswitch 698 0 21 #[104, 153, 186, 209, 232, 265, 318, 341, 364, 389, 402, 415, 428, 441, 454, 487, 520, 553, 576, 619, 662, 675], 104) := by decide +kernel
theorem dL_law_136 : decode cL_law 136 = .ok (.aload_n 1, 1) := by decide +kernel
theorem dL_law_137 : decode cL_law 137 = .ok (.aload_n 0, 1) := by decide +kernel
theorem dL_law_138 : decode cL_law 138 = .ok (.iload_n 3, 1) := by decide +kernel
theorem dL_law_139 : decode cL_law 139 = .ok (.iconst 1, 1) := by decide +kernel
theorem dL_law_140 : decode cL_law 140 = .ok (.iadd, 1) := by decide +kernel
theorem dL_law_141 : decode cL_law 141 = .ok (.iaload, 1) := by decide +kernel
theorem dL_law_142 : decode cL_law 142 = .ok (.aload_n 0, 1) := by decide +kernel
theorem dL_law_143 : decode cL_law 143 = .ok (.iload_n 3, 1) := by decide +kernel
theorem dL_law_144 : decode cL_law 144 = .ok (.iconst 2, 1) := by decide +kernel
theorem dL_law_145 : decode cL_law 145 = .ok (.iadd, 1) := by decide +kernel
theorem dL_law_146 : decode cL_law 146 = .ok (.iaload, 1) := by decide +kernel
theorem dL_law_147 : decode cL_law 147 = .ok (.ifCond .eq 7, 3) := by decide +kernel
theorem dL_law_150 : decode cL_law 150 = .ok (.iconst 1, 1) := by decide +kernel
theorem dL_law_151 : decode cL_law 151 = .ok (.goto 4, 3) := by decide +kernel
theorem dL_law_154 : decode cL_law 154 = .ok (.iconst 0, 1) := by decide +kernel
theorem dL_law_155 : decode cL_law 155 = .ok (.invokevirtual 13, 3) := by decide +kernel
theorem dL_law_158 : decode cL_law 158 = .ok (.aload_n 2, 1) := by decide +kernel
theorem dL_law_159 : decode cL_law 159 = .ok (.aload_n 0, 1) := by decide +kernel
theorem dL_law_160 : decode cL_law 160 = .ok (.iload_n 3, 1) := by decide +kernel
theorem dL_law_161 : decode cL_law 161 = .ok (.iconst 1, 1) := by decide +kernel
theorem dL_law_162 : decode cL_law 162 = .ok (.iadd, 1) := by decide +kernel
theorem dL_law_163 : decode cL_law 163 = .ok (.iaload, 1) := by decide +kernel
theorem dL_law_164 : decode cL_law 164 = .ok (.aload_n 0, 1) := by decide +kernel
theorem dL_law_165 : decode cL_law 165 = .ok (.iload_n 3, 1) := by decide +kernel
theorem dL_law_166 : decode cL_law 166 = .ok (.iconst 2, 1) := by decide +kernel
theorem dL_law_167 : decode cL_law 167 = .ok (.iadd, 1) := by decide +kernel
theorem dL_law_168 : decode cL_law 168 = .ok (.iaload, 1) := by decide +kernel
theorem dL_law_169 : decode cL_law 169 = .ok (.ifCond .eq 7, 3) := by decide +kernel
theorem dL_law_172 : decode cL_law 172 = .ok (.iconst 1, 1) := by decide +kernel
theorem dL_law_173 : decode cL_law 173 = .ok (.goto 4, 3) := by decide +kernel
theorem dL_law_176 : decode cL_law 176 = .ok (.iconst 0, 1) := by decide +kernel
theorem dL_law_177 : decode cL_law 177 = .ok (.invokevirtual 17, 3) := by decide +kernel
theorem dL_law_180 : decode cL_law 180 = .ok (.if_icmp .eq 550, 3) := by decide +kernel
theorem dL_law_183 : decode cL_law 183 = .ok (.iconst 0, 1) := by decide +kernel
theorem dL_law_184 : decode cL_law 184 = .ok (.ireturn, 1) := by decide +kernel
theorem dL_law_185 : decode cL_law 185 = .ok (.aload_n 1, 1) := by decide +kernel
theorem dL_law_186 : decode cL_law 186 = .ok (.aload_n 0, 1) := by decide +kernel
theorem dL_law_187 : decode cL_law 187 = .ok (.iload_n 3, 1) := by decide +kernel
theorem dL_law_188 : decode cL_law 188 = .ok (.iconst 1, 1) := by decide +kernel
theorem dL_law_189 : decode cL_law 189 = .ok (.iadd, 1) := by decide +kernel
theorem dL_law_190 : decode cL_law 190 = .ok (.iaload, 1) := by decide +kernel
theorem dL_law_191 : decode cL_law 191 = .ok (.aload_n 0, 1) := by decide +kernel
theorem dL_law_192 : decode cL_law 192 = .ok (.iload_n 3, 1) := by decide +kernel
theorem dL_law_193 : decode cL_law 193 = .ok (.iconst 2, 1) := by decide +kernel
theorem dL_law_194 : decode cL_law 194 = .ok (.iadd, 1) := by decide +kernel
theorem dL_law_195 : decode cL_law 195 = .ok (.iaload, 1) := by decide +kernel
theorem dL_law_196 : decode cL_law 196 = .ok (.invokevirtual 18, 3) := by decide +kernel
theorem dL_law_199 : decode cL_law 199 = .ok (.aload_n 2, 1) := by decide +kernel
theorem dL_law_200 : decode cL_law 200 = .ok (.aload_n 0, 1) := by decide +kernel
theorem dL_law_201 : decode cL_law 201 = .ok (.iload_n 3, 1) := by decide +kernel
theorem dL_law_202 : decode cL_law 202 = .ok (.iconst 1, 1) := by decide +kernel
theorem dL_law_203 : decode cL_law 203 = .ok (.iadd, 1) := by decide +kernel
theorem dL_law_204 : decode cL_law 204 = .ok (.iaload, 1) := by decide +kernel
theorem dL_law_205 : decode cL_law 205 = .ok (.aload_n 0, 1) := by decide +kernel
theorem dL_law_206 : decode cL_law 206 = .ok (.iload_n 3, 1) := by decide +kernel
theorem dL_law_207 : decode cL_law 207 = .ok (.iconst 2, 1) := by decide +kernel
theorem dL_law_208 : decode cL_law 208 = .ok (.iadd, 1) := by decide +kernel
theorem dL_law_209 : decode cL_law 209 = .ok (.iaload, 1) := by decide +kernel
theorem dL_law_210 : decode cL_law 210 = .ok (.invokevirtual 22, 3) := by decide +kernel
theorem dL_law_213 : decode cL_law 213 = .ok (.if_icmp .eq 517, 3) := by decide +kernel
theorem dL_law_216 : decode cL_law 216 = .ok (.iconst 0, 1) := by decide +kernel
theorem dL_law_217 : decode cL_law 217 = .ok (.ireturn, 1) := by decide +kernel
theorem dL_law_218 : decode cL_law 218 = .ok (.aload_n 1, 1) := by decide +kernel
theorem dL_law_219 : decode cL_law 219 = .ok (.aload_n 0, 1) := by decide +kernel
theorem dL_law_220 : decode cL_law 220 = .ok (.iload_n 3, 1) := by decide +kernel
theorem dL_law_221 : decode cL_law 221 = .ok (.iconst 1, 1) := by decide +kernel
theorem dL_law_222 : decode cL_law 222 = .ok (.iadd, 1) := by decide +kernel
theorem dL_law_223 : decode cL_law 223 = .ok (.iaload, 1) := by decide +kernel
theorem dL_law_224 : decode cL_law 224 = .ok (.invokevirtual 23, 3) := by decide +kernel
theorem dL_law_227 : decode cL_law 227 = .ok (.aload_n 2, 1) := by decide +kernel
theorem dL_law_228 : decode cL_law 228 = .ok (.aload_n 0, 1) := by decide +kernel
theorem dL_law_229 : decode cL_law 229 = .ok (.iload_n 3, 1) := by decide +kernel
theorem dL_law_230 : decode cL_law 230 = .ok (.iconst 1, 1) := by decide +kernel
theorem dL_law_231 : decode cL_law 231 = .ok (.iadd, 1) := by decide +kernel
theorem dL_law_232 : decode cL_law 232 = .ok (.iaload, 1) := by decide +kernel
theorem dL_law_233 : decode cL_law 233 = .ok (.invokevirtual 27, 3) := by decide +kernel
theorem dL_law_236 : decode cL_law 236 = .ok (.if_icmp .eq 494, 3) := by decide +kernel
theorem dL_law_239 : decode cL_law 239 = .ok (.iconst 0, 1) := by decide +kernel
theorem dL_law_240 : decode cL_law 240 = .ok (.ireturn, 1) := by decide +kernel
theorem dL_law_241 : decode cL_law 241 = .ok (.aload_n 1, 1) := by decide +kernel
theorem dL_law_242 : decode cL_law 242 = .ok (.aload_n 0, 1) := by decide +kernel
theorem dL_law_243 : decode cL_law 243 = .ok (.iload_n 3, 1) := by decide +kernel
theorem dL_law_244 : decode cL_law 244 = .ok (.iconst 1, 1) := by decide +kernel
theorem dL_law_245 : decode cL_law 245 = .ok (.iadd, 1) := by decide +kernel
theorem dL_law_246 : decode cL_law 246 = .ok (.iaload, 1) := by decide +kernel
theorem dL_law_247 : decode cL_law 247 = .ok (.invokevirtual 28, 3) := by decide +kernel
theorem dL_law_250 : decode cL_law 250 = .ok (.aload_n 2, 1) := by decide +kernel
theorem dL_law_251 : decode cL_law 251 = .ok (.aload_n 0, 1) := by decide +kernel
theorem dL_law_252 : decode cL_law 252 = .ok (.iload_n 3, 1) := by decide +kernel
theorem dL_law_253 : decode cL_law 253 = .ok (.iconst 1, 1) := by decide +kernel
theorem dL_law_254 : decode cL_law 254 = .ok (.iadd, 1) := by decide +kernel
theorem dL_law_255 : decode cL_law 255 = .ok (.iaload, 1) := by decide +kernel
theorem dL_law_256 : decode cL_law 256 = .ok (.invokevirtual 31, 3) := by decide +kernel
theorem dL_law_259 : decode cL_law 259 = .ok (.if_icmp .eq 471, 3) := by decide +kernel
theorem dL_law_262 : decode cL_law 262 = .ok (.iconst 0, 1) := by decide +kernel
theorem dL_law_263 : decode cL_law 263 = .ok (.ireturn, 1) := by decide +kernel
theorem dL_law_264 : decode cL_law 264 = .ok (.aload_n 1, 1) := by decide +kernel
theorem dL_law_265 : decode cL_law 265 = .ok (.aload_n 0, 1) := by decide +kernel
theorem dL_law_266 : decode cL_law 266 = .ok (.iload_n 3, 1) := by decide +kernel
theorem dL_law_267 : decode cL_law 267 = .ok (.iconst 1, 1) := by decide +kernel
theorem dL_law_268 : decode cL_law 268 = .ok (.iadd, 1) := by decide +kernel
theorem dL_law_269 : decode cL_law 269 = .ok (.iaload, 1) := by decide +kernel
theorem dL_law_270 : decode cL_law 270 = .ok (.aload_n 0, 1) := by decide +kernel
theorem dL_law_271 : decode cL_law 271 = .ok (.iload_n 3, 1) := by decide +kernel
theorem dL_law_272 : decode cL_law 272 = .ok (.iconst 2, 1) := by decide +kernel
theorem dL_law_273 : decode cL_law 273 = .ok (.iadd, 1) := by decide +kernel
theorem dL_law_274 : decode cL_law 274 = .ok (.iaload, 1) := by decide +kernel
theorem dL_law_275 : decode cL_law 275 = .ok (.invokevirtual 32, 3) := by decide +kernel
theorem dL_law_278 : decode cL_law 278 = .ok (.aload_n 2, 1) := by decide +kernel
theorem dL_law_279 : decode cL_law 279 = .ok (.aload_n 0, 1) := by decide +kernel
theorem dL_law_280 : decode cL_law 280 = .ok (.iload_n 3, 1) := by decide +kernel
theorem dL_law_281 : decode cL_law 281 = .ok (.iconst 1, 1) := by decide +kernel
theorem dL_law_282 : decode cL_law 282 = .ok (.iadd, 1) := by decide +kernel
theorem dL_law_283 : decode cL_law 283 = .ok (.iaload, 1) := by decide +kernel
theorem dL_law_284 : decode cL_law 284 = .ok (.aload_n 0, 1) := by decide +kernel
theorem dL_law_285 : decode cL_law 285 = .ok (.iload_n 3, 1) := by decide +kernel
theorem dL_law_286 : decode cL_law 286 = .ok (.iconst 2, 1) := by decide +kernel
theorem dL_law_287 : decode cL_law 287 = .ok (.iadd, 1) := by decide +kernel
theorem dL_law_288 : decode cL_law 288 = .ok (.iaload, 1) := by decide +kernel
theorem dL_law_289 : decode cL_law 289 = .ok (.invokevirtual 35, 3) := by decide +kernel
theorem dL_law_292 : decode cL_law 292 = .ok (.if_icmp .eq 438, 3) := by decide +kernel
theorem dL_law_295 : decode cL_law 295 = .ok (.iconst 0, 1) := by decide +kernel
theorem dL_law_296 : decode cL_law 296 = .ok (.ireturn, 1) := by decide +kernel
theorem dL_law_297 : decode cL_law 297 = .ok (.aload_n 1, 1) := by decide +kernel
theorem dL_law_298 : decode cL_law 298 = .ok (.aload_n 0, 1) := by decide +kernel
theorem dL_law_299 : decode cL_law 299 = .ok (.iload_n 3, 1) := by decide +kernel
theorem dL_law_300 : decode cL_law 300 = .ok (.iconst 1, 1) := by decide +kernel
theorem dL_law_301 : decode cL_law 301 = .ok (.iadd, 1) := by decide +kernel
theorem dL_law_302 : decode cL_law 302 = .ok (.iaload, 1) := by decide +kernel
theorem dL_law_303 : decode cL_law 303 = .ok (.aload_n 0, 1) := by decide +kernel
theorem dL_law_304 : decode cL_law 304 = .ok (.iload_n 3, 1) := by decide +kernel
theorem dL_law_305 : decode cL_law 305 = .ok (.iconst 2, 1) := by decide +kernel
theorem dL_law_306 : decode cL_law 306 = .ok (.iadd, 1) := by decide +kernel
theorem dL_law_307 : decode cL_law 307 = .ok (.iaload, 1) := by decide +kernel
theorem dL_law_308 : decode cL_law 308 = .ok (.aload_n 0, 1) := by decide +kernel
theorem dL_law_309 : decode cL_law 309 = .ok (.iload_n 3, 1) := by decide +kernel
theorem dL_law_310 : decode cL_law 310 = .ok (.iconst 3, 1) := by decide +kernel
theorem dL_law_311 : decode cL_law 311 = .ok (.iadd, 1) := by decide +kernel
theorem dL_law_312 : decode cL_law 312 = .ok (.iaload, 1) := by decide +kernel
theorem dL_law_313 : decode cL_law 313 = .ok (.aload_n 0, 1) := by decide +kernel
theorem dL_law_314 : decode cL_law 314 = .ok (.iload_n 3, 1) := by decide +kernel
theorem dL_law_315 : decode cL_law 315 = .ok (.iconst 4, 1) := by decide +kernel
theorem dL_law_316 : decode cL_law 316 = .ok (.iadd, 1) := by decide +kernel
theorem dL_law_317 : decode cL_law 317 = .ok (.iaload, 1) := by decide +kernel
theorem dL_law_318 : decode cL_law 318 = .ok (.invokevirtual 36, 3) := by decide +kernel
theorem dL_law_321 : decode cL_law 321 = .ok (.aload_n 2, 1) := by decide +kernel
theorem dL_law_322 : decode cL_law 322 = .ok (.aload_n 0, 1) := by decide +kernel
theorem dL_law_323 : decode cL_law 323 = .ok (.iload_n 3, 1) := by decide +kernel
theorem dL_law_324 : decode cL_law 324 = .ok (.iconst 1, 1) := by decide +kernel
theorem dL_law_325 : decode cL_law 325 = .ok (.iadd, 1) := by decide +kernel
theorem dL_law_326 : decode cL_law 326 = .ok (.iaload, 1) := by decide +kernel
theorem dL_law_327 : decode cL_law 327 = .ok (.aload_n 0, 1) := by decide +kernel
theorem dL_law_328 : decode cL_law 328 = .ok (.iload_n 3, 1) := by decide +kernel
theorem dL_law_329 : decode cL_law 329 = .ok (.iconst 2, 1) := by decide +kernel
theorem dL_law_330 : decode cL_law 330 = .ok (.iadd, 1) := by decide +kernel
theorem dL_law_331 : decode cL_law 331 = .ok (.iaload, 1) := by decide +kernel
theorem dL_law_332 : decode cL_law 332 = .ok (.aload_n 0, 1) := by decide +kernel
theorem dL_law_333 : decode cL_law 333 = .ok (.iload_n 3, 1) := by decide +kernel
theorem dL_law_334 : decode cL_law 334 = .ok (.iconst 3, 1) := by decide +kernel
theorem dL_law_335 : decode cL_law 335 = .ok (.iadd, 1) := by decide +kernel
theorem dL_law_336 : decode cL_law 336 = .ok (.iaload, 1) := by decide +kernel
theorem dL_law_337 : decode cL_law 337 = .ok (.aload_n 0, 1) := by decide +kernel
theorem dL_law_338 : decode cL_law 338 = .ok (.iload_n 3, 1) := by decide +kernel
theorem dL_law_339 : decode cL_law 339 = .ok (.iconst 4, 1) := by decide +kernel
theorem dL_law_340 : decode cL_law 340 = .ok (.iadd, 1) := by decide +kernel
theorem dL_law_341 : decode cL_law 341 = .ok (.iaload, 1) := by decide +kernel
theorem dL_law_342 : decode cL_law 342 = .ok (.invokevirtual 40, 3) := by decide +kernel
theorem dL_law_345 : decode cL_law 345 = .ok (.if_icmp .eq 385, 3) := by decide +kernel
theorem dL_law_348 : decode cL_law 348 = .ok (.iconst 0, 1) := by decide +kernel
theorem dL_law_349 : decode cL_law 349 = .ok (.ireturn, 1) := by decide +kernel
theorem dL_law_350 : decode cL_law 350 = .ok (.aload_n 1, 1) := by decide +kernel
theorem dL_law_351 : decode cL_law 351 = .ok (.aload_n 0, 1) := by decide +kernel
theorem dL_law_352 : decode cL_law 352 = .ok (.iload_n 3, 1) := by decide +kernel
theorem dL_law_353 : decode cL_law 353 = .ok (.iconst 1, 1) := by decide +kernel
theorem dL_law_354 : decode cL_law 354 = .ok (.iadd, 1) := by decide +kernel
theorem dL_law_355 : decode cL_law 355 = .ok (.iaload, 1) := by decide +kernel
theorem dL_law_356 : decode cL_law 356 = .ok (.invokevirtual 41, 3) := by decide +kernel
theorem dL_law_359 : decode cL_law 359 = .ok (.aload_n 2, 1) := by decide +kernel
theorem dL_law_360 : decode cL_law 360 = .ok (.aload_n 0, 1) := by decide +kernel
theorem dL_law_361 : decode cL_law 361 = .ok (.iload_n 3, 1) := by decide +kernel
theorem dL_law_362 : decode cL_law 362 = .ok (.iconst 1, 1) := by decide +kernel
theorem dL_law_363 : decode cL_law 363 = .ok (.iadd, 1) := by decide +kernel
theorem dL_law_364 : decode cL_law 364 = .ok (.iaload, 1) := by decide +kernel
theorem dL_law_365 : decode cL_law 365 = .ok (.invokevirtual 44, 3) := by decide +kernel
theorem dL_law_368 : decode cL_law 368 = .ok (.if_icmp .eq 362, 3) := by decide +kernel
theorem dL_law_371 : decode cL_law 371 = .ok (.iconst 0, 1) := by decide +kernel
theorem dL_law_372 : decode cL_law 372 = .ok (.ireturn, 1) := by decide +kernel
theorem dL_law_373 : decode cL_law 373 = .ok (.aload_n 1, 1) := by decide +kernel
theorem dL_law_374 : decode cL_law 374 = .ok (.aload_n 0, 1) := by decide +kernel
theorem dL_law_375 : decode cL_law 375 = .ok (.iload_n 3, 1) := by decide +kernel
theorem dL_law_376 : decode cL_law 376 = .ok (.iconst 1, 1) := by decide +kernel
theorem dL_law_377 : decode cL_law 377 = .ok (.iadd, 1) := by decide +kernel
theorem dL_law_378 : decode cL_law 378 = .ok (.iaload, 1) := by decide +kernel
theorem dL_law_379 : decode cL_law 379 = .ok (.invokevirtual 45, 3) := by decide +kernel
theorem dL_law_382 : decode cL_law 382 = .ok (.aload_n 2, 1) := by decide +kernel
theorem dL_law_383 : decode cL_law 383 = .ok (.aload_n 0, 1) := by decide +kernel
theorem dL_law_384 : decode cL_law 384 = .ok (.iload_n 3, 1) := by decide +kernel
theorem dL_law_385 : decode cL_law 385 = .ok (.iconst 1, 1) := by decide +kernel
theorem dL_law_386 : decode cL_law 386 = .ok (.iadd, 1) := by decide +kernel
theorem dL_law_387 : decode cL_law 387 = .ok (.iaload, 1) := by decide +kernel
theorem dL_law_388 : decode cL_law 388 = .ok (.invokevirtual 48, 3) := by decide +kernel
theorem dL_law_391 : decode cL_law 391 = .ok (.if_icmp .eq 339, 3) := by decide +kernel
theorem dL_law_394 : decode cL_law 394 = .ok (.iconst 0, 1) := by decide +kernel
theorem dL_law_395 : decode cL_law 395 = .ok (.ireturn, 1) := by decide +kernel
theorem dL_law_396 : decode cL_law 396 = .ok (.aload_n 1, 1) := by decide +kernel
theorem dL_law_397 : decode cL_law 397 = .ok (.aload_n 0, 1) := by decide +kernel
theorem dL_law_398 : decode cL_law 398 = .ok (.iload_n 3, 1) := by decide +kernel
theorem dL_law_399 : decode cL_law 399 = .ok (.iconst 1, 1) := by decide +kernel
theorem dL_law_400 : decode cL_law 400 = .ok (.iadd, 1) := by decide +kernel
theorem dL_law_401 : decode cL_law 401 = .ok (.iaload, 1) := by decide +kernel
theorem dL_law_402 : decode cL_law 402 = .ok (.i2c, 1) := by decide +kernel
theorem dL_law_403 : decode cL_law 403 = .ok (.invokevirtual 49, 3) := by decide +kernel
theorem dL_law_406 : decode cL_law 406 = .ok (.aload_n 2, 1) := by decide +kernel
theorem dL_law_407 : decode cL_law 407 = .ok (.aload_n 0, 1) := by decide +kernel
theorem dL_law_408 : decode cL_law 408 = .ok (.iload_n 3, 1) := by decide +kernel
theorem dL_law_409 : decode cL_law 409 = .ok (.iconst 1, 1) := by decide +kernel
theorem dL_law_410 : decode cL_law 410 = .ok (.iadd, 1) := by decide +kernel
theorem dL_law_411 : decode cL_law 411 = .ok (.iaload, 1) := by decide +kernel
theorem dL_law_412 : decode cL_law 412 = .ok (.i2c, 1) := by decide +kernel
theorem dL_law_413 : decode cL_law 413 = .ok (.invokevirtual 53, 3) := by decide +kernel
theorem dL_law_416 : decode cL_law 416 = .ok (.if_icmp .eq 314, 3) := by decide +kernel
theorem dL_law_419 : decode cL_law 419 = .ok (.iconst 0, 1) := by decide +kernel
theorem dL_law_420 : decode cL_law 420 = .ok (.ireturn, 1) := by decide +kernel
theorem dL_law_421 : decode cL_law 421 = .ok (.aload_n 1, 1) := by decide +kernel
theorem dL_law_422 : decode cL_law 422 = .ok (.invokevirtual 54, 3) := by decide +kernel
theorem dL_law_425 : decode cL_law 425 = .ok (.aload_n 2, 1) := by decide +kernel
theorem dL_law_426 : decode cL_law 426 = .ok (.invokevirtual 58, 3) := by decide +kernel
theorem dL_law_429 : decode cL_law 429 = .ok (.if_icmp .eq 301, 3) := by decide +kernel
theorem dL_law_432 : decode cL_law 432 = .ok (.iconst 0, 1) := by decide +kernel
theorem dL_law_433 : decode cL_law 433 = .ok (.ireturn, 1) := by decide +kernel
theorem dL_law_434 : decode cL_law 434 = .ok (.aload_n 1, 1) := by decide +kernel
theorem dL_law_435 : decode cL_law 435 = .ok (.invokevirtual 59, 3) := by decide +kernel
theorem dL_law_438 : decode cL_law 438 = .ok (.aload_n 2, 1) := by decide +kernel
theorem dL_law_439 : decode cL_law 439 = .ok (.invokevirtual 62, 3) := by decide +kernel
theorem dL_law_442 : decode cL_law 442 = .ok (.if_icmp .eq 288, 3) := by decide +kernel
theorem dL_law_445 : decode cL_law 445 = .ok (.iconst 0, 1) := by decide +kernel
theorem dL_law_446 : decode cL_law 446 = .ok (.ireturn, 1) := by decide +kernel
theorem dL_law_447 : decode cL_law 447 = .ok (.aload_n 1, 1) := by decide +kernel
theorem dL_law_448 : decode cL_law 448 = .ok (.invokevirtual 63, 3) := by decide +kernel
theorem dL_law_451 : decode cL_law 451 = .ok (.aload_n 2, 1) := by decide +kernel
theorem dL_law_452 : decode cL_law 452 = .ok (.invokevirtual 66, 3) := by decide +kernel
theorem dL_law_455 : decode cL_law 455 = .ok (.if_icmp .eq 275, 3) := by decide +kernel
theorem dL_law_458 : decode cL_law 458 = .ok (.iconst 0, 1) := by decide +kernel
theorem dL_law_459 : decode cL_law 459 = .ok (.ireturn, 1) := by decide +kernel
theorem dL_law_460 : decode cL_law 460 = .ok (.aload_n 1, 1) := by decide +kernel
theorem dL_law_461 : decode cL_law 461 = .ok (.invokevirtual 67, 3) := by decide +kernel
theorem dL_law_464 : decode cL_law 464 = .ok (.aload_n 2, 1) := by decide +kernel
theorem dL_law_465 : decode cL_law 465 = .ok (.invokevirtual 70, 3) := by decide +kernel
theorem dL_law_468 : decode cL_law 468 = .ok (.if_icmp .eq 262, 3) := by decide +kernel
theorem dL_law_471 : decode cL_law 471 = .ok (.iconst 0, 1) := by decide +kernel
theorem dL_law_472 : decode cL_law 472 = .ok (.ireturn, 1) := by decide +kernel
theorem dL_law_473 : decode cL_law 473 = .ok (.aload_n 1, 1) := by decide +kernel
theorem dL_law_474 : decode cL_law 474 = .ok (.invokevirtual 71, 3) := by decide +kernel
theorem dL_law_477 : decode cL_law 477 = .ok (.aload_n 2, 1) := by decide +kernel
theorem dL_law_478 : decode cL_law 478 = .ok (.invokevirtual 74, 3) := by decide +kernel
theorem dL_law_481 : decode cL_law 481 = .ok (.if_icmp .eq 249, 3) := by decide +kernel
theorem dL_law_484 : decode cL_law 484 = .ok (.iconst 0, 1) := by decide +kernel
theorem dL_law_485 : decode cL_law 485 = .ok (.ireturn, 1) := by decide +kernel
theorem dL_law_486 : decode cL_law 486 = .ok (.aload_n 1, 1) := by decide +kernel
theorem dL_law_487 : decode cL_law 487 = .ok (.aload_n 0, 1) := by decide +kernel
theorem dL_law_488 : decode cL_law 488 = .ok (.iload_n 3, 1) := by decide +kernel
theorem dL_law_489 : decode cL_law 489 = .ok (.iconst 1, 1) := by decide +kernel
theorem dL_law_490 : decode cL_law 490 = .ok (.iadd, 1) := by decide +kernel
theorem dL_law_491 : decode cL_law 491 = .ok (.iaload, 1) := by decide +kernel
theorem dL_law_492 : decode cL_law 492 = .ok (.aload_n 0, 1) := by decide +kernel
theorem dL_law_493 : decode cL_law 493 = .ok (.iload_n 3, 1) := by decide +kernel
theorem dL_law_494 : decode cL_law 494 = .ok (.iconst 2, 1) := by decide +kernel
theorem dL_law_495 : decode cL_law 495 = .ok (.iadd, 1) := by decide +kernel
theorem dL_law_496 : decode cL_law 496 = .ok (.iaload, 1) := by decide +kernel
theorem dL_law_497 : decode cL_law 497 = .ok (.invokevirtual 75, 3) := by decide +kernel
theorem dL_law_500 : decode cL_law 500 = .ok (.aload_n 2, 1) := by decide +kernel
theorem dL_law_501 : decode cL_law 501 = .ok (.aload_n 0, 1) := by decide +kernel
theorem dL_law_502 : decode cL_law 502 = .ok (.iload_n 3, 1) := by decide +kernel
theorem dL_law_503 : decode cL_law 503 = .ok (.iconst 1, 1) := by decide +kernel
theorem dL_law_504 : decode cL_law 504 = .ok (.iadd, 1) := by decide +kernel
theorem dL_law_505 : decode cL_law 505 = .ok (.iaload, 1) := by decide +kernel
theorem dL_law_506 : decode cL_law 506 = .ok (.aload_n 0, 1) := by decide +kernel
theorem dL_law_507 : decode cL_law 507 = .ok (.iload_n 3, 1) := by decide +kernel
theorem dL_law_508 : decode cL_law 508 = .ok (.iconst 2, 1) := by decide +kernel
theorem dL_law_509 : decode cL_law 509 = .ok (.iadd, 1) := by decide +kernel
theorem dL_law_510 : decode cL_law 510 = .ok (.iaload, 1) := by decide +kernel
theorem dL_law_511 : decode cL_law 511 = .ok (.invokevirtual 78, 3) := by decide +kernel
theorem dL_law_514 : decode cL_law 514 = .ok (.if_icmp .eq 216, 3) := by decide +kernel
theorem dL_law_517 : decode cL_law 517 = .ok (.iconst 0, 1) := by decide +kernel
theorem dL_law_518 : decode cL_law 518 = .ok (.ireturn, 1) := by decide +kernel
theorem dL_law_519 : decode cL_law 519 = .ok (.aload_n 1, 1) := by decide +kernel
theorem dL_law_520 : decode cL_law 520 = .ok (.aload_n 0, 1) := by decide +kernel
theorem dL_law_521 : decode cL_law 521 = .ok (.iload_n 3, 1) := by decide +kernel
theorem dL_law_522 : decode cL_law 522 = .ok (.iconst 1, 1) := by decide +kernel
theorem dL_law_523 : decode cL_law 523 = .ok (.iadd, 1) := by decide +kernel
theorem dL_law_524 : decode cL_law 524 = .ok (.iaload, 1) := by decide +kernel
theorem dL_law_525 : decode cL_law 525 = .ok (.aload_n 0, 1) := by decide +kernel
theorem dL_law_526 : decode cL_law 526 = .ok (.iload_n 3, 1) := by decide +kernel
theorem dL_law_527 : decode cL_law 527 = .ok (.iconst 2, 1) := by decide +kernel
theorem dL_law_528 : decode cL_law 528 = .ok (.iadd, 1) := by decide +kernel
theorem dL_law_529 : decode cL_law 529 = .ok (.iaload, 1) := by decide +kernel
theorem dL_law_530 : decode cL_law 530 = .ok (.invokevirtual 79, 3) := by decide +kernel
theorem dL_law_533 : decode cL_law 533 = .ok (.aload_n 2, 1) := by decide +kernel
theorem dL_law_534 : decode cL_law 534 = .ok (.aload_n 0, 1) := by decide +kernel
theorem dL_law_535 : decode cL_law 535 = .ok (.iload_n 3, 1) := by decide +kernel
theorem dL_law_536 : decode cL_law 536 = .ok (.iconst 1, 1) := by decide +kernel
theorem dL_law_537 : decode cL_law 537 = .ok (.iadd, 1) := by decide +kernel
theorem dL_law_538 : decode cL_law 538 = .ok (.iaload, 1) := by decide +kernel
theorem dL_law_539 : decode cL_law 539 = .ok (.aload_n 0, 1) := by decide +kernel
theorem dL_law_540 : decode cL_law 540 = .ok (.iload_n 3, 1) := by decide +kernel
theorem dL_law_541 : decode cL_law 541 = .ok (.iconst 2, 1) := by decide +kernel
theorem dL_law_542 : decode cL_law 542 = .ok (.iadd, 1) := by decide +kernel
theorem dL_law_543 : decode cL_law 543 = .ok (.iaload, 1) := by decide +kernel
theorem dL_law_544 : decode cL_law 544 = .ok (.invokevirtual 82, 3) := by decide +kernel
theorem dL_law_547 : decode cL_law 547 = .ok (.if_icmp .eq 183, 3) := by decide +kernel
theorem dL_law_550 : decode cL_law 550 = .ok (.iconst 0, 1) := by decide +kernel
theorem dL_law_551 : decode cL_law 551 = .ok (.ireturn, 1) := by decide +kernel
theorem dL_law_552 : decode cL_law 552 = .ok (.aload_n 1, 1) := by decide +kernel
theorem dL_law_553 : decode cL_law 553 = .ok (.aload_n 0, 1) := by decide +kernel
theorem dL_law_554 : decode cL_law 554 = .ok (.iload_n 3, 1) := by decide +kernel
theorem dL_law_555 : decode cL_law 555 = .ok (.iconst 1, 1) := by decide +kernel
theorem dL_law_556 : decode cL_law 556 = .ok (.iadd, 1) := by decide +kernel
theorem dL_law_557 : decode cL_law 557 = .ok (.iaload, 1) := by decide +kernel
theorem dL_law_558 : decode cL_law 558 = .ok (.aload_n 0, 1) := by decide +kernel
theorem dL_law_559 : decode cL_law 559 = .ok (.iload_n 3, 1) := by decide +kernel
theorem dL_law_560 : decode cL_law 560 = .ok (.iconst 2, 1) := by decide +kernel
theorem dL_law_561 : decode cL_law 561 = .ok (.iadd, 1) := by decide +kernel
theorem dL_law_562 : decode cL_law 562 = .ok (.iaload, 1) := by decide +kernel
theorem dL_law_563 : decode cL_law 563 = .ok (.invokevirtual 83, 3) := by decide +kernel
theorem dL_law_566 : decode cL_law 566 = .ok (.aload_n 2, 1) := by decide +kernel
theorem dL_law_567 : decode cL_law 567 = .ok (.aload_n 0, 1) := by decide +kernel
theorem dL_law_568 : decode cL_law 568 = .ok (.iload_n 3, 1) := by decide +kernel
theorem dL_law_569 : decode cL_law 569 = .ok (.iconst 1, 1) := by decide +kernel
theorem dL_law_570 : decode cL_law 570 = .ok (.iadd, 1) := by decide +kernel
theorem dL_law_571 : decode cL_law 571 = .ok (.iaload, 1) := by decide +kernel
theorem dL_law_572 : decode cL_law 572 = .ok (.aload_n 0, 1) := by decide +kernel
theorem dL_law_573 : decode cL_law 573 = .ok (.iload_n 3, 1) := by decide +kernel
theorem dL_law_574 : decode cL_law 574 = .ok (.iconst 2, 1) := by decide +kernel
theorem dL_law_575 : decode cL_law 575 = .ok (.iadd, 1) := by decide +kernel
theorem dL_law_576 : decode cL_law 576 = .ok (.iaload, 1) := by decide +kernel
theorem dL_law_577 : decode cL_law 577 = .ok (.invokevirtual 86, 3) := by decide +kernel
theorem dL_law_580 : decode cL_law 580 = .ok (.if_icmp .eq 150, 3) := by decide +kernel
theorem dL_law_583 : decode cL_law 583 = .ok (.iconst 0, 1) := by decide +kernel
theorem dL_law_584 : decode cL_law 584 = .ok (.ireturn, 1) := by decide +kernel
theorem dL_law_585 : decode cL_law 585 = .ok (.aload_n 1, 1) := by decide +kernel
theorem dL_law_586 : decode cL_law 586 = .ok (.aload_n 0, 1) := by decide +kernel
theorem dL_law_587 : decode cL_law 587 = .ok (.iload_n 3, 1) := by decide +kernel
theorem dL_law_588 : decode cL_law 588 = .ok (.iconst 1, 1) := by decide +kernel
theorem dL_law_589 : decode cL_law 589 = .ok (.iadd, 1) := by decide +kernel
theorem dL_law_590 : decode cL_law 590 = .ok (.iaload, 1) := by decide +kernel
theorem dL_law_591 : decode cL_law 591 = .ok (.invokevirtual 87, 3) := by decide +kernel
theorem dL_law_594 : decode cL_law 594 = .ok (.aload_n 2, 1) := by decide +kernel
theorem dL_law_595 : decode cL_law 595 = .ok (.aload_n 0, 1) := by decide +kernel
theorem dL_law_596 : decode cL_law 596 = .ok (.iload_n 3, 1) := by decide +kernel
theorem dL_law_597 : decode cL_law 597 = .ok (.iconst 1, 1) := by decide +kernel
theorem dL_law_598 : decode cL_law 598 = .ok (.iadd, 1) := by decide +kernel
theorem dL_law_599 : decode cL_law 599 = .ok (.iaload, 1) := by decide +kernel
theorem dL_law_600 : decode cL_law 600 = .ok (.invokevirtual 90, 3) := by decide +kernel
theorem dL_law_603 : decode cL_law 603 = .ok (.if_icmp .eq 127, 3) := by decide +kernel
theorem dL_law_606 : decode cL_law 606 = .ok (.iconst 0, 1) := by decide +kernel
theorem dL_law_607 : decode cL_law 607 = .ok (.ireturn, 1) := by decide +kernel
theorem dL_law_608 : decode cL_law 608 = .ok (.aload_n 1, 1) := by decide +kernel
theorem dL_law_609 : decode cL_law 609 = .ok (.aload_n 0, 1) := by decide +kernel
theorem dL_law_610 : decode cL_law 610 = .ok (.iload_n 3, 1) := by decide +kernel
theorem dL_law_611 : decode cL_law 611 = .ok (.iconst 1, 1) := by decide +kernel
theorem dL_law_612 : decode cL_law 612 = .ok (.iadd, 1) := by decide +kernel
theorem dL_law_613 : decode cL_law 613 = .ok (.iaload, 1) := by decide +kernel
theorem dL_law_614 : decode cL_law 614 = .ok (.aload_n 0, 1) := by decide +kernel
theorem dL_law_615 : decode cL_law 615 = .ok (.iload_n 3, 1) := by decide +kernel
theorem dL_law_616 : decode cL_law 616 = .ok (.iconst 2, 1) := by decide +kernel
theorem dL_law_617 : decode cL_law 617 = .ok (.iadd, 1) := by decide +kernel
theorem dL_law_618 : decode cL_law 618 = .ok (.iaload, 1) := by decide +kernel
theorem dL_law_619 : decode cL_law 619 = .ok (.aload_n 0, 1) := by decide +kernel
theorem dL_law_620 : decode cL_law 620 = .ok (.iload_n 3, 1) := by decide +kernel
theorem dL_law_621 : decode cL_law 621 = .ok (.iconst 3, 1) := by decide +kernel
theorem dL_law_622 : decode cL_law 622 = .ok (.iadd, 1) := by decide +kernel
theorem dL_law_623 : decode cL_law 623 = .ok (.iaload, 1) := by decide +kernel
theorem dL_law_624 : decode cL_law 624 = .ok (.invokevirtual 91, 3) := by decide +kernel
theorem dL_law_627 : decode cL_law 627 = .ok (.aload_n 2, 1) := by decide +kernel
theorem dL_law_628 : decode cL_law 628 = .ok (.aload_n 0, 1) := by decide +kernel
theorem dL_law_629 : decode cL_law 629 = .ok (.iload_n 3, 1) := by decide +kernel
theorem dL_law_630 : decode cL_law 630 = .ok (.iconst 1, 1) := by decide +kernel
theorem dL_law_631 : decode cL_law 631 = .ok (.iadd, 1) := by decide +kernel
theorem dL_law_632 : decode cL_law 632 = .ok (.iaload, 1) := by decide +kernel
theorem dL_law_633 : decode cL_law 633 = .ok (.aload_n 0, 1) := by decide +kernel
theorem dL_law_634 : decode cL_law 634 = .ok (.iload_n 3, 1) := by decide +kernel
theorem dL_law_635 : decode cL_law 635 = .ok (.iconst 2, 1) := by decide +kernel
theorem dL_law_636 : decode cL_law 636 = .ok (.iadd, 1) := by decide +kernel
theorem dL_law_637 : decode cL_law 637 = .ok (.iaload, 1) := by decide +kernel
theorem dL_law_638 : decode cL_law 638 = .ok (.aload_n 0, 1) := by decide +kernel
theorem dL_law_639 : decode cL_law 639 = .ok (.iload_n 3, 1) := by decide +kernel
theorem dL_law_640 : decode cL_law 640 = .ok (.iconst 3, 1) := by decide +kernel
theorem dL_law_641 : decode cL_law 641 = .ok (.iadd, 1) := by decide +kernel
theorem dL_law_642 : decode cL_law 642 = .ok (.iaload, 1) := by decide +kernel
theorem dL_law_643 : decode cL_law 643 = .ok (.invokevirtual 95, 3) := by decide +kernel
theorem dL_law_646 : decode cL_law 646 = .ok (.if_icmp .eq 84, 3) := by decide +kernel
theorem dL_law_649 : decode cL_law 649 = .ok (.iconst 0, 1) := by decide +kernel
theorem dL_law_650 : decode cL_law 650 = .ok (.ireturn, 1) := by decide +kernel
theorem dL_law_651 : decode cL_law 651 = .ok (.aload_n 1, 1) := by decide +kernel
theorem dL_law_652 : decode cL_law 652 = .ok (.aload_n 0, 1) := by decide +kernel
theorem dL_law_653 : decode cL_law 653 = .ok (.iload_n 3, 1) := by decide +kernel
theorem dL_law_654 : decode cL_law 654 = .ok (.iconst 1, 1) := by decide +kernel
theorem dL_law_655 : decode cL_law 655 = .ok (.iadd, 1) := by decide +kernel
theorem dL_law_656 : decode cL_law 656 = .ok (.iaload, 1) := by decide +kernel
theorem dL_law_657 : decode cL_law 657 = .ok (.aload_n 0, 1) := by decide +kernel
theorem dL_law_658 : decode cL_law 658 = .ok (.iload_n 3, 1) := by decide +kernel
theorem dL_law_659 : decode cL_law 659 = .ok (.iconst 2, 1) := by decide +kernel
theorem dL_law_660 : decode cL_law 660 = .ok (.iadd, 1) := by decide +kernel
theorem dL_law_661 : decode cL_law 661 = .ok (.iaload, 1) := by decide +kernel
theorem dL_law_662 : decode cL_law 662 = .ok (.aload_n 0, 1) := by decide +kernel
theorem dL_law_663 : decode cL_law 663 = .ok (.iload_n 3, 1) := by decide +kernel
theorem dL_law_664 : decode cL_law 664 = .ok (.iconst 3, 1) := by decide +kernel
theorem dL_law_665 : decode cL_law 665 = .ok (.iadd, 1) := by decide +kernel
theorem dL_law_666 : decode cL_law 666 = .ok (.iaload, 1) := by decide +kernel
theorem dL_law_667 : decode cL_law 667 = .ok (.invokevirtual 96, 3) := by decide +kernel
theorem dL_law_670 : decode cL_law 670 = .ok (.aload_n 2, 1) := by decide +kernel
theorem dL_law_671 : decode cL_law 671 = .ok (.aload_n 0, 1) := by decide +kernel
theorem dL_law_672 : decode cL_law 672 = .ok (.iload_n 3, 1) := by decide +kernel
theorem dL_law_673 : decode cL_law 673 = .ok (.iconst 1, 1) := by decide +kernel
theorem dL_law_674 : decode cL_law 674 = .ok (.iadd, 1) := by decide +kernel
theorem dL_law_675 : decode cL_law 675 = .ok (.iaload, 1) := by decide +kernel
theorem dL_law_676 : decode cL_law 676 = .ok (.aload_n 0, 1) := by decide +kernel
theorem dL_law_677 : decode cL_law 677 = .ok (.iload_n 3, 1) := by decide +kernel
theorem dL_law_678 : decode cL_law 678 = .ok (.iconst 2, 1) := by decide +kernel
theorem dL_law_679 : decode cL_law 679 = .ok (.iadd, 1) := by decide +kernel
theorem dL_law_680 : decode cL_law 680 = .ok (.iaload, 1) := by decide +kernel
theorem dL_law_681 : decode cL_law 681 = .ok (.aload_n 0, 1) := by decide +kernel
theorem dL_law_682 : decode cL_law 682 = .ok (.iload_n 3, 1) := by decide +kernel
theorem dL_law_683 : decode cL_law 683 = .ok (.iconst 3, 1) := by decide +kernel
theorem dL_law_684 : decode cL_law 684 = .ok (.iadd, 1) := by decide +kernel
theorem dL_law_685 : decode cL_law 685 = .ok (.iaload, 1) := by decide +kernel
theorem dL_law_686 : decode cL_law 686 = .ok (.invokevirtual 99, 3) := by decide +kernel
theorem dL_law_689 : decode cL_law 689 = .ok (.if_icmp .eq 41, 3) := by decide +kernel
theorem dL_law_692 : decode cL_law 692 = .ok (.iconst 0, 1) := by decide +kernel
theorem dL_law_693 : decode cL_law 693 = .ok (.ireturn, 1) := by decide +kernel
theorem dL_law_694 : decode cL_law 694 = .ok (.aload_n 1, 1) := by decide +kernel
theorem dL_law_695 : decode cL_law 695 = .ok (.invokevirtual 100, 3) := by decide +kernel
theorem dL_law_698 : decode cL_law 698 = .ok (.aload_n 2, 1) := by decide +kernel
theorem dL_law_699 : decode cL_law 699 = .ok (.invokevirtual 103, 3) := by decide +kernel
theorem dL_law_702 : decode cL_law 702 = .ok (.if_icmp .eq 28, 3) := by decide +kernel
theorem dL_law_705 : decode cL_law 705 = .ok (.iconst 0, 1) := by decide +kernel
theorem dL_law_706 : decode cL_law 706 = .ok (.ireturn, 1) := by decide +kernel
theorem dL_law_707 : decode cL_law 707 = .ok (.aload_n 1, 1) := by decide +kernel
theorem dL_law_708 : decode cL_law 708 = .ok (.aload_n 0, 1) := by decide +kernel
theorem dL_law_709 : decode cL_law 709 = .ok (.iload_n 3, 1) := by decide +kernel
theorem dL_law_710 : decode cL_law 710 = .ok (.iconst 1, 1) := by decide +kernel
theorem dL_law_711 : decode cL_law 711 = .ok (.iadd, 1) := by decide +kernel
theorem dL_law_712 : decode cL_law 712 = .ok (.iaload, 1) := by decide +kernel
theorem dL_law_713 : decode cL_law 713 = .ok (.invokevirtual 104, 3) := by decide +kernel
theorem dL_law_716 : decode cL_law 716 = .ok (.aload_n 2, 1) := by decide +kernel
theorem dL_law_717 : decode cL_law 717 = .ok (.aload_n 0, 1) := by decide +kernel
theorem dL_law_718 : decode cL_law 718 = .ok (.iload_n 3, 1) := by decide +kernel
theorem dL_law_719 : decode cL_law 719 = .ok (.iconst 1, 1) := by decide +kernel
theorem dL_law_720 : decode cL_law 720 = .ok (.iadd, 1) := by decide +kernel
theorem dL_law_721 : decode cL_law 721 = .ok (.iaload, 1) := by decide +kernel
theorem dL_law_722 : decode cL_law 722 = .ok (.invokevirtual 107, 3) := by decide +kernel
theorem dL_law_725 : decode cL_law 725 = .ok (.if_icmp .eq 5, 3) := by decide +kernel
theorem dL_law_728 : decode cL_law 728 = .ok (.iconst 0, 1) := by decide +kernel
theorem dL_law_729 : decode cL_law 729 = .ok (.ireturn, 1) := by decide +kernel
theorem dL_law_730 : decode cL_law 730 = .ok (.iinc 3 5, 3) := by decide +kernel
theorem dL_law_733 : decode cL_law 733 = .ok (.goto (-715), 3) := by decide +kernel
theorem dL_law_736 : decode cL_law 736 = .ok (.iconst 1, 1) := by decide +kernel
theorem dL_law_737 : decode cL_law 737 = .ok (.ireturn, 1) := by decide +kernel
end
section
/-! the worlds as ONE map from addresses to cells; J: the machine at an instruction, over such a map -/
abbrev HF : Type := Nat → Option va_E
abbrev DD : Type := va_G × (ClassId × ClassId × ClassId) × (Nat × Nat)
def tysD (D : DD) : List (ClassId × FieldType) := [(D.2.1.1, .int), (D.2.1.2.1, .char), (D.2.1.2.2, .object "LearningRepeater$State")]
def NN (U : State) : Prop := (∀ q ∈ nestF, va_Nw (.fieldLinkNest q.1 q.2.1 q.2.2.1 q.2.2.2.1 q.2.2.2.2.1 q.2.2.2.2.2) U) ∧ (∀ q ∈ nestM, va_Nw (.methodLinkNest q.1 q.2.1 q.2.2.1 q.2.2.2) U) ∧ va_AO "LearningRepeater$State" U
def aB (B : Nat) : Nat → Prop := fun q => B ≤ q
def fsF : Nat → Int32 := fun j => match j with | 0 => 60 | 1 => 30 | 2 => 10 | _ => 4
def fsG : Nat → Int32 := fun j => match j with | 0 => 1000 | 1 => 600 | 2 => 50 | _ => 10
def ST (D : DD) (B : Nat) (U : State) (H : Heap) : Prop :=
  (va_Z "LearningRepeater" "FIRST_SETTINGS" "[I" (.ref D.2.2.1) (aB B) U H ∧ va_T .int D.2.2.1 4 (fun j => .int (fsF j)) (aB B) U H) ∧
  (va_Z "LearningRepeater" "GREATEST_SETTINGS" "[I" (.ref D.2.2.2) (aB B) U H ∧ va_T .int D.2.2.2 4 (fun j => .int (fsG j)) (aB B) U H)
def HP (G : va_G) (B : Nat) (h : HF) (H : Heap) : Prop := ∀ (q : Nat) (e : va_E), h q = some e → B ≤ q ∧ va_at G vwCl (q, e) H
def Wd (D : DD) (B z : Nat) (h : HF) (U : State) : Prop := va_K D.1 vwCl (tysD D) U ∧ NN U ∧ ST D B U U.heap ∧ U.heap.size = z ∧ B ≤ z ∧ HP D.1 B h U.heap
def hupd (h : HF) (a : Nat) (e : va_E) : HF := fun q => if q = a then some e else h q
theorem hupd_same {h : HF} {a : Nat} {e : va_E} : hupd h a e a = some e := if_pos rfl
theorem hupd_ne {h : HF} {a b : Nat} {e : va_E} (n : b ≠ a) : hupd h a e b = h b := if_neg n
theorem NN.moved {u U : State} (hW : u.WarmedH U.vm) (h : NN u) : NN U := ⟨fun q hq => va_Nw.warmF hW (h.1 q hq), fun q hq => va_Nw.warmM hW (h.2.1 q hq), h.2.2.moved hW.alike⟩
theorem NN.same {u U : State} (e : u.vm = U.vm) (h : NN u) : NN U := ⟨fun q hq => va_Nw.same rfl e (h.1 q hq), fun q hq => va_Nw.same rfl e (h.2.1 q hq), h.2.2.moved (by rw [e]; exact Vm.Alike.refl _)⟩
theorem ST.moved {D : DD} {B : Nat} {u U : State} {H : Heap} (hvm : u.vm.Alike U.vm) (h : ST D B u H) : ST D B U H := ⟨⟨h.1.1.moved hvm, h.1.2.moved hvm⟩, ⟨h.2.1.moved hvm, h.2.2.moved hvm⟩⟩
theorem ST.kept {D : DD} {B : Nat} {U : State} {H H1 : Heap} (h : ST D B U H) (hq : ∀ a : Nat, a < H.size → ¬ aB B a → H1[a]? = H[a]?) : ST D B U H1 := ⟨⟨h.1.1.kept hq, h.1.2.kept hq⟩, ⟨h.2.1.kept hq, h.2.2.kept hq⟩⟩
theorem HP.put {G : va_G} {B : Nat} {h : HF} {H H1 : Heap} {a : Nat} {e : va_E} (hP : HP G B h H) (ha : B ≤ a) (he : va_at G vwCl (a, e) H1) (oq : ∀ q : Nat, q ≠ a → H1[q]? = H[q]?) : HP G B (hupd h a e) H1 := by
  intro q x hq
  by_cases hqa : q = a
  · subst hqa
    rw [hupd_same] at hq
    cases hq
    exact ⟨ha, he⟩
  · rw [hupd_ne hqa] at hq
    exact ⟨(hP q x hq).1, (hP q x hq).2.kept (oq q hqa)⟩
theorem HP.push {G : va_G} {B : Nat} {h : HF} {H H1 : Heap} {a : Nat} {e : va_E} (hP : HP G B h H) (ha : B ≤ a) (hz : H.size = a) (he : va_at G vwCl (a, e) H1) (oq : ∀ q : Nat, q < a → H1[q]? = H[q]?) : HP G B (hupd h a e) H1 := by
  intro q x hq
  by_cases hqa : q = a
  · subst hqa
    rw [hupd_same] at hq
    cases hq
    exact ⟨ha, he⟩
  · rw [hupd_ne hqa] at hq
    have := (hP q x hq).2.lt
    exact ⟨(hP q x hq).1, (hP q x hq).2.kept (oq q (by omega))⟩
theorem Wd.blind {D : DD} {B z : Nat} {h : HF} {U : State} {g : JFrame} {mk : MethodId} {a : Array Value} (w : Wd D B z h U) : Wd D B z h (U.calling g mk a) :=
  ⟨va_K.moved (u := U) (U := U.calling g mk a) (Vm.Alike.refl U.vm) w.1, w.2.1.same rfl, w.2.2.1.moved (Vm.Alike.refl U.vm), w.2.2.2⟩
/-- a contract: at these arguments, over this map, it returns o and leaves that map -/
def QC (o : Option Value) (D : DD) (B z : Nat) (h : HF) : Array Value → State → Outcome → State → Prop := fun _ st oc t => oc = .returned o ∧ Wd D B z h t ∧ va_F (aB B) st t
def CT (l : Launch) (y : MethodName) (b : ByteArray) (n : Nat) (ret : Option FieldType) (fr lo : Nat) (as : List Value) (D : DD) (B z : Nat) (h : HF) (o : Option Value) (mc ms : Nat) (h' : HF) : Prop :=
  Met l y (.code y b n ret :: gtbl) { frames := fr, cells := mc, slots := ms, locals := lo } (va_Pc as (Wd D B z h)) (QC o D B (z + mc) h') mc ms (aB B)
def Cx (p : Program) (s : State) (m : MethodId) (args : Array Value) (meth : Method) (c : Code) (cc : ByteArray) (nL : Nat) (own : String) (D : DD) (B : Nat) : Prop :=
  p.tables.exec = Jvm.exec ∧ c.code = cc ∧ c.maxLocals = nL ∧ s.vm.findClass own = some m.cls ∧ (∀ w ∈ gtbl, w.before args s = true) ∧ va_K D.1 vwCl (tysD D) s ∧ NN s ∧ ST D B s s.heap ∧ B ≤ s.heap.size ∧ meth.locks = false
def J (p : Program) (l : Launch) (e : Env) (R : Room) (s : State) (m : MethodId) (args : Array Value) (below : List Frame) (meth : Method) (c : Code) (D : DD) (B nL : Nat) (Q : State → Prop) (cells slots z : Nat) (h : HF) (L : List (Nat × Value)) (st : List Value) (pc : Nat) : Prop :=
  ∀ (H : Heap) (locs : List Loc) (ls : Array Slot), HP D.1 B h H → H.size = z → va_S (aB B) s.heap H locs → lv_has ls nL L → W p l e R s m args below meth c H locs cells slots Q (F0 m pc ls st)
/-- what a method of ours is called by: its words -/
def MV (y : MethodName) (b : ByteArray) (n : Nat) (ret : Option FieldType) (k : Nat) : Prop := (Cond.instanceMethod y ∈ gtbl ∧ Cond.selects y.cls y y ∈ gtbl) ∧ Cond.initialized y.cls ∈ gtbl ∧ Cond.code y b n ret ∈ gtbl ∧ (y.cls ≠ "java/lang/invoke/MethodHandle" ∧ y.cls ≠ "java/lang/invoke/VarHandle") ∧ (parseMethodDescriptor y.desc).map (fun d => d.parameters.length) = some k
def MT (y : MethodName) (b : ByteArray) (n : Nat) (ret : Option FieldType) (k : Nat) : Prop := Cond.static y ∈ gtbl ∧ Cond.initialized y.cls ∈ gtbl ∧ Cond.code y b n ret ∈ gtbl ∧ (y.cls ≠ "java/lang/invoke/MethodHandle" ∧ y.cls ≠ "java/lang/invoke/VarHandle") ∧ (parseMethodDescriptor y.desc).map (fun d => d.parameters.length) = some k
def MI (y : MethodName) (b : ByteArray) (n : Nat) (k : Nat) : Prop := (Cond.instanceMethod y ∈ gtbl ∧ y.name = "<init>") ∧ Cond.initialized y.cls ∈ gtbl ∧ Cond.code y b n none ∈ gtbl ∧ (y.cls ≠ "java/lang/invoke/MethodHandle" ∧ y.cls ≠ "java/lang/invoke/VarHandle") ∧ (parseMethodDescriptor y.desc).map (fun d => d.parameters.length) = some k
section JS
variable {p : Program} {l : Launch} {e : Env} {R : Room} {s : State} {m : MethodId} {args : Array Value} {below : List Frame} {meth : Method} {c : Code} {cc : ByteArray} {nL : Nat} {own : String} {D : DD} {B : Nat} {Q : State → Prop} {cells slots z : Nat} {h : HF} {L L' : List (Nat × Value)} {st rest : List Value} {pc : Nat}
set_option maxHeartbeats 1000000 in
theorem CT.of {y : MethodName} {b : ByteArray} {n : Nat} {ret : Option FieldType} {fr lo mc ms : Nat} {as : List Value} {o : Option Value} {h' : HF} (hp : plainName y.cls = true) (hn : (lg_sl as).length ≤ n) (hL : lv_args 0 as = L)
    (body : ∀ (p : Program) (e : Env) (s : State) (m : MethodId) (args : Array Value) (below : List Frame) (meth : Method) (c : Code), Cx p s m args meth c b n y.cls D B → meth.sig.returnType = ret → meth.name = y.name →
      J p l e { frames := fr, cells := mc, slots := ms, locals := lo } s m args below meth c D B n (MQ below (QC o D B (z + mc) h') args s mc ms (aB B)) 0 0 z h L [] 0) : CT l y b n ret fr lo as D B z h o mc ms h' := by
  refine Met.ofW (cc := b) (maxL := n) (ret := ret) hp rfl ?_
  intro p e s m args below meth c s₁ Bd hml hv
  obtain ⟨rfl, hK, hN, hST, hz, hBz, hP⟩ := hv
  have hts : ∀ w ∈ gtbl, w.before as.toArray s = true := fun w hw => atoms_spec (ws := .code y b n ret :: gtbl) Bd.pre w (List.mem_cons_of_mem _ hw)
  have hown : s.vm.findClass y.cls = some m.cls := findClass_of_methodNamed Bd.named
  have hl := lv_entry as (n := n) hn
  rw [lg_entry_eq]
  rw [hL] at hl
  exact body p e s m as.toArray below meth c ⟨Bd.exec, Bd.bytes, hml, hown, hts, hK, hN, hST, by rw [hz]; exact hBz, Bd.notSynchronized⟩ Bd.returns (name_of_methodNamed Bd.named Bd.method).1 s.heap [] _ hP hz va_S.rf hl
theorem j_sub (ks : List Nat) (hl : lv_pick L ks = L') (kk : J p l e R s m args below meth c D B nL Q cells slots z h L' st pc) : J p l e R s m args below meth c D B nL Q cells slots z h L st pc :=
  fun H locs ls hP hz hS hL => kk H locs ls hP hz hS (lv_sub hL ks hl)
theorem j_heap {h' : HF} (hh : h = h') (kk : J p l e R s m args below meth c D B nL Q cells slots z h' L st pc) : J p l e R s m args below meth c D B nL Q cells slots z h L st pc := hh ▸ kk
theorem j_st {st' : List Value} (hh : st = st') (kk : J p l e R s m args below meth c D B nL Q cells slots z h L st' pc) : J p l e R s m args below meth c D B nL Q cells slots z h L st pc := hh ▸ kk
end JS
end
section
section JR
variable {p : Program} {l : Launch} {e : Env} {R : Room} {s : State} {m : MethodId} {args : Array Value} {below : List Frame} {meth : Method} {c : Code} {cc : ByteArray} {nL : Nat} {own : String} {D : DD} {B : Nat} {Q : State → Prop} {cells slots z : Nat} {h : HF} {L L' : List (Nat × Value)} {st rest : List Value} {pc : Nat}
theorem j_iadd (X : Cx p s m args meth c cc nL own D B) {x y : Int32} (d : decode cc pc = .ok (.iadd, 1)) (kk : J p l e R s m args below meth c D B nL Q cells slots z h L (.int (x + y) :: rest) (pc + 1)) : J p l e R s m args below meth c D B nL Q cells slots z h L (.int y :: .int x :: rest) pc :=
  fun H locs ls hP hz hS hl => lv_iadd X.1 X.2.1 d (kk H locs ls hP hz hS hl)
theorem j_isub (X : Cx p s m args meth c cc nL own D B) {x y : Int32} (d : decode cc pc = .ok (.isub, 1)) (kk : J p l e R s m args below meth c D B nL Q cells slots z h L (.int (x - y) :: rest) (pc + 1)) : J p l e R s m args below meth c D B nL Q cells slots z h L (.int y :: .int x :: rest) pc :=
  fun H locs ls hP hz hS hl => lv_isub X.1 X.2.1 d (kk H locs ls hP hz hS hl)
theorem j_imul (X : Cx p s m args meth c cc nL own D B) {x y : Int32} (d : decode cc pc = .ok (.imul, 1)) (kk : J p l e R s m args below meth c D B nL Q cells slots z h L (.int (x * y) :: rest) (pc + 1)) : J p l e R s m args below meth c D B nL Q cells slots z h L (.int y :: .int x :: rest) pc :=
  fun H locs ls hP hz hS hl => lv_imul X.1 X.2.1 d (kk H locs ls hP hz hS hl)
theorem j_iand (X : Cx p s m args meth c cc nL own D B) {x y : Int32} (d : decode cc pc = .ok (.iand, 1)) (kk : J p l e R s m args below meth c D B nL Q cells slots z h L (.int (x &&& y) :: rest) (pc + 1)) : J p l e R s m args below meth c D B nL Q cells slots z h L (.int y :: .int x :: rest) pc :=
  fun H locs ls hP hz hS hl => lv_iand X.1 X.2.1 d (kk H locs ls hP hz hS hl)
theorem j_ior (X : Cx p s m args meth c cc nL own D B) {x y : Int32} (d : decode cc pc = .ok (.ior, 1)) (kk : J p l e R s m args below meth c D B nL Q cells slots z h L (.int (x ||| y) :: rest) (pc + 1)) : J p l e R s m args below meth c D B nL Q cells slots z h L (.int y :: .int x :: rest) pc :=
  fun H locs ls hP hz hS hl => lv_ior X.1 X.2.1 d (kk H locs ls hP hz hS hl)
theorem j_ixor (X : Cx p s m args meth c cc nL own D B) {x y : Int32} (d : decode cc pc = .ok (.ixor, 1)) (kk : J p l e R s m args below meth c D B nL Q cells slots z h L (.int (x ^^^ y) :: rest) (pc + 1)) : J p l e R s m args below meth c D B nL Q cells slots z h L (.int y :: .int x :: rest) pc :=
  fun H locs ls hP hz hS hl => lv_ixor X.1 X.2.1 d (kk H locs ls hP hz hS hl)
theorem j_ishl (X : Cx p s m args meth c cc nL own D B) {x y : Int32} (d : decode cc pc = .ok (.ishl, 1)) (kk : J p l e R s m args below meth c D B nL Q cells slots z h L (.int (x <<< (y &&& 31)) :: rest) (pc + 1)) : J p l e R s m args below meth c D B nL Q cells slots z h L (.int y :: .int x :: rest) pc :=
  fun H locs ls hP hz hS hl => lv_ishl X.1 X.2.1 d (kk H locs ls hP hz hS hl)
theorem j_ishr (X : Cx p s m args meth c cc nL own D B) {x y : Int32} (d : decode cc pc = .ok (.ishr, 1)) (kk : J p l e R s m args below meth c D B nL Q cells slots z h L (.int (x >>> (y &&& 31)) :: rest) (pc + 1)) : J p l e R s m args below meth c D B nL Q cells slots z h L (.int y :: .int x :: rest) pc :=
  fun H locs ls hP hz hS hl => lv_ishr X.1 X.2.1 d (kk H locs ls hP hz hS hl)
theorem j_iushr (X : Cx p s m args meth c cc nL own D B) {x y : Int32} (d : decode cc pc = .ok (.iushr, 1)) (kk : J p l e R s m args below meth c D B nL Q cells slots z h L (.int (x.toUInt32 >>> (y.toUInt32 &&& Int32.toUInt32 31)).toInt32 :: rest) (pc + 1)) : J p l e R s m args below meth c D B nL Q cells slots z h L (.int y :: .int x :: rest) pc :=
  fun H locs ls hP hz hS hl => lv_iushr X.1 X.2.1 d rfl (kk H locs ls hP hz hS hl)
theorem j_idiv (X : Cx p s m args meth c cc nL own D B) {x y : Int32} (d : decode cc pc = .ok (.idiv, 1)) (hne : ¬ y = 0) (kk : J p l e R s m args below meth c D B nL Q cells slots z h L (.int (x / y) :: rest) (pc + 1)) : J p l e R s m args below meth c D B nL Q cells slots z h L (.int y :: .int x :: rest) pc :=
  fun H locs ls hP hz hS hl => lv_idiv X.1 X.2.1 d hne (kk H locs ls hP hz hS hl)
theorem j_irem (X : Cx p s m args meth c cc nL own D B) {x y : Int32} (d : decode cc pc = .ok (.irem, 1)) (hne : ¬ y = 0) (kk : J p l e R s m args below meth c D B nL Q cells slots z h L (.int (x - x / y * y) :: rest) (pc + 1)) : J p l e R s m args below meth c D B nL Q cells slots z h L (.int y :: .int x :: rest) pc :=
  fun H locs ls hP hz hS hl => lv_irem X.1 X.2.1 d hne (kk H locs ls hP hz hS hl)
theorem j_i2c (X : Cx p s m args meth c cc nL own D B) {x : Int32} (d : decode cc pc = .ok (.i2c, 1)) (kk : J p l e R s m args below meth c D B nL Q cells slots z h L (.int (x.toUInt32 % 65536).toInt32 :: rest) (pc + 1)) : J p l e R s m args below meth c D B nL Q cells slots z h L (.int x :: rest) pc :=
  fun H locs ls hP hz hS hl => lv_i2c X.1 X.2.1 d rfl (kk H locs ls hP hz hS hl)
theorem j_dup (X : Cx p s m args meth c cc nL own D B) {v : Value} (d : decode cc pc = .ok (.dup, 1)) (hv : v.category = 1) (kk : J p l e R s m args below meth c D B nL Q cells slots z h L (v :: v :: rest) (pc + 1)) : J p l e R s m args below meth c D B nL Q cells slots z h L (v :: rest) pc :=
  fun H locs ls hP hz hS hl => lv_dup X.1 X.2.1 d hv (kk H locs ls hP hz hS hl)
theorem j_dup2 (X : Cx p s m args meth c cc nL own D B) {v w : Value} (d : decode cc pc = .ok (.dup2, 1)) (hv : v.category = 1) (hw : w.category = 1) (kk : J p l e R s m args below meth c D B nL Q cells slots z h L (v :: w :: v :: w :: rest) (pc + 1)) : J p l e R s m args below meth c D B nL Q cells slots z h L (v :: w :: rest) pc :=
  fun H locs ls hP hz hS hl => lv_dup2_11 X.1 X.2.1 d hv hw (kk H locs ls hP hz hS hl)
theorem j_pop (X : Cx p s m args meth c cc nL own D B) {v : Value} (d : decode cc pc = .ok (.pop, 1)) (hv : v.category = 1) (kk : J p l e R s m args below meth c D B nL Q cells slots z h L (rest) (pc + 1)) : J p l e R s m args below meth c D B nL Q cells slots z h L (v :: rest) pc :=
  fun H locs ls hP hz hS hl => lv_pop X.1 X.2.1 d hv (kk H locs ls hP hz hS hl)
theorem j_null (X : Cx p s m args meth c cc nL own D B)  (d : decode cc pc = .ok (.aconst_null, 1)) (kk : J p l e R s m args below meth c D B nL Q cells slots z h L (.null :: rest) (pc + 1)) : J p l e R s m args below meth c D B nL Q cells slots z h L (rest) pc :=
  fun H locs ls hP hz hS hl => lv_null X.1 X.2.1 d (kk H locs ls hP hz hS hl)
theorem j_iconst (X : Cx p s m args meth c cc nL own D B) {n : Int} {v : Int32} (d : decode cc pc = .ok (.iconst n, 1)) (hv : Int32.ofInt n = v) (kk : J p l e R s m args below meth c D B nL Q cells slots z h L (.int v :: rest) (pc + 1)) : J p l e R s m args below meth c D B nL Q cells slots z h L (rest) pc :=
  fun H locs ls hP hz hS hl => lv_iconst X.1 X.2.1 d hv (kk H locs ls hP hz hS hl)
theorem j_bipush (X : Cx p s m args meth c cc nL own D B) {n : Int} {v : Int32} (d : decode cc pc = .ok (.bipush n, 2)) (hv : (Int8.ofInt n).toInt32 = v) (kk : J p l e R s m args below meth c D B nL Q cells slots z h L (.int v :: rest) (pc + 2)) : J p l e R s m args below meth c D B nL Q cells slots z h L (rest) pc :=
  fun H locs ls hP hz hS hl => lv_bipush X.1 X.2.1 d hv (kk H locs ls hP hz hS hl)
theorem j_sipush (X : Cx p s m args meth c cc nL own D B) {n : Int} {v : Int32} (d : decode cc pc = .ok (.sipush n, 3)) (hv : (Int16.ofInt n).toInt32 = v) (kk : J p l e R s m args below meth c D B nL Q cells slots z h L (.int v :: rest) (pc + 3)) : J p l e R s m args below meth c D B nL Q cells slots z h L (rest) pc :=
  fun H locs ls hP hz hS hl => lv_sipush X.1 X.2.1 d hv (kk H locs ls hP hz hS hl)
theorem j_ldcw (X : Cx p s m args meth c cc nL own D B) {i : Nat} {v : Int32} (k : Cond.constant own i v ∈ gtbl) (d : decode cc pc = .ok (.ldc_w i, 3)) (kk : J p l e R s m args below meth c D B nL Q cells slots z h L (.int v :: rest) (pc + 3)) : J p l e R s m args below meth c D B nL Q cells slots z h L rest pc :=
  fun H locs ls hP hz hS hl => lv_ldcw X.1 X.2.1 X.2.2.2.1 (X.2.2.2.2.1 _ k) d (kk H locs ls hP hz hS hl)
theorem j_iload (X : Cx p s m args meth c cc nL own D B) (q : Nat) {i : Nat} {x : Int32} (d : decode cc pc = .ok (.iload i, 2)) (hq : L[q]? = some (i, .int x)) (kk : J p l e R s m args below meth c D B nL Q cells slots z h L (.int x :: rest) (pc + 2)) : J p l e R s m args below meth c D B nL Q cells slots z h L rest pc :=
  fun H locs ls hP hz hS hl => lv_iload X.1 X.2.1 d (lv_at hl q hq) (kk H locs ls hP hz hS hl)
theorem j_iload_n (X : Cx p s m args meth c cc nL own D B) (q : Nat) {i : Nat} {k : Fin 4} {x : Int32} (d : decode cc pc = .ok (.iload_n k, 1)) (hi : (k : Nat) = i) (hq : L[q]? = some (i, .int x)) (kk : J p l e R s m args below meth c D B nL Q cells slots z h L (.int x :: rest) (pc + 1)) : J p l e R s m args below meth c D B nL Q cells slots z h L rest pc :=
  fun H locs ls hP hz hS hl => lv_iload_n X.1 X.2.1 d hi (lv_at hl q hq) (kk H locs ls hP hz hS hl)
theorem j_aload (X : Cx p s m args meth c cc nL own D B) (q : Nat) {i : Nat} {x : Nat} (d : decode cc pc = .ok (.aload i, 2)) (hq : L[q]? = some (i, .ref x)) (kk : J p l e R s m args below meth c D B nL Q cells slots z h L (.ref x :: rest) (pc + 2)) : J p l e R s m args below meth c D B nL Q cells slots z h L rest pc :=
  fun H locs ls hP hz hS hl => lv_aload X.1 X.2.1 d (lv_at hl q hq) (kk H locs ls hP hz hS hl)
theorem j_aload_n (X : Cx p s m args meth c cc nL own D B) (q : Nat) {i : Nat} {k : Fin 4} {x : Nat} (d : decode cc pc = .ok (.aload_n k, 1)) (hi : (k : Nat) = i) (hq : L[q]? = some (i, .ref x)) (kk : J p l e R s m args below meth c D B nL Q cells slots z h L (.ref x :: rest) (pc + 1)) : J p l e R s m args below meth c D B nL Q cells slots z h L rest pc :=
  fun H locs ls hP hz hS hl => lv_aload_n X.1 X.2.1 d hi (lv_at hl q hq) (kk H locs ls hP hz hS hl)
theorem j_istore (X : Cx p s m args meth c cc nL own D B) {i : Nat} {x : Int32} (d : decode cc pc = .ok (.istore i, 2)) (hn : i < nL) (hl' : (i, Value.int x) :: L.filter (fun q => !(q.1 == i) && !(q.1 + 1 == i && q.2.category == 2)) = L') (kk : J p l e R s m args below meth c D B nL Q cells slots z h L' rest (pc + 2)) : J p l e R s m args below meth c D B nL Q cells slots z h L (.int x :: rest) pc :=
  fun H locs ls hP hz hS hl => lv_istore X.1 X.2.1 d hl hn hl' (fun ls2 h2 => kk H locs ls2 hP hz hS h2)
theorem j_istore_n (X : Cx p s m args meth c cc nL own D B) {i : Nat} {k : Fin 4} {x : Int32} (d : decode cc pc = .ok (.istore_n k, 1)) (hi : (k : Nat) = i) (hn : i < nL) (hl' : (i, Value.int x) :: L.filter (fun q => !(q.1 == i) && !(q.1 + 1 == i && q.2.category == 2)) = L') (kk : J p l e R s m args below meth c D B nL Q cells slots z h L' rest (pc + 1)) : J p l e R s m args below meth c D B nL Q cells slots z h L (.int x :: rest) pc :=
  fun H locs ls hP hz hS hl => lv_istore_n X.1 X.2.1 d hi hl hn hl' (fun ls2 h2 => kk H locs ls2 hP hz hS h2)
theorem j_astore (X : Cx p s m args meth c cc nL own D B) {i : Nat} {x : Nat} (d : decode cc pc = .ok (.astore i, 2)) (hn : i < nL) (hl' : (i, Value.ref x) :: L.filter (fun q => !(q.1 == i) && !(q.1 + 1 == i && q.2.category == 2)) = L') (kk : J p l e R s m args below meth c D B nL Q cells slots z h L' rest (pc + 2)) : J p l e R s m args below meth c D B nL Q cells slots z h L (.ref x :: rest) pc :=
  fun H locs ls hP hz hS hl => lv_astore X.1 X.2.1 d hl hn hl' (fun ls2 h2 => kk H locs ls2 hP hz hS h2)
theorem j_astore_n (X : Cx p s m args meth c cc nL own D B) {i : Nat} {k : Fin 4} {x : Nat} (d : decode cc pc = .ok (.astore_n k, 1)) (hi : (k : Nat) = i) (hn : i < nL) (hl' : (i, Value.ref x) :: L.filter (fun q => !(q.1 == i) && !(q.1 + 1 == i && q.2.category == 2)) = L') (kk : J p l e R s m args below meth c D B nL Q cells slots z h L' rest (pc + 1)) : J p l e R s m args below meth c D B nL Q cells slots z h L (.ref x :: rest) pc :=
  fun H locs ls hP hz hS hl => lv_astore_n X.1 X.2.1 d hi hl hn hl' (fun ls2 h2 => kk H locs ls2 hP hz hS h2)
theorem j_astoreN_n (X : Cx p s m args meth c cc nL own D B) {i : Nat} {k : Fin 4} (d : decode cc pc = .ok (.astore_n k, 1)) (hi : (k : Nat) = i) (hn : i < nL) (hl' : (i, Value.null) :: L.filter (fun q => !(q.1 == i) && !(q.1 + 1 == i && q.2.category == 2)) = L') (kk : J p l e R s m args below meth c D B nL Q cells slots z h L' rest (pc + 1)) : J p l e R s m args below meth c D B nL Q cells slots z h L (.null :: rest) pc :=
  fun H locs ls hP hz hS hl => lv_astore_nN X.1 X.2.1 d hi hl hn hl' (fun ls2 h2 => kk H locs ls2 hP hz hS h2)
theorem j_aloadN_n (X : Cx p s m args meth c cc nL own D B) (q : Nat) {i : Nat} {k : Fin 4} (d : decode cc pc = .ok (.aload_n k, 1)) (hi : (k : Nat) = i) (hq : L[q]? = some (i, .null)) (kk : J p l e R s m args below meth c D B nL Q cells slots z h L (.null :: rest) (pc + 1)) : J p l e R s m args below meth c D B nL Q cells slots z h L rest pc :=
  fun H locs ls hP hz hS hl => lv_aload_nN X.1 X.2.1 d hi (lv_at hl q hq) (kk H locs ls hP hz hS hl)
theorem j_iinc (X : Cx p s m args meth c cc nL own D B) (q : Nat) {i : Nat} {n : Int} {x v k : Int32} (d : decode cc pc = .ok (.iinc i n, 3)) (hq : L[q]? = some (i, .int x)) (hk : Int32.ofInt n = k) (hn : i < nL) (hv : x + k = v) (hl' : (i, Value.int v) :: L.filter (fun q => !(q.1 == i) && !(q.1 + 1 == i && q.2.category == 2)) = L') (kk : J p l e R s m args below meth c D B nL Q cells slots z h L' rest (pc + 3)) : J p l e R s m args below meth c D B nL Q cells slots z h L rest pc :=
  fun H locs ls hP hz hS hl => lv_iinc X.1 X.2.1 d hl hq (by rw [hk]; exact hv) hn hl' (fun ls2 h2 => kk H locs ls2 hP hz hS h2)
theorem j_top {x : Int32} (kk : ∀ v : Int32, v = x → J p l e R s m args below meth c D B nL Q cells slots z h L (.int v :: rest) pc) : J p l e R s m args below meth c D B nL Q cells slots z h L (.int x :: rest) pc := kk x rfl
theorem j_goto (X : Cx p s m args meth c cc nL own D B) {off : Int} {tgt : Nat} (d : decode cc pc = .ok (.goto off, 3)) (ht : (pc : Int) + off = (tgt : Int)) (kk : J p l e R s m args below meth c D B nL Q cells slots z h L rest tgt) : J p l e R s m args below meth c D B nL Q cells slots z h L rest pc :=
  fun H locs ls hP hz hS hl => lv_goto X.1 X.2.1 d ht (kk H locs ls hP hz hS hl)
theorem j_if_eq (X : Cx p s m args meth c cc nL own D B) {x : Int32} {off : Int} {tgt : Nat} (d : decode cc pc = .ok (.ifCond .eq off, 3)) (ht : (pc : Int) + off = (tgt : Int)) (kt : x = 0 → J p l e R s m args below meth c D B nL Q cells slots z h L rest tgt) (kf : ¬ x = 0 → J p l e R s m args below meth c D B nL Q cells slots z h L rest (pc + 3)) : J p l e R s m args below meth c D B nL Q cells slots z h L (.int x :: rest) pc := by
  intro H locs ls hP hz hS hl
  refine lv_if_eq X.1 X.2.1 d ht (fun c => ?_) (fun c => ?_)
  · exact (kt (by first | exact c | exact Int32.not_lt.mpr c | exact fun q => c q)) H locs ls hP hz hS hl
  · exact (kf (by first | exact c | exact Int32.not_le.mp c | exact Classical.not_not.mp c)) H locs ls hP hz hS hl
theorem j_if_ne (X : Cx p s m args meth c cc nL own D B) {x : Int32} {off : Int} {tgt : Nat} (d : decode cc pc = .ok (.ifCond .ne off, 3)) (ht : (pc : Int) + off = (tgt : Int)) (kt : ¬ x = 0 → J p l e R s m args below meth c D B nL Q cells slots z h L rest tgt) (kf : x = 0 → J p l e R s m args below meth c D B nL Q cells slots z h L rest (pc + 3)) : J p l e R s m args below meth c D B nL Q cells slots z h L (.int x :: rest) pc := by
  intro H locs ls hP hz hS hl
  refine lv_if_ne X.1 X.2.1 d ht (fun c => ?_) (fun c => ?_)
  · exact (kt (by first | exact c | exact Int32.not_lt.mpr c | exact fun q => c q)) H locs ls hP hz hS hl
  · exact (kf (by first | exact c | exact Int32.not_le.mp c | exact Classical.not_not.mp c)) H locs ls hP hz hS hl
theorem j_if_lt (X : Cx p s m args meth c cc nL own D B) {x : Int32} {off : Int} {tgt : Nat} (d : decode cc pc = .ok (.ifCond .lt off, 3)) (ht : (pc : Int) + off = (tgt : Int)) (kt : x < 0 → J p l e R s m args below meth c D B nL Q cells slots z h L rest tgt) (kf : ¬ x < 0 → J p l e R s m args below meth c D B nL Q cells slots z h L rest (pc + 3)) : J p l e R s m args below meth c D B nL Q cells slots z h L (.int x :: rest) pc := by
  intro H locs ls hP hz hS hl
  refine lv_if_lt X.1 X.2.1 d ht (fun c => ?_) (fun c => ?_)
  · exact (kt (by first | exact c | exact Int32.not_lt.mpr c | exact fun q => c q)) H locs ls hP hz hS hl
  · exact (kf (by first | exact c | exact Int32.not_le.mp c | exact Classical.not_not.mp c)) H locs ls hP hz hS hl
theorem j_if_ge (X : Cx p s m args meth c cc nL own D B) {x : Int32} {off : Int} {tgt : Nat} (d : decode cc pc = .ok (.ifCond .ge off, 3)) (ht : (pc : Int) + off = (tgt : Int)) (kt : ¬ x < 0 → J p l e R s m args below meth c D B nL Q cells slots z h L rest tgt) (kf : x < 0 → J p l e R s m args below meth c D B nL Q cells slots z h L rest (pc + 3)) : J p l e R s m args below meth c D B nL Q cells slots z h L (.int x :: rest) pc := by
  intro H locs ls hP hz hS hl
  refine lv_if_ge X.1 X.2.1 d ht (fun c => ?_) (fun c => ?_)
  · exact (kt (by first | exact c | exact Int32.not_lt.mpr c | exact fun q => c q)) H locs ls hP hz hS hl
  · exact (kf (by first | exact c | exact Int32.not_le.mp c | exact Classical.not_not.mp c)) H locs ls hP hz hS hl
theorem j_if_gt (X : Cx p s m args meth c cc nL own D B) {x : Int32} {off : Int} {tgt : Nat} (d : decode cc pc = .ok (.ifCond .gt off, 3)) (ht : (pc : Int) + off = (tgt : Int)) (kt : 0 < x → J p l e R s m args below meth c D B nL Q cells slots z h L rest tgt) (kf : ¬ 0 < x → J p l e R s m args below meth c D B nL Q cells slots z h L rest (pc + 3)) : J p l e R s m args below meth c D B nL Q cells slots z h L (.int x :: rest) pc := by
  intro H locs ls hP hz hS hl
  refine lv_if_gt X.1 X.2.1 d ht (fun c => ?_) (fun c => ?_)
  · exact (kt (by first | exact c | exact Int32.not_lt.mpr c | exact fun q => c q)) H locs ls hP hz hS hl
  · exact (kf (by first | exact c | exact Int32.not_le.mp c | exact Classical.not_not.mp c)) H locs ls hP hz hS hl
theorem j_if_le (X : Cx p s m args meth c cc nL own D B) {x : Int32} {off : Int} {tgt : Nat} (d : decode cc pc = .ok (.ifCond .le off, 3)) (ht : (pc : Int) + off = (tgt : Int)) (kt : ¬ 0 < x → J p l e R s m args below meth c D B nL Q cells slots z h L rest tgt) (kf : 0 < x → J p l e R s m args below meth c D B nL Q cells slots z h L rest (pc + 3)) : J p l e R s m args below meth c D B nL Q cells slots z h L (.int x :: rest) pc := by
  intro H locs ls hP hz hS hl
  refine lv_if_le X.1 X.2.1 d ht (fun c => ?_) (fun c => ?_)
  · exact (kt (by first | exact c | exact Int32.not_lt.mpr c | exact fun q => c q)) H locs ls hP hz hS hl
  · exact (kf (by first | exact c | exact Int32.not_le.mp c | exact Classical.not_not.mp c)) H locs ls hP hz hS hl
theorem j_icmp_eq (X : Cx p s m args meth c cc nL own D B) {x y : Int32} {off : Int} {tgt : Nat} (d : decode cc pc = .ok (.if_icmp .eq off, 3)) (ht : (pc : Int) + off = (tgt : Int)) (kt : x = y → J p l e R s m args below meth c D B nL Q cells slots z h L rest tgt) (kf : ¬ x = y → J p l e R s m args below meth c D B nL Q cells slots z h L rest (pc + 3)) : J p l e R s m args below meth c D B nL Q cells slots z h L (.int y :: .int x :: rest) pc := by
  intro H locs ls hP hz hS hl
  refine lv_icmp_eq X.1 X.2.1 d ht (fun c => ?_) (fun c => ?_)
  · exact (kt (by first | exact c | exact Int32.not_lt.mpr c | exact fun q => c q)) H locs ls hP hz hS hl
  · exact (kf (by first | exact c | exact Int32.not_le.mp c | exact Classical.not_not.mp c)) H locs ls hP hz hS hl
theorem j_icmp_ne (X : Cx p s m args meth c cc nL own D B) {x y : Int32} {off : Int} {tgt : Nat} (d : decode cc pc = .ok (.if_icmp .ne off, 3)) (ht : (pc : Int) + off = (tgt : Int)) (kt : ¬ x = y → J p l e R s m args below meth c D B nL Q cells slots z h L rest tgt) (kf : x = y → J p l e R s m args below meth c D B nL Q cells slots z h L rest (pc + 3)) : J p l e R s m args below meth c D B nL Q cells slots z h L (.int y :: .int x :: rest) pc := by
  intro H locs ls hP hz hS hl
  refine lv_icmp_ne X.1 X.2.1 d ht (fun c => ?_) (fun c => ?_)
  · exact (kt (by first | exact c | exact Int32.not_lt.mpr c | exact fun q => c q)) H locs ls hP hz hS hl
  · exact (kf (by first | exact c | exact Int32.not_le.mp c | exact Classical.not_not.mp c)) H locs ls hP hz hS hl
theorem j_icmp_lt (X : Cx p s m args meth c cc nL own D B) {x y : Int32} {off : Int} {tgt : Nat} (d : decode cc pc = .ok (.if_icmp .lt off, 3)) (ht : (pc : Int) + off = (tgt : Int)) (kt : x < y → J p l e R s m args below meth c D B nL Q cells slots z h L rest tgt) (kf : ¬ x < y → J p l e R s m args below meth c D B nL Q cells slots z h L rest (pc + 3)) : J p l e R s m args below meth c D B nL Q cells slots z h L (.int y :: .int x :: rest) pc := by
  intro H locs ls hP hz hS hl
  refine lv_icmp_lt X.1 X.2.1 d ht (fun c => ?_) (fun c => ?_)
  · exact (kt (by first | exact c | exact Int32.not_lt.mpr c | exact fun q => c q)) H locs ls hP hz hS hl
  · exact (kf (by first | exact c | exact Int32.not_le.mp c | exact Classical.not_not.mp c)) H locs ls hP hz hS hl
theorem j_icmp_ge (X : Cx p s m args meth c cc nL own D B) {x y : Int32} {off : Int} {tgt : Nat} (d : decode cc pc = .ok (.if_icmp .ge off, 3)) (ht : (pc : Int) + off = (tgt : Int)) (kt : ¬ x < y → J p l e R s m args below meth c D B nL Q cells slots z h L rest tgt) (kf : x < y → J p l e R s m args below meth c D B nL Q cells slots z h L rest (pc + 3)) : J p l e R s m args below meth c D B nL Q cells slots z h L (.int y :: .int x :: rest) pc := by
  intro H locs ls hP hz hS hl
  refine lv_icmp_ge X.1 X.2.1 d ht (fun c => ?_) (fun c => ?_)
  · exact (kt (by first | exact c | exact Int32.not_lt.mpr c | exact fun q => c q)) H locs ls hP hz hS hl
  · exact (kf (by first | exact c | exact Int32.not_le.mp c | exact Classical.not_not.mp c)) H locs ls hP hz hS hl
theorem j_icmp_gt (X : Cx p s m args meth c cc nL own D B) {x y : Int32} {off : Int} {tgt : Nat} (d : decode cc pc = .ok (.if_icmp .gt off, 3)) (ht : (pc : Int) + off = (tgt : Int)) (kt : y < x → J p l e R s m args below meth c D B nL Q cells slots z h L rest tgt) (kf : ¬ y < x → J p l e R s m args below meth c D B nL Q cells slots z h L rest (pc + 3)) : J p l e R s m args below meth c D B nL Q cells slots z h L (.int y :: .int x :: rest) pc := by
  intro H locs ls hP hz hS hl
  refine lv_icmp_gt X.1 X.2.1 d ht (fun c => ?_) (fun c => ?_)
  · exact (kt (by first | exact c | exact Int32.not_lt.mpr c | exact fun q => c q)) H locs ls hP hz hS hl
  · exact (kf (by first | exact c | exact Int32.not_le.mp c | exact Classical.not_not.mp c)) H locs ls hP hz hS hl
theorem j_icmp_le (X : Cx p s m args meth c cc nL own D B) {x y : Int32} {off : Int} {tgt : Nat} (d : decode cc pc = .ok (.if_icmp .le off, 3)) (ht : (pc : Int) + off = (tgt : Int)) (kt : ¬ y < x → J p l e R s m args below meth c D B nL Q cells slots z h L rest tgt) (kf : y < x → J p l e R s m args below meth c D B nL Q cells slots z h L rest (pc + 3)) : J p l e R s m args below meth c D B nL Q cells slots z h L (.int y :: .int x :: rest) pc := by
  intro H locs ls hP hz hS hl
  refine lv_icmp_le X.1 X.2.1 d ht (fun c => ?_) (fun c => ?_)
  · exact (kt (by first | exact c | exact Int32.not_lt.mpr c | exact fun q => c q)) H locs ls hP hz hS hl
  · exact (kf (by first | exact c | exact Int32.not_le.mp c | exact Classical.not_not.mp c)) H locs ls hP hz hS hl
theorem j_ifnonnull (X : Cx p s m args meth c cc nL own D B) {x : Nat} {off : Int} {tgt : Nat} (d : decode cc pc = .ok (.ifnonnull off, 3)) (ht : (pc : Int) + off = (tgt : Int)) (kk : J p l e R s m args below meth c D B nL Q cells slots z h L rest tgt) : J p l e R s m args below meth c D B nL Q cells slots z h L (.ref x :: rest) pc :=
  fun H locs ls hP hz hS hl => lv_ifnonnull X.1 X.2.1 d ht (kk H locs ls hP hz hS hl)
theorem j_ifnonnullN (X : Cx p s m args meth c cc nL own D B) {off : Int} (d : decode cc pc = .ok (.ifnonnull off, 3)) (kk : J p l e R s m args below meth c D B nL Q cells slots z h L rest (pc + 3)) : J p l e R s m args below meth c D B nL Q cells slots z h L (.null :: rest) pc :=
  fun H locs ls hP hz hS hl => lv_ifnonnullN X.1 X.2.1 d (kk H locs ls hP hz hS hl)
theorem j_tableIn (X : Cx p s m args meth c cc nL own D B) {dflt lo hi : Int} {offs : Array Int} {len : Nat} {x : Int32} {off : Int} {tgt : Nat} (d : decode cc pc = .ok (.tableswitch dflt lo hi offs, len)) (h1 : ¬ x.toInt < lo) (h2 : ¬ hi < x.toInt) (ho : offs[(x.toInt - lo).toNat]? = some off) (ht : (pc : Int) + off = (tgt : Int)) (kk : J p l e R s m args below meth c D B nL Q cells slots z h L rest tgt) : J p l e R s m args below meth c D B nL Q cells slots z h L (.int x :: rest) pc :=
  fun H locs ls hP hz hS hl => lv_tableIn X.1 X.2.1 d h1 h2 ho ht (kk H locs ls hP hz hS hl)
theorem j_tableOut (X : Cx p s m args meth c cc nL own D B) {dflt lo hi : Int} {offs : Array Int} {len : Nat} {x : Int32} {tgt : Nat} (d : decode cc pc = .ok (.tableswitch dflt lo hi offs, len)) (h0 : x.toInt < lo ∨ hi < x.toInt) (ht : (pc : Int) + dflt = (tgt : Int)) (kk : J p l e R s m args below meth c D B nL Q cells slots z h L rest tgt) : J p l e R s m args below meth c D B nL Q cells slots z h L (.int x :: rest) pc :=
  fun H locs ls hP hz hS hl => lv_tableOut X.1 X.2.1 d h0 ht (kk H locs ls hP hz hS hl)
theorem j_mmax (X : Cx p s m args meth c cc nL own D B) {i : Nat} {x y : Int32} (kM : Cond.methodLink own i Lib.Math.max.name ∈ gtbl) (hR : 1 ≤ R.frames ∧ (rest.map fun v => v.category).sum + 13 ≤ R.locals ∧ cells ≤ R.cells ∧ slots ≤ R.slots) (d : decode cc pc = .ok (.invokestatic i, 3)) (kk : J p l e R s m args below meth c D B nL Q cells slots z h L (.int (if x < y then y else x) :: rest) (pc + 3)) : J p l e R s m args below meth c D B nL Q cells slots z h L (.int y :: .int x :: rest) pc :=
  fun H locs ls hP hz hS hl => va_mmax X.1 X.2.1 (X.2.2.1.trans hl.1.symm) X.2.2.2.1 (X.2.2.2.2.1 _ kM) (X.2.2.2.2.1 _ kT_mmax) (X.2.2.2.2.1 _ kI_RJ9) (X.2.2.2.2.1 _ kC_mmax) hR.1 hR.2.1 hR.2.2.1 hR.2.2.2 d (kk H locs ls hP hz hS hl)
theorem j_mmin (X : Cx p s m args meth c cc nL own D B) {i : Nat} {x y : Int32} (kM : Cond.methodLink own i Lib.Math.min.name ∈ gtbl) (hR : 1 ≤ R.frames ∧ (rest.map fun v => v.category).sum + 13 ≤ R.locals ∧ cells ≤ R.cells ∧ slots ≤ R.slots) (d : decode cc pc = .ok (.invokestatic i, 3)) (kk : J p l e R s m args below meth c D B nL Q cells slots z h L (.int (if y < x then y else x) :: rest) (pc + 3)) : J p l e R s m args below meth c D B nL Q cells slots z h L (.int y :: .int x :: rest) pc :=
  fun H locs ls hP hz hS hl => va_mmin X.1 X.2.1 (X.2.2.1.trans hl.1.symm) X.2.2.2.1 (X.2.2.2.2.1 _ kM) (X.2.2.2.2.1 _ kT_mmin) (X.2.2.2.2.1 _ kI_RJ9) (X.2.2.2.2.1 _ kC_mmin) hR.1 hR.2.1 hR.2.2.1 hR.2.2.2 d (kk H locs ls hP hz hS hl)
end JR
end
section
/-- a field of ours, as one method's class file links it: the class's number ci, the field's place k -/
def FG (own : String) (i ci k : Nat) : Prop := ∃ (C : String) (T : u_T) (N : Nat), vwCl[ci]? = some (C, T, N) ∧ (∀ w ∈ u_ws C T N, w ∈ gtbl) ∧ k < N ∧ Cond.fieldLink own i (T k).1 (T k).2.1 (T k).2.2.1 ∈ gtbl
def FN (own : String) (i ci k : Nat) : Prop := ∃ (C : String) (T : u_T) (N : Nat), vwCl[ci]? = some (C, T, N) ∧ (∀ w ∈ u_ws C T N, w ∈ gtbl) ∧ k < N ∧ (own, i, (T k).1, (T k).2.1, (T k).2.2.1, "LearningRepeater") ∈ nestF
/-- what a field's class says of a store -/
def FW (ci k : Nat) (ty : FieldType) : Prop := ∃ (C : String) (T : u_T) (N : Nat) (t0 : Nat → FieldType), vwCl[ci]? = some (C, T, N) ∧ (∀ a, a < N → parseFieldDescriptor (T a).2.2.1 = some (t0 a)) ∧ (∀ a, a < N → ∀ b, b < N → a ≠ b → (T a).2.1 ≠ (T b).2.1) ∧ (T k).2.2.2 = false ∧ parseFieldDescriptor (T k).2.2.1 = some ty
def FF (own : String) (ci k : Nat) (ty : FieldType) : Prop := ∃ (C : String) (T : u_T) (N : Nat) (t0 : Nat → FieldType), vwCl[ci]? = some (C, T, N) ∧ (∀ a, a < N → parseFieldDescriptor (T a).2.2.1 = some (t0 a)) ∧ (∀ a, a < N → ∀ b, b < N → a ≠ b → (T a).2.1 ≠ (T b).2.1) ∧ (T k).2.2.2 = true ∧ parseFieldDescriptor (T k).2.2.1 = some ty ∧ (T k).1 = own
section JH
variable {p : Program} {l : Launch} {e : Env} {R : Room} {s : State} {m : MethodId} {args : Array Value} {below : List Frame} {meth : Method} {c : Code} {cc : ByteArray} {nL : Nat} {own : String} {D : DD} {B : Nat} {Q : State → Prop} {cells slots z : Nat} {h : HF} {L L' : List (Nat × Value)} {st rest : List Value} {pc : Nat}
theorem HP.one {G : va_G} {H : Heap} {a : Nat} {x : va_E} (hP : HP G B h H) (he : h a = some x) : va_P G vwCl [(a, x)] H := fun k q hq => by
  have hk : k < 1 := (List.getElem?_eq_some_iff.mp hq).1
  rw [show k = 0 by omega] at hq
  cases hq
  exact (hP a x he).2
theorem j_get (X : Cx p s m args meth c cc nL own D B) {i ci k a : Nat} {x : va_E} {fs : List Value} {v : Value} (F : FG own i ci k) (he : h a = some x) (hi : x = .inr (ci, fs)) (hv : fs[k]? = some v) (d : decode cc pc = .ok (.getfield i, 3))
    (kk : J p l e R s m args below meth c D B nL Q cells slots z h L (v :: rest) (pc + 3)) : J p l e R s m args below meth c D B nL Q cells slots z h L (.ref a :: rest) pc := by
  obtain ⟨C, T, N, hc, hin, hk, hlk⟩ := F
  subst hi
  exact fun H locs ls hP hz hS hl => va_get X.1 X.2.1 X.2.2.2.2.1 hin X.2.2.2.1 X.2.2.2.2.2.1 (hP.one he) 0 rfl hc k hk (X.2.2.2.2.1 _ hlk) (fun _ q => q) hv d (kk H locs ls hP hz hS hl)
theorem j_getN (X : Cx p s m args meth c cc nL own D B) {i ci k a : Nat} {x : va_E} {fs : List Value} {v : Value} (F : FN own i ci k) (he : h a = some x) (hi : x = .inr (ci, fs)) (hv : fs[k]? = some v) (d : decode cc pc = .ok (.getfield i, 3))
    (kk : J p l e R s m args below meth c D B nL Q cells slots z h L (v :: rest) (pc + 3)) : J p l e R s m args below meth c D B nL Q cells slots z h L (.ref a :: rest) pc := by
  obtain ⟨C, T, N, hc, hin, hk, hlk⟩ := F
  subst hi
  exact fun H locs ls hP hz hS hl => va_getN X.1 X.2.1 X.2.2.2.2.1 hin X.2.2.2.1 X.2.2.2.2.2.1 (hP.one he) 0 rfl hc k hk (va_Nw.use rfl (X.2.2.2.2.2.2.1.1 _ hlk)) (fun _ q => q) hv d (kk H locs ls hP hz hS hl)
set_option maxHeartbeats 1000000 in
theorem j_put (X : Cx p s m args meth c cc nL own D B) {i ci k a : Nat} {x : va_E} {fs : List Value} {ty : FieldType} {v : Value} (F : FG own i ci k) (G : FW ci k ty) (he : h a = some x) (hi : x = .inr (ci, fs)) (hn : narrow ty v = v) (hfit : fits ty v = true) (hlen : k < fs.length) (d : decode cc pc = .ok (.putfield i, 3))
    (kk : J p l e R s m args below meth c D B nL Q cells slots z (hupd h a (.inr (ci, fs.set k v))) L rest (pc + 3)) : J p l e R s m args below meth c D B nL Q cells slots z h L (v :: .ref a :: rest) pc := by
  obtain ⟨C, T, N, hc, hin, hk, hlk⟩ := F
  obtain ⟨C', T', N', t0, hc', hty, hnm, hfin, hd⟩ := G
  have hCC := Option.some.inj (hc.symm.trans hc')
  cases hCC
  subst hi
  intro H locs ls hP hz hS hl
  have hap := va_apart (own := own) X.2.2.2.2.1 hin t0 hty hnm X.2.2.2.2.2.1 hc
  obtain ⟨hB, r, h1, cell, q1, q2, q3, q4⟩ := hP a _ he
  have hr : r = (C, T, N) := Option.some.inj (h1.symm.trans hc)
  subst hr
  obtain ⟨hSl, hfc, kC, hkC, hkind⟩ := X.2.2.2.2.2.1.1 ci _ hc
  obtain ⟨cf, kf, fi, f, hfi, hsl⟩ := hSl k hk
  have hlay := X.2.2.2.2.1 _ (hin _ (u_in_lay hk))
  unfold u_lay at hlay
  rw [if_neg (by rw [hfin]; decide)] at hlay
  have hst := (u_facts hfc hkC (u_lays X.2.2.2.2.1 hin hk) hfi).1
  have h6 := u_store hfc hkC hkind hlay hfi hd hn hfit
  refine W.putK X.1 X.2.1 (f := f) ⟨X.2.2.2.1, X.2.2.2.2.1 _ hlk, ⟨_, _, _, hfi⟩, hst⟩ (by rw [q2]; exact h6) q1 q3 (by rw [hsl]; exact k2_hasslot (q4 k hk)) rfl rfl d fun H' e1 e2 e3 => ?_
  rw [hsl] at e1 ⊢
  exact kk H' _ ls (hP.put hB ⟨_, hc, t_OB.to (V := updV (vp_V fs) k v) ⟨_, e1, q2, q3, t_set q4 hap hk v⟩ (fun j _ => vp_updV_set hlen v j)⟩ e3) (e2.trans hz) (hS.put e2 e3 hB) hl
set_option maxHeartbeats 1000000 in
theorem j_putN (X : Cx p s m args meth c cc nL own D B) {i ci k a : Nat} {x : va_E} {fs : List Value} {ty : FieldType} {v : Value} (F : FN own i ci k) (G : FW ci k ty) (he : h a = some x) (hi : x = .inr (ci, fs)) (hn : narrow ty v = v) (hfit : fits ty v = true) (hlen : k < fs.length) (d : decode cc pc = .ok (.putfield i, 3))
    (kk : J p l e R s m args below meth c D B nL Q cells slots z (hupd h a (.inr (ci, fs.set k v))) L rest (pc + 3)) : J p l e R s m args below meth c D B nL Q cells slots z h L (v :: .ref a :: rest) pc := by
  obtain ⟨C, T, N, hc, hin, hk, hlk⟩ := F
  obtain ⟨C', T', N', t0, hc', hty, hnm, hfin, hd⟩ := G
  have hCC := Option.some.inj (hc.symm.trans hc')
  cases hCC
  subst hi
  intro H locs ls hP hz hS hl
  have hap := va_apart (own := own) X.2.2.2.2.1 hin t0 hty hnm X.2.2.2.2.2.1 hc
  obtain ⟨hB, r, h1, cell, q1, q2, q3, q4⟩ := hP a _ he
  have hr : r = (C, T, N) := Option.some.inj (h1.symm.trans hc)
  subst hr
  obtain ⟨hSl, hfc, kC, hkC, hkind⟩ := X.2.2.2.2.2.1.1 ci _ hc
  obtain ⟨cf, kf, fi, f, hfi, hsl⟩ := hSl k hk
  have hlay := X.2.2.2.2.1 _ (hin _ (u_in_lay hk))
  unfold u_lay at hlay
  rw [if_neg (by rw [hfin]; decide)] at hlay
  have hst := (u_facts hfc hkC (u_lays X.2.2.2.2.1 hin hk) hfi).1
  have h6 := u_store hfc hkC hkind hlay hfi hd hn hfit
  refine va_WputK X.1 X.2.1 (f := f) X.2.2.2.1 (va_Nw.use rfl (X.2.2.2.2.2.2.1.1 _ hlk)) hfi hst (by rw [q2]; exact h6) q1 q3 (by rw [hsl]; exact k2_hasslot (q4 k hk)) rfl rfl d fun H' e1 e2 e3 => ?_
  rw [hsl] at e1 ⊢
  exact kk H' _ ls (hP.put hB ⟨_, hc, t_OB.to (V := updV (vp_V fs) k v) ⟨_, e1, q2, q3, t_set q4 hap hk v⟩ (fun j _ => vp_updV_set hlen v j)⟩ e3) (e2.trans hz) (hS.put e2 e3 hB) hl
set_option maxHeartbeats 1000000 in
theorem j_putF (X : Cx p s m args meth c cc nL own D B) (hin2 : meth.name = "<init>") {i ci k a : Nat} {x : va_E} {fs : List Value} {ty : FieldType} {v : Value} (F : FG own i ci k) (G : FF own ci k ty) (he : h a = some x) (hi : x = .inr (ci, fs)) (hn : narrow ty v = v) (hfit : fits ty v = true) (hlen : k < fs.length) (d : decode cc pc = .ok (.putfield i, 3))
    (kk : J p l e R s m args below meth c D B nL Q cells slots z (hupd h a (.inr (ci, fs.set k v))) L rest (pc + 3)) : J p l e R s m args below meth c D B nL Q cells slots z h L (v :: .ref a :: rest) pc := by
  obtain ⟨C, T, N, hc, hin, hk, hlk⟩ := F
  obtain ⟨C', T', N', t0, hc', hty, hnm, hfin, hd, hdecl⟩ := G
  have hCC := Option.some.inj (hc.symm.trans hc')
  cases hCC
  subst hi
  intro H locs ls hP hz hS hl
  have hap := va_apart (own := own) X.2.2.2.2.1 hin t0 hty hnm X.2.2.2.2.2.1 hc
  obtain ⟨hB, r, h1, cell, q1, q2, q3, q4⟩ := hP a _ he
  have hr : r = (C, T, N) := Option.some.inj (h1.symm.trans hc)
  subst hr
  obtain ⟨hSl, hfc, kC, hkC, hkind⟩ := X.2.2.2.2.2.1.1 ci _ hc
  obtain ⟨cf, kf, fi, f, hfi, hsl⟩ := hSl k hk
  have hlay := X.2.2.2.2.1 _ (hin _ (u_in_lay hk))
  unfold u_lay at hlay
  rw [if_pos hfin] at hlay
  have hst := (u_facts hfc hkC (u_lays X.2.2.2.2.1 hin hk) hfi).1
  have hcf : m.cls = cf := by
    obtain ⟨_, _, c', _, _, _, -, -, hf', -, -, -, hown2, -⟩ := Cond.laysFinal_spec hlay
    have e1 : c' = cf := by have := hfi.symm.trans hf'; simp at this; exact this.1.symm
    rw [hdecl] at hown2
    rw [← e1]; exact Option.some.inj (X.2.2.2.1.symm.trans hown2)
  have h6 := u_fits hfc hkC hkind (Or.inr hlay) hfi hd hn hfit
  refine W.putFinK X.1 X.2.1 X.2.2.2.1 (X.2.2.2.2.1 _ hlk) hfi hst hcf hin2 (by rw [q2]; exact h6) q1 q3 (by rw [hsl]; exact k2_hasslot (q4 k hk)) rfl rfl d fun H' e1 e2 e3 => ?_
  rw [hsl] at e1 ⊢
  exact kk H' _ ls (hP.put hB ⟨_, hc, t_OB.to (V := updV (vp_V fs) k v) ⟨_, e1, q2, q3, t_set q4 hap hk v⟩ (fun j _ => vp_updV_set hlen v j)⟩ e3) (e2.trans hz) (hS.put e2 e3 hB) hl
theorem j_iald (X : Cx p s m args meth c cc nL own D B) {a n : Nat} {x : va_E} {f : Nat → Int32} {i : Int32} (he : h a = some x) (hi : x = .inl (D.2.1.1, (n, .inl f))) (hin : vp_in i n) (d : decode cc pc = .ok (.iaload, 1))
    (kk : J p l e R s m args below meth c D B nL Q cells slots z h L (.int (f i.toNatClampNeg) :: rest) (pc + 1)) : J p l e R s m args below meth c D B nL Q cells slots z h L (.int i :: .ref a :: rest) pc := by
  subst hi
  exact fun H locs ls hP hz hS hl => va_iald X.1 X.2.1 X.2.2.2.2.2.1 (hP.one he) 0 0 rfl rfl hin d (kk H locs ls hP hz hS hl)
theorem j_cald (X : Cx p s m args meth c cc nL own D B) {a n : Nat} {x : va_E} {f : Nat → Int32} {i : Int32} (he : h a = some x) (hi : x = .inl (D.2.1.2.1, (n, .inl f))) (hin : vp_in i n) (d : decode cc pc = .ok (.caload, 1))
    (kk : J p l e R s m args below meth c D B nL Q cells slots z h L (.int (f i.toNatClampNeg) :: rest) (pc + 1)) : J p l e R s m args below meth c D B nL Q cells slots z h L (.int i :: .ref a :: rest) pc := by
  subst hi
  exact fun H locs ls hP hz hS hl => va_cald X.1 X.2.1 X.2.2.2.2.2.1 (hP.one he) 0 1 rfl rfl hin d (kk H locs ls hP hz hS hl)
theorem j_aald (X : Cx p s m args meth c cc nL own D B) {a n : Nat} {x : va_E} {f : Nat → Option Nat} {i : Int32} (he : h a = some x) (hi : x = .inl (D.2.1.2.2, (n, .inr (.inr (.inr (.inr f)))))) (hin : vp_in i n) (d : decode cc pc = .ok (.aaload, 1))
    (kk : J p l e R s m args below meth c D B nL Q cells slots z h L (va_rf (f i.toNatClampNeg) :: rest) (pc + 1)) : J p l e R s m args below meth c D B nL Q cells slots z h L (.int i :: .ref a :: rest) pc := by
  subst hi
  exact fun H locs ls hP hz hS hl => va_aldq X.1 X.2.1 X.2.2.2.2.2.1 (hP.one he) 0 2 rfl rfl hin d (kk H locs ls hP hz hS hl)
theorem j_iast (X : Cx p s m args meth c cc nL own D B) {a n : Nat} {x : va_E} {f : Nat → Int32} {i v : Int32} (he : h a = some x) (hi : x = .inl (D.2.1.1, (n, .inl f))) (hin : vp_in i n) (d : decode cc pc = .ok (.iastore, 1))
    (kk : J p l e R s m args below meth c D B nL Q cells slots z (hupd h a (.inl (D.2.1.1, (n, .inl (upd f i.toNatClampNeg v))))) L rest (pc + 1)) : J p l e R s m args below meth c D B nL Q cells slots z h L (.int v :: .int i :: .ref a :: rest) pc := by
  subst hi
  intro H locs ls hP hz hS hl
  refine W.iast X.1 X.2.1 (hP a _ he).2 ((X.2.2.2.2.2.1.2 0 _ rfl).1 n (fun j => .int (f j))) (fun q => by cases q) (by show ¬ (i < 0 ∨ (arrV _ _ _).slots.size ≤ _); rw [arrV_size]; exact hin) rfl rfl d fun H1 e1 e2 e3 => ?_
  refine kk H1 _ ls (hP.put (hP a _ he).1 ?_ e3) (e2.trans hz) (hS.put e2 e3 (hP a _ he).1) hl
  show H1[a]? = some (vp_cell _ _)
  rw [e1]
  rw [vp_cell_i, vp_cell_i, arrV_store]
  congr 2
  funext q
  by_cases hq : q = i.toNatClampNeg
  · subst hq
    simp [updV, upd]
  · simp [updV, upd, hq]
theorem j_cast (X : Cx p s m args meth c cc nL own D B) {a n : Nat} {x : va_E} {f : Nat → Int32} {i v : Int32} (he : h a = some x) (hi : x = .inl (D.2.1.2.1, (n, .inl f))) (hin : vp_in i n) (d : decode cc pc = .ok (.castore, 1))
    (kk : J p l e R s m args below meth c D B nL Q cells slots z (hupd h a (.inl (D.2.1.2.1, (n, .inl (upd f i.toNatClampNeg (vp_nar .char v)))))) L rest (pc + 1)) : J p l e R s m args below meth c D B nL Q cells slots z h L (.int v :: .int i :: .ref a :: rest) pc := by
  subst hi
  intro H locs ls hP hz hS hl
  refine W.cast X.1 X.2.1 (hP a _ he).2 ((X.2.2.2.2.2.1.2 1 _ rfl).1 n (fun j => .int (f j))) (fun q => by cases q) (by show ¬ (i < 0 ∨ (arrV _ _ _).slots.size ≤ _); rw [arrV_size]; exact hin) rfl rfl d fun H1 e1 e2 e3 => ?_
  refine kk H1 _ ls (hP.put (hP a _ he).1 ?_ e3) (e2.trans hz) (hS.put e2 e3 (hP a _ he).1) hl
  show H1[a]? = some (vp_cell _ _)
  rw [e1]
  rw [vp_cell_i, vp_cell_i, arrV_store]
  congr 2
  funext q
  by_cases hq : q = i.toNatClampNeg
  · subst hq
    simp [updV, upd, vp_nar]
    try rfl
  · simp [updV, upd, hq]
theorem j_alen (X : Cx p s m args meth c cc nL own D B) {a : Nat} {x : va_E} {k : Nat} {y : vp_A} {v : Int32} {q : ClassId × FieldType} (hk : (tysD D)[k]? = some q) (he : h a = some x) (hi : x = .inl (q.1, y)) (hv : Int32.ofNat y.1 = v) (d : decode cc pc = .ok (.arraylength, 1))
    (kk : J p l e R s m args below meth c D B nL Q cells slots z h L (.int v :: rest) (pc + 1)) : J p l e R s m args below meth c D B nL Q cells slots z h L (.ref a :: rest) pc := by
  subst hi
  exact fun H locs ls hP hz hS hl => va_alen X.1 X.2.1 X.2.2.2.2.2.1 (hP.one he) 0 k rfl hk hv d (kk H locs ls hP hz hS hl)
/-- the two tables of settings, which nobody writes -/
theorem j_getG (X : Cx p s m args meth c cc nL own D B) {i : Nat} (hlk : Cond.fieldLink own i "LearningRepeater" "GREATEST_SETTINGS" "[I" ∈ gtbl) (d : decode cc pc = .ok (.getstatic i, 3))
    (kk : J p l e R s m args below meth c D B nL Q cells slots z h L (.ref D.2.2.2 :: rest) (pc + 3)) : J p l e R s m args below meth c D B nL Q cells slots z h L rest pc :=
  fun H locs ls hP hz hS hl => va_gets X.1 X.2.1 X.2.2.2.2.2.2.2.1.2.1 hS X.2.2.2.1 (X.2.2.2.2.1 _ hlk) (fun _ q => q) d (kk H locs ls hP hz hS hl)
theorem j_getF (X : Cx p s m args meth c cc nL own D B) {i : Nat} (hlk : (own, i, "LearningRepeater", "FIRST_SETTINGS", "[I", "LearningRepeater") ∈ nestF) (d : decode cc pc = .ok (.getstatic i, 3))
    (kk : J p l e R s m args below meth c D B nL Q cells slots z h L (.ref D.2.2.1 :: rest) (pc + 3)) : J p l e R s m args below meth c D B nL Q cells slots z h L rest pc :=
  fun H locs ls hP hz hS hl => va_getsN X.1 X.2.1 X.2.2.2.2.2.2.2.1.1.1 hS X.2.2.2.1 (va_Nw.use rfl (X.2.2.2.2.2.2.1.1 _ hlk)) (fun _ q => q) d (kk H locs ls hP hz hS hl)
theorem j_ldG (X : Cx p s m args meth c cc nL own D B) {i : Int32} (hin : vp_in i 4) (d : decode cc pc = .ok (.iaload, 1))
    (kk : J p l e R s m args below meth c D B nL Q cells slots z h L (.int (fsG i.toNatClampNeg) :: rest) (pc + 1)) : J p l e R s m args below meth c D B nL Q cells slots z h L (.int i :: .ref D.2.2.2 :: rest) pc :=
  fun H locs ls hP hz hS hl => va_ti X.1 X.2.1 X.2.2.2.2.2.2.2.1.2.2 hS hin rfl d (kk H locs ls hP hz hS hl)
theorem j_ldF (X : Cx p s m args meth c cc nL own D B) {i : Int32} (hin : vp_in i 4) (d : decode cc pc = .ok (.iaload, 1))
    (kk : J p l e R s m args below meth c D B nL Q cells slots z h L (.int (fsF i.toNatClampNeg) :: rest) (pc + 1)) : J p l e R s m args below meth c D B nL Q cells slots z h L (.int i :: .ref D.2.2.1 :: rest) pc :=
  fun H locs ls hP hz hS hl => va_ti X.1 X.2.1 X.2.2.2.2.2.2.2.1.1.2 hS hin rfl d (kk H locs ls hP hz hS hl)
theorem j_lenG (X : Cx p s m args meth c cc nL own D B) (d : decode cc pc = .ok (.arraylength, 1))
    (kk : J p l e R s m args below meth c D B nL Q cells slots z h L (.int 4 :: rest) (pc + 1)) : J p l e R s m args below meth c D B nL Q cells slots z h L (.ref D.2.2.2 :: rest) pc :=
  fun H locs ls hP hz hS hl => va_tlen X.1 X.2.1 X.2.2.2.2.2.2.2.1.2.2 hS rfl d (kk H locs ls hP hz hS hl)
theorem j_lenF (X : Cx p s m args meth c cc nL own D B) (d : decode cc pc = .ok (.arraylength, 1))
    (kk : J p l e R s m args below meth c D B nL Q cells slots z h L (.int 4 :: rest) (pc + 1)) : J p l e R s m args below meth c D B nL Q cells slots z h L (.ref D.2.2.1 :: rest) pc :=
  fun H locs ls hP hz hS hl => va_tlen X.1 X.2.1 X.2.2.2.2.2.2.2.1.1.2 hS rfl d (kk H locs ls hP hz hS hl)
end JH
end
section
theorem good_bef {s : State} {args : Array Value} {y : MethodName} {b : ByteArray} {n : Nat} {ret : Option FieldType} (hts : ∀ w ∈ gtbl, w.before args s = true) (hc : Cond.code y b n ret ∈ gtbl) : ∀ w ∈ (Cond.code y b n ret :: gtbl), ∀ (a' : Array Value) (U : State), s.WarmedH U.vm → w.before a' U = true := by
  intro w hw a' U hW
  have hg : w ∈ gtbl := by
    rcases List.mem_cons.mp hw with h | h
    · rw [h]; exact hc
    · exact h
  exact word_at hW (good_of_word (gt_good w hg)) (hts w hg)
section JC
variable {p : Program} {l : Launch} {e : Env} {R : Room} {s : State} {m : MethodId} {args : Array Value} {below : List Frame} {meth : Method} {c : Code} {cc : ByteArray} {nL : Nat} {own : String} {D : DD} {B : Nat} {Q : State → Prop} {cells slots z : Nat} {h h' : HF} {L L' : List (Nat × Value)} {st rest : List Value} {pc : Nat}
variable {y : MethodName} {b : ByteArray} {n : Nat} {ret : Option FieldType} {fr lo mc ms : Nat} {as : List Value} {o : Option Value}
theorem Wd.at (X : Cx p s m args meth c cc nL own D B) {H : Heap} {locs : List Loc} (hP : HP D.1 B h H) (hz : H.size = z) (hS : va_S (aB B) s.heap H locs) {U : State} (hU : U.heap = H) (hW : s.WarmedH U.vm) : Wd D B z h U := by
  refine ⟨va_K.moved hW.alike X.2.2.2.2.2.1, X.2.2.2.2.2.2.1.moved hW, ?_, by rw [hU]; exact hz, ?_, by rw [hU]; exact hP⟩
  · rw [hU]
    exact (X.2.2.2.2.2.2.2.1.moved hW.alike).kept (fun a h1 h2 => hS.2.1 a h1 h2)
  · rw [← hz]
    exact Nat.le_trans X.2.2.2.2.2.2.2.2.1 hS.1
/-- what a run of a callee gives to its caller -/
theorem J.back {H : Heap} {locs : List Loc} {ls : Array Slot} (hS : va_S (aB B) s.heap H locs) (hl : lv_has ls nL L)
    (hr : va_Run p l e R s m args below meth c H locs cells slots mc ms (F0 m pc ls st) rest (fun st oc t => oc = .returned o ∧ Wd D B (z + mc) h' t ∧ va_F (aB B) st t) (aB B))
    (kk : J p l e R s m args below meth c D B nL Q (cells + mc) (slots + ms) (z + mc) h' L (o.toList ++ rest) (pc + 3)) : W p l e R s m args below meth c H locs cells slots Q (F0 m pc ls st) := by
  intro T hT XS
  obtain ⟨v, st₀, t, T', L1, h0, X', hL, e1, e2, ⟨ho, hw, hF⟩, stp⟩ := hr T hT XS
  cases ho
  obtain ⟨hK, hN, hST, hz, hBz, hP⟩ := hw
  obtain ⟨hF1, hF2⟩ := hF
  rw [h0] at hF1 hF2
  obtain ⟨t2, a1, b1⟩ := kk T'.heap (locs ++ L1) ls (by rw [e1]; exact hP) (by rw [e1]; exact hz)
    ⟨Nat.le_trans hS.1 (by rw [e1]; exact hF1), fun q h1 h2 => by rw [e1, hF2 q (Nat.lt_of_lt_of_le h1 hS.1) h2]; exact hS.2.1 q h1 h2, fun q hq => by
      rcases List.mem_append.mp hq with h | h
      · exact hS.2.2 q h
      · exact hL q h⟩ hl T' rfl X'
  exact ⟨t2, stp t2 a1, b1⟩
theorem par_of {k : Nat} (h : (parseMethodDescriptor y.desc).map (fun d => d.parameters.length) = some k) : ∀ sig, parseMethodDescriptor y.desc = some sig → k = sig.parameters.length := by
  intro sig hs
  rw [hs] at h
  exact (Option.some.inj h).symm
theorem j_callV (X : Cx p s m args meth c cc nL own D B) {a i ci k : Nat} {x : va_E} {fs : List Value} {q : vw_C} (C : CT l y b n ret fr lo (.ref a :: as) D B z h o mc ms h') (M : MV y b n ret k) (kM : Cond.methodLink own i y ∈ gtbl) (he : h a = some x) (hi : x = .inr (ci, fs)) (hq : vwCl[ci]? = some q) (hqc : q.1 = y.cls)
    (hst : st = as.reverse ++ .ref a :: rest) (hk : as.length = k) (hcat : (rest.map fun v => v.category).sum ≤ 8) (hR : fr + 1 ≤ R.frames ∧ 8 + (n + 11) + lo ≤ R.locals ∧ cells + mc ≤ R.cells ∧ slots + ms ≤ R.slots) (d : decode cc pc = .ok (.invokevirtual i, 3))
    (kk : J p l e R s m args below meth c D B nL Q (cells + mc) (slots + ms) (z + mc) h' L (o.toList ++ rest) (pc + 3)) : J p l e R s m args below meth c D B nL Q cells slots z h L st pc := by
  intro H locs ls hP hz hS hl
  subst hi
  have hts := X.2.2.2.2.1
  have hrecv : ∃ cellB : Cell, H[a]? = some cellB ∧ cellB.vm.isStatics = false ∧ s.vm.findClass y.cls = some cellB.cls := by
    rw [← hqc]
    exact va_recv X.2.2.2.2.2.1 (hP.one he) hq (q0 := 0) rfl
  exact J.back hS hl (va_runV (As := as) (rest := rest) (g := F0 m pc ls st) ⟨X.1, X.2.1, X.2.2.1, X.2.2.2.1, hts⟩ C
    ⟨⟨rfl, rfl, hR.1, hR.2.1, good_bef hts M.2.2.1, List.mem_cons_self, hts _ M.2.2.1, hts _ M.2.1, M.2.2.2.1, par_of M.2.2.2.2, hts _ kM⟩, hts _ M.1.1, hts _ M.1.2⟩
    ⟨fun a U g mk q => ⟨q.1, q.2.blind⟩, hrecv, fun U hU hW => ⟨rfl, Wd.at X hP hz hS hU hW⟩⟩ rfl hk hl.1 hst (lv_room hcat) d hR.2.2) kk
theorem j_callS (X : Cx p s m args meth c cc nL own D B) {i k : Nat} (C : CT l y b n ret fr lo as D B z h o mc ms h') (M : MT y b n ret k) (kM : Cond.methodLink own i y ∈ gtbl)
    (hst : st = as.reverse ++ rest) (hk : as.length = k) (hcat : (rest.map fun v => v.category).sum ≤ 8) (hR : fr + 1 ≤ R.frames ∧ 8 + (n + 11) + lo ≤ R.locals ∧ cells + mc ≤ R.cells ∧ slots + ms ≤ R.slots) (d : decode cc pc = .ok (.invokestatic i, 3))
    (kk : J p l e R s m args below meth c D B nL Q (cells + mc) (slots + ms) (z + mc) h' L (o.toList ++ rest) (pc + 3)) : J p l e R s m args below meth c D B nL Q cells slots z h L st pc := by
  intro H locs ls hP hz hS hl
  have hts := X.2.2.2.2.1
  exact J.back hS hl (va_runS (As := as) (rest := rest) (g := F0 m pc ls st) ⟨X.1, X.2.1, X.2.2.1, X.2.2.2.1, hts⟩ C
    ⟨⟨rfl, rfl, hR.1, hR.2.1, good_bef hts M.2.2.1, List.mem_cons_self, hts _ M.2.2.1, hts _ M.2.1, M.2.2.2.1, par_of M.2.2.2.2, hts _ kM⟩, hts _ M.1⟩
    ⟨fun a U g mk q => ⟨q.1, q.2.blind⟩, fun U hU hW => ⟨rfl, Wd.at X hP hz hS hU hW⟩⟩ rfl hk hl.1 hst (lv_room hcat) d hR.2.2) kk
theorem j_callI (X : Cx p s m args meth c cc nL own D B) {a i k : Nat} (C : CT l y b n none fr lo (.ref a :: as) D B z h none mc ms h') (M : MI y b n k) (kM : Cond.methodLink own i y ∈ gtbl)
    (hst : st = as.reverse ++ .ref a :: rest) (hk : as.length = k) (hcat : (rest.map fun v => v.category).sum ≤ 8) (hR : fr + 1 ≤ R.frames ∧ 8 + (n + 11) + lo ≤ R.locals ∧ cells + mc ≤ R.cells ∧ slots + ms ≤ R.slots) (d : decode cc pc = .ok (.invokespecial i, 3))
    (kk : J p l e R s m args below meth c D B nL Q (cells + mc) (slots + ms) (z + mc) h' L rest (pc + 3)) : J p l e R s m args below meth c D B nL Q cells slots z h L st pc := by
  intro H locs ls hP hz hS hl
  have hts := X.2.2.2.2.1
  exact J.back (o := none) hS hl (va_runI (As := as) (rest := rest) (g := F0 m pc ls st) ⟨X.1, X.2.1, X.2.2.1, X.2.2.2.1, hts⟩ C
    ⟨⟨rfl, rfl, hR.1, hR.2.1, good_bef hts M.2.2.1, List.mem_cons_self, hts _ M.2.2.1, hts _ M.2.1, M.2.2.2.1, par_of M.2.2.2.2, hts _ kM⟩, M.1.2, hts _ M.1.1⟩
    ⟨fun a U g mk q => ⟨q.1, q.2.blind⟩, fun U hU hW => ⟨rfl, Wd.at X hP hz hS hU hW⟩⟩ rfl hk hl.1 hst (lv_room hcat) d hR.2.2) kk
theorem j_callIN (X : Cx p s m args meth c cc nL own D B) {a i k : Nat} (C : CT l y b n none fr lo (.ref a :: as) D B z h none mc ms h') (M : MI y b n k) (kM : (own, i, y, "LearningRepeater") ∈ nestM)
    (hst : st = as.reverse ++ .ref a :: rest) (hk : as.length = k) (hcat : (rest.map fun v => v.category).sum ≤ 8) (hR : fr + 1 ≤ R.frames ∧ 8 + (n + 11) + lo ≤ R.locals ∧ cells + mc ≤ R.cells ∧ slots + ms ≤ R.slots) (d : decode cc pc = .ok (.invokespecial i, 3))
    (kk : J p l e R s m args below meth c D B nL Q (cells + mc) (slots + ms) (z + mc) h' L rest (pc + 3)) : J p l e R s m args below meth c D B nL Q cells slots z h L st pc := by
  intro H locs ls hP hz hS hl
  have hts := X.2.2.2.2.1
  exact J.back (o := none) hS hl (va_runIN (As := as) (rest := rest) (g := F0 m pc ls st) (host := "LearningRepeater") ⟨X.1, X.2.1, X.2.2.1, X.2.2.2.1, hts⟩ C
    ⟨⟨⟨rfl, rfl, hR.1, hR.2.1, good_bef hts M.2.2.1, List.mem_cons_self⟩, hts _ M.2.2.1, hts _ M.2.1, M.2.2.2.1, par_of M.2.2.2.2, va_Nw.use rfl (X.2.2.2.2.2.2.1.2.1 _ kM)⟩, M.1.2, hts _ M.1.1⟩
    ⟨fun a U g mk q => ⟨q.1, q.2.blind⟩, fun U hU hW => ⟨rfl, Wd.at X hP hz hS hU hW⟩⟩ rfl hk hl.1 hst (lv_room hcat) d hR.2.2) kk
/-- the ends -/
theorem j_iret (X : Cx p s m args meth c cc nL own D B) {ty : FieldType} {v w : Int32} {zz : Nat} (hr : meth.sig.returnType = some ty) (hn : narrow ty (.int v) = .int v) (ev : v = w) (hz' : z = zz) (hh : h = h') (d : decode cc pc = .ok (.ireturn, 1)) :
    J p l e R s m args below meth c D B nL (MQ below (QC (some (.int w)) D B zz h') args s cells slots (aB B)) cells slots z h L [.int v] pc := by
  subst ev hz' hh
  intro H locs ls hP hz hS hl
  exact W.zret X.1 X.2.1 hr hn (fun t ht hW => ⟨rfl, Wd.at X hP hz hS ht hW, hS.F ht⟩) hS.2.2 d X.2.2.2.2.2.2.2.2.2
theorem j_vret (X : Cx p s m args meth c cc nL own D B) {zz : Nat} (hr : meth.sig.returnType = none) (hz' : z = zz) (hh : h = h') (d : decode cc pc = .ok (.return_, 1)) :
    J p l e R s m args below meth c D B nL (MQ below (QC none D B zz h') args s cells slots (aB B)) cells slots z h L [] pc := by
  subst hz' hh
  intro H locs ls hP hz hS hl
  exact W.vret X.1 X.2.1 hr (fun t ht hW => ⟨rfl, Wd.at X hP hz hS ht hW, hS.F ht⟩) hS.2.2 d X.2.2.2.2.2.2.2.2.2
theorem j_aret (X : Cx p s m args meth c cc nL own D B) {rt : FieldType} {v w : Value} {zz : Nat} (hr : meth.sig.returnType = some rt) (hrt : (∃ n, rt = .object n) ∨ ∃ t, rt = .array t) (hv : v = .null ∨ ∃ a, v = .ref a) (ev : v = w) (hz' : z = zz) (hh : h = h') (d : decode cc pc = .ok (.areturn, 1)) :
    J p l e R s m args below meth c D B nL (MQ below (QC (some w) D B zz h') args s cells slots (aB B)) cells slots z h L [v] pc := by
  subst ev hz' hh
  intro H locs ls hP hz hS hl
  exact W.aret X.1 X.2.1 hr hrt hv (fun t ht hW => ⟨rfl, Wd.at X hP hz hS ht hW, hS.F ht⟩) hS.2.2 d X.2.2.2.2.2.2.2.2.2
/-- making: objects, arrays; Object's own constructor; the copy of a row -/
theorem j_objInit (X : Cx p s m args meth c cc nL own D B) {a i : Nat} (kM : Cond.methodLink own i objectInit ∈ gtbl) (hR : 1 ≤ R.frames ∧ (rest.map fun v => v.category).sum + 12 ≤ R.locals) (d : decode cc pc = .ok (.invokespecial i, 3))
    (kk : J p l e R s m args below meth c D B nL Q cells slots z h L rest (pc + 3)) : J p l e R s m args below meth c D B nL Q cells slots z h L (.ref a :: rest) pc :=
  fun H locs ls hP hz hS hl => W.objInit X.1 X.2.1 X.2.2.2.1 (X.2.2.2.2.1 _ kM) (X.2.2.2.2.1 _ kY_objectInit) (X.2.2.2.2.1 _ kC_objectInit) (g := F0 m pc ls (.ref a :: rest)) rfl (by rw [X.2.2.1]; exact hl.1) rfl d hR.1 (by show 2 * 0 + _ + 12 ≤ _; omega) (kk H locs ls hP hz hS hl)
theorem j_new (X : Cx p s m args meth c cc nL own D B) {i ci N : Nat} {C : String} {T : u_T} {ty : Nat → FieldType} {fs : List Value} (hc : vwCl[ci]? = some (C, T, N)) (hin : ∀ w ∈ u_ws C T N, w ∈ gtbl) (hty : ∀ k, k < N → parseFieldDescriptor (T k).2.2.1 = some (ty k)) (kL : Cond.classLink own i C ∈ gtbl) (kA : Cond.instantiable C N ∈ gtbl) (kI : Cond.initialized C ∈ gtbl) (hfs : ∀ j, j < N → defaultValue (ty j) = vp_V fs j)
    (hR : cells + 1 ≤ R.cells ∧ slots + N ≤ R.slots) (d : decode cc pc = .ok (.new i, 3)) (kk : J p l e R s m args below meth c D B nL Q (cells + 1) (slots + N) (z + 1) (hupd h z (.inr (ci, fs))) L (.ref z :: rest) (pc + 3)) : J p l e R s m args below meth c D B nL Q cells slots z h L rest pc := by
  intro H locs ls hP hz hS hl
  have hts := X.2.2.2.2.1
  have hKn := X.2.2.2.2.2.1.1 ci _ hc
  have hBz : B ≤ z := by rw [← hz]; exact Nat.le_trans X.2.2.2.2.2.2.2.2.1 hS.1
  refine W.newcK X.1 X.2.1 X.2.2.2.1 (hts _ kL) (hts _ kA) (hts _ kI) (g := F0 m pc ls rest) rfl d hR.1 hR.2 hKn.2.1 hz fun H1 kC hkC e1 z1 o1 => ?_
  exact kk H1 _ ls (hP.push hBz hz ⟨_, hc, (u_born ty hts hin hKn hkC e1 hty).to hfs⟩ o1) z1 ⟨Nat.le_trans hS.1 (by omega), fun x h1 h2 => (o1 x (by have := hS.1; omega)).trans (hS.2.1 x h1 h2), hS.2.2⟩ hl
end JC
end
section
section JP
variable {p : Program} {l : Launch} {e : Env} {R : Room} {s : State} {m : MethodId} {args : Array Value} {below : List Frame} {meth : Method} {c : Code} {cc : ByteArray} {nL : Nat} {own : String} {D : DD} {B : Nat} {Q : State → Prop} {cells slots z : Nat} {h h' : HF} {L L' : List (Nat × Value)} {st rest : List Value} {pc : Nat}
theorem j_newi (X : Cx p s m args meth c cc nL own D B) {n : Int32} {N : Nat} (hn : ¬ n < 0) (hN : n.toNatClampNeg = N) (hb : N * 4 ≤ 536870912) (hR : cells + 1 ≤ R.cells ∧ slots + N ≤ R.slots) (d : decode cc pc = .ok (.newarray .int, 2))
    (kk : J p l e R s m args below meth c D B nL Q (cells + 1) (slots + N) (z + 1) (hupd h z (.inl (D.2.1.1, (N, .inl (fun _ => 0))))) L (.ref z :: rest) (pc + 2)) : J p l e R s m args below meth c D B nL Q cells slots z h L (.int n :: rest) pc := by
  intro H locs ls hP hz hS hl
  have hBz : B ≤ z := by rw [← hz]; exact Nat.le_trans X.2.2.2.2.2.2.2.2.1 hS.1
  refine va_newaK X.1 X.2.1 (atype := .int) (X.2.2.2.2.1 _ kZ_1) (g := F0 m pc ls (.int n :: rest)) rfl d rfl hn hN hb hR.1 hR.2 hz fun H1 cA e1 z1 o1 hAr hNm => ?_
  have hra := (X.2.2.2.2.2.1.2 0 _ rfl).2
  have hcA : cA = D.2.1.1 := Option.some.inj (hNm.symm.trans hra)
  subst hcA
  refine kk H1 _ ls (hP.push hBz hz ?_ o1) z1 ⟨Nat.le_trans hS.1 (by omega), fun x h1 h2 => (o1 x (by have := hS.1; omega)).trans (hS.2.1 x h1 h2), hS.2.2⟩ hl
  show H1[z]? = some (vp_cell _ _)
  rw [vp_cell_i]
  exact e1
theorem j_newc (X : Cx p s m args meth c cc nL own D B) {n : Int32} {N : Nat} (hn : ¬ n < 0) (hN : n.toNatClampNeg = N) (hb : N * 2 ≤ 536870912) (hR : cells + 1 ≤ R.cells ∧ slots + N ≤ R.slots) (d : decode cc pc = .ok (.newarray .char, 2))
    (kk : J p l e R s m args below meth c D B nL Q (cells + 1) (slots + N) (z + 1) (hupd h z (.inl (D.2.1.2.1, (N, .inl (fun _ => 0))))) L (.ref z :: rest) (pc + 2)) : J p l e R s m args below meth c D B nL Q cells slots z h L (.int n :: rest) pc := by
  intro H locs ls hP hz hS hl
  have hBz : B ≤ z := by rw [← hz]; exact Nat.le_trans X.2.2.2.2.2.2.2.2.1 hS.1
  refine va_newaK X.1 X.2.1 (atype := .char) (X.2.2.2.2.1 _ kZ_3) (g := F0 m pc ls (.int n :: rest)) rfl d rfl hn hN hb hR.1 hR.2 hz fun H1 cA e1 z1 o1 hAr hNm => ?_
  have hra := (X.2.2.2.2.2.1.2 1 _ rfl).2
  have hcA : cA = D.2.1.2.1 := Option.some.inj (hNm.symm.trans hra)
  subst hcA
  refine kk H1 _ ls (hP.push hBz hz ?_ o1) z1 ⟨Nat.le_trans hS.1 (by omega), fun x h1 h2 => (o1 x (by have := hS.1; omega)).trans (hS.2.1 x h1 h2), hS.2.2⟩ hl
  show H1[z]? = some (vp_cell _ _)
  rw [vp_cell_i]
  exact e1
theorem j_newS (X : Cx p s m args meth c cc nL own D B) {i : Nat} {n : Int32} {N : Nat} (kL : Cond.classLink own i "LearningRepeater$State" ∈ gtbl) (hn : ¬ n < 0) (hN : n.toNatClampNeg = N) (hb : N * 4 ≤ 536870912) (hR : cells + 1 ≤ R.cells ∧ slots + N ≤ R.slots) (d : decode cc pc = .ok (.anewarray i, 3))
    (kk : J p l e R s m args below meth c D B nL Q (cells + 1) (slots + N) (z + 1) (hupd h z (.inl (D.2.1.2.2, (N, .inr (.inr (.inr (.inr (fun _ => none)))))))) L (.ref z :: rest) (pc + 3)) : J p l e R s m args below meth c D B nL Q cells slots z h L (.int n :: rest) pc := by
  intro H locs ls hP hz hS hl
  have hBz : B ≤ z := by rw [← hz]; exact Nat.le_trans X.2.2.2.2.2.2.2.2.1 hS.1
  subst hN
  refine W.anew X.1 X.2.1 X.2.2.2.1 (X.2.2.2.2.1 _ kL) (va_AO.use X.2.2.2.2.2.2.1.2.2) (g := F0 m pc ls (.int n :: rest)) rfl d rfl hn hb hR.1 hR.2 fun cA kA comp f1 f2 f3 f4 => ?_
  obtain ⟨kA', comp', g1, g2, g3, g4⟩ := (X.2.2.2.2.2.1.2 2 _ rfl).2
  have hcA : cA = D.2.1.2.2 := Option.some.inj (f1.symm.trans g4)
  subst hcA
  generalize hH1 : H.push ({ cls := D.2.1.2.2, slots := Array.replicate n.toNatClampNeg .null, vm := .none } : Cell) = H1
  have z1 : H1.size = z + 1 := by rw [← hH1, Array.size_push, hz]
  have e1 : H1[z]? = some (arrV D.2.1.2.2 n.toNatClampNeg (fun _ => .null)) := by rw [← hH1, ← hz, Array.getElem?_push_size, ← arrV_new]
  have o1 : ∀ q : Nat, q < z → H1[q]? = H[q]? := fun q hq => by rw [← hH1, Array.getElem?_push, if_neg (by omega)]
  rw [show Value.ref H.size = Value.ref z by rw [hz]]
  refine kk H1 _ ls (hP.push hBz hz ?_ o1) z1 ⟨Nat.le_trans hS.1 (by omega), fun x h1 h2 => (o1 x (by have := hS.1; omega)).trans (hS.2.1 x h1 h2), hS.2.2⟩ hl
  show H1[z]? = some (vp_cell _ _)
  rw [vp_cell_q]
  exact e1
theorem j_aast (X : Cx p s m args meth c cc nL own D B) {a n v : Nat} {x y : va_E} {f : Nat → Option Nat} {vs : List Value} {i : Int32} (he : h a = some x) (hi : x = .inl (D.2.1.2.2, (n, .inr (.inr (.inr (.inr f)))))) (hv : h v = some y) (hy : y = .inr (6, vs)) (hin : vp_in i n) (d : decode cc pc = .ok (.aastore, 1))
    (kk : J p l e R s m args below meth c D B nL Q cells slots z (hupd h a (.inl (D.2.1.2.2, (n, .inr (.inr (.inr (.inr (va_up f i.toNatClampNeg (some v))))))))) L rest (pc + 1)) : J p l e R s m args below meth c D B nL Q cells slots z h L (.ref v :: .int i :: .ref a :: rest) pc := by
  subst hi hy
  intro H locs ls hP hz hS hl
  have hlt : i.toNatClampNeg < n := Nat.not_le.mp fun q => hin (Or.inr q)
  have h0 : ¬ i < 0 := fun q => hin (Or.inl q)
  obtain ⟨-, r', hr', cellV, g1, g2, g3, -⟩ := hP v _ hv
  have hcls := (X.2.2.2.2.2.1.1 6 _ rfl).2
  obtain ⟨kA, comp, k1, k2, k3, -⟩ := (X.2.2.2.2.2.1.2 2 _ rfl).2
  have hcomp : comp = D.1.1 6 := Option.some.inj (k3.symm.trans hcls.1)
  subst hcomp
  obtain ⟨kC, hkC, -⟩ := hcls.2
  refine W.aast X.1 X.2.1 (hP a _ he).2 (fun q h => by cases h) (fun h => by cases h) k1 k2 rfl hkC ⟨h0, by show _ < (arrV _ _ _).slots.size; rw [arrV_size]; exact hlt⟩ g1 (fun q h => by rw [g3] at h; cases h) (by rw [g2]; exact hkC) (by rw [g2]; exact va_assign hcls) rfl rfl d fun H1 e1 e2 e3 => ?_
  refine kk H1 _ ls (hP.put (hP a _ he).1 ?_ e3) (e2.trans hz) (hS.put e2 e3 (hP a _ he).1) hl
  show H1[a]? = some (vp_cell _ _)
  rw [e1]
  rw [vp_cell_q, vp_cell_q, arrV_store]
  congr 2
  funext q
  by_cases hq : q = i.toNatClampNeg
  · subst hq
    simp [updV, va_up, va_rf]
  · simp [updV, va_up, hq]
set_option maxHeartbeats 1000000 in
theorem j_copyi (X : Cx p s m args meth c cc nL own D B) {a a0 i n0 n1 : Nat} {x0 x1 : va_E} {f g : Nat → Int32} {sp dp n : Int32} (kM : Cond.methodLink own i arraycopyName ∈ gtbl) (he0 : h a0 = some x0) (hi0 : x0 = .inl (D.2.1.1, (n0, .inl f))) (he1 : h a = some x1) (hi1 : x1 = .inl (D.2.1.1, (n1, .inl g)))
    (h1 : ¬ sp < 0) (h2 : ¬ dp < 0) (h3 : ¬ n < 0) (h4 : sp.toNatClampNeg + n.toNatClampNeg ≤ n0) (h5 : dp.toNatClampNeg + n.toNatClampNeg ≤ n1) (hR : 1 ≤ R.frames ∧ (rest.map fun v => v.category).sum + (nativeFrameWords "java/lang/System" "arraycopy" 5 + 11) ≤ R.locals) (d : decode cc pc = .ok (.invokestatic i, 3))
    (kk : J p l e R s m args below meth c D B nL Q cells slots z (hupd h a (.inl (D.2.1.1, (n1, .inl (va_cpy f g sp.toNatClampNeg dp.toNatClampNeg n.toNatClampNeg))))) L rest (pc + 3)) : J p l e R s m args below meth c D B nL Q cells slots z h L (.int n :: .int dp :: .ref a :: .int sp :: .ref a0 :: rest) pc := by
  subst hi0 hi1
  intro H locs ls hP hz hS hl
  have nn : ∀ w : Int32, ¬ w < 0 → w.toInt = (w.toNatClampNeg : Int) := by
    intro w hw
    have hw0 : (0 : Int) ≤ w.toInt := by
      have := Int32.not_lt.mp hw
      simpa using Int32.le_iff_toInt_le.mp this
    show w.toInt = ((w.toInt.toNat : Nat) : Int)
    omega
  intro T hT XS
  have hc0 : H[a0]? = some (vp_cell D.2.1.1 (n0, .inl f)) := (hP a0 _ he0).2
  have hc1 : H[a]? = some (vp_cell D.2.1.1 (n1, .inl g)) := (hP a _ he1).2
  obtain ⟨-, k0, hk0, cm0, hkk0⟩ := (X.2.2.2.2.2.1.2 0 _ rfl).1 n0 (fun j => .int (f j))
  obtain ⟨-, k1, hk1, cm1, hkk1⟩ := (X.2.2.2.2.2.1.2 0 _ rfl).1 n1 (fun j => .int (g j))
  obtain ⟨vm', X', step⟩ := XS.arraycopy X.1 X.2.2.2.1 (X.2.2.2.2.1 _ kM) (X.2.2.2.2.1 _ kN_arraycopyName) (X.2.2.2.2.1 _ kT_arraycopyName) (X.2.2.2.2.1 _ kI_RJ10) (src := a0) (dst := a) (cs := vp_cell D.2.1.1 (n0, .inl f)) (cd := vp_cell D.2.1.1 (n1, .inl g)) (srcPos := sp) (destPos := dp) (n := n) (by rw [hT]; exact hc0) (by rw [hT]; exact hc1)
    (fun _ h => by cases h) (fun _ h => by cases h) (fun h => by cases h) (fun h => by cases h) hk0 hk1 hkk0 hkk1 (by simp [refKind]) h1 h2 h3
    (by rw [nn sp h1, nn n h3]; show ¬ _ > ((arrV D.2.1.1 n0 (fun j => .int (f j))).slots.size : Int); rw [arrV_size]; omega)
    (by rw [nn dp h2, nn n h3]; show ¬ _ > ((arrV D.2.1.1 n1 (fun j => .int (g j))).slots.size : Int); rw [arrV_size]; omega)
    (fun vm₁ _ i hi => by
      have e : (vp_cell D.2.1.1 (n0, .inl f)).slots.getD (sp.toNatClampNeg + i) .null = .int (f (sp.toNatClampNeg + i)) := by
        show (arrV D.2.1.1 n0 (fun j => .int (f j))).slots.getD _ _ = _
        rw [Array.getD_eq_getD_getElem?, arrV_read _ _ (by omega)]
        rfl
      refine ⟨?_, ?_⟩
      · rw [e]
        rfl
      · rw [e]
        exact trivial)
    (g := F0 m pc ls (.int n :: .int dp :: .ref a :: .int sp :: .ref a0 :: rest)) rfl (by rw [X.2.2.1]; exact hl.1) (rest := rest) rfl (by rw [X.2.1]; exact d) hR.1 (by show 2 * 0 + _ + _ ≤ _; have := hR.2; omega)
  have e1 : copied (vp_cell D.2.1.1 (n0, .inl f)) (vp_cell D.2.1.1 (n1, .inl g)) sp dp n = vp_cell D.2.1.1 (n1, .inl (va_cpy f g sp.toNatClampNeg dp.toNatClampNeg n.toNatClampNeg)) := va_copied (fun z => .int z) D.2.1.1 D.2.1.1 f g h4
  rw [e1] at X' step
  have hlt : a < H.size := (Array.getElem?_eq_some_iff.mp hc1).1
  have hheap : ((T.setVm vm').setCell a (vp_cell D.2.1.1 (n1, .inl (va_cpy f g sp.toNatClampNeg dp.toNatClampNeg n.toNatClampNeg)))).heap = H.setIfInBounds a (vp_cell D.2.1.1 (n1, .inl (va_cpy f g sp.toNatClampNeg dp.toNatClampNeg n.toNatClampNeg))) := by rw [← hT]; rfl
  have oq : ∀ q : Nat, q ≠ a → (H.setIfInBounds a (vp_cell D.2.1.1 (n1, .inl (va_cpy f g sp.toNatClampNeg dp.toNatClampNeg n.toNatClampNeg))))[q]? = H[q]? := fun q hq => by simp [Array.getElem?_setIfInBounds, Ne.symm hq]
  obtain ⟨t, a1, b1⟩ := kk _ _ ls (hP.put (hP a _ he1).1 (show (H.setIfInBounds a _)[a]? = some _ by simp [Array.getElem?_setIfInBounds, hlt]) oq) (by simp [hz]) ⟨by simp; exact hS.1, fun q g1 g2 => by
      rw [oq q (fun e => g2 (by rw [e]; exact (hP a _ he1).1))]
      exact hS.2.1 q g1 g2, fun q hq => by
      rcases List.mem_append.mp hq with h | h
      · exact hS.2.2 q h
      · obtain ⟨w, -, hw⟩ := List.mem_map.mp h
        rw [← hw]
        exact (hP a _ he1).1⟩ hl _ hheap X'
  exact ⟨t, step t a1, b1⟩
end JP
end
section
section JD
variable {p : Program} {l : Launch} {e : Env} {R : Room} {s : State} {m : MethodId} {args : Array Value} {below : List Frame} {meth : Method} {c : Code} {cc : ByteArray} {nL : Nat} {own : String} {D : DD} {B : Nat} {Q : State → Prop} {cells slots z : Nat} {h h' : HF} {L L' : List (Nat × Value)} {st rest : List Value} {pc : Nat}
variable {y : MethodName} {b : ByteArray} {n : Nat} {ret : Option FieldType} {fr lo : Nat} {as : List Value}
theorem j_callVi (X : Cx p s m args meth c cc nL own D B) {a i ci k : Nat} {r : Int32} {x : va_E} {fs : List Value} {q : vw_C} (C : CT l y b n ret fr lo (.ref a :: as) D B z h (some (.int r)) 0 0 h') (M : MV y b n ret k) (kM : Cond.methodLink own i y ∈ gtbl) (he : h a = some x) (hi : x = .inr (ci, fs)) (hq : vwCl[ci]? = some q) (hqc : q.1 = y.cls)
    (hst : st = as.reverse ++ .ref a :: rest) (hk : as.length = k) (hcat : (rest.map fun v => v.category).sum ≤ 8) (hR : fr + 1 ≤ R.frames ∧ 8 + (n + 11) + lo ≤ R.locals ∧ cells + 0 ≤ R.cells ∧ slots + 0 ≤ R.slots) (d : decode cc pc = .ok (.invokevirtual i, 3))
    (kk : J p l e R s m args below meth c D B nL Q cells slots z h' L (.int r :: rest) (pc + 3)) : J p l e R s m args below meth c D B nL Q cells slots z h L st pc := j_callV X C M kM he hi hq hqc hst hk hcat hR d kk
theorem j_callVr (X : Cx p s m args meth c cc nL own D B) {a i ci k : Nat} {r : Value} {x : va_E} {fs : List Value} {q : vw_C} (C : CT l y b n ret fr lo (.ref a :: as) D B z h (some r) 0 0 h') (M : MV y b n ret k) (kM : Cond.methodLink own i y ∈ gtbl) (he : h a = some x) (hi : x = .inr (ci, fs)) (hq : vwCl[ci]? = some q) (hqc : q.1 = y.cls)
    (hst : st = as.reverse ++ .ref a :: rest) (hk : as.length = k) (hcat : (rest.map fun v => v.category).sum ≤ 8) (hR : fr + 1 ≤ R.frames ∧ 8 + (n + 11) + lo ≤ R.locals ∧ cells + 0 ≤ R.cells ∧ slots + 0 ≤ R.slots) (d : decode cc pc = .ok (.invokevirtual i, 3))
    (kk : J p l e R s m args below meth c D B nL Q cells slots z h' L (r :: rest) (pc + 3)) : J p l e R s m args below meth c D B nL Q cells slots z h L st pc := j_callV X C M kM he hi hq hqc hst hk hcat hR d kk
theorem j_callVv (X : Cx p s m args meth c cc nL own D B) {a i ci k : Nat} {x : va_E} {fs : List Value} {q : vw_C} (C : CT l y b n ret fr lo (.ref a :: as) D B z h none 0 0 h') (M : MV y b n ret k) (kM : Cond.methodLink own i y ∈ gtbl) (he : h a = some x) (hi : x = .inr (ci, fs)) (hq : vwCl[ci]? = some q) (hqc : q.1 = y.cls)
    (hst : st = as.reverse ++ .ref a :: rest) (hk : as.length = k) (hcat : (rest.map fun v => v.category).sum ≤ 8) (hR : fr + 1 ≤ R.frames ∧ 8 + (n + 11) + lo ≤ R.locals ∧ cells + 0 ≤ R.cells ∧ slots + 0 ≤ R.slots) (d : decode cc pc = .ok (.invokevirtual i, 3))
    (kk : J p l e R s m args below meth c D B nL Q cells slots z h' L rest (pc + 3)) : J p l e R s m args below meth c D B nL Q cells slots z h L st pc := j_callV X C M kM he hi hq hqc hst hk hcat hR d kk
theorem j_callSi (X : Cx p s m args meth c cc nL own D B) {i k : Nat} {r : Int32} (C : CT l y b n ret fr lo as D B z h (some (.int r)) 0 0 h') (M : MT y b n ret k) (kM : Cond.methodLink own i y ∈ gtbl)
    (hst : st = as.reverse ++ rest) (hk : as.length = k) (hcat : (rest.map fun v => v.category).sum ≤ 8) (hR : fr + 1 ≤ R.frames ∧ 8 + (n + 11) + lo ≤ R.locals ∧ cells + 0 ≤ R.cells ∧ slots + 0 ≤ R.slots) (d : decode cc pc = .ok (.invokestatic i, 3))
    (kk : J p l e R s m args below meth c D B nL Q cells slots z h' L (.int r :: rest) (pc + 3)) : J p l e R s m args below meth c D B nL Q cells slots z h L st pc := j_callS X C M kM hst hk hcat hR d kk
theorem j_callSv (X : Cx p s m args meth c cc nL own D B) {i k : Nat} (C : CT l y b n ret fr lo as D B z h none 0 0 h') (M : MT y b n ret k) (kM : Cond.methodLink own i y ∈ gtbl)
    (hst : st = as.reverse ++ rest) (hk : as.length = k) (hcat : (rest.map fun v => v.category).sum ≤ 8) (hR : fr + 1 ≤ R.frames ∧ 8 + (n + 11) + lo ≤ R.locals ∧ cells + 0 ≤ R.cells ∧ slots + 0 ≤ R.slots) (d : decode cc pc = .ok (.invokestatic i, 3))
    (kk : J p l e R s m args below meth c D B nL Q cells slots z h' L rest (pc + 3)) : J p l e R s m args below meth c D B nL Q cells slots z h L st pc := j_callS X C M kM hst hk hcat hR d kk
/-- another way to write the same cell -/
theorem j_recell {a k : Nat} {f g : Nat → Int32} (he : h a = some (.inl (D.2.1.1, (k, .inl f)))) (hfg : ∀ j, j < k → f j = g j) (kk : J p l e R s m args below meth c D B nL Q cells slots z (hupd h a (.inl (D.2.1.1, (k, .inl g)))) L st pc) : J p l e R s m args below meth c D B nL Q cells slots z h L st pc := by
  intro H locs ls hP hz hS hl
  refine kk H locs ls (hP.put (hP a _ he).1 ?_ (fun _ _ => rfl)) hz hS hl
  have h1 : H[a]? = some (vp_cell D.2.1.1 (k, .inl f)) := (hP a _ he).2
  show H[a]? = some (vp_cell D.2.1.1 (k, .inl g))
  rw [h1]
  congr 1
  rw [vp_cell_i, vp_cell_i]
  unfold arrV
  congr 1
  congr 1
  funext j
  exact congrArg Value.int (hfg j.val j.isLt)
end JD
theorem hupd_self {h : HF} {a : Nat} {x : va_E} (he : h a = some x) : hupd h a x = h := by
  funext q
  unfold hupd
  by_cases c : q = a
  · rw [if_pos c, c, he]
  · rw [if_neg c]
theorem vp_in_c {i : Int32} {n : Nat} (hn : n < 2147483648) (h0 : ¬ i < 0) (h1 : i < nI n) : vp_in i n := by
  rw [vp_in_iff]
  have h2 : (nI n).toInt = (n : Int) := nI_toInt hn
  have h3 := Int32.lt_iff_toInt_lt.mp h1
  have h4 := Int32.le_iff_toInt_le.mp (Int32.not_lt.mp h0)
  rw [h2] at h3
  exact ⟨by simpa using h4, h3⟩
end
section
theorem nlt_lit {k b : Nat} (h : k < b) (hb : b < 2147483648) : nI k < (OfNat.ofNat b : Int32) := nI_lt h hb
theorem nle_lit {k b : Nat} (h : k ≤ b) (hb : b < 2147483648) : ¬ (OfNat.ofNat b : Int32) < nI k := nI_nlt h (by omega)
theorem hupd_hupd {h : HF} {a : Nat} {x y : va_E} : hupd (hupd h a x) a y = hupd h a y := by
  funext q
  unfold hupd
  by_cases c : q = a
  · rw [if_pos c, if_pos c]
  · rw [if_neg c, if_neg c, if_neg c]
end
section
/-! what a state of the class is: a State of it (29 cells from its address on), and the whole (211 cells) -/
abbrev St : Type := (Nat → Nat → Int32) × (Nat → Int32)
def rput (σ : St) (r : Nat) (f : Nat → Int32) : St := (fun i => if i = r then f else σ.1 i, σ.2)
def sput (σ : St) (j : Nat) (v : Int32) : St := (σ.1, fun i => if i = j then v else σ.2 i)
abbrev rowE (c : Nat) : va_E := .inr (5, [.ref c])
abbrev arrE (D : DD) (n : Nat) (f : Nat → Int32) : va_E := .inl (D.2.1.1, (n, .inl f))
abbrev chrE (D : DD) (n : Nat) (f : Nat → Int32) : va_E := .inl (D.2.1.2.1, (n, .inl f))
def stCell (D : DD) (a : Nat) (σ : St) : Nat → va_E
  | 0 => .inr (6, [.ref (a + 1), .ref (a + 3), .ref (a + 16), .ref (a + 21), .ref (a + 26), .int (σ.2 0), .int (σ.2 1), .int (σ.2 2)])
  | 1 => rowE (a + 2)
  | 2 => arrE D 4 (σ.1 0)
  | 3 => .inr (3, [.ref (a + 4), .ref (a + 6), .ref (a + 8), .ref (a + 10), .ref (a + 12), .ref (a + 14)])
  | 4 => rowE (a + 5)
  | 5 => arrE D 8 (σ.1 1)
  | 6 => rowE (a + 7)
  | 7 => arrE D 8 (σ.1 2)
  | 8 => rowE (a + 9)
  | 9 => arrE D 8 (σ.1 3)
  | 10 => rowE (a + 11)
  | 11 => arrE D 8 (σ.1 4)
  | 12 => rowE (a + 13)
  | 13 => arrE D 8 (σ.1 5)
  | 14 => rowE (a + 15)
  | 15 => arrE D 88 (σ.1 6)
  | 16 => .inr (4, [.ref (a + 17), .ref (a + 19)])
  | 17 => rowE (a + 18)
  | 18 => arrE D 8 (σ.1 7)
  | 19 => rowE (a + 20)
  | 20 => arrE D 384 (σ.1 8)
  | 21 => .inr (7, [.ref (a + 22), .ref (a + 24), .int (σ.2 3)])
  | 22 => rowE (a + 23)
  | 23 => arrE D 100 (σ.1 9)
  | 24 => rowE (a + 25)
  | 25 => arrE D 100 (σ.1 10)
  | 26 => .inr (2, [.ref (a + 27)])
  | 27 => rowE (a + 28)
  | _ => arrE D 1000 (σ.1 11)
def hput (D : DD) (h : HF) (a : Nat) (σ : St) : HF := fun q => if a ≤ q ∧ q < a + 29 then some (stCell D a σ (q - a)) else h q
theorem hput_k {D : DD} {h : HF} {a : Nat} {σ : St} (k : Nat) (hk : k < 29) : hput D h a σ (a + k) = some (stCell D a σ k) := by
  unfold hput
  rw [if_pos ⟨by omega, by omega⟩, Nat.add_sub_cancel_left]
theorem hput_0 {D : DD} {h : HF} {a : Nat} {σ : St} : hput D h a σ a = some (stCell D a σ 0) := hput_k 0 (by decide)
theorem hput_out {D : DD} {h : HF} {a q : Nat} {σ : St} (hq : q < a ∨ a + 29 ≤ q) : hput D h a σ q = h q := if_neg (by omega)
theorem hput_put {D : DD} {h : HF} {a : Nat} {σ τ : St} : hput D (hput D h a σ) a τ = hput D h a τ := by
  funext q
  unfold hput
  by_cases c : a ≤ q ∧ q < a + 29
  · rw [if_pos c, if_pos c]
  · rw [if_neg c, if_neg c, if_neg c]
theorem hput_set {D : DD} {h : HF} {a k : Nat} {σ τ : St} {x : va_E} (hk : k < 29) (e : stCell D a τ k = x) (ho : ∀ j, j < 29 → j ≠ k → stCell D a τ j = stCell D a σ j) : hupd (hput D h a σ) (a + k) x = hput D h a τ := by
  funext q
  by_cases c : q = a + k
  · rw [c, hupd_same, hput_k k hk, e]
  · rw [hupd_ne c]
    unfold hput
    by_cases c2 : a ≤ q ∧ q < a + 29
    · rw [if_pos c2, if_pos c2, ho (q - a) (by omega) (by omega)]
    · rw [if_neg c2, if_neg c2]
theorem lt29 {P : Nat → Prop} (h0 : P 0) (h1 : P 1) (h2 : P 2) (h3 : P 3) (h4 : P 4) (h5 : P 5) (h6 : P 6) (h7 : P 7) (h8 : P 8) (h9 : P 9) (h10 : P 10) (h11 : P 11) (h12 : P 12) (h13 : P 13) (h14 : P 14) (h15 : P 15) (h16 : P 16) (h17 : P 17) (h18 : P 18) (h19 : P 19) (h20 : P 20) (h21 : P 21) (h22 : P 22) (h23 : P 23) (h24 : P 24) (h25 : P 25) (h26 : P 26) (h27 : P 27) (h28 : P 28) : ∀ j, j < 29 → P j := by
  intro j hj
  have c : j = 0 ∨ j = 1 ∨ j = 2 ∨ j = 3 ∨ j = 4 ∨ j = 5 ∨ j = 6 ∨ j = 7 ∨ j = 8 ∨ j = 9 ∨ j = 10 ∨ j = 11 ∨ j = 12 ∨ j = 13 ∨ j = 14 ∨ j = 15 ∨ j = 16 ∨ j = 17 ∨ j = 18 ∨ j = 19 ∨ j = 20 ∨ j = 21 ∨ j = 22 ∨ j = 23 ∨ j = 24 ∨ j = 25 ∨ j = 26 ∨ j = 27 ∨ j = 28 := by omega
  rcases c with rfl | rfl | rfl | rfl | rfl | rfl | rfl | rfl | rfl | rfl | rfl | rfl | rfl | rfl | rfl | rfl | rfl | rfl | rfl | rfl | rfl | rfl | rfl | rfl | rfl | rfl | rfl | rfl | rfl <;> assumption
theorem hput_r0 {D : DD} {h : HF} {a : Nat} {σ : St} {f : Nat → Int32} : hupd (hput D h a σ) (a + 2) (arrE D 4 f) = hput D h a (rput σ 0 f) := hput_set (by decide) rfl (lt29 (P := fun j => j ≠ 2 → stCell D a _ j = stCell D a _ j) (fun _ => rfl) (fun _ => rfl) (fun n => absurd rfl n) (fun _ => rfl) (fun _ => rfl) (fun _ => rfl) (fun _ => rfl) (fun _ => rfl) (fun _ => rfl) (fun _ => rfl) (fun _ => rfl) (fun _ => rfl) (fun _ => rfl) (fun _ => rfl) (fun _ => rfl) (fun _ => rfl) (fun _ => rfl) (fun _ => rfl) (fun _ => rfl) (fun _ => rfl) (fun _ => rfl) (fun _ => rfl) (fun _ => rfl) (fun _ => rfl) (fun _ => rfl) (fun _ => rfl) (fun _ => rfl) (fun _ => rfl) (fun _ => rfl))
theorem hput_r1 {D : DD} {h : HF} {a : Nat} {σ : St} {f : Nat → Int32} : hupd (hput D h a σ) (a + 5) (arrE D 8 f) = hput D h a (rput σ 1 f) := hput_set (by decide) rfl (lt29 (P := fun j => j ≠ 5 → stCell D a _ j = stCell D a _ j) (fun _ => rfl) (fun _ => rfl) (fun _ => rfl) (fun _ => rfl) (fun _ => rfl) (fun n => absurd rfl n) (fun _ => rfl) (fun _ => rfl) (fun _ => rfl) (fun _ => rfl) (fun _ => rfl) (fun _ => rfl) (fun _ => rfl) (fun _ => rfl) (fun _ => rfl) (fun _ => rfl) (fun _ => rfl) (fun _ => rfl) (fun _ => rfl) (fun _ => rfl) (fun _ => rfl) (fun _ => rfl) (fun _ => rfl) (fun _ => rfl) (fun _ => rfl) (fun _ => rfl) (fun _ => rfl) (fun _ => rfl) (fun _ => rfl))
theorem hput_r2 {D : DD} {h : HF} {a : Nat} {σ : St} {f : Nat → Int32} : hupd (hput D h a σ) (a + 7) (arrE D 8 f) = hput D h a (rput σ 2 f) := hput_set (by decide) rfl (lt29 (P := fun j => j ≠ 7 → stCell D a _ j = stCell D a _ j) (fun _ => rfl) (fun _ => rfl) (fun _ => rfl) (fun _ => rfl) (fun _ => rfl) (fun _ => rfl) (fun _ => rfl) (fun n => absurd rfl n) (fun _ => rfl) (fun _ => rfl) (fun _ => rfl) (fun _ => rfl) (fun _ => rfl) (fun _ => rfl) (fun _ => rfl) (fun _ => rfl) (fun _ => rfl) (fun _ => rfl) (fun _ => rfl) (fun _ => rfl) (fun _ => rfl) (fun _ => rfl) (fun _ => rfl) (fun _ => rfl) (fun _ => rfl) (fun _ => rfl) (fun _ => rfl) (fun _ => rfl) (fun _ => rfl))
theorem hput_r3 {D : DD} {h : HF} {a : Nat} {σ : St} {f : Nat → Int32} : hupd (hput D h a σ) (a + 9) (arrE D 8 f) = hput D h a (rput σ 3 f) := hput_set (by decide) rfl (lt29 (P := fun j => j ≠ 9 → stCell D a _ j = stCell D a _ j) (fun _ => rfl) (fun _ => rfl) (fun _ => rfl) (fun _ => rfl) (fun _ => rfl) (fun _ => rfl) (fun _ => rfl) (fun _ => rfl) (fun _ => rfl) (fun n => absurd rfl n) (fun _ => rfl) (fun _ => rfl) (fun _ => rfl) (fun _ => rfl) (fun _ => rfl) (fun _ => rfl) (fun _ => rfl) (fun _ => rfl) (fun _ => rfl) (fun _ => rfl) (fun _ => rfl) (fun _ => rfl) (fun _ => rfl) (fun _ => rfl) (fun _ => rfl) (fun _ => rfl) (fun _ => rfl) (fun _ => rfl) (fun _ => rfl))
theorem hput_r4 {D : DD} {h : HF} {a : Nat} {σ : St} {f : Nat → Int32} : hupd (hput D h a σ) (a + 11) (arrE D 8 f) = hput D h a (rput σ 4 f) := hput_set (by decide) rfl (lt29 (P := fun j => j ≠ 11 → stCell D a _ j = stCell D a _ j) (fun _ => rfl) (fun _ => rfl) (fun _ => rfl) (fun _ => rfl) (fun _ => rfl) (fun _ => rfl) (fun _ => rfl) (fun _ => rfl) (fun _ => rfl) (fun _ => rfl) (fun _ => rfl) (fun n => absurd rfl n) (fun _ => rfl) (fun _ => rfl) (fun _ => rfl) (fun _ => rfl) (fun _ => rfl) (fun _ => rfl) (fun _ => rfl) (fun _ => rfl) (fun _ => rfl) (fun _ => rfl) (fun _ => rfl) (fun _ => rfl) (fun _ => rfl) (fun _ => rfl) (fun _ => rfl) (fun _ => rfl) (fun _ => rfl))
theorem hput_r5 {D : DD} {h : HF} {a : Nat} {σ : St} {f : Nat → Int32} : hupd (hput D h a σ) (a + 13) (arrE D 8 f) = hput D h a (rput σ 5 f) := hput_set (by decide) rfl (lt29 (P := fun j => j ≠ 13 → stCell D a _ j = stCell D a _ j) (fun _ => rfl) (fun _ => rfl) (fun _ => rfl) (fun _ => rfl) (fun _ => rfl) (fun _ => rfl) (fun _ => rfl) (fun _ => rfl) (fun _ => rfl) (fun _ => rfl) (fun _ => rfl) (fun _ => rfl) (fun _ => rfl) (fun n => absurd rfl n) (fun _ => rfl) (fun _ => rfl) (fun _ => rfl) (fun _ => rfl) (fun _ => rfl) (fun _ => rfl) (fun _ => rfl) (fun _ => rfl) (fun _ => rfl) (fun _ => rfl) (fun _ => rfl) (fun _ => rfl) (fun _ => rfl) (fun _ => rfl) (fun _ => rfl))
theorem hput_r6 {D : DD} {h : HF} {a : Nat} {σ : St} {f : Nat → Int32} : hupd (hput D h a σ) (a + 15) (arrE D 88 f) = hput D h a (rput σ 6 f) := hput_set (by decide) rfl (lt29 (P := fun j => j ≠ 15 → stCell D a _ j = stCell D a _ j) (fun _ => rfl) (fun _ => rfl) (fun _ => rfl) (fun _ => rfl) (fun _ => rfl) (fun _ => rfl) (fun _ => rfl) (fun _ => rfl) (fun _ => rfl) (fun _ => rfl) (fun _ => rfl) (fun _ => rfl) (fun _ => rfl) (fun _ => rfl) (fun _ => rfl) (fun n => absurd rfl n) (fun _ => rfl) (fun _ => rfl) (fun _ => rfl) (fun _ => rfl) (fun _ => rfl) (fun _ => rfl) (fun _ => rfl) (fun _ => rfl) (fun _ => rfl) (fun _ => rfl) (fun _ => rfl) (fun _ => rfl) (fun _ => rfl))
theorem hput_r7 {D : DD} {h : HF} {a : Nat} {σ : St} {f : Nat → Int32} : hupd (hput D h a σ) (a + 18) (arrE D 8 f) = hput D h a (rput σ 7 f) := hput_set (by decide) rfl (lt29 (P := fun j => j ≠ 18 → stCell D a _ j = stCell D a _ j) (fun _ => rfl) (fun _ => rfl) (fun _ => rfl) (fun _ => rfl) (fun _ => rfl) (fun _ => rfl) (fun _ => rfl) (fun _ => rfl) (fun _ => rfl) (fun _ => rfl) (fun _ => rfl) (fun _ => rfl) (fun _ => rfl) (fun _ => rfl) (fun _ => rfl) (fun _ => rfl) (fun _ => rfl) (fun _ => rfl) (fun n => absurd rfl n) (fun _ => rfl) (fun _ => rfl) (fun _ => rfl) (fun _ => rfl) (fun _ => rfl) (fun _ => rfl) (fun _ => rfl) (fun _ => rfl) (fun _ => rfl) (fun _ => rfl))
theorem hput_r8 {D : DD} {h : HF} {a : Nat} {σ : St} {f : Nat → Int32} : hupd (hput D h a σ) (a + 20) (arrE D 384 f) = hput D h a (rput σ 8 f) := hput_set (by decide) rfl (lt29 (P := fun j => j ≠ 20 → stCell D a _ j = stCell D a _ j) (fun _ => rfl) (fun _ => rfl) (fun _ => rfl) (fun _ => rfl) (fun _ => rfl) (fun _ => rfl) (fun _ => rfl) (fun _ => rfl) (fun _ => rfl) (fun _ => rfl) (fun _ => rfl) (fun _ => rfl) (fun _ => rfl) (fun _ => rfl) (fun _ => rfl) (fun _ => rfl) (fun _ => rfl) (fun _ => rfl) (fun _ => rfl) (fun _ => rfl) (fun n => absurd rfl n) (fun _ => rfl) (fun _ => rfl) (fun _ => rfl) (fun _ => rfl) (fun _ => rfl) (fun _ => rfl) (fun _ => rfl) (fun _ => rfl))
theorem hput_r9 {D : DD} {h : HF} {a : Nat} {σ : St} {f : Nat → Int32} : hupd (hput D h a σ) (a + 23) (arrE D 100 f) = hput D h a (rput σ 9 f) := hput_set (by decide) rfl (lt29 (P := fun j => j ≠ 23 → stCell D a _ j = stCell D a _ j) (fun _ => rfl) (fun _ => rfl) (fun _ => rfl) (fun _ => rfl) (fun _ => rfl) (fun _ => rfl) (fun _ => rfl) (fun _ => rfl) (fun _ => rfl) (fun _ => rfl) (fun _ => rfl) (fun _ => rfl) (fun _ => rfl) (fun _ => rfl) (fun _ => rfl) (fun _ => rfl) (fun _ => rfl) (fun _ => rfl) (fun _ => rfl) (fun _ => rfl) (fun _ => rfl) (fun _ => rfl) (fun _ => rfl) (fun n => absurd rfl n) (fun _ => rfl) (fun _ => rfl) (fun _ => rfl) (fun _ => rfl) (fun _ => rfl))
theorem hput_r10 {D : DD} {h : HF} {a : Nat} {σ : St} {f : Nat → Int32} : hupd (hput D h a σ) (a + 25) (arrE D 100 f) = hput D h a (rput σ 10 f) := hput_set (by decide) rfl (lt29 (P := fun j => j ≠ 25 → stCell D a _ j = stCell D a _ j) (fun _ => rfl) (fun _ => rfl) (fun _ => rfl) (fun _ => rfl) (fun _ => rfl) (fun _ => rfl) (fun _ => rfl) (fun _ => rfl) (fun _ => rfl) (fun _ => rfl) (fun _ => rfl) (fun _ => rfl) (fun _ => rfl) (fun _ => rfl) (fun _ => rfl) (fun _ => rfl) (fun _ => rfl) (fun _ => rfl) (fun _ => rfl) (fun _ => rfl) (fun _ => rfl) (fun _ => rfl) (fun _ => rfl) (fun _ => rfl) (fun _ => rfl) (fun n => absurd rfl n) (fun _ => rfl) (fun _ => rfl) (fun _ => rfl))
theorem hput_r11 {D : DD} {h : HF} {a : Nat} {σ : St} {f : Nat → Int32} : hupd (hput D h a σ) (a + 28) (arrE D 1000 f) = hput D h a (rput σ 11 f) := hput_set (by decide) rfl (lt29 (P := fun j => j ≠ 28 → stCell D a _ j = stCell D a _ j) (fun _ => rfl) (fun _ => rfl) (fun _ => rfl) (fun _ => rfl) (fun _ => rfl) (fun _ => rfl) (fun _ => rfl) (fun _ => rfl) (fun _ => rfl) (fun _ => rfl) (fun _ => rfl) (fun _ => rfl) (fun _ => rfl) (fun _ => rfl) (fun _ => rfl) (fun _ => rfl) (fun _ => rfl) (fun _ => rfl) (fun _ => rfl) (fun _ => rfl) (fun _ => rfl) (fun _ => rfl) (fun _ => rfl) (fun _ => rfl) (fun _ => rfl) (fun _ => rfl) (fun _ => rfl) (fun _ => rfl) (fun n => absurd rfl n))
theorem hput_s0 {D : DD} {h : HF} {a : Nat} {σ : St} {v : Int32} : hupd (hput D h a σ) (a + 0) (.inr (6, [.ref (a + 1), .ref (a + 3), .ref (a + 16), .ref (a + 21), .ref (a + 26), .int v, .int (σ.2 1), .int (σ.2 2)])) = hput D h a (sput σ 0 v) := hput_set (by decide) rfl (lt29 (P := fun j => j ≠ 0 → stCell D a _ j = stCell D a _ j) (fun n => absurd rfl n) (fun _ => rfl) (fun _ => rfl) (fun _ => rfl) (fun _ => rfl) (fun _ => rfl) (fun _ => rfl) (fun _ => rfl) (fun _ => rfl) (fun _ => rfl) (fun _ => rfl) (fun _ => rfl) (fun _ => rfl) (fun _ => rfl) (fun _ => rfl) (fun _ => rfl) (fun _ => rfl) (fun _ => rfl) (fun _ => rfl) (fun _ => rfl) (fun _ => rfl) (fun _ => rfl) (fun _ => rfl) (fun _ => rfl) (fun _ => rfl) (fun _ => rfl) (fun _ => rfl) (fun _ => rfl) (fun _ => rfl))
theorem hput_s1 {D : DD} {h : HF} {a : Nat} {σ : St} {v : Int32} : hupd (hput D h a σ) (a + 0) (.inr (6, [.ref (a + 1), .ref (a + 3), .ref (a + 16), .ref (a + 21), .ref (a + 26), .int (σ.2 0), .int v, .int (σ.2 2)])) = hput D h a (sput σ 1 v) := hput_set (by decide) rfl (lt29 (P := fun j => j ≠ 0 → stCell D a _ j = stCell D a _ j) (fun n => absurd rfl n) (fun _ => rfl) (fun _ => rfl) (fun _ => rfl) (fun _ => rfl) (fun _ => rfl) (fun _ => rfl) (fun _ => rfl) (fun _ => rfl) (fun _ => rfl) (fun _ => rfl) (fun _ => rfl) (fun _ => rfl) (fun _ => rfl) (fun _ => rfl) (fun _ => rfl) (fun _ => rfl) (fun _ => rfl) (fun _ => rfl) (fun _ => rfl) (fun _ => rfl) (fun _ => rfl) (fun _ => rfl) (fun _ => rfl) (fun _ => rfl) (fun _ => rfl) (fun _ => rfl) (fun _ => rfl) (fun _ => rfl))
theorem hput_s2 {D : DD} {h : HF} {a : Nat} {σ : St} {v : Int32} : hupd (hput D h a σ) (a + 0) (.inr (6, [.ref (a + 1), .ref (a + 3), .ref (a + 16), .ref (a + 21), .ref (a + 26), .int (σ.2 0), .int (σ.2 1), .int v])) = hput D h a (sput σ 2 v) := hput_set (by decide) rfl (lt29 (P := fun j => j ≠ 0 → stCell D a _ j = stCell D a _ j) (fun n => absurd rfl n) (fun _ => rfl) (fun _ => rfl) (fun _ => rfl) (fun _ => rfl) (fun _ => rfl) (fun _ => rfl) (fun _ => rfl) (fun _ => rfl) (fun _ => rfl) (fun _ => rfl) (fun _ => rfl) (fun _ => rfl) (fun _ => rfl) (fun _ => rfl) (fun _ => rfl) (fun _ => rfl) (fun _ => rfl) (fun _ => rfl) (fun _ => rfl) (fun _ => rfl) (fun _ => rfl) (fun _ => rfl) (fun _ => rfl) (fun _ => rfl) (fun _ => rfl) (fun _ => rfl) (fun _ => rfl) (fun _ => rfl))
theorem hput_s3 {D : DD} {h : HF} {a : Nat} {σ : St} {v : Int32} : hupd (hput D h a σ) (a + 21) (.inr (7, [.ref (a + 22), .ref (a + 24), .int v])) = hput D h a (sput σ 3 v) := hput_set (by decide) rfl (lt29 (P := fun j => j ≠ 21 → stCell D a _ j = stCell D a _ j) (fun _ => rfl) (fun _ => rfl) (fun _ => rfl) (fun _ => rfl) (fun _ => rfl) (fun _ => rfl) (fun _ => rfl) (fun _ => rfl) (fun _ => rfl) (fun _ => rfl) (fun _ => rfl) (fun _ => rfl) (fun _ => rfl) (fun _ => rfl) (fun _ => rfl) (fun _ => rfl) (fun _ => rfl) (fun _ => rfl) (fun _ => rfl) (fun _ => rfl) (fun _ => rfl) (fun n => absurd rfl n) (fun _ => rfl) (fun _ => rfl) (fun _ => rfl) (fun _ => rfl) (fun _ => rfl) (fun _ => rfl) (fun _ => rfl))
abbrev Sy : Type := (Nat → St) × (Nat → Int32) × (Nat → Nat → Int32)
def xst (S : Sy) (i : Nat) (σ : St) : Sy := (fun j => if j = i then σ else S.1 j, S.2)
def xsc (S : Sy) (i : Nat) (v : Int32) : Sy := (S.1, fun j => if j = i then v else S.2.1 j, S.2.2)
def xar (S : Sy) (i : Nat) (f : Nat → Int32) : Sy := (S.1, S.2.1, fun j => if j = i then f else S.2.2 j)
/-- where the States lie: 0 present, 1 snapshot, 2 imagined, 3 to 6 the history's -/
def xoff : Nat → Nat
  | 0 => 1
  | 1 => 30
  | 2 => 59
  | 3 => 90
  | 4 => 119
  | 5 => 148
  | _ => 177
def xsf (b : Nat) : Nat → Option Nat
  | 0 => some (b + 90)
  | 1 => some (b + 119)
  | 2 => some (b + 148)
  | _ => some (b + 177)
def xCell (D : DD) (b : Nat) (S : Sy) (k : Nat) : va_E :=
  if k = 0 then .inr (9, [.ref (b + 1), .ref (b + 30), .ref (b + 59), .ref (b + 88), .ref (b + 206), .ref (b + 208), .int (S.2.1 0)])
  else if k < 30 then stCell D (b + 1) (S.1 0) (k - 1)
  else if k < 59 then stCell D (b + 30) (S.1 1) (k - 30)
  else if k < 88 then stCell D (b + 59) (S.1 2) (k - 59)
  else if k = 88 then .inr (1, [.ref (b + 89), .int (S.2.1 1), .int (S.2.1 2)])
  else if k = 89 then .inl (D.2.1.2.2, (4, .inr (.inr (.inr (.inr (xsf b))))))
  else if k < 119 then stCell D (b + 90) (S.1 3) (k - 90)
  else if k < 148 then stCell D (b + 119) (S.1 4) (k - 119)
  else if k < 177 then stCell D (b + 148) (S.1 5) (k - 148)
  else if k < 206 then stCell D (b + 177) (S.1 6) (k - 177)
  else if k = 206 then .inr (8, [.ref (b + 207), .int (S.2.1 3), .int (S.2.1 4)])
  else if k = 207 then chrE D 70 (S.2.2 0)
  else if k = 208 then .inr (0, [.ref (b + 209), .int (S.2.1 5)])
  else if k = 209 then rowE (b + 210)
  else arrE D 384 (S.2.2 1)
def xput (D : DD) (h : HF) (b : Nat) (S : Sy) : HF := fun q => if b ≤ q ∧ q < b + 211 then some (xCell D b S (q - b)) else h q
theorem xput_k {D : DD} {h : HF} {b : Nat} {S : Sy} (k : Nat) (hk : k < 211) : xput D h b S (b + k) = some (xCell D b S k) := by
  unfold xput
  rw [if_pos ⟨by omega, by omega⟩, Nat.add_sub_cancel_left]
theorem xput_0 {D : DD} {h : HF} {b : Nat} {S : Sy} : xput D h b S b = some (xCell D b S 0) := xput_k 0 (by decide)
theorem xput_out {D : DD} {h : HF} {b q : Nat} {S : Sy} (hq : q < b ∨ b + 211 ≤ q) : xput D h b S q = h q := if_neg (by omega)
theorem xput_set {D : DD} {h : HF} {b k : Nat} {S S' : Sy} {x : va_E} (hk : k < 211) (e : xCell D b S' k = x) (ho : ∀ j, j < 211 → j ≠ k → xCell D b S' j = xCell D b S j) : hupd (xput D h b S) (b + k) x = xput D h b S' := by
  funext q
  by_cases c : q = b + k
  · rw [c, hupd_same, xput_k k hk, e]
  · rw [hupd_ne c]
    unfold xput
    by_cases c2 : b ≤ q ∧ q < b + 211
    · rw [if_pos c2, if_pos c2, ho (q - b) (by omega) (by omega)]
    · rw [if_neg c2, if_neg c2]
theorem xput_in {D : DD} {h : HF} {b i : Nat} {S : Sy} (hi : i < 7) : ∀ k, k < 29 → xCell D b S (xoff i + k) = stCell D (b + xoff i) (S.1 i) k := by
  intro k hk
  have c : i = 0 ∨ i = 1 ∨ i = 2 ∨ i = 3 ∨ i = 4 ∨ i = 5 ∨ i = 6 := by omega
  rcases c with rfl | rfl | rfl | rfl | rfl | rfl | rfl <;> simp only [xoff, xCell]
  all_goals (repeat (first | rw [if_pos (by omega)] | rw [if_neg (by omega)]))
  all_goals (rw [Nat.add_sub_cancel_left])
theorem xput_st {D : DD} {h : HF} {b i : Nat} {S : Sy} (hi : i < 7) : xput D h b S = hput D (xput D h b S) (b + xoff i) (S.1 i) := by
  funext q
  unfold hput
  by_cases c : b + xoff i ≤ q ∧ q < b + xoff i + 29
  · rw [if_pos c]
    have hx : xoff i + 29 ≤ 211 := by
      have c : i = 0 ∨ i = 1 ∨ i = 2 ∨ i = 3 ∨ i = 4 ∨ i = 5 ∨ i = 6 := by omega
      rcases c with rfl | rfl | rfl | rfl | rfl | rfl | rfl <;> decide
    have e : q = b + (xoff i + (q - (b + xoff i))) := by omega
    rw [← xput_in (h := h) hi (q - (b + xoff i)) (by omega), ← xput_k (h := h) _ (by omega), ← e]
  · rw [if_neg c]
theorem xst_ne {D : DD} {b i : Nat} {S : Sy} {τ : St} (hi : i < 7) (j : Nat) (hj : j < 211) (c : j < xoff i ∨ xoff i + 29 ≤ j) : xCell D b (xst S i τ) j = xCell D b S j := by
  unfold xCell
  have c3 : i = 0 ∨ i = 1 ∨ i = 2 ∨ i = 3 ∨ i = 4 ∨ i = 5 ∨ i = 6 := by omega
  rcases c3 with rfl | rfl | rfl | rfl | rfl | rfl | rfl <;> simp only [xoff] at c
  · by_cases c0 : j = 0
    · rw [if_pos c0, if_pos c0] <;> first | (exfalso; omega) | rfl
    rw [if_neg c0, if_neg c0]
    by_cases c1 : j < 30
    · rw [if_pos c1, if_pos c1] <;> first | (exfalso; omega) | rfl
    rw [if_neg c1, if_neg c1]
    by_cases c2 : j < 59
    · rw [if_pos c2, if_pos c2] <;> first | (exfalso; omega) | rfl
    rw [if_neg c2, if_neg c2]
    by_cases c3 : j < 88
    · rw [if_pos c3, if_pos c3] <;> first | (exfalso; omega) | rfl
    rw [if_neg c3, if_neg c3]
    by_cases c4 : j = 88
    · rw [if_pos c4, if_pos c4] <;> first | (exfalso; omega) | rfl
    rw [if_neg c4, if_neg c4]
    by_cases c5 : j = 89
    · rw [if_pos c5, if_pos c5] <;> first | (exfalso; omega) | rfl
    rw [if_neg c5, if_neg c5]
    by_cases c6 : j < 119
    · rw [if_pos c6, if_pos c6] <;> first | (exfalso; omega) | rfl
    rw [if_neg c6, if_neg c6]
    by_cases c7 : j < 148
    · rw [if_pos c7, if_pos c7] <;> first | (exfalso; omega) | rfl
    rw [if_neg c7, if_neg c7]
    by_cases c8 : j < 177
    · rw [if_pos c8, if_pos c8] <;> first | (exfalso; omega) | rfl
    rw [if_neg c8, if_neg c8]
    by_cases c9 : j < 206
    · rw [if_pos c9, if_pos c9] <;> first | (exfalso; omega) | rfl
    rw [if_neg c9, if_neg c9]
    by_cases c10 : j = 206
    · rw [if_pos c10, if_pos c10] <;> first | (exfalso; omega) | rfl
    rw [if_neg c10, if_neg c10]
    by_cases c11 : j = 207
    · rw [if_pos c11, if_pos c11] <;> first | (exfalso; omega) | rfl
    rw [if_neg c11, if_neg c11]
    by_cases c12 : j = 208
    · rw [if_pos c12, if_pos c12] <;> first | (exfalso; omega) | rfl
    rw [if_neg c12, if_neg c12]
    by_cases c13 : j = 209
    · rw [if_pos c13, if_pos c13] <;> first | (exfalso; omega) | rfl
    rw [if_neg c13, if_neg c13]
    first | (exfalso; omega) | rfl
  · by_cases c0 : j = 0
    · rw [if_pos c0, if_pos c0] <;> first | (exfalso; omega) | rfl
    rw [if_neg c0, if_neg c0]
    by_cases c1 : j < 30
    · rw [if_pos c1, if_pos c1] <;> first | (exfalso; omega) | rfl
    rw [if_neg c1, if_neg c1]
    by_cases c2 : j < 59
    · rw [if_pos c2, if_pos c2] <;> first | (exfalso; omega) | rfl
    rw [if_neg c2, if_neg c2]
    by_cases c3 : j < 88
    · rw [if_pos c3, if_pos c3] <;> first | (exfalso; omega) | rfl
    rw [if_neg c3, if_neg c3]
    by_cases c4 : j = 88
    · rw [if_pos c4, if_pos c4] <;> first | (exfalso; omega) | rfl
    rw [if_neg c4, if_neg c4]
    by_cases c5 : j = 89
    · rw [if_pos c5, if_pos c5] <;> first | (exfalso; omega) | rfl
    rw [if_neg c5, if_neg c5]
    by_cases c6 : j < 119
    · rw [if_pos c6, if_pos c6] <;> first | (exfalso; omega) | rfl
    rw [if_neg c6, if_neg c6]
    by_cases c7 : j < 148
    · rw [if_pos c7, if_pos c7] <;> first | (exfalso; omega) | rfl
    rw [if_neg c7, if_neg c7]
    by_cases c8 : j < 177
    · rw [if_pos c8, if_pos c8] <;> first | (exfalso; omega) | rfl
    rw [if_neg c8, if_neg c8]
    by_cases c9 : j < 206
    · rw [if_pos c9, if_pos c9] <;> first | (exfalso; omega) | rfl
    rw [if_neg c9, if_neg c9]
    by_cases c10 : j = 206
    · rw [if_pos c10, if_pos c10] <;> first | (exfalso; omega) | rfl
    rw [if_neg c10, if_neg c10]
    by_cases c11 : j = 207
    · rw [if_pos c11, if_pos c11] <;> first | (exfalso; omega) | rfl
    rw [if_neg c11, if_neg c11]
    by_cases c12 : j = 208
    · rw [if_pos c12, if_pos c12] <;> first | (exfalso; omega) | rfl
    rw [if_neg c12, if_neg c12]
    by_cases c13 : j = 209
    · rw [if_pos c13, if_pos c13] <;> first | (exfalso; omega) | rfl
    rw [if_neg c13, if_neg c13]
    first | (exfalso; omega) | rfl
  · by_cases c0 : j = 0
    · rw [if_pos c0, if_pos c0] <;> first | (exfalso; omega) | rfl
    rw [if_neg c0, if_neg c0]
    by_cases c1 : j < 30
    · rw [if_pos c1, if_pos c1] <;> first | (exfalso; omega) | rfl
    rw [if_neg c1, if_neg c1]
    by_cases c2 : j < 59
    · rw [if_pos c2, if_pos c2] <;> first | (exfalso; omega) | rfl
    rw [if_neg c2, if_neg c2]
    by_cases c3 : j < 88
    · rw [if_pos c3, if_pos c3] <;> first | (exfalso; omega) | rfl
    rw [if_neg c3, if_neg c3]
    by_cases c4 : j = 88
    · rw [if_pos c4, if_pos c4] <;> first | (exfalso; omega) | rfl
    rw [if_neg c4, if_neg c4]
    by_cases c5 : j = 89
    · rw [if_pos c5, if_pos c5] <;> first | (exfalso; omega) | rfl
    rw [if_neg c5, if_neg c5]
    by_cases c6 : j < 119
    · rw [if_pos c6, if_pos c6] <;> first | (exfalso; omega) | rfl
    rw [if_neg c6, if_neg c6]
    by_cases c7 : j < 148
    · rw [if_pos c7, if_pos c7] <;> first | (exfalso; omega) | rfl
    rw [if_neg c7, if_neg c7]
    by_cases c8 : j < 177
    · rw [if_pos c8, if_pos c8] <;> first | (exfalso; omega) | rfl
    rw [if_neg c8, if_neg c8]
    by_cases c9 : j < 206
    · rw [if_pos c9, if_pos c9] <;> first | (exfalso; omega) | rfl
    rw [if_neg c9, if_neg c9]
    by_cases c10 : j = 206
    · rw [if_pos c10, if_pos c10] <;> first | (exfalso; omega) | rfl
    rw [if_neg c10, if_neg c10]
    by_cases c11 : j = 207
    · rw [if_pos c11, if_pos c11] <;> first | (exfalso; omega) | rfl
    rw [if_neg c11, if_neg c11]
    by_cases c12 : j = 208
    · rw [if_pos c12, if_pos c12] <;> first | (exfalso; omega) | rfl
    rw [if_neg c12, if_neg c12]
    by_cases c13 : j = 209
    · rw [if_pos c13, if_pos c13] <;> first | (exfalso; omega) | rfl
    rw [if_neg c13, if_neg c13]
    first | (exfalso; omega) | rfl
  · by_cases c0 : j = 0
    · rw [if_pos c0, if_pos c0] <;> first | (exfalso; omega) | rfl
    rw [if_neg c0, if_neg c0]
    by_cases c1 : j < 30
    · rw [if_pos c1, if_pos c1] <;> first | (exfalso; omega) | rfl
    rw [if_neg c1, if_neg c1]
    by_cases c2 : j < 59
    · rw [if_pos c2, if_pos c2] <;> first | (exfalso; omega) | rfl
    rw [if_neg c2, if_neg c2]
    by_cases c3 : j < 88
    · rw [if_pos c3, if_pos c3] <;> first | (exfalso; omega) | rfl
    rw [if_neg c3, if_neg c3]
    by_cases c4 : j = 88
    · rw [if_pos c4, if_pos c4] <;> first | (exfalso; omega) | rfl
    rw [if_neg c4, if_neg c4]
    by_cases c5 : j = 89
    · rw [if_pos c5, if_pos c5] <;> first | (exfalso; omega) | rfl
    rw [if_neg c5, if_neg c5]
    by_cases c6 : j < 119
    · rw [if_pos c6, if_pos c6] <;> first | (exfalso; omega) | rfl
    rw [if_neg c6, if_neg c6]
    by_cases c7 : j < 148
    · rw [if_pos c7, if_pos c7] <;> first | (exfalso; omega) | rfl
    rw [if_neg c7, if_neg c7]
    by_cases c8 : j < 177
    · rw [if_pos c8, if_pos c8] <;> first | (exfalso; omega) | rfl
    rw [if_neg c8, if_neg c8]
    by_cases c9 : j < 206
    · rw [if_pos c9, if_pos c9] <;> first | (exfalso; omega) | rfl
    rw [if_neg c9, if_neg c9]
    by_cases c10 : j = 206
    · rw [if_pos c10, if_pos c10] <;> first | (exfalso; omega) | rfl
    rw [if_neg c10, if_neg c10]
    by_cases c11 : j = 207
    · rw [if_pos c11, if_pos c11] <;> first | (exfalso; omega) | rfl
    rw [if_neg c11, if_neg c11]
    by_cases c12 : j = 208
    · rw [if_pos c12, if_pos c12] <;> first | (exfalso; omega) | rfl
    rw [if_neg c12, if_neg c12]
    by_cases c13 : j = 209
    · rw [if_pos c13, if_pos c13] <;> first | (exfalso; omega) | rfl
    rw [if_neg c13, if_neg c13]
    first | (exfalso; omega) | rfl
  · by_cases c0 : j = 0
    · rw [if_pos c0, if_pos c0] <;> first | (exfalso; omega) | rfl
    rw [if_neg c0, if_neg c0]
    by_cases c1 : j < 30
    · rw [if_pos c1, if_pos c1] <;> first | (exfalso; omega) | rfl
    rw [if_neg c1, if_neg c1]
    by_cases c2 : j < 59
    · rw [if_pos c2, if_pos c2] <;> first | (exfalso; omega) | rfl
    rw [if_neg c2, if_neg c2]
    by_cases c3 : j < 88
    · rw [if_pos c3, if_pos c3] <;> first | (exfalso; omega) | rfl
    rw [if_neg c3, if_neg c3]
    by_cases c4 : j = 88
    · rw [if_pos c4, if_pos c4] <;> first | (exfalso; omega) | rfl
    rw [if_neg c4, if_neg c4]
    by_cases c5 : j = 89
    · rw [if_pos c5, if_pos c5] <;> first | (exfalso; omega) | rfl
    rw [if_neg c5, if_neg c5]
    by_cases c6 : j < 119
    · rw [if_pos c6, if_pos c6] <;> first | (exfalso; omega) | rfl
    rw [if_neg c6, if_neg c6]
    by_cases c7 : j < 148
    · rw [if_pos c7, if_pos c7] <;> first | (exfalso; omega) | rfl
    rw [if_neg c7, if_neg c7]
    by_cases c8 : j < 177
    · rw [if_pos c8, if_pos c8] <;> first | (exfalso; omega) | rfl
    rw [if_neg c8, if_neg c8]
    by_cases c9 : j < 206
    · rw [if_pos c9, if_pos c9] <;> first | (exfalso; omega) | rfl
    rw [if_neg c9, if_neg c9]
    by_cases c10 : j = 206
    · rw [if_pos c10, if_pos c10] <;> first | (exfalso; omega) | rfl
    rw [if_neg c10, if_neg c10]
    by_cases c11 : j = 207
    · rw [if_pos c11, if_pos c11] <;> first | (exfalso; omega) | rfl
    rw [if_neg c11, if_neg c11]
    by_cases c12 : j = 208
    · rw [if_pos c12, if_pos c12] <;> first | (exfalso; omega) | rfl
    rw [if_neg c12, if_neg c12]
    by_cases c13 : j = 209
    · rw [if_pos c13, if_pos c13] <;> first | (exfalso; omega) | rfl
    rw [if_neg c13, if_neg c13]
    first | (exfalso; omega) | rfl
  · by_cases c0 : j = 0
    · rw [if_pos c0, if_pos c0] <;> first | (exfalso; omega) | rfl
    rw [if_neg c0, if_neg c0]
    by_cases c1 : j < 30
    · rw [if_pos c1, if_pos c1] <;> first | (exfalso; omega) | rfl
    rw [if_neg c1, if_neg c1]
    by_cases c2 : j < 59
    · rw [if_pos c2, if_pos c2] <;> first | (exfalso; omega) | rfl
    rw [if_neg c2, if_neg c2]
    by_cases c3 : j < 88
    · rw [if_pos c3, if_pos c3] <;> first | (exfalso; omega) | rfl
    rw [if_neg c3, if_neg c3]
    by_cases c4 : j = 88
    · rw [if_pos c4, if_pos c4] <;> first | (exfalso; omega) | rfl
    rw [if_neg c4, if_neg c4]
    by_cases c5 : j = 89
    · rw [if_pos c5, if_pos c5] <;> first | (exfalso; omega) | rfl
    rw [if_neg c5, if_neg c5]
    by_cases c6 : j < 119
    · rw [if_pos c6, if_pos c6] <;> first | (exfalso; omega) | rfl
    rw [if_neg c6, if_neg c6]
    by_cases c7 : j < 148
    · rw [if_pos c7, if_pos c7] <;> first | (exfalso; omega) | rfl
    rw [if_neg c7, if_neg c7]
    by_cases c8 : j < 177
    · rw [if_pos c8, if_pos c8] <;> first | (exfalso; omega) | rfl
    rw [if_neg c8, if_neg c8]
    by_cases c9 : j < 206
    · rw [if_pos c9, if_pos c9] <;> first | (exfalso; omega) | rfl
    rw [if_neg c9, if_neg c9]
    by_cases c10 : j = 206
    · rw [if_pos c10, if_pos c10] <;> first | (exfalso; omega) | rfl
    rw [if_neg c10, if_neg c10]
    by_cases c11 : j = 207
    · rw [if_pos c11, if_pos c11] <;> first | (exfalso; omega) | rfl
    rw [if_neg c11, if_neg c11]
    by_cases c12 : j = 208
    · rw [if_pos c12, if_pos c12] <;> first | (exfalso; omega) | rfl
    rw [if_neg c12, if_neg c12]
    by_cases c13 : j = 209
    · rw [if_pos c13, if_pos c13] <;> first | (exfalso; omega) | rfl
    rw [if_neg c13, if_neg c13]
    first | (exfalso; omega) | rfl
  · by_cases c0 : j = 0
    · rw [if_pos c0, if_pos c0] <;> first | (exfalso; omega) | rfl
    rw [if_neg c0, if_neg c0]
    by_cases c1 : j < 30
    · rw [if_pos c1, if_pos c1] <;> first | (exfalso; omega) | rfl
    rw [if_neg c1, if_neg c1]
    by_cases c2 : j < 59
    · rw [if_pos c2, if_pos c2] <;> first | (exfalso; omega) | rfl
    rw [if_neg c2, if_neg c2]
    by_cases c3 : j < 88
    · rw [if_pos c3, if_pos c3] <;> first | (exfalso; omega) | rfl
    rw [if_neg c3, if_neg c3]
    by_cases c4 : j = 88
    · rw [if_pos c4, if_pos c4] <;> first | (exfalso; omega) | rfl
    rw [if_neg c4, if_neg c4]
    by_cases c5 : j = 89
    · rw [if_pos c5, if_pos c5] <;> first | (exfalso; omega) | rfl
    rw [if_neg c5, if_neg c5]
    by_cases c6 : j < 119
    · rw [if_pos c6, if_pos c6] <;> first | (exfalso; omega) | rfl
    rw [if_neg c6, if_neg c6]
    by_cases c7 : j < 148
    · rw [if_pos c7, if_pos c7] <;> first | (exfalso; omega) | rfl
    rw [if_neg c7, if_neg c7]
    by_cases c8 : j < 177
    · rw [if_pos c8, if_pos c8] <;> first | (exfalso; omega) | rfl
    rw [if_neg c8, if_neg c8]
    by_cases c9 : j < 206
    · rw [if_pos c9, if_pos c9] <;> first | (exfalso; omega) | rfl
    rw [if_neg c9, if_neg c9]
    by_cases c10 : j = 206
    · rw [if_pos c10, if_pos c10] <;> first | (exfalso; omega) | rfl
    rw [if_neg c10, if_neg c10]
    by_cases c11 : j = 207
    · rw [if_pos c11, if_pos c11] <;> first | (exfalso; omega) | rfl
    rw [if_neg c11, if_neg c11]
    by_cases c12 : j = 208
    · rw [if_pos c12, if_pos c12] <;> first | (exfalso; omega) | rfl
    rw [if_neg c12, if_neg c12]
    by_cases c13 : j = 209
    · rw [if_pos c13, if_pos c13] <;> first | (exfalso; omega) | rfl
    rw [if_neg c13, if_neg c13]
    first | (exfalso; omega) | rfl
theorem xst_st {D : DD} {h : HF} {b i : Nat} {S : Sy} {τ : St} (hi : i < 7) : hput D (xput D h b S) (b + xoff i) τ = xput D h b (xst S i τ) := by
  funext q
  unfold hput
  have hx : xoff i + 29 ≤ 211 := by
    have c : i = 0 ∨ i = 1 ∨ i = 2 ∨ i = 3 ∨ i = 4 ∨ i = 5 ∨ i = 6 := by omega
    rcases c with rfl | rfl | rfl | rfl | rfl | rfl | rfl <;> decide
  by_cases c : b + xoff i ≤ q ∧ q < b + xoff i + 29
  · rw [if_pos c]
    have e : q = b + (xoff i + (q - (b + xoff i))) := by omega
    have e2 : τ = (xst S i τ).1 i := (if_pos rfl).symm
    conv => lhs; rw [e2]
    rw [← xput_in (h := h) hi (q - (b + xoff i)) (by omega), ← xput_k (h := h) _ (by omega), ← e]
  · rw [if_neg c]
    unfold xput
    by_cases c2 : b ≤ q ∧ q < b + 211
    · rw [if_pos c2, if_pos c2]
      exact congrArg some (xst_ne hi (q - b) (by omega) (by omega)).symm
    · rw [if_neg c2, if_neg c2]
theorem xput_s0 {D : DD} {h : HF} {b : Nat} {S : Sy} {v : Int32} : hupd (xput D h b S) (b + 0) (.inr (9, [.ref (b + 1), .ref (b + 30), .ref (b + 59), .ref (b + 88), .ref (b + 206), .ref (b + 208), (.int v)])) = xput D h b (xsc S 0 v) := by
  refine xput_set (by decide) rfl (fun j hj hne => ?_)
  unfold xCell
  by_cases c0 : j = 0
  · rw [if_pos c0, if_pos c0] <;> first | (exfalso; omega) | rfl
  rw [if_neg c0, if_neg c0]
  by_cases c1 : j < 30
  · rw [if_pos c1, if_pos c1] <;> first | (exfalso; omega) | rfl
  rw [if_neg c1, if_neg c1]
  by_cases c2 : j < 59
  · rw [if_pos c2, if_pos c2] <;> first | (exfalso; omega) | rfl
  rw [if_neg c2, if_neg c2]
  by_cases c3 : j < 88
  · rw [if_pos c3, if_pos c3] <;> first | (exfalso; omega) | rfl
  rw [if_neg c3, if_neg c3]
  by_cases c4 : j = 88
  · rw [if_pos c4, if_pos c4] <;> first | (exfalso; omega) | rfl
  rw [if_neg c4, if_neg c4]
  by_cases c5 : j = 89
  · rw [if_pos c5, if_pos c5] <;> first | (exfalso; omega) | rfl
  rw [if_neg c5, if_neg c5]
  by_cases c6 : j < 119
  · rw [if_pos c6, if_pos c6] <;> first | (exfalso; omega) | rfl
  rw [if_neg c6, if_neg c6]
  by_cases c7 : j < 148
  · rw [if_pos c7, if_pos c7] <;> first | (exfalso; omega) | rfl
  rw [if_neg c7, if_neg c7]
  by_cases c8 : j < 177
  · rw [if_pos c8, if_pos c8] <;> first | (exfalso; omega) | rfl
  rw [if_neg c8, if_neg c8]
  by_cases c9 : j < 206
  · rw [if_pos c9, if_pos c9] <;> first | (exfalso; omega) | rfl
  rw [if_neg c9, if_neg c9]
  by_cases c10 : j = 206
  · rw [if_pos c10, if_pos c10] <;> first | (exfalso; omega) | rfl
  rw [if_neg c10, if_neg c10]
  by_cases c11 : j = 207
  · rw [if_pos c11, if_pos c11] <;> first | (exfalso; omega) | rfl
  rw [if_neg c11, if_neg c11]
  by_cases c12 : j = 208
  · rw [if_pos c12, if_pos c12] <;> first | (exfalso; omega) | rfl
  rw [if_neg c12, if_neg c12]
  by_cases c13 : j = 209
  · rw [if_pos c13, if_pos c13] <;> first | (exfalso; omega) | rfl
  rw [if_neg c13, if_neg c13]
  first | (exfalso; omega) | rfl
theorem xput_s1 {D : DD} {h : HF} {b : Nat} {S : Sy} {v : Int32} : hupd (xput D h b S) (b + 88) (.inr (1, [.ref (b + 89), (.int v), .int (S.2.1 2)])) = xput D h b (xsc S 1 v) := by
  refine xput_set (by decide) rfl (fun j hj hne => ?_)
  unfold xCell
  by_cases c0 : j = 0
  · rw [if_pos c0, if_pos c0] <;> first | (exfalso; omega) | rfl
  rw [if_neg c0, if_neg c0]
  by_cases c1 : j < 30
  · rw [if_pos c1, if_pos c1] <;> first | (exfalso; omega) | rfl
  rw [if_neg c1, if_neg c1]
  by_cases c2 : j < 59
  · rw [if_pos c2, if_pos c2] <;> first | (exfalso; omega) | rfl
  rw [if_neg c2, if_neg c2]
  by_cases c3 : j < 88
  · rw [if_pos c3, if_pos c3] <;> first | (exfalso; omega) | rfl
  rw [if_neg c3, if_neg c3]
  by_cases c4 : j = 88
  · rw [if_pos c4, if_pos c4] <;> first | (exfalso; omega) | rfl
  rw [if_neg c4, if_neg c4]
  by_cases c5 : j = 89
  · rw [if_pos c5, if_pos c5] <;> first | (exfalso; omega) | rfl
  rw [if_neg c5, if_neg c5]
  by_cases c6 : j < 119
  · rw [if_pos c6, if_pos c6] <;> first | (exfalso; omega) | rfl
  rw [if_neg c6, if_neg c6]
  by_cases c7 : j < 148
  · rw [if_pos c7, if_pos c7] <;> first | (exfalso; omega) | rfl
  rw [if_neg c7, if_neg c7]
  by_cases c8 : j < 177
  · rw [if_pos c8, if_pos c8] <;> first | (exfalso; omega) | rfl
  rw [if_neg c8, if_neg c8]
  by_cases c9 : j < 206
  · rw [if_pos c9, if_pos c9] <;> first | (exfalso; omega) | rfl
  rw [if_neg c9, if_neg c9]
  by_cases c10 : j = 206
  · rw [if_pos c10, if_pos c10] <;> first | (exfalso; omega) | rfl
  rw [if_neg c10, if_neg c10]
  by_cases c11 : j = 207
  · rw [if_pos c11, if_pos c11] <;> first | (exfalso; omega) | rfl
  rw [if_neg c11, if_neg c11]
  by_cases c12 : j = 208
  · rw [if_pos c12, if_pos c12] <;> first | (exfalso; omega) | rfl
  rw [if_neg c12, if_neg c12]
  by_cases c13 : j = 209
  · rw [if_pos c13, if_pos c13] <;> first | (exfalso; omega) | rfl
  rw [if_neg c13, if_neg c13]
  first | (exfalso; omega) | rfl
theorem xput_s2 {D : DD} {h : HF} {b : Nat} {S : Sy} {v : Int32} : hupd (xput D h b S) (b + 88) (.inr (1, [.ref (b + 89), .int (S.2.1 1), (.int v)])) = xput D h b (xsc S 2 v) := by
  refine xput_set (by decide) rfl (fun j hj hne => ?_)
  unfold xCell
  by_cases c0 : j = 0
  · rw [if_pos c0, if_pos c0] <;> first | (exfalso; omega) | rfl
  rw [if_neg c0, if_neg c0]
  by_cases c1 : j < 30
  · rw [if_pos c1, if_pos c1] <;> first | (exfalso; omega) | rfl
  rw [if_neg c1, if_neg c1]
  by_cases c2 : j < 59
  · rw [if_pos c2, if_pos c2] <;> first | (exfalso; omega) | rfl
  rw [if_neg c2, if_neg c2]
  by_cases c3 : j < 88
  · rw [if_pos c3, if_pos c3] <;> first | (exfalso; omega) | rfl
  rw [if_neg c3, if_neg c3]
  by_cases c4 : j = 88
  · rw [if_pos c4, if_pos c4] <;> first | (exfalso; omega) | rfl
  rw [if_neg c4, if_neg c4]
  by_cases c5 : j = 89
  · rw [if_pos c5, if_pos c5] <;> first | (exfalso; omega) | rfl
  rw [if_neg c5, if_neg c5]
  by_cases c6 : j < 119
  · rw [if_pos c6, if_pos c6] <;> first | (exfalso; omega) | rfl
  rw [if_neg c6, if_neg c6]
  by_cases c7 : j < 148
  · rw [if_pos c7, if_pos c7] <;> first | (exfalso; omega) | rfl
  rw [if_neg c7, if_neg c7]
  by_cases c8 : j < 177
  · rw [if_pos c8, if_pos c8] <;> first | (exfalso; omega) | rfl
  rw [if_neg c8, if_neg c8]
  by_cases c9 : j < 206
  · rw [if_pos c9, if_pos c9] <;> first | (exfalso; omega) | rfl
  rw [if_neg c9, if_neg c9]
  by_cases c10 : j = 206
  · rw [if_pos c10, if_pos c10] <;> first | (exfalso; omega) | rfl
  rw [if_neg c10, if_neg c10]
  by_cases c11 : j = 207
  · rw [if_pos c11, if_pos c11] <;> first | (exfalso; omega) | rfl
  rw [if_neg c11, if_neg c11]
  by_cases c12 : j = 208
  · rw [if_pos c12, if_pos c12] <;> first | (exfalso; omega) | rfl
  rw [if_neg c12, if_neg c12]
  by_cases c13 : j = 209
  · rw [if_pos c13, if_pos c13] <;> first | (exfalso; omega) | rfl
  rw [if_neg c13, if_neg c13]
  first | (exfalso; omega) | rfl
theorem xput_s3 {D : DD} {h : HF} {b : Nat} {S : Sy} {v : Int32} : hupd (xput D h b S) (b + 206) (.inr (8, [.ref (b + 207), (.int v), .int (S.2.1 4)])) = xput D h b (xsc S 3 v) := by
  refine xput_set (by decide) rfl (fun j hj hne => ?_)
  unfold xCell
  by_cases c0 : j = 0
  · rw [if_pos c0, if_pos c0] <;> first | (exfalso; omega) | rfl
  rw [if_neg c0, if_neg c0]
  by_cases c1 : j < 30
  · rw [if_pos c1, if_pos c1] <;> first | (exfalso; omega) | rfl
  rw [if_neg c1, if_neg c1]
  by_cases c2 : j < 59
  · rw [if_pos c2, if_pos c2] <;> first | (exfalso; omega) | rfl
  rw [if_neg c2, if_neg c2]
  by_cases c3 : j < 88
  · rw [if_pos c3, if_pos c3] <;> first | (exfalso; omega) | rfl
  rw [if_neg c3, if_neg c3]
  by_cases c4 : j = 88
  · rw [if_pos c4, if_pos c4] <;> first | (exfalso; omega) | rfl
  rw [if_neg c4, if_neg c4]
  by_cases c5 : j = 89
  · rw [if_pos c5, if_pos c5] <;> first | (exfalso; omega) | rfl
  rw [if_neg c5, if_neg c5]
  by_cases c6 : j < 119
  · rw [if_pos c6, if_pos c6] <;> first | (exfalso; omega) | rfl
  rw [if_neg c6, if_neg c6]
  by_cases c7 : j < 148
  · rw [if_pos c7, if_pos c7] <;> first | (exfalso; omega) | rfl
  rw [if_neg c7, if_neg c7]
  by_cases c8 : j < 177
  · rw [if_pos c8, if_pos c8] <;> first | (exfalso; omega) | rfl
  rw [if_neg c8, if_neg c8]
  by_cases c9 : j < 206
  · rw [if_pos c9, if_pos c9] <;> first | (exfalso; omega) | rfl
  rw [if_neg c9, if_neg c9]
  by_cases c10 : j = 206
  · rw [if_pos c10, if_pos c10] <;> first | (exfalso; omega) | rfl
  rw [if_neg c10, if_neg c10]
  by_cases c11 : j = 207
  · rw [if_pos c11, if_pos c11] <;> first | (exfalso; omega) | rfl
  rw [if_neg c11, if_neg c11]
  by_cases c12 : j = 208
  · rw [if_pos c12, if_pos c12] <;> first | (exfalso; omega) | rfl
  rw [if_neg c12, if_neg c12]
  by_cases c13 : j = 209
  · rw [if_pos c13, if_pos c13] <;> first | (exfalso; omega) | rfl
  rw [if_neg c13, if_neg c13]
  first | (exfalso; omega) | rfl
theorem xput_s4 {D : DD} {h : HF} {b : Nat} {S : Sy} {v : Int32} : hupd (xput D h b S) (b + 206) (.inr (8, [.ref (b + 207), .int (S.2.1 3), (.int v)])) = xput D h b (xsc S 4 v) := by
  refine xput_set (by decide) rfl (fun j hj hne => ?_)
  unfold xCell
  by_cases c0 : j = 0
  · rw [if_pos c0, if_pos c0] <;> first | (exfalso; omega) | rfl
  rw [if_neg c0, if_neg c0]
  by_cases c1 : j < 30
  · rw [if_pos c1, if_pos c1] <;> first | (exfalso; omega) | rfl
  rw [if_neg c1, if_neg c1]
  by_cases c2 : j < 59
  · rw [if_pos c2, if_pos c2] <;> first | (exfalso; omega) | rfl
  rw [if_neg c2, if_neg c2]
  by_cases c3 : j < 88
  · rw [if_pos c3, if_pos c3] <;> first | (exfalso; omega) | rfl
  rw [if_neg c3, if_neg c3]
  by_cases c4 : j = 88
  · rw [if_pos c4, if_pos c4] <;> first | (exfalso; omega) | rfl
  rw [if_neg c4, if_neg c4]
  by_cases c5 : j = 89
  · rw [if_pos c5, if_pos c5] <;> first | (exfalso; omega) | rfl
  rw [if_neg c5, if_neg c5]
  by_cases c6 : j < 119
  · rw [if_pos c6, if_pos c6] <;> first | (exfalso; omega) | rfl
  rw [if_neg c6, if_neg c6]
  by_cases c7 : j < 148
  · rw [if_pos c7, if_pos c7] <;> first | (exfalso; omega) | rfl
  rw [if_neg c7, if_neg c7]
  by_cases c8 : j < 177
  · rw [if_pos c8, if_pos c8] <;> first | (exfalso; omega) | rfl
  rw [if_neg c8, if_neg c8]
  by_cases c9 : j < 206
  · rw [if_pos c9, if_pos c9] <;> first | (exfalso; omega) | rfl
  rw [if_neg c9, if_neg c9]
  by_cases c10 : j = 206
  · rw [if_pos c10, if_pos c10] <;> first | (exfalso; omega) | rfl
  rw [if_neg c10, if_neg c10]
  by_cases c11 : j = 207
  · rw [if_pos c11, if_pos c11] <;> first | (exfalso; omega) | rfl
  rw [if_neg c11, if_neg c11]
  by_cases c12 : j = 208
  · rw [if_pos c12, if_pos c12] <;> first | (exfalso; omega) | rfl
  rw [if_neg c12, if_neg c12]
  by_cases c13 : j = 209
  · rw [if_pos c13, if_pos c13] <;> first | (exfalso; omega) | rfl
  rw [if_neg c13, if_neg c13]
  first | (exfalso; omega) | rfl
theorem xput_s5 {D : DD} {h : HF} {b : Nat} {S : Sy} {v : Int32} : hupd (xput D h b S) (b + 208) (.inr (0, [.ref (b + 209), (.int v)])) = xput D h b (xsc S 5 v) := by
  refine xput_set (by decide) rfl (fun j hj hne => ?_)
  unfold xCell
  by_cases c0 : j = 0
  · rw [if_pos c0, if_pos c0] <;> first | (exfalso; omega) | rfl
  rw [if_neg c0, if_neg c0]
  by_cases c1 : j < 30
  · rw [if_pos c1, if_pos c1] <;> first | (exfalso; omega) | rfl
  rw [if_neg c1, if_neg c1]
  by_cases c2 : j < 59
  · rw [if_pos c2, if_pos c2] <;> first | (exfalso; omega) | rfl
  rw [if_neg c2, if_neg c2]
  by_cases c3 : j < 88
  · rw [if_pos c3, if_pos c3] <;> first | (exfalso; omega) | rfl
  rw [if_neg c3, if_neg c3]
  by_cases c4 : j = 88
  · rw [if_pos c4, if_pos c4] <;> first | (exfalso; omega) | rfl
  rw [if_neg c4, if_neg c4]
  by_cases c5 : j = 89
  · rw [if_pos c5, if_pos c5] <;> first | (exfalso; omega) | rfl
  rw [if_neg c5, if_neg c5]
  by_cases c6 : j < 119
  · rw [if_pos c6, if_pos c6] <;> first | (exfalso; omega) | rfl
  rw [if_neg c6, if_neg c6]
  by_cases c7 : j < 148
  · rw [if_pos c7, if_pos c7] <;> first | (exfalso; omega) | rfl
  rw [if_neg c7, if_neg c7]
  by_cases c8 : j < 177
  · rw [if_pos c8, if_pos c8] <;> first | (exfalso; omega) | rfl
  rw [if_neg c8, if_neg c8]
  by_cases c9 : j < 206
  · rw [if_pos c9, if_pos c9] <;> first | (exfalso; omega) | rfl
  rw [if_neg c9, if_neg c9]
  by_cases c10 : j = 206
  · rw [if_pos c10, if_pos c10] <;> first | (exfalso; omega) | rfl
  rw [if_neg c10, if_neg c10]
  by_cases c11 : j = 207
  · rw [if_pos c11, if_pos c11] <;> first | (exfalso; omega) | rfl
  rw [if_neg c11, if_neg c11]
  by_cases c12 : j = 208
  · rw [if_pos c12, if_pos c12] <;> first | (exfalso; omega) | rfl
  rw [if_neg c12, if_neg c12]
  by_cases c13 : j = 209
  · rw [if_pos c13, if_pos c13] <;> first | (exfalso; omega) | rfl
  rw [if_neg c13, if_neg c13]
  first | (exfalso; omega) | rfl
theorem xput_a0 {D : DD} {h : HF} {b : Nat} {S : Sy} {f : Nat → Int32} : hupd (xput D h b S) (b + 207) (chrE D 70 f) = xput D h b (xar S 0 f) := by
  refine xput_set (by decide) rfl (fun j hj hne => ?_)
  unfold xCell
  by_cases c0 : j = 0
  · rw [if_pos c0, if_pos c0] <;> first | (exfalso; omega) | rfl
  rw [if_neg c0, if_neg c0]
  by_cases c1 : j < 30
  · rw [if_pos c1, if_pos c1] <;> first | (exfalso; omega) | rfl
  rw [if_neg c1, if_neg c1]
  by_cases c2 : j < 59
  · rw [if_pos c2, if_pos c2] <;> first | (exfalso; omega) | rfl
  rw [if_neg c2, if_neg c2]
  by_cases c3 : j < 88
  · rw [if_pos c3, if_pos c3] <;> first | (exfalso; omega) | rfl
  rw [if_neg c3, if_neg c3]
  by_cases c4 : j = 88
  · rw [if_pos c4, if_pos c4] <;> first | (exfalso; omega) | rfl
  rw [if_neg c4, if_neg c4]
  by_cases c5 : j = 89
  · rw [if_pos c5, if_pos c5] <;> first | (exfalso; omega) | rfl
  rw [if_neg c5, if_neg c5]
  by_cases c6 : j < 119
  · rw [if_pos c6, if_pos c6] <;> first | (exfalso; omega) | rfl
  rw [if_neg c6, if_neg c6]
  by_cases c7 : j < 148
  · rw [if_pos c7, if_pos c7] <;> first | (exfalso; omega) | rfl
  rw [if_neg c7, if_neg c7]
  by_cases c8 : j < 177
  · rw [if_pos c8, if_pos c8] <;> first | (exfalso; omega) | rfl
  rw [if_neg c8, if_neg c8]
  by_cases c9 : j < 206
  · rw [if_pos c9, if_pos c9] <;> first | (exfalso; omega) | rfl
  rw [if_neg c9, if_neg c9]
  by_cases c10 : j = 206
  · rw [if_pos c10, if_pos c10] <;> first | (exfalso; omega) | rfl
  rw [if_neg c10, if_neg c10]
  by_cases c11 : j = 207
  · rw [if_pos c11, if_pos c11] <;> first | (exfalso; omega) | rfl
  rw [if_neg c11, if_neg c11]
  by_cases c12 : j = 208
  · rw [if_pos c12, if_pos c12] <;> first | (exfalso; omega) | rfl
  rw [if_neg c12, if_neg c12]
  by_cases c13 : j = 209
  · rw [if_pos c13, if_pos c13] <;> first | (exfalso; omega) | rfl
  rw [if_neg c13, if_neg c13]
  first | (exfalso; omega) | rfl
theorem xput_a1 {D : DD} {h : HF} {b : Nat} {S : Sy} {f : Nat → Int32} : hupd (xput D h b S) (b + 210) (arrE D 384 f) = xput D h b (xar S 1 f) := by
  refine xput_set (by decide) rfl (fun j hj hne => ?_)
  unfold xCell
  by_cases c0 : j = 0
  · rw [if_pos c0, if_pos c0] <;> first | (exfalso; omega) | rfl
  rw [if_neg c0, if_neg c0]
  by_cases c1 : j < 30
  · rw [if_pos c1, if_pos c1] <;> first | (exfalso; omega) | rfl
  rw [if_neg c1, if_neg c1]
  by_cases c2 : j < 59
  · rw [if_pos c2, if_pos c2] <;> first | (exfalso; omega) | rfl
  rw [if_neg c2, if_neg c2]
  by_cases c3 : j < 88
  · rw [if_pos c3, if_pos c3] <;> first | (exfalso; omega) | rfl
  rw [if_neg c3, if_neg c3]
  by_cases c4 : j = 88
  · rw [if_pos c4, if_pos c4] <;> first | (exfalso; omega) | rfl
  rw [if_neg c4, if_neg c4]
  by_cases c5 : j = 89
  · rw [if_pos c5, if_pos c5] <;> first | (exfalso; omega) | rfl
  rw [if_neg c5, if_neg c5]
  by_cases c6 : j < 119
  · rw [if_pos c6, if_pos c6] <;> first | (exfalso; omega) | rfl
  rw [if_neg c6, if_neg c6]
  by_cases c7 : j < 148
  · rw [if_pos c7, if_pos c7] <;> first | (exfalso; omega) | rfl
  rw [if_neg c7, if_neg c7]
  by_cases c8 : j < 177
  · rw [if_pos c8, if_pos c8] <;> first | (exfalso; omega) | rfl
  rw [if_neg c8, if_neg c8]
  by_cases c9 : j < 206
  · rw [if_pos c9, if_pos c9] <;> first | (exfalso; omega) | rfl
  rw [if_neg c9, if_neg c9]
  by_cases c10 : j = 206
  · rw [if_pos c10, if_pos c10] <;> first | (exfalso; omega) | rfl
  rw [if_neg c10, if_neg c10]
  by_cases c11 : j = 207
  · rw [if_pos c11, if_pos c11] <;> first | (exfalso; omega) | rfl
  rw [if_neg c11, if_neg c11]
  by_cases c12 : j = 208
  · rw [if_pos c12, if_pos c12] <;> first | (exfalso; omega) | rfl
  rw [if_neg c12, if_neg c12]
  by_cases c13 : j = 209
  · rw [if_pos c13, if_pos c13] <;> first | (exfalso; omega) | rfl
  rw [if_neg c13, if_neg c13]
  first | (exfalso; omega) | rfl
/-! the reference: 8 cells -/
abbrev Mo : Type := (Nat → Int32) × (Nat → Nat → Int32)
def msc (μ : Mo) (i : Nat) (v : Int32) : Mo := (fun j => if j = i then v else μ.1 j, μ.2)
def mar (μ : Mo) (i : Nat) (f : Nat → Int32) : Mo := (μ.1, fun j => if j = i then f else μ.2 j)
def mCell (D : DD) (b : Nat) (μ : Mo) : Nat → va_E
  | 0 => .inr (10, [.ref (b + 1), .ref (b + 2), .int (μ.1 0), .ref (b + 3), .int (μ.1 1), .ref (b + 4), .int (μ.1 2), .int (μ.1 3), .ref (b + 5), .int (μ.1 4), .ref (b + 6), .int (μ.1 5), .int (μ.1 6), .ref (b + 7)])
  | 1 => arrE D 1752 (μ.2 0)
  | 2 => arrE D 7008 (μ.2 1)
  | 3 => arrE D 1752 (μ.2 2)
  | 4 => arrE D 1752 (μ.2 3)
  | 5 => arrE D 320 (μ.2 4)
  | 6 => chrE D 70 (μ.2 5)
  | _ => arrE D 56 (μ.2 6)
def mput (D : DD) (h : HF) (b : Nat) (μ : Mo) : HF := fun q => if b ≤ q ∧ q < b + 8 then some (mCell D b μ (q - b)) else h q
theorem mput_k {D : DD} {h : HF} {b : Nat} {μ : Mo} (k : Nat) (hk : k < 8) : mput D h b μ (b + k) = some (mCell D b μ k) := by
  unfold mput
  rw [if_pos ⟨by omega, by omega⟩, Nat.add_sub_cancel_left]
theorem mput_0 {D : DD} {h : HF} {b : Nat} {μ : Mo} : mput D h b μ b = some (mCell D b μ 0) := mput_k 0 (by decide)
theorem mput_out {D : DD} {h : HF} {b q : Nat} {μ : Mo} (hq : q < b ∨ b + 8 ≤ q) : mput D h b μ q = h q := if_neg (by omega)
theorem mput_set {D : DD} {h : HF} {b k : Nat} {μ ν : Mo} {x : va_E} (hk : k < 8) (e : mCell D b ν k = x) (ho : ∀ j, j < 8 → j ≠ k → mCell D b ν j = mCell D b μ j) : hupd (mput D h b μ) (b + k) x = mput D h b ν := by
  funext q
  by_cases c : q = b + k
  · rw [c, hupd_same, mput_k k hk, e]
  · rw [hupd_ne c]
    unfold mput
    by_cases c2 : b ≤ q ∧ q < b + 8
    · rw [if_pos c2, if_pos c2, ho (q - b) (by omega) (by omega)]
    · rw [if_neg c2, if_neg c2]
theorem lt8 {P : Nat → Prop} (h0 : P 0) (h1 : P 1) (h2 : P 2) (h3 : P 3) (h4 : P 4) (h5 : P 5) (h6 : P 6) (h7 : P 7) : ∀ j, j < 8 → P j := by
  intro j hj
  have c : j = 0 ∨ j = 1 ∨ j = 2 ∨ j = 3 ∨ j = 4 ∨ j = 5 ∨ j = 6 ∨ j = 7 := by omega
  rcases c with rfl | rfl | rfl | rfl | rfl | rfl | rfl | rfl <;> assumption
theorem mput_a0 {D : DD} {h : HF} {b : Nat} {μ : Mo} {f : Nat → Int32} : hupd (mput D h b μ) (b + 1) (arrE D 1752 f) = mput D h b (mar μ 0 f) := mput_set (by decide) rfl (lt8 (P := fun j => j ≠ 1 → mCell D b _ j = mCell D b _ j) (fun _ => rfl) (fun n => absurd rfl n) (fun _ => rfl) (fun _ => rfl) (fun _ => rfl) (fun _ => rfl) (fun _ => rfl) (fun _ => rfl))
theorem mput_a1 {D : DD} {h : HF} {b : Nat} {μ : Mo} {f : Nat → Int32} : hupd (mput D h b μ) (b + 2) (arrE D 7008 f) = mput D h b (mar μ 1 f) := mput_set (by decide) rfl (lt8 (P := fun j => j ≠ 2 → mCell D b _ j = mCell D b _ j) (fun _ => rfl) (fun _ => rfl) (fun n => absurd rfl n) (fun _ => rfl) (fun _ => rfl) (fun _ => rfl) (fun _ => rfl) (fun _ => rfl))
theorem mput_a2 {D : DD} {h : HF} {b : Nat} {μ : Mo} {f : Nat → Int32} : hupd (mput D h b μ) (b + 3) (arrE D 1752 f) = mput D h b (mar μ 2 f) := mput_set (by decide) rfl (lt8 (P := fun j => j ≠ 3 → mCell D b _ j = mCell D b _ j) (fun _ => rfl) (fun _ => rfl) (fun _ => rfl) (fun n => absurd rfl n) (fun _ => rfl) (fun _ => rfl) (fun _ => rfl) (fun _ => rfl))
theorem mput_a3 {D : DD} {h : HF} {b : Nat} {μ : Mo} {f : Nat → Int32} : hupd (mput D h b μ) (b + 4) (arrE D 1752 f) = mput D h b (mar μ 3 f) := mput_set (by decide) rfl (lt8 (P := fun j => j ≠ 4 → mCell D b _ j = mCell D b _ j) (fun _ => rfl) (fun _ => rfl) (fun _ => rfl) (fun _ => rfl) (fun n => absurd rfl n) (fun _ => rfl) (fun _ => rfl) (fun _ => rfl))
theorem mput_a4 {D : DD} {h : HF} {b : Nat} {μ : Mo} {f : Nat → Int32} : hupd (mput D h b μ) (b + 5) (arrE D 320 f) = mput D h b (mar μ 4 f) := mput_set (by decide) rfl (lt8 (P := fun j => j ≠ 5 → mCell D b _ j = mCell D b _ j) (fun _ => rfl) (fun _ => rfl) (fun _ => rfl) (fun _ => rfl) (fun _ => rfl) (fun n => absurd rfl n) (fun _ => rfl) (fun _ => rfl))
theorem mput_a5 {D : DD} {h : HF} {b : Nat} {μ : Mo} {f : Nat → Int32} : hupd (mput D h b μ) (b + 6) (chrE D 70 f) = mput D h b (mar μ 5 f) := mput_set (by decide) rfl (lt8 (P := fun j => j ≠ 6 → mCell D b _ j = mCell D b _ j) (fun _ => rfl) (fun _ => rfl) (fun _ => rfl) (fun _ => rfl) (fun _ => rfl) (fun _ => rfl) (fun n => absurd rfl n) (fun _ => rfl))
theorem mput_a6 {D : DD} {h : HF} {b : Nat} {μ : Mo} {f : Nat → Int32} : hupd (mput D h b μ) (b + 7) (arrE D 56 f) = mput D h b (mar μ 6 f) := mput_set (by decide) rfl (lt8 (P := fun j => j ≠ 7 → mCell D b _ j = mCell D b _ j) (fun _ => rfl) (fun _ => rfl) (fun _ => rfl) (fun _ => rfl) (fun _ => rfl) (fun _ => rfl) (fun _ => rfl) (fun n => absurd rfl n))
theorem mput_s0 {D : DD} {h : HF} {b : Nat} {μ : Mo} {v : Int32} : hupd (mput D h b μ) (b + 0) (.inr (10, [.ref (b + 1), .ref (b + 2), .int v, .ref (b + 3), .int (μ.1 1), .ref (b + 4), .int (μ.1 2), .int (μ.1 3), .ref (b + 5), .int (μ.1 4), .ref (b + 6), .int (μ.1 5), .int (μ.1 6), .ref (b + 7)])) = mput D h b (msc μ 0 v) := mput_set (by decide) rfl (lt8 (P := fun j => j ≠ 0 → mCell D b _ j = mCell D b _ j) (fun n => absurd rfl n) (fun _ => rfl) (fun _ => rfl) (fun _ => rfl) (fun _ => rfl) (fun _ => rfl) (fun _ => rfl) (fun _ => rfl))
theorem mput_s1 {D : DD} {h : HF} {b : Nat} {μ : Mo} {v : Int32} : hupd (mput D h b μ) (b + 0) (.inr (10, [.ref (b + 1), .ref (b + 2), .int (μ.1 0), .ref (b + 3), .int v, .ref (b + 4), .int (μ.1 2), .int (μ.1 3), .ref (b + 5), .int (μ.1 4), .ref (b + 6), .int (μ.1 5), .int (μ.1 6), .ref (b + 7)])) = mput D h b (msc μ 1 v) := mput_set (by decide) rfl (lt8 (P := fun j => j ≠ 0 → mCell D b _ j = mCell D b _ j) (fun n => absurd rfl n) (fun _ => rfl) (fun _ => rfl) (fun _ => rfl) (fun _ => rfl) (fun _ => rfl) (fun _ => rfl) (fun _ => rfl))
theorem mput_s2 {D : DD} {h : HF} {b : Nat} {μ : Mo} {v : Int32} : hupd (mput D h b μ) (b + 0) (.inr (10, [.ref (b + 1), .ref (b + 2), .int (μ.1 0), .ref (b + 3), .int (μ.1 1), .ref (b + 4), .int v, .int (μ.1 3), .ref (b + 5), .int (μ.1 4), .ref (b + 6), .int (μ.1 5), .int (μ.1 6), .ref (b + 7)])) = mput D h b (msc μ 2 v) := mput_set (by decide) rfl (lt8 (P := fun j => j ≠ 0 → mCell D b _ j = mCell D b _ j) (fun n => absurd rfl n) (fun _ => rfl) (fun _ => rfl) (fun _ => rfl) (fun _ => rfl) (fun _ => rfl) (fun _ => rfl) (fun _ => rfl))
theorem mput_s3 {D : DD} {h : HF} {b : Nat} {μ : Mo} {v : Int32} : hupd (mput D h b μ) (b + 0) (.inr (10, [.ref (b + 1), .ref (b + 2), .int (μ.1 0), .ref (b + 3), .int (μ.1 1), .ref (b + 4), .int (μ.1 2), .int v, .ref (b + 5), .int (μ.1 4), .ref (b + 6), .int (μ.1 5), .int (μ.1 6), .ref (b + 7)])) = mput D h b (msc μ 3 v) := mput_set (by decide) rfl (lt8 (P := fun j => j ≠ 0 → mCell D b _ j = mCell D b _ j) (fun n => absurd rfl n) (fun _ => rfl) (fun _ => rfl) (fun _ => rfl) (fun _ => rfl) (fun _ => rfl) (fun _ => rfl) (fun _ => rfl))
theorem mput_s4 {D : DD} {h : HF} {b : Nat} {μ : Mo} {v : Int32} : hupd (mput D h b μ) (b + 0) (.inr (10, [.ref (b + 1), .ref (b + 2), .int (μ.1 0), .ref (b + 3), .int (μ.1 1), .ref (b + 4), .int (μ.1 2), .int (μ.1 3), .ref (b + 5), .int v, .ref (b + 6), .int (μ.1 5), .int (μ.1 6), .ref (b + 7)])) = mput D h b (msc μ 4 v) := mput_set (by decide) rfl (lt8 (P := fun j => j ≠ 0 → mCell D b _ j = mCell D b _ j) (fun n => absurd rfl n) (fun _ => rfl) (fun _ => rfl) (fun _ => rfl) (fun _ => rfl) (fun _ => rfl) (fun _ => rfl) (fun _ => rfl))
theorem mput_s5 {D : DD} {h : HF} {b : Nat} {μ : Mo} {v : Int32} : hupd (mput D h b μ) (b + 0) (.inr (10, [.ref (b + 1), .ref (b + 2), .int (μ.1 0), .ref (b + 3), .int (μ.1 1), .ref (b + 4), .int (μ.1 2), .int (μ.1 3), .ref (b + 5), .int (μ.1 4), .ref (b + 6), .int v, .int (μ.1 6), .ref (b + 7)])) = mput D h b (msc μ 5 v) := mput_set (by decide) rfl (lt8 (P := fun j => j ≠ 0 → mCell D b _ j = mCell D b _ j) (fun n => absurd rfl n) (fun _ => rfl) (fun _ => rfl) (fun _ => rfl) (fun _ => rfl) (fun _ => rfl) (fun _ => rfl) (fun _ => rfl))
theorem mput_s6 {D : DD} {h : HF} {b : Nat} {μ : Mo} {v : Int32} : hupd (mput D h b μ) (b + 0) (.inr (10, [.ref (b + 1), .ref (b + 2), .int (μ.1 0), .ref (b + 3), .int (μ.1 1), .ref (b + 4), .int (μ.1 2), .int (μ.1 3), .ref (b + 5), .int (μ.1 4), .ref (b + 6), .int (μ.1 5), .int v, .ref (b + 7)])) = mput D h b (msc μ 6 v) := mput_set (by decide) rfl (lt8 (P := fun j => j ≠ 0 → mCell D b _ j = mCell D b _ j) (fun n => absurd rfl n) (fun _ => rfl) (fun _ => rfl) (fun _ => rfl) (fun _ => rfl) (fun _ => rfl) (fun _ => rfl) (fun _ => rfl))
end
section
theorem fG_RX5_13 : FG RX5 13 5 0 := ⟨RX5, TX5, 1, rfl, inK5, by decide, kF_RX5_13⟩
theorem fG_RX3_14 : FG RX3 14 3 0 := ⟨RX3, TX3, 6, rfl, inK3, by decide, kF_RX3_14⟩
theorem fG_RX3_20 : FG RX3 20 3 1 := ⟨RX3, TX3, 6, rfl, inK3, by decide, kF_RX3_20⟩
theorem fG_RX3_23 : FG RX3 23 3 2 := ⟨RX3, TX3, 6, rfl, inK3, by decide, kF_RX3_23⟩
theorem fN_RX9_179 : FN RX9 179 3 2 := ⟨RX3, TX3, 6, rfl, inK3, by decide, List.mem_of_getElem? (i := 1) rfl⟩
theorem fG_RX3_26 : FG RX3 26 3 3 := ⟨RX3, TX3, 6, rfl, inK3, by decide, kF_RX3_26⟩
theorem fG_RX3_29 : FG RX3 29 3 4 := ⟨RX3, TX3, 6, rfl, inK3, by decide, kF_RX3_29⟩
theorem fN_RX6_129 : FN RX6 129 3 4 := ⟨RX3, TX3, 6, rfl, inK3, by decide, List.mem_of_getElem? (i := 2) rfl⟩
theorem fN_RX9_194 : FN RX9 194 3 4 := ⟨RX3, TX3, 6, rfl, inK3, by decide, List.mem_of_getElem? (i := 3) rfl⟩
theorem fG_RX3_32 : FG RX3 32 3 5 := ⟨RX3, TX3, 6, rfl, inK3, by decide, kF_RX3_32⟩
theorem fG_RX4_14 : FG RX4 14 4 0 := ⟨RX4, TX4, 2, rfl, inK4, by decide, kF_RX4_14⟩
theorem fN_RX6_82 : FN RX6 82 4 0 := ⟨RX4, TX4, 2, rfl, inK4, by decide, List.mem_of_getElem? (i := 4) rfl⟩
theorem fN_RX9_186 : FN RX9 186 4 0 := ⟨RX4, TX4, 2, rfl, inK4, by decide, List.mem_of_getElem? (i := 5) rfl⟩
theorem fG_RX4_20 : FG RX4 20 4 1 := ⟨RX4, TX4, 2, rfl, inK4, by decide, kF_RX4_20⟩
theorem fG_RX7_14 : FG RX7 14 7 0 := ⟨RX7, TX7, 3, rfl, inK7, by decide, kF_RX7_14⟩
theorem fG_RX7_20 : FG RX7 20 7 1 := ⟨RX7, TX7, 3, rfl, inK7, by decide, kF_RX7_20⟩
theorem fN_RX9_205 : FN RX9 205 7 1 := ⟨RX7, TX7, 3, rfl, inK7, by decide, List.mem_of_getElem? (i := 6) rfl⟩
theorem fG_RX7_31 : FG RX7 31 7 2 := ⟨RX7, TX7, 3, rfl, inK7, by decide, kF_RX7_31⟩
theorem fN_RX9_201 : FN RX9 201 7 2 := ⟨RX7, TX7, 3, rfl, inK7, by decide, List.mem_of_getElem? (i := 7) rfl⟩
theorem fG_RX2_16 : FG RX2 16 2 0 := ⟨RX2, TX2, 1, rfl, inK2, by decide, kF_RX2_16⟩
theorem fG_RX6_18 : FG RX6 18 6 0 := ⟨RX6, TX6, 8, rfl, inK6, by decide, kF_RX6_18⟩
theorem fN_RX9_104 : FN RX9 104 6 0 := ⟨RX6, TX6, 8, rfl, inK6, by decide, List.mem_of_getElem? (i := 8) rfl⟩
theorem fG_RX6_27 : FG RX6 27 6 1 := ⟨RX6, TX6, 8, rfl, inK6, by decide, kF_RX6_27⟩
theorem fN_RX9_47 : FN RX9 47 6 1 := ⟨RX6, TX6, 8, rfl, inK6, by decide, List.mem_of_getElem? (i := 9) rfl⟩
theorem fG_RX6_34 : FG RX6 34 6 2 := ⟨RX6, TX6, 8, rfl, inK6, by decide, kF_RX6_34⟩
theorem fN_RX9_182 : FN RX9 182 6 2 := ⟨RX6, TX6, 8, rfl, inK6, by decide, List.mem_of_getElem? (i := 10) rfl⟩
theorem fG_RX6_41 : FG RX6 41 6 3 := ⟨RX6, TX6, 8, rfl, inK6, by decide, kF_RX6_41⟩
theorem fN_RX9_126 : FN RX9 126 6 3 := ⟨RX6, TX6, 8, rfl, inK6, by decide, List.mem_of_getElem? (i := 11) rfl⟩
theorem fG_RX6_48 : FG RX6 48 6 4 := ⟨RX6, TX6, 8, rfl, inK6, by decide, kF_RX6_48⟩
theorem fN_RX9_208 : FN RX9 208 6 4 := ⟨RX6, TX6, 8, rfl, inK6, by decide, List.mem_of_getElem? (i := 12) rfl⟩
theorem fG_RX6_72 : FG RX6 72 6 5 := ⟨RX6, TX6, 8, rfl, inK6, by decide, kF_RX6_72⟩
theorem fN_RX9_173 : FN RX9 173 6 5 := ⟨RX6, TX6, 8, rfl, inK6, by decide, List.mem_of_getElem? (i := 13) rfl⟩
theorem fG_RX6_76 : FG RX6 76 6 6 := ⟨RX6, TX6, 8, rfl, inK6, by decide, kF_RX6_76⟩
theorem fN_RX9_239 : FN RX9 239 6 6 := ⟨RX6, TX6, 8, rfl, inK6, by decide, List.mem_of_getElem? (i := 14) rfl⟩
theorem fG_RX6_79 : FG RX6 79 6 7 := ⟨RX6, TX6, 8, rfl, inK6, by decide, kF_RX6_79⟩
theorem fN_RX9_236 : FN RX9 236 6 7 := ⟨RX6, TX6, 8, rfl, inK6, by decide, List.mem_of_getElem? (i := 15) rfl⟩
theorem fG_RX1_11 : FG RX1 11 1 0 := ⟨RX1, TX1, 3, rfl, inK1, by decide, kF_RX1_11⟩
theorem fG_RX1_18 : FG RX1 18 1 1 := ⟨RX1, TX1, 3, rfl, inK1, by decide, kF_RX1_18⟩
theorem fG_RX1_30 : FG RX1 30 1 2 := ⟨RX1, TX1, 3, rfl, inK1, by decide, kF_RX1_30⟩
theorem fN_RX9_163 : FN RX9 163 1 2 := ⟨RX1, TX1, 3, rfl, inK1, by decide, List.mem_of_getElem? (i := 16) rfl⟩
theorem fG_RX8_9 : FG RX8 9 8 0 := ⟨RX8, TX8, 3, rfl, inK8, by decide, kF_RX8_9⟩
theorem fG_RX8_15 : FG RX8 15 8 1 := ⟨RX8, TX8, 3, rfl, inK8, by decide, kF_RX8_15⟩
theorem fN_RX9_152 : FN RX9 152 8 1 := ⟨RX8, TX8, 3, rfl, inK8, by decide, List.mem_of_getElem? (i := 17) rfl⟩
theorem fG_RX8_24 : FG RX8 24 8 2 := ⟨RX8, TX8, 3, rfl, inK8, by decide, kF_RX8_24⟩
theorem fG_RX0_16 : FG RX0 16 0 0 := ⟨RX0, TX0, 2, rfl, inK0, by decide, kF_RX0_16⟩
theorem fG_RX0_20 : FG RX0 20 0 1 := ⟨RX0, TX0, 2, rfl, inK0, by decide, kF_RX0_20⟩
theorem fN_RX8_19 : FN RX8 19 0 1 := ⟨RX0, TX0, 2, rfl, inK0, by decide, List.mem_of_getElem? (i := 18) rfl⟩
theorem fN_RX6_150 : FN RX6 150 0 1 := ⟨RX0, TX0, 2, rfl, inK0, by decide, List.mem_of_getElem? (i := 19) rfl⟩
theorem fG_RX9_10 : FG RX9 10 9 0 := ⟨RX9, TX9, 7, rfl, inK9, by decide, kF_RX9_10⟩
theorem fG_RX9_16 : FG RX9 16 9 1 := ⟨RX9, TX9, 7, rfl, inK9, by decide, kF_RX9_16⟩
theorem fG_RX9_19 : FG RX9 19 9 2 := ⟨RX9, TX9, 7, rfl, inK9, by decide, kF_RX9_19⟩
theorem fG_RX9_25 : FG RX9 25 9 3 := ⟨RX9, TX9, 7, rfl, inK9, by decide, kF_RX9_25⟩
theorem fG_RX9_32 : FG RX9 32 9 4 := ⟨RX9, TX9, 7, rfl, inK9, by decide, kF_RX9_32⟩
theorem fG_RX9_39 : FG RX9 39 9 5 := ⟨RX9, TX9, 7, rfl, inK9, by decide, kF_RX9_39⟩
theorem fG_RX9_169 : FG RX9 169 9 6 := ⟨RX9, TX9, 7, rfl, inK9, by decide, kF_RX9_169⟩
theorem fG_RX10_7 : FG RX10 7 10 0 := ⟨RX10, TX10, 14, rfl, inK10, by decide, kF_RX10_7⟩
theorem fG_RX10_13 : FG RX10 13 10 1 := ⟨RX10, TX10, 14, rfl, inK10, by decide, kF_RX10_13⟩
theorem fG_RX10_40 : FG RX10 40 10 2 := ⟨RX10, TX10, 14, rfl, inK10, by decide, kF_RX10_40⟩
theorem fG_RX10_16 : FG RX10 16 10 3 := ⟨RX10, TX10, 14, rfl, inK10, by decide, kF_RX10_16⟩
theorem fG_RX10_147 : FG RX10 147 10 4 := ⟨RX10, TX10, 14, rfl, inK10, by decide, kF_RX10_147⟩
theorem fG_RX10_19 : FG RX10 19 10 5 := ⟨RX10, TX10, 14, rfl, inK10, by decide, kF_RX10_19⟩
theorem fG_RX10_87 : FG RX10 87 10 6 := ⟨RX10, TX10, 14, rfl, inK10, by decide, kF_RX10_87⟩
theorem fG_RX10_115 : FG RX10 115 10 7 := ⟨RX10, TX10, 14, rfl, inK10, by decide, kF_RX10_115⟩
theorem fG_RX10_22 : FG RX10 22 10 8 := ⟨RX10, TX10, 14, rfl, inK10, by decide, kF_RX10_22⟩
theorem fG_RX10_124 : FG RX10 124 10 9 := ⟨RX10, TX10, 14, rfl, inK10, by decide, kF_RX10_124⟩
theorem fG_RX10_25 : FG RX10 25 10 10 := ⟨RX10, TX10, 14, rfl, inK10, by decide, kF_RX10_25⟩
theorem fG_RX10_127 : FG RX10 127 10 11 := ⟨RX10, TX10, 14, rfl, inK10, by decide, kF_RX10_127⟩
theorem fG_RX10_133 : FG RX10 133 10 12 := ⟨RX10, TX10, 14, rfl, inK10, by decide, kF_RX10_133⟩
theorem fG_RX10_29 : FG RX10 29 10 13 := ⟨RX10, TX10, 14, rfl, inK10, by decide, kF_RX10_29⟩
theorem fF_0_0 : FF RX0 0 0 (.object "LearningRepeater$Row") := ⟨RX0, TX0, 2, tyX0, rfl, tyX0_ok, nmX0, rfl, by decide +kernel, rfl⟩
theorem fW_0_1 : FW 0 1 .int := ⟨RX0, TX0, 2, tyX0, rfl, tyX0_ok, nmX0, rfl, by decide +kernel⟩
theorem fF_1_0 : FF RX1 1 0 (.array (.object "LearningRepeater$State")) := ⟨RX1, TX1, 3, tyX1, rfl, tyX1_ok, nmX1, rfl, by decide +kernel, rfl⟩
theorem fW_1_1 : FW 1 1 .int := ⟨RX1, TX1, 3, tyX1, rfl, tyX1_ok, nmX1, rfl, by decide +kernel⟩
theorem fW_1_2 : FW 1 2 .int := ⟨RX1, TX1, 3, tyX1, rfl, tyX1_ok, nmX1, rfl, by decide +kernel⟩
theorem fF_2_0 : FF RX2 2 0 (.object "LearningRepeater$Row") := ⟨RX2, TX2, 1, tyX2, rfl, tyX2_ok, nmX2, rfl, by decide +kernel, rfl⟩
theorem fF_3_0 : FF RX3 3 0 (.object "LearningRepeater$Row") := ⟨RX3, TX3, 6, tyX3, rfl, tyX3_ok, nmX3, rfl, by decide +kernel, rfl⟩
theorem fF_3_1 : FF RX3 3 1 (.object "LearningRepeater$Row") := ⟨RX3, TX3, 6, tyX3, rfl, tyX3_ok, nmX3, rfl, by decide +kernel, rfl⟩
theorem fF_3_2 : FF RX3 3 2 (.object "LearningRepeater$Row") := ⟨RX3, TX3, 6, tyX3, rfl, tyX3_ok, nmX3, rfl, by decide +kernel, rfl⟩
theorem fF_3_3 : FF RX3 3 3 (.object "LearningRepeater$Row") := ⟨RX3, TX3, 6, tyX3, rfl, tyX3_ok, nmX3, rfl, by decide +kernel, rfl⟩
theorem fF_3_4 : FF RX3 3 4 (.object "LearningRepeater$Row") := ⟨RX3, TX3, 6, tyX3, rfl, tyX3_ok, nmX3, rfl, by decide +kernel, rfl⟩
theorem fF_3_5 : FF RX3 3 5 (.object "LearningRepeater$Row") := ⟨RX3, TX3, 6, tyX3, rfl, tyX3_ok, nmX3, rfl, by decide +kernel, rfl⟩
theorem fF_4_0 : FF RX4 4 0 (.object "LearningRepeater$Row") := ⟨RX4, TX4, 2, tyX4, rfl, tyX4_ok, nmX4, rfl, by decide +kernel, rfl⟩
theorem fF_4_1 : FF RX4 4 1 (.object "LearningRepeater$Row") := ⟨RX4, TX4, 2, tyX4, rfl, tyX4_ok, nmX4, rfl, by decide +kernel, rfl⟩
theorem fF_5_0 : FF RX5 5 0 (.array .int) := ⟨RX5, TX5, 1, tyX5, rfl, tyX5_ok, nmX5, rfl, by decide +kernel, rfl⟩
theorem fF_6_0 : FF RX6 6 0 (.object "LearningRepeater$Row") := ⟨RX6, TX6, 8, tyX6, rfl, tyX6_ok, nmX6, rfl, by decide +kernel, rfl⟩
theorem fF_6_1 : FF RX6 6 1 (.object "LearningRepeater$Ports") := ⟨RX6, TX6, 8, tyX6, rfl, tyX6_ok, nmX6, rfl, by decide +kernel, rfl⟩
theorem fF_6_2 : FF RX6 6 2 (.object "LearningRepeater$Queues") := ⟨RX6, TX6, 8, tyX6, rfl, tyX6_ok, nmX6, rfl, by decide +kernel, rfl⟩
theorem fF_6_3 : FF RX6 6 3 (.object "LearningRepeater$Table") := ⟨RX6, TX6, 8, tyX6, rfl, tyX6_ok, nmX6, rfl, by decide +kernel, rfl⟩
theorem fF_6_4 : FF RX6 6 4 (.object "LearningRepeater$Moves") := ⟨RX6, TX6, 8, tyX6, rfl, tyX6_ok, nmX6, rfl, by decide +kernel, rfl⟩
theorem fW_6_5 : FW 6 5 .int := ⟨RX6, TX6, 8, tyX6, rfl, tyX6_ok, nmX6, rfl, by decide +kernel⟩
theorem fW_6_6 : FW 6 6 .int := ⟨RX6, TX6, 8, tyX6, rfl, tyX6_ok, nmX6, rfl, by decide +kernel⟩
theorem fW_6_7 : FW 6 7 .int := ⟨RX6, TX6, 8, tyX6, rfl, tyX6_ok, nmX6, rfl, by decide +kernel⟩
theorem fF_7_0 : FF RX7 7 0 (.object "LearningRepeater$Row") := ⟨RX7, TX7, 3, tyX7, rfl, tyX7_ok, nmX7, rfl, by decide +kernel, rfl⟩
theorem fF_7_1 : FF RX7 7 1 (.object "LearningRepeater$Row") := ⟨RX7, TX7, 3, tyX7, rfl, tyX7_ok, nmX7, rfl, by decide +kernel, rfl⟩
theorem fW_7_2 : FW 7 2 .int := ⟨RX7, TX7, 3, tyX7, rfl, tyX7_ok, nmX7, rfl, by decide +kernel⟩
theorem fF_8_0 : FF RX8 8 0 (.array .char) := ⟨RX8, TX8, 3, tyX8, rfl, tyX8_ok, nmX8, rfl, by decide +kernel, rfl⟩
theorem fW_8_1 : FW 8 1 .int := ⟨RX8, TX8, 3, tyX8, rfl, tyX8_ok, nmX8, rfl, by decide +kernel⟩
theorem fW_8_2 : FW 8 2 .int := ⟨RX8, TX8, 3, tyX8, rfl, tyX8_ok, nmX8, rfl, by decide +kernel⟩
theorem fF_9_0 : FF RX9 9 0 (.object "LearningRepeater$State") := ⟨RX9, TX9, 7, tyX9, rfl, tyX9_ok, nmX9, rfl, by decide +kernel, rfl⟩
theorem fF_9_1 : FF RX9 9 1 (.object "LearningRepeater$State") := ⟨RX9, TX9, 7, tyX9, rfl, tyX9_ok, nmX9, rfl, by decide +kernel, rfl⟩
theorem fF_9_2 : FF RX9 9 2 (.object "LearningRepeater$State") := ⟨RX9, TX9, 7, tyX9, rfl, tyX9_ok, nmX9, rfl, by decide +kernel, rfl⟩
theorem fF_9_3 : FF RX9 9 3 (.object "LearningRepeater$History") := ⟨RX9, TX9, 7, tyX9, rfl, tyX9_ok, nmX9, rfl, by decide +kernel, rfl⟩
theorem fF_9_4 : FF RX9 9 4 (.object "LearningRepeater$Text") := ⟨RX9, TX9, 7, tyX9, rfl, tyX9_ok, nmX9, rfl, by decide +kernel, rfl⟩
theorem fF_9_5 : FF RX9 9 5 (.object "LearningRepeater$Arrivals") := ⟨RX9, TX9, 7, tyX9, rfl, tyX9_ok, nmX9, rfl, by decide +kernel, rfl⟩
theorem fW_9_6 : FW 9 6 .boolean := ⟨RX9, TX9, 7, tyX9, rfl, tyX9_ok, nmX9, rfl, by decide +kernel⟩
theorem fF_10_0 : FF RX10 10 0 (.array .int) := ⟨RX10, TX10, 14, tyX10, rfl, tyX10_ok, nmX10, rfl, by decide +kernel, rfl⟩
theorem fF_10_1 : FF RX10 10 1 (.array .int) := ⟨RX10, TX10, 14, tyX10, rfl, tyX10_ok, nmX10, rfl, by decide +kernel, rfl⟩
theorem fW_10_2 : FW 10 2 .int := ⟨RX10, TX10, 14, tyX10, rfl, tyX10_ok, nmX10, rfl, by decide +kernel⟩
theorem fF_10_3 : FF RX10 10 3 (.array .int) := ⟨RX10, TX10, 14, tyX10, rfl, tyX10_ok, nmX10, rfl, by decide +kernel, rfl⟩
theorem fW_10_4 : FW 10 4 .boolean := ⟨RX10, TX10, 14, tyX10, rfl, tyX10_ok, nmX10, rfl, by decide +kernel⟩
theorem fF_10_5 : FF RX10 10 5 (.array .int) := ⟨RX10, TX10, 14, tyX10, rfl, tyX10_ok, nmX10, rfl, by decide +kernel, rfl⟩
theorem fW_10_6 : FW 10 6 .int := ⟨RX10, TX10, 14, tyX10, rfl, tyX10_ok, nmX10, rfl, by decide +kernel⟩
theorem fW_10_7 : FW 10 7 .int := ⟨RX10, TX10, 14, tyX10, rfl, tyX10_ok, nmX10, rfl, by decide +kernel⟩
theorem fF_10_8 : FF RX10 10 8 (.array .int) := ⟨RX10, TX10, 14, tyX10, rfl, tyX10_ok, nmX10, rfl, by decide +kernel, rfl⟩
theorem fW_10_9 : FW 10 9 .int := ⟨RX10, TX10, 14, tyX10, rfl, tyX10_ok, nmX10, rfl, by decide +kernel⟩
theorem fF_10_10 : FF RX10 10 10 (.array .char) := ⟨RX10, TX10, 14, tyX10, rfl, tyX10_ok, nmX10, rfl, by decide +kernel, rfl⟩
theorem fW_10_11 : FW 10 11 .int := ⟨RX10, TX10, 14, tyX10, rfl, tyX10_ok, nmX10, rfl, by decide +kernel⟩
theorem fW_10_12 : FW 10 12 .int := ⟨RX10, TX10, 14, tyX10, rfl, tyX10_ok, nmX10, rfl, by decide +kernel⟩
theorem fF_10_13 : FF RX10 10 13 (.array .int) := ⟨RX10, TX10, 14, tyX10, rfl, tyX10_ok, nmX10, rfl, by decide +kernel, rfl⟩
theorem m_yX9_init : MI yX9_init cX9_init 1 0 := ⟨⟨kY_yX9_init, rfl⟩, kI_RX9, kC_yX9_init, ⟨by decide +kernel, by decide +kernel⟩, by decide +kernel⟩
theorem m_yX6_init : MI yX6_init cX6_init 2 0 := ⟨⟨kY_yX6_init, rfl⟩, kI_RX6, kC_yX6_init, ⟨by decide +kernel, by decide +kernel⟩, by decide +kernel⟩
theorem m_yX5_init : MI yX5_init cX5_init 2 1 := ⟨⟨kY_yX5_init, rfl⟩, kI_RX5, kC_yX5_init, ⟨by decide +kernel, by decide +kernel⟩, by decide +kernel⟩
theorem m_yX3_init : MI yX3_init cX3_init 1 0 := ⟨⟨kY_yX3_init, rfl⟩, kI_RX3, kC_yX3_init, ⟨by decide +kernel, by decide +kernel⟩, by decide +kernel⟩
theorem m_yX5_fill : MV yX5_fill cX5_fill 4 none 3 := ⟨⟨kY_yX5_fill, kS_yX5_fill⟩, kI_RX5, kC_yX5_fill, ⟨by decide +kernel, by decide +kernel⟩, by decide +kernel⟩
theorem m_yX5_fits : MV yX5_fits cX5_fits 3 (some .boolean) 2 := ⟨⟨kY_yX5_fits, kS_yX5_fits⟩, kI_RX5, kC_yX5_fits, ⟨by decide +kernel, by decide +kernel⟩, by decide +kernel⟩
theorem m_yJ7_fill_fda19 : MT yJ7_fill_fda19 cJ7_fill_fda19 5 none 4 := ⟨kT_yJ7_fill_fda19, kI_RJ7, kC_yJ7_fill_fda19, ⟨by decide +kernel, by decide +kernel⟩, by decide +kernel⟩
theorem m_yJ7_rangeCheck_23922 : MT yJ7_rangeCheck_23922 cJ7_rangeCheck_23922 3 none 3 := ⟨kT_yJ7_rangeCheck_23922, kI_RJ7, kC_yJ7_rangeCheck_23922, ⟨by decide +kernel, by decide +kernel⟩, by decide +kernel⟩
theorem m_yX4_init : MI yX4_init cX4_init 1 0 := ⟨⟨kY_yX4_init, rfl⟩, kI_RX4, kC_yX4_init, ⟨by decide +kernel, by decide +kernel⟩, by decide +kernel⟩
theorem m_yX7_init : MI yX7_init cX7_init 1 0 := ⟨⟨kY_yX7_init, rfl⟩, kI_RX7, kC_yX7_init, ⟨by decide +kernel, by decide +kernel⟩, by decide +kernel⟩
theorem m_yX2_init : MI yX2_init cX2_init 1 0 := ⟨⟨kY_yX2_init, rfl⟩, kI_RX2, kC_yX2_init, ⟨by decide +kernel, by decide +kernel⟩, by decide +kernel⟩
theorem m_yX5_put : MV yX5_put cX5_put 3 none 2 := ⟨⟨kY_yX5_put, kS_yX5_put⟩, kI_RX5, kC_yX5_put, ⟨by decide +kernel, by decide +kernel⟩, by decide +kernel⟩
theorem m_yX1_init : MI yX1_init cX1_init 2 0 := ⟨⟨kY_yX1_init, rfl⟩, kI_RX1, kC_yX1_init, ⟨by decide +kernel, by decide +kernel⟩, by decide +kernel⟩
theorem m_yX8_init : MI yX8_init cX8_init 1 0 := ⟨⟨kY_yX8_init, rfl⟩, kI_RX8, kC_yX8_init, ⟨by decide +kernel, by decide +kernel⟩, by decide +kernel⟩
theorem m_yX0_init : MI yX0_init cX0_init 1 0 := ⟨⟨kY_yX0_init, rfl⟩, kI_RX0, kC_yX0_init, ⟨by decide +kernel, by decide +kernel⟩, by decide +kernel⟩
theorem m_yX9_setPort : MV yX9_setPort cX9_setPort 3 (some .int) 2 := ⟨⟨kY_yX9_setPort, kS_yX9_setPort⟩, kI_RX9, kC_yX9_setPort, ⟨by decide +kernel, by decide +kernel⟩, by decide +kernel⟩
theorem m_yX9_isPort : MT yX9_isPort cX9_isPort 1 (some .boolean) 1 := ⟨kT_yX9_isPort, kI_RX9, kC_yX9_isPort, ⟨by decide +kernel, by decide +kernel⟩, by decide +kernel⟩
theorem m_yX3_isUp : MV yX3_isUp cX3_isUp 2 (some .boolean) 1 := ⟨⟨kY_yX3_isUp, kS_yX3_isUp⟩, kI_RX3, kC_yX3_isUp, ⟨by decide +kernel, by decide +kernel⟩, by decide +kernel⟩
theorem m_yX5_at : MV yX5_at cX5_at 2 (some .int) 1 := ⟨⟨kY_yX5_at, kS_yX5_at⟩, kI_RX5, kC_yX5_at, ⟨by decide +kernel, by decide +kernel⟩, by decide +kernel⟩
theorem m_yX1_record : MV yX1_record cX1_record 3 none 1 := ⟨⟨kY_yX1_record, kS_yX1_record⟩, kI_RX1, kC_yX1_record, ⟨by decide +kernel, by decide +kernel⟩, by decide +kernel⟩
theorem m_yX1_stateAt : MV yX1_stateAt cX1_stateAt 2 (some (.object "LearningRepeater$State")) 1 := ⟨⟨kY_yX1_stateAt, kS_yX1_stateAt⟩, kI_RX1, kC_yX1_stateAt, ⟨by decide +kernel, by decide +kernel⟩, by decide +kernel⟩
theorem m_yX6_copyFrom : MV yX6_copyFrom cX6_copyFrom 2 none 1 := ⟨⟨kY_yX6_copyFrom, kS_yX6_copyFrom⟩, kI_RX6, kC_yX6_copyFrom, ⟨by decide +kernel, by decide +kernel⟩, by decide +kernel⟩
theorem m_yX5_copyFrom : MV yX5_copyFrom cX5_copyFrom 2 none 1 := ⟨⟨kY_yX5_copyFrom, kS_yX5_copyFrom⟩, kI_RX5, kC_yX5_copyFrom, ⟨by decide +kernel, by decide +kernel⟩, by decide +kernel⟩
theorem m_yX3_copyFrom : MV yX3_copyFrom cX3_copyFrom 2 none 1 := ⟨⟨kY_yX3_copyFrom, kS_yX3_copyFrom⟩, kI_RX3, kC_yX3_copyFrom, ⟨by decide +kernel, by decide +kernel⟩, by decide +kernel⟩
theorem m_yX4_copyFrom : MV yX4_copyFrom cX4_copyFrom 2 none 1 := ⟨⟨kY_yX4_copyFrom, kS_yX4_copyFrom⟩, kI_RX4, kC_yX4_copyFrom, ⟨by decide +kernel, by decide +kernel⟩, by decide +kernel⟩
theorem m_yX7_copyFrom : MV yX7_copyFrom cX7_copyFrom 2 none 1 := ⟨⟨kY_yX7_copyFrom, kS_yX7_copyFrom⟩, kI_RX7, kC_yX7_copyFrom, ⟨by decide +kernel, by decide +kernel⟩, by decide +kernel⟩
theorem m_yX2_copyFrom : MV yX2_copyFrom cX2_copyFrom 2 none 1 := ⟨⟨kY_yX2_copyFrom, kS_yX2_copyFrom⟩, kI_RX2, kC_yX2_copyFrom, ⟨by decide +kernel, by decide +kernel⟩, by decide +kernel⟩
theorem m_yX3_turn : MV yX3_turn cX3_turn 3 none 2 := ⟨⟨kY_yX3_turn, kS_yX3_turn⟩, kI_RX3, kC_yX3_turn, ⟨by decide +kernel, by decide +kernel⟩, by decide +kernel⟩
theorem m_yX6_dropQueue : MV yX6_dropQueue cX6_dropQueue 3 none 1 := ⟨⟨kY_yX6_dropQueue, kS_yX6_dropQueue⟩, kI_RX6, kC_yX6_dropQueue, ⟨by decide +kernel, by decide +kernel⟩, by decide +kernel⟩
theorem m_yX4_removeFirst : MV yX4_removeFirst cX4_removeFirst 4 none 2 := ⟨⟨kY_yX4_removeFirst, kS_yX4_removeFirst⟩, kI_RX4, kC_yX4_removeFirst, ⟨by decide +kernel, by decide +kernel⟩, by decide +kernel⟩
theorem m_yX4_cellOf : MT yX4_cellOf cX4_cellOf 2 (some .int) 2 := ⟨kT_yX4_cellOf, kI_RX4, kC_yX4_cellOf, ⟨by decide +kernel, by decide +kernel⟩, by decide +kernel⟩
theorem m_yX5_slide : MV yX5_slide cX5_slide 4 none 3 := ⟨⟨kY_yX5_slide, kS_yX5_slide⟩, kI_RX5, kC_yX5_slide, ⟨by decide +kernel, by decide +kernel⟩, by decide +kernel⟩
theorem m_yX3_credit : MV yX3_credit cX3_credit 4 none 3 := ⟨⟨kY_yX3_credit, kS_yX3_credit⟩, kI_RX3, kC_yX3_credit, ⟨by decide +kernel, by decide +kernel⟩, by decide +kernel⟩
theorem m_yX5_add : MV yX5_add cX5_add 3 none 2 := ⟨⟨kY_yX5_add, kS_yX5_add⟩, kI_RX5, kC_yX5_add, ⟨by decide +kernel, by decide +kernel⟩, by decide +kernel⟩
theorem m_yX3_openOnes : MV yX3_openOnes cX3_openOnes 3 (some .int) 0 := ⟨⟨kY_yX3_openOnes, kS_yX3_openOnes⟩, kI_RX3, kC_yX3_openOnes, ⟨by decide +kernel, by decide +kernel⟩, by decide +kernel⟩
theorem m_yX3_isOpen : MV yX3_isOpen cX3_isOpen 2 (some .boolean) 1 := ⟨⟨kY_yX3_isOpen, kS_yX3_isOpen⟩, kI_RX3, kC_yX3_isOpen, ⟨by decide +kernel, by decide +kernel⟩, by decide +kernel⟩
theorem m_yJ6_bitCount_0f7a4 : MT yJ6_bitCount_0f7a4 cJ6_bitCount_0f7a4 1 (some .int) 1 := ⟨kT_yJ6_bitCount_0f7a4, kI_RJ6, kC_yJ6_bitCount_0f7a4, ⟨by decide +kernel, by decide +kernel⟩, by decide +kernel⟩
theorem m_yX9_join : MV yX9_join cX9_join 3 (some .int) 2 := ⟨⟨kY_yX9_join, kS_yX9_join⟩, kI_RX9, kC_yX9_join, ⟨by decide +kernel, by decide +kernel⟩, by decide +kernel⟩
theorem m_yX3_farEnd : MV yX3_farEnd cX3_farEnd 2 (some .int) 1 := ⟨⟨kY_yX3_farEnd, kS_yX3_farEnd⟩, kI_RX3, kC_yX3_farEnd, ⟨by decide +kernel, by decide +kernel⟩, by decide +kernel⟩
theorem m_yX3_tie : MV yX3_tie cX3_tie 3 none 2 := ⟨⟨kY_yX3_tie, kS_yX3_tie⟩, kI_RX3, kC_yX3_tie, ⟨by decide +kernel, by decide +kernel⟩, by decide +kernel⟩
theorem m_yX3_cables : MV yX3_cables cX3_cables 3 (some .int) 0 := ⟨⟨kY_yX3_cables, kS_yX3_cables⟩, kI_RX3, kC_yX3_cables, ⟨by decide +kernel, by decide +kernel⟩, by decide +kernel⟩
theorem m_yX9_part : MV yX9_part cX9_part 3 (some .int) 1 := ⟨⟨kY_yX9_part, kS_yX9_part⟩, kI_RX9, kC_yX9_part, ⟨by decide +kernel, by decide +kernel⟩, by decide +kernel⟩
theorem m_yX3_untie : MV yX3_untie cX3_untie 3 none 2 := ⟨⟨kY_yX3_untie, kS_yX3_untie⟩, kI_RX3, kC_yX3_untie, ⟨by decide +kernel, by decide +kernel⟩, by decide +kernel⟩
theorem m_yX9_release : MV yX9_release cX9_release 3 (some .int) 1 := ⟨⟨kY_yX9_release, kS_yX9_release⟩, kI_RX9, kC_yX9_release, ⟨by decide +kernel, by decide +kernel⟩, by decide +kernel⟩
theorem m_yX3_secondsLeft : MV yX3_secondsLeft cX3_secondsLeft 2 (some .int) 1 := ⟨⟨kY_yX3_secondsLeft, kS_yX3_secondsLeft⟩, kI_RX3, kC_yX3_secondsLeft, ⟨by decide +kernel, by decide +kernel⟩, by decide +kernel⟩
theorem m_yX3_endQuarantine : MV yX3_endQuarantine cX3_endQuarantine 2 none 1 := ⟨⟨kY_yX3_endQuarantine, kS_yX3_endQuarantine⟩, kI_RX3, kC_yX3_endQuarantine, ⟨by decide +kernel, by decide +kernel⟩, by decide +kernel⟩
theorem m_yX9_set : MV yX9_set cX9_set 4 (some .int) 2 := ⟨⟨kY_yX9_set, kS_yX9_set⟩, kI_RX9, kC_yX9_set, ⟨by decide +kernel, by decide +kernel⟩, by decide +kernel⟩
theorem m_yX9_isSetting : MT yX9_isSetting cX9_isSetting 1 (some .boolean) 1 := ⟨kT_yX9_isSetting, kI_RX9, kC_yX9_isSetting, ⟨by decide +kernel, by decide +kernel⟩, by decide +kernel⟩
theorem m_yX9_frame : MV yX9_frame cX9_frame 5 (some .int) 4 := ⟨⟨kY_yX9_frame, kS_yX9_frame⟩, kI_RX9, kC_yX9_frame, ⟨by decide +kernel, by decide +kernel⟩, by decide +kernel⟩
theorem m_yX9_isAddress : MT yX9_isAddress cX9_isAddress 1 (some .boolean) 1 := ⟨kT_yX9_isAddress, kI_RX9, kC_yX9_isAddress, ⟨by decide +kernel, by decide +kernel⟩, by decide +kernel⟩
theorem m_yX9_isDestination : MT yX9_isDestination cX9_isDestination 1 (some .boolean) 1 := ⟨kT_yX9_isDestination, kI_RX9, kC_yX9_isDestination, ⟨by decide +kernel, by decide +kernel⟩, by decide +kernel⟩
theorem m_yX6_comeIn : MV yX6_comeIn cX6_comeIn 8 (some .int) 4 := ⟨⟨kY_yX6_comeIn, kS_yX6_comeIn⟩, kI_RX6, kC_yX6_comeIn, ⟨by decide +kernel, by decide +kernel⟩, by decide +kernel⟩
theorem m_yX6_learnAndDecide : MV yX6_learnAndDecide cX6_learnAndDecide 6 (some .int) 3 := ⟨⟨kY_yX6_learnAndDecide, kS_yX6_learnAndDecide⟩, kI_RX6, kC_yX6_learnAndDecide, ⟨by decide +kernel, by decide +kernel⟩, by decide +kernel⟩
theorem m_yX7_portOf : MV yX7_portOf cX7_portOf 2 (some .int) 1 := ⟨⟨kY_yX7_portOf, kS_yX7_portOf⟩, kI_RX7, kC_yX7_portOf, ⟨by decide +kernel, by decide +kernel⟩, by decide +kernel⟩
theorem m_yX7_learn : MV yX7_learn cX7_learn 4 none 3 := ⟨⟨kY_yX7_learn, kS_yX7_learn⟩, kI_RX7, kC_yX7_learn, ⟨by decide +kernel, by decide +kernel⟩, by decide +kernel⟩
theorem m_yX7_oldest : MV yX7_oldest cX7_oldest 3 (some .int) 0 := ⟨⟨kY_yX7_oldest, kS_yX7_oldest⟩, kI_RX7, kC_yX7_oldest, ⟨by decide +kernel, by decide +kernel⟩, by decide +kernel⟩
theorem m_yX7_remove : MV yX7_remove cX7_remove 2 none 1 := ⟨⟨kY_yX7_remove, kS_yX7_remove⟩, kI_RX7, kC_yX7_remove, ⟨by decide +kernel, by decide +kernel⟩, by decide +kernel⟩
theorem m_yX2_add : MV yX2_add cX2_add 3 none 2 := ⟨⟨kY_yX2_add, kS_yX2_add⟩, kI_RX2, kC_yX2_add, ⟨by decide +kernel, by decide +kernel⟩, by decide +kernel⟩
theorem m_yX2_latelyOf : MV yX2_latelyOf cX2_latelyOf 4 (some .int) 1 := ⟨⟨kY_yX2_latelyOf, kS_yX2_latelyOf⟩, kI_RX2, kC_yX2_latelyOf, ⟨by decide +kernel, by decide +kernel⟩, by decide +kernel⟩
theorem m_yX6_quarantine : MV yX6_quarantine cX6_quarantine 3 none 2 := ⟨⟨kY_yX6_quarantine, kS_yX6_quarantine⟩, kI_RX6, kC_yX6_quarantine, ⟨by decide +kernel, by decide +kernel⟩, by decide +kernel⟩
theorem m_yX3_beginQuarantine : MV yX3_beginQuarantine cX3_beginQuarantine 4 none 3 := ⟨⟨kY_yX3_beginQuarantine, kS_yX3_beginQuarantine⟩, kI_RX3, kC_yX3_beginQuarantine, ⟨by decide +kernel, by decide +kernel⟩, by decide +kernel⟩
theorem m_yX7_removeAllWith : MV yX7_removeAllWith cX7_removeAllWith 3 none 1 := ⟨⟨kY_yX7_removeAllWith, kS_yX7_removeAllWith⟩, kI_RX7, kC_yX7_removeAllWith, ⟨by decide +kernel, by decide +kernel⟩, by decide +kernel⟩
theorem m_yX6_waysOut : MV yX6_waysOut cX6_waysOut 4 (some .int) 3 := ⟨⟨kY_yX6_waysOut, kS_yX6_waysOut⟩, kI_RX6, kC_yX6_waysOut, ⟨by decide +kernel, by decide +kernel⟩, by decide +kernel⟩
theorem m_yX6_goOut : MV yX6_goOut cX6_goOut 5 none 4 := ⟨⟨kY_yX6_goOut, kS_yX6_goOut⟩, kI_RX6, kC_yX6_goOut, ⟨by decide +kernel, by decide +kernel⟩, by decide +kernel⟩
theorem m_yX4_isFull : MV yX4_isFull cX4_isFull 2 (some .boolean) 1 := ⟨⟨kY_yX4_isFull, kS_yX4_isFull⟩, kI_RX4, kC_yX4_isFull, ⟨by decide +kernel, by decide +kernel⟩, by decide +kernel⟩
theorem m_yX4_insert : MV yX4_insert cX4_insert 9 none 5 := ⟨⟨kY_yX4_insert, kS_yX4_insert⟩, kI_RX4, kC_yX4_insert, ⟨by decide +kernel, by decide +kernel⟩, by decide +kernel⟩
theorem m_yX4_partOf : MV yX4_partOf cX4_partOf 4 (some .int) 3 := ⟨⟨kY_yX4_partOf, kS_yX4_partOf⟩, kI_RX4, kC_yX4_partOf, ⟨by decide +kernel, by decide +kernel⟩, by decide +kernel⟩
theorem m_yX6_accountOf : MT yX6_accountOf cX6_accountOf 1 (some .int) 1 := ⟨kT_yX6_accountOf, kI_RX6, kC_yX6_accountOf, ⟨by decide +kernel, by decide +kernel⟩, by decide +kernel⟩
theorem m_yX9_forget : MV yX9_forget cX9_forget 3 (some .int) 1 := ⟨⟨kY_yX9_forget, kS_yX9_forget⟩, kI_RX9, kC_yX9_forget, ⟨by decide +kernel, by decide +kernel⟩, by decide +kernel⟩
theorem m_yX9_pass : MV yX9_pass cX9_pass 4 (some .int) 1 := ⟨⟨kY_yX9_pass, kS_yX9_pass⟩, kI_RX9, kC_yX9_pass, ⟨by decide +kernel, by decide +kernel⟩, by decide +kernel⟩
theorem m_yX6_sendInto : MV yX6_sendInto cX6_sendInto 4 (some .int) 1 := ⟨⟨kY_yX6_sendInto, kS_yX6_sendInto⟩, kI_RX6, kC_yX6_sendInto, ⟨by decide +kernel, by decide +kernel⟩, by decide +kernel⟩
theorem m_yX6_sendFrom : MV yX6_sendFrom cX6_sendFrom 6 (some .int) 2 := ⟨⟨kY_yX6_sendFrom, kS_yX6_sendFrom⟩, kI_RX6, kC_yX6_sendFrom, ⟨by decide +kernel, by decide +kernel⟩, by decide +kernel⟩
theorem m_yX0_append : MV yX0_append cX0_append 6 none 4 := ⟨⟨kY_yX0_append, kS_yX0_append⟩, kI_RX0, kC_yX0_append, ⟨by decide +kernel, by decide +kernel⟩, by decide +kernel⟩
theorem m_yX6_letIn : MV yX6_letIn cX6_letIn 5 (some .int) 1 := ⟨⟨kY_yX6_letIn, kS_yX6_letIn⟩, kI_RX6, kC_yX6_letIn, ⟨by decide +kernel, by decide +kernel⟩, by decide +kernel⟩
theorem m_yX0_partOf : MV yX0_partOf cX0_partOf 3 (some .int) 2 := ⟨⟨kY_yX0_partOf, kS_yX0_partOf⟩, kI_RX0, kC_yX0_partOf, ⟨by decide +kernel, by decide +kernel⟩, by decide +kernel⟩
theorem m_yX6_endSecond : MV yX6_endSecond cX6_endSecond 1 none 0 := ⟨⟨kY_yX6_endSecond, kS_yX6_endSecond⟩, kI_RX6, kC_yX6_endSecond, ⟨by decide +kernel, by decide +kernel⟩, by decide +kernel⟩
theorem m_yX3_endSecond : MV yX3_endSecond cX3_endSecond 2 none 0 := ⟨⟨kY_yX3_endSecond, kS_yX3_endSecond⟩, kI_RX3, kC_yX3_endSecond, ⟨by decide +kernel, by decide +kernel⟩, by decide +kernel⟩
theorem m_yX7_removeUntil : MV yX7_removeUntil cX7_removeUntil 3 none 1 := ⟨⟨kY_yX7_removeUntil, kS_yX7_removeUntil⟩, kI_RX7, kC_yX7_removeUntil, ⟨by decide +kernel, by decide +kernel⟩, by decide +kernel⟩
theorem m_yX2_beginSecond : MV yX2_beginSecond cX2_beginSecond 2 none 1 := ⟨⟨kY_yX2_beginSecond, kS_yX2_beginSecond⟩, kI_RX2, kC_yX2_beginSecond, ⟨by decide +kernel, by decide +kernel⟩, by decide +kernel⟩
theorem m_yX9_type : MV yX9_type cX9_type 2 (some .int) 1 := ⟨⟨kY_yX9_type, kS_yX9_type⟩, kI_RX9, kC_yX9_type, ⟨by decide +kernel, by decide +kernel⟩, by decide +kernel⟩
theorem m_yX8_append : MV yX8_append cX8_append 2 (some .boolean) 1 := ⟨⟨kY_yX8_append, kS_yX8_append⟩, kI_RX8, kC_yX8_append, ⟨by decide +kernel, by decide +kernel⟩, by decide +kernel⟩
theorem m_yX9_clearText : MV yX9_clearText cX9_clearText 2 (some .int) 0 := ⟨⟨kY_yX9_clearText, kS_yX9_clearText⟩, kI_RX9, kC_yX9_clearText, ⟨by decide +kernel, by decide +kernel⟩, by decide +kernel⟩
theorem m_yX9_readFrames : MV yX9_readFrames cX9_readFrames 2 (some .int) 0 := ⟨⟨kY_yX9_readFrames, kS_yX9_readFrames⟩, kI_RX9, kC_yX9_readFrames, ⟨by decide +kernel, by decide +kernel⟩, by decide +kernel⟩
theorem m_yX8_readInto : MV yX8_readInto cX8_readInto 3 (some .int) 1 := ⟨⟨kY_yX8_readInto, kS_yX8_readInto⟩, kI_RX8, kC_yX8_readInto, ⟨by decide +kernel, by decide +kernel⟩, by decide +kernel⟩
theorem m_yX8_readFrame : MV yX8_readFrame cX8_readFrame 6 (some .boolean) 1 := ⟨⟨kY_yX8_readFrame, kS_yX8_readFrame⟩, kI_RX8, kC_yX8_readFrame, ⟨by decide +kernel, by decide +kernel⟩, by decide +kernel⟩
theorem m_yX8_readAddress : MV yX8_readAddress cX8_readAddress 3 (some .int) 0 := ⟨⟨kY_yX8_readAddress, kS_yX8_readAddress⟩, kI_RX8, kC_yX8_readAddress, ⟨by decide +kernel, by decide +kernel⟩, by decide +kernel⟩
theorem m_yX8_readDigit : MV yX8_readDigit cX8_readDigit 4 (some .int) 2 := ⟨⟨kY_yX8_readDigit, kS_yX8_readDigit⟩, kI_RX8, kC_yX8_readDigit, ⟨by decide +kernel, by decide +kernel⟩, by decide +kernel⟩
theorem m_yX8_signAt : MV yX8_signAt cX8_signAt 2 (some .int) 1 := ⟨⟨kY_yX8_signAt, kS_yX8_signAt⟩, kI_RX8, kC_yX8_signAt, ⟨by decide +kernel, by decide +kernel⟩, by decide +kernel⟩
theorem m_yX8_skip : MV yX8_skip cX8_skip 2 (some .boolean) 1 := ⟨⟨kY_yX8_skip, kS_yX8_skip⟩, kI_RX8, kC_yX8_skip, ⟨by decide +kernel, by decide +kernel⟩, by decide +kernel⟩
theorem m_yX9_undo : MV yX9_undo cX9_undo 1 (some .int) 0 := ⟨⟨kY_yX9_undo, kS_yX9_undo⟩, kI_RX9, kC_yX9_undo, ⟨by decide +kernel, by decide +kernel⟩, by decide +kernel⟩
theorem m_yX1_takeBack : MV yX1_takeBack cX1_takeBack 4 (some .boolean) 1 := ⟨⟨kY_yX1_takeBack, kS_yX1_takeBack⟩, kI_RX1, kC_yX1_takeBack, ⟨by decide +kernel, by decide +kernel⟩, by decide +kernel⟩
theorem m_yX9_keep : MV yX9_keep cX9_keep 1 (some .int) 0 := ⟨⟨kY_yX9_keep, kS_yX9_keep⟩, kI_RX9, kC_yX9_keep, ⟨by decide +kernel, by decide +kernel⟩, by decide +kernel⟩
theorem m_yX9_restore : MV yX9_restore cX9_restore 1 (some .int) 0 := ⟨⟨kY_yX9_restore, kS_yX9_restore⟩, kI_RX9, kC_yX9_restore, ⟨by decide +kernel, by decide +kernel⟩, by decide +kernel⟩
theorem m_yX9_port : MV yX9_port cX9_port 3 (some .int) 2 := ⟨⟨kY_yX9_port, kS_yX9_port⟩, kI_RX9, kC_yX9_port, ⟨by decide +kernel, by decide +kernel⟩, by decide +kernel⟩
theorem m_yX7_entriesWith : MV yX7_entriesWith cX7_entriesWith 4 (some .int) 1 := ⟨⟨kY_yX7_entriesWith, kS_yX7_entriesWith⟩, kI_RX7, kC_yX7_entriesWith, ⟨by decide +kernel, by decide +kernel⟩, by decide +kernel⟩
theorem m_yX9_account : MV yX9_account cX9_account 3 (some .int) 2 := ⟨⟨kY_yX9_account, kS_yX9_account⟩, kI_RX9, kC_yX9_account, ⟨by decide +kernel, by decide +kernel⟩, by decide +kernel⟩
theorem m_yX3_credited : MV yX3_credited cX3_credited 3 (some .int) 2 := ⟨⟨kY_yX3_credited, kS_yX3_credited⟩, kI_RX3, kC_yX3_credited, ⟨by decide +kernel, by decide +kernel⟩, by decide +kernel⟩
theorem m_yX9_entry : MV yX9_entry cX9_entry 4 (some .int) 2 := ⟨⟨kY_yX9_entry, kS_yX9_entry⟩, kI_RX9, kC_yX9_entry, ⟨by decide +kernel, by decide +kernel⟩, by decide +kernel⟩
theorem m_yX7_addressOf : MV yX7_addressOf cX7_addressOf 4 (some .int) 1 := ⟨⟨kY_yX7_addressOf, kS_yX7_addressOf⟩, kI_RX7, kC_yX7_addressOf, ⟨by decide +kernel, by decide +kernel⟩, by decide +kernel⟩
theorem m_yX9_where : MV yX9_where cX9_where 2 (some .int) 1 := ⟨⟨kY_yX9_where, kS_yX9_where⟩, kI_RX9, kC_yX9_where, ⟨by decide +kernel, by decide +kernel⟩, by decide +kernel⟩
theorem m_yX9_queued : MV yX9_queued cX9_queued 4 (some .int) 3 := ⟨⟨kY_yX9_queued, kS_yX9_queued⟩, kI_RX9, kC_yX9_queued, ⟨by decide +kernel, by decide +kernel⟩, by decide +kernel⟩
theorem m_yX9_wouldGo : MV yX9_wouldGo cX9_wouldGo 5 (some .int) 3 := ⟨⟨kY_yX9_wouldGo, kS_yX9_wouldGo⟩, kI_RX9, kC_yX9_wouldGo, ⟨by decide +kernel, by decide +kernel⟩, by decide +kernel⟩
theorem m_yX9_loops : MV yX9_loops cX9_loops 5 (some .int) 0 := ⟨⟨kY_yX9_loops, kS_yX9_loops⟩, kI_RX9, kC_yX9_loops, ⟨by decide +kernel, by decide +kernel⟩, by decide +kernel⟩
theorem m_yX9_count : MV yX9_count cX9_count 2 (some .int) 1 := ⟨⟨kY_yX9_count, kS_yX9_count⟩, kI_RX9, kC_yX9_count, ⟨by decide +kernel, by decide +kernel⟩, by decide +kernel⟩
theorem m_yX3_quarantined : MV yX3_quarantined cX3_quarantined 3 (some .int) 0 := ⟨⟨kY_yX3_quarantined, kS_yX3_quarantined⟩, kI_RX3, kC_yX3_quarantined, ⟨by decide +kernel, by decide +kernel⟩, by decide +kernel⟩
theorem m_yX5_sum : MV yX5_sum cX5_sum 6 (some .int) 0 := ⟨⟨kY_yX5_sum, kS_yX5_sum⟩, kI_RX5, kC_yX5_sum, ⟨by decide +kernel, by decide +kernel⟩, by decide +kernel⟩
theorem m_yX3_allCameIn : MV yX3_allCameIn cX3_allCameIn 3 (some .int) 0 := ⟨⟨kY_yX3_allCameIn, kS_yX3_allCameIn⟩, kI_RX3, kC_yX3_allCameIn, ⟨by decide +kernel, by decide +kernel⟩, by decide +kernel⟩
theorem m_yX10_init : MI yX10_init cX10_init 2 0 := ⟨⟨kY_yX10_init, rfl⟩, kI_RX10, kC_yX10_init, ⟨by decide +kernel, by decide +kernel⟩, by decide +kernel⟩
theorem m_yX10_to : MV yX10_to cX10_to 4 none 3 := ⟨⟨kY_yX10_to, kS_yX10_to⟩, kI_RX10, kC_yX10_to, ⟨by decide +kernel, by decide +kernel⟩, by decide +kernel⟩
theorem m_yX10_setPort : MV yX10_setPort cX10_setPort 3 (some .int) 2 := ⟨⟨kY_yX10_setPort, kS_yX10_setPort⟩, kI_RX10, kC_yX10_setPort, ⟨by decide +kernel, by decide +kernel⟩, by decide +kernel⟩
theorem m_yX10_noPort : MT yX10_noPort cX10_noPort 1 (some .boolean) 1 := ⟨kT_yX10_noPort, kI_RX10, kC_yX10_noPort, ⟨by decide +kernel, by decide +kernel⟩, by decide +kernel⟩
theorem m_yX10_in : MT yX10_in cX10_in 3 (some .boolean) 3 := ⟨kT_yX10_in, kI_RX10, kC_yX10_in, ⟨by decide +kernel, by decide +kernel⟩, by decide +kernel⟩
theorem m_yX10_of : MV yX10_of cX10_of 3 (some .int) 2 := ⟨⟨kY_yX10_of, kS_yX10_of⟩, kI_RX10, kC_yX10_of, ⟨by decide +kernel, by decide +kernel⟩, by decide +kernel⟩
theorem m_yX10_record : MV yX10_record cX10_record 2 none 0 := ⟨⟨kY_yX10_record, kS_yX10_record⟩, kI_RX10, kC_yX10_record, ⟨by decide +kernel, by decide +kernel⟩, by decide +kernel⟩
theorem m_yX10_openPorts : MV yX10_openPorts cX10_openPorts 3 (some .int) 0 := ⟨⟨kY_yX10_openPorts, kS_yX10_openPorts⟩, kI_RX10, kC_yX10_openPorts, ⟨by decide +kernel, by decide +kernel⟩, by decide +kernel⟩
theorem m_yX10_isOpen : MV yX10_isOpen cX10_isOpen 2 (some .boolean) 1 := ⟨⟨kY_yX10_isOpen, kS_yX10_isOpen⟩, kI_RX10, kC_yX10_isOpen, ⟨by decide +kernel, by decide +kernel⟩, by decide +kernel⟩
theorem m_yX10_join : MV yX10_join cX10_join 3 (some .int) 2 := ⟨⟨kY_yX10_join, kS_yX10_join⟩, kI_RX10, kC_yX10_join, ⟨by decide +kernel, by decide +kernel⟩, by decide +kernel⟩
theorem m_yX10_cables : MV yX10_cables cX10_cables 3 (some .int) 0 := ⟨⟨kY_yX10_cables, kS_yX10_cables⟩, kI_RX10, kC_yX10_cables, ⟨by decide +kernel, by decide +kernel⟩, by decide +kernel⟩
theorem m_yX10_part : MV yX10_part cX10_part 3 (some .int) 1 := ⟨⟨kY_yX10_part, kS_yX10_part⟩, kI_RX10, kC_yX10_part, ⟨by decide +kernel, by decide +kernel⟩, by decide +kernel⟩
theorem m_yX10_release : MV yX10_release cX10_release 3 (some .int) 1 := ⟨⟨kY_yX10_release, kS_yX10_release⟩, kI_RX10, kC_yX10_release, ⟨by decide +kernel, by decide +kernel⟩, by decide +kernel⟩
theorem m_yX10_holdLeft : MV yX10_holdLeft cX10_holdLeft 2 (some .int) 1 := ⟨⟨kY_yX10_holdLeft, kS_yX10_holdLeft⟩, kI_RX10, kC_yX10_holdLeft, ⟨by decide +kernel, by decide +kernel⟩, by decide +kernel⟩
theorem m_yX10_set : MV yX10_set cX10_set 4 (some .int) 2 := ⟨⟨kY_yX10_set, kS_yX10_set⟩, kI_RX10, kC_yX10_set, ⟨by decide +kernel, by decide +kernel⟩, by decide +kernel⟩
theorem m_yX10_mostOf : MT yX10_mostOf cX10_mostOf 1 (some .int) 1 := ⟨kT_yX10_mostOf, kI_RX10, kC_yX10_mostOf, ⟨by decide +kernel, by decide +kernel⟩, by decide +kernel⟩
theorem m_yX10_frame : MV yX10_frame cX10_frame 5 (some .int) 4 := ⟨⟨kY_yX10_frame, kS_yX10_frame⟩, kI_RX10, kC_yX10_frame, ⟨by decide +kernel, by decide +kernel⟩, by decide +kernel⟩
theorem m_yX10_noAddress : MT yX10_noAddress cX10_noAddress 1 (some .boolean) 1 := ⟨kT_yX10_noAddress, kI_RX10, kC_yX10_noAddress, ⟨by decide +kernel, by decide +kernel⟩, by decide +kernel⟩
theorem m_yX10_comesIn : MV yX10_comesIn cX10_comesIn 6 (some .int) 4 := ⟨⟨kY_yX10_comesIn, kS_yX10_comesIn⟩, kI_RX10, kC_yX10_comesIn, ⟨by decide +kernel, by decide +kernel⟩, by decide +kernel⟩
theorem m_yX10_becomes : MV yX10_becomes cX10_becomes 7 (some .int) 4 := ⟨⟨kY_yX10_becomes, kS_yX10_becomes⟩, kI_RX10, kC_yX10_becomes, ⟨by decide +kernel, by decide +kernel⟩, by decide +kernel⟩
theorem m_yX10_movesOf : MV yX10_movesOf cX10_movesOf 4 (some .int) 1 := ⟨⟨kY_yX10_movesOf, kS_yX10_movesOf⟩, kI_RX10, kC_yX10_movesOf, ⟨by decide +kernel, by decide +kernel⟩, by decide +kernel⟩
theorem m_yX10_quarantine : MV yX10_quarantine cX10_quarantine 3 none 2 := ⟨⟨kY_yX10_quarantine, kS_yX10_quarantine⟩, kI_RX10, kC_yX10_quarantine, ⟨by decide +kernel, by decide +kernel⟩, by decide +kernel⟩
theorem m_yX10_removeEntries : MV yX10_removeEntries cX10_removeEntries 3 none 1 := ⟨⟨kY_yX10_removeEntries, kS_yX10_removeEntries⟩, kI_RX10, kC_yX10_removeEntries, ⟨by decide +kernel, by decide +kernel⟩, by decide +kernel⟩
theorem m_yX10_entries : MV yX10_entries cX10_entries 3 (some .int) 0 := ⟨⟨kY_yX10_entries, kS_yX10_entries⟩, kI_RX10, kC_yX10_entries, ⟨by decide +kernel, by decide +kernel⟩, by decide +kernel⟩
theorem m_yX10_removeOldest : MV yX10_removeOldest cX10_removeOldest 3 none 0 := ⟨⟨kY_yX10_removeOldest, kS_yX10_removeOldest⟩, kI_RX10, kC_yX10_removeOldest, ⟨by decide +kernel, by decide +kernel⟩, by decide +kernel⟩
theorem m_yX10_goesOut : MV yX10_goesOut cX10_goesOut 6 none 4 := ⟨⟨kY_yX10_goesOut, kS_yX10_goesOut⟩, kI_RX10, kC_yX10_goesOut, ⟨by decide +kernel, by decide +kernel⟩, by decide +kernel⟩
theorem m_yX10_more : MV yX10_more cX10_more 3 none 2 := ⟨⟨kY_yX10_more, kS_yX10_more⟩, kI_RX10, kC_yX10_more, ⟨by decide +kernel, by decide +kernel⟩, by decide +kernel⟩
theorem m_yX10_queueCell : MV yX10_queueCell cX10_queueCell 3 (some .int) 2 := ⟨⟨kY_yX10_queueCell, kS_yX10_queueCell⟩, kI_RX10, kC_yX10_queueCell, ⟨by decide +kernel, by decide +kernel⟩, by decide +kernel⟩
theorem m_yX10_forget : MV yX10_forget cX10_forget 3 (some .int) 1 := ⟨⟨kY_yX10_forget, kS_yX10_forget⟩, kI_RX10, kC_yX10_forget, ⟨by decide +kernel, by decide +kernel⟩, by decide +kernel⟩
theorem m_yX10_wouldGo : MV yX10_wouldGo cX10_wouldGo 6 (some .int) 3 := ⟨⟨kY_yX10_wouldGo, kS_yX10_wouldGo⟩, kI_RX10, kC_yX10_wouldGo, ⟨by decide +kernel, by decide +kernel⟩, by decide +kernel⟩
theorem m_yX10_pass : MV yX10_pass cX10_pass 4 (some .int) 1 := ⟨⟨kY_yX10_pass, kS_yX10_pass⟩, kI_RX10, kC_yX10_pass, ⟨by decide +kernel, by decide +kernel⟩, by decide +kernel⟩
theorem m_yX10_goesOn : MV yX10_goesOn cX10_goesOn 4 (some .int) 0 := ⟨⟨kY_yX10_goesOn, kS_yX10_goesOn⟩, kI_RX10, kC_yX10_goesOn, ⟨by decide +kernel, by decide +kernel⟩, by decide +kernel⟩
theorem m_yX10_sends : MV yX10_sends cX10_sends 5 none 1 := ⟨⟨kY_yX10_sends, kS_yX10_sends⟩, kI_RX10, kC_yX10_sends, ⟨by decide +kernel, by decide +kernel⟩, by decide +kernel⟩
theorem m_yX10_atPlace : MV yX10_atPlace cX10_atPlace 7 (some .int) 2 := ⟨⟨kY_yX10_atPlace, kS_yX10_atPlace⟩, kI_RX10, kC_yX10_atPlace, ⟨by decide +kernel, by decide +kernel⟩, by decide +kernel⟩
theorem m_yX10_type : MV yX10_type cX10_type 2 (some .int) 1 := ⟨⟨kY_yX10_type, kS_yX10_type⟩, kI_RX10, kC_yX10_type, ⟨by decide +kernel, by decide +kernel⟩, by decide +kernel⟩
theorem m_yX10_clearText : MV yX10_clearText cX10_clearText 2 (some .int) 0 := ⟨⟨kY_yX10_clearText, kS_yX10_clearText⟩, kI_RX10, kC_yX10_clearText, ⟨by decide +kernel, by decide +kernel⟩, by decide +kernel⟩
theorem m_yX10_readFrames : MV yX10_readFrames cX10_readFrames 5 (some .int) 0 := ⟨⟨kY_yX10_readFrames, kS_yX10_readFrames⟩, kI_RX10, kC_yX10_readFrames, ⟨by decide +kernel, by decide +kernel⟩, by decide +kernel⟩
theorem m_yX10_readsFrame : MV yX10_readsFrame cX10_readsFrame 2 (some .boolean) 0 := ⟨⟨kY_yX10_readsFrame, kS_yX10_readsFrame⟩, kI_RX10, kC_yX10_readsFrame, ⟨by decide +kernel, by decide +kernel⟩, by decide +kernel⟩
theorem m_yX10_address : MV yX10_address cX10_address 3 (some .int) 0 := ⟨⟨kY_yX10_address, kS_yX10_address⟩, kI_RX10, kC_yX10_address, ⟨by decide +kernel, by decide +kernel⟩, by decide +kernel⟩
theorem m_yX10_digit : MV yX10_digit cX10_digit 3 (some .int) 2 := ⟨⟨kY_yX10_digit, kS_yX10_digit⟩, kI_RX10, kC_yX10_digit, ⟨by decide +kernel, by decide +kernel⟩, by decide +kernel⟩
theorem m_yX10_takes : MV yX10_takes cX10_takes 2 (some .boolean) 1 := ⟨⟨kY_yX10_takes, kS_yX10_takes⟩, kI_RX10, kC_yX10_takes, ⟨by decide +kernel, by decide +kernel⟩, by decide +kernel⟩
theorem m_yX10_undo : MV yX10_undo cX10_undo 2 (some .int) 0 := ⟨⟨kY_yX10_undo, kS_yX10_undo⟩, kI_RX10, kC_yX10_undo, ⟨by decide +kernel, by decide +kernel⟩, by decide +kernel⟩
theorem m_yX10_keep : MV yX10_keep cX10_keep 2 (some .int) 0 := ⟨⟨kY_yX10_keep, kS_yX10_keep⟩, kI_RX10, kC_yX10_keep, ⟨by decide +kernel, by decide +kernel⟩, by decide +kernel⟩
theorem m_yX10_restore : MV yX10_restore cX10_restore 2 (some .int) 0 := ⟨⟨kY_yX10_restore, kS_yX10_restore⟩, kI_RX10, kC_yX10_restore, ⟨by decide +kernel, by decide +kernel⟩, by decide +kernel⟩
theorem m_yX10_port : MV yX10_port cX10_port 3 (some .int) 2 := ⟨⟨kY_yX10_port, kS_yX10_port⟩, kI_RX10, kC_yX10_port, ⟨by decide +kernel, by decide +kernel⟩, by decide +kernel⟩
theorem m_yX10_entriesWith : MV yX10_entriesWith cX10_entriesWith 4 (some .int) 1 := ⟨⟨kY_yX10_entriesWith, kS_yX10_entriesWith⟩, kI_RX10, kC_yX10_entriesWith, ⟨by decide +kernel, by decide +kernel⟩, by decide +kernel⟩
theorem m_yX10_account : MV yX10_account cX10_account 3 (some .int) 2 := ⟨⟨kY_yX10_account, kS_yX10_account⟩, kI_RX10, kC_yX10_account, ⟨by decide +kernel, by decide +kernel⟩, by decide +kernel⟩
theorem m_yX10_entry : MV yX10_entry cX10_entry 5 (some .int) 2 := ⟨⟨kY_yX10_entry, kS_yX10_entry⟩, kI_RX10, kC_yX10_entry, ⟨by decide +kernel, by decide +kernel⟩, by decide +kernel⟩
theorem m_yX10_where : MV yX10_where cX10_where 2 (some .int) 1 := ⟨⟨kY_yX10_where, kS_yX10_where⟩, kI_RX10, kC_yX10_where, ⟨by decide +kernel, by decide +kernel⟩, by decide +kernel⟩
theorem m_yX10_queued : MV yX10_queued cX10_queued 5 (some .int) 3 := ⟨⟨kY_yX10_queued, kS_yX10_queued⟩, kI_RX10, kC_yX10_queued, ⟨by decide +kernel, by decide +kernel⟩, by decide +kernel⟩
theorem m_yX10_loops : MV yX10_loops cX10_loops 3 (some .int) 0 := ⟨⟨kY_yX10_loops, kS_yX10_loops⟩, kI_RX10, kC_yX10_loops, ⟨by decide +kernel, by decide +kernel⟩, by decide +kernel⟩
theorem m_yX10_count : MV yX10_count cX10_count 2 (some .int) 1 := ⟨⟨kY_yX10_count, kS_yX10_count⟩, kI_RX10, kC_yX10_count, ⟨by decide +kernel, by decide +kernel⟩, by decide +kernel⟩
theorem m_yX10_held : MV yX10_held cX10_held 3 (some .int) 0 := ⟨⟨kY_yX10_held, kS_yX10_held⟩, kI_RX10, kC_yX10_held, ⟨by decide +kernel, by decide +kernel⟩, by decide +kernel⟩
theorem m_yX10_inAll : MV yX10_inAll cX10_inAll 4 (some .int) 1 := ⟨⟨kY_yX10_inAll, kS_yX10_inAll⟩, kI_RX10, kC_yX10_inAll, ⟨by decide +kernel, by decide +kernel⟩, by decide +kernel⟩
end
section
/-! what the class's methods answer and leave, in numbers: written after the Java, cell by cell -/
def rAt (n : Nat) (f : Nat → Int32) (i : Int32) : Int32 := if i < 0 then 0 else if i < nI n then f i.toNatClampNeg else 0
def rPut (n : Nat) (f : Nat → Int32) (i v : Int32) : Nat → Int32 := if i < 0 then f else if i < nI n then upd f i.toNatClampNeg v else f
def rAdd (n : Nat) (f : Nat → Int32) (i v : Int32) : Nat → Int32 := if i < 0 then f else if i < nI n then upd f i.toNatClampNeg (f i.toNatClampNeg + v) else f
def rSum (f : Nat → Int32) : Nat → Int32
  | 0 => 0
  | k + 1 => rSum f k + f k
def rFits (n : Nat) (i k : Int32) : Int32 := if i < 0 then 0 else if k < 0 then 0 else if nI n - k < i then 0 else 1
def fillF (f : Nat → Int32) (i j : Nat) (v : Int32) : Nat → Int32 := fun k => if i ≤ k ∧ k < j then v else f k
def rFill (n : Nat) (f : Nat → Int32) (i k v : Int32) : Nat → Int32 := if rFits n i k = 0 then f else fillF f i.toNatClampNeg (i + k).toNatClampNeg v
def rSlide (n : Nat) (f : Nat → Int32) (i j k : Int32) : Nat → Int32 := if rFits n i k = 0 then f else if rFits n j k = 0 then f else va_cpy f f i.toNatClampNeg j.toNatClampNeg k.toNatClampNeg
def oAt (r n : Nat) (σ : St) (i : Int32) : Int32 := rAt n (σ.1 r) i
def oPut (r n : Nat) (σ : St) (i v : Int32) : St := rput σ r (rPut n (σ.1 r) i v)
def oAdd (r n : Nat) (σ : St) (i v : Int32) : St := rput σ r (rAdd n (σ.1 r) i v)
def oFill (r n : Nat) (σ : St) (i k v : Int32) : St := rput σ r (rFill n (σ.1 r) i k v)
def oSlide (r n : Nat) (σ : St) (i j k : Int32) : St := rput σ r (rSlide n (σ.1 r) i j k)
-- ports
def pUp (σ : St) (p : Int32) : Int32 := if oAt 1 8 σ p = 1 then 1 else 0
def pOpen (σ : St) (p : Int32) : Int32 := if oAt 1 8 σ p = 1 then (if oAt 2 8 σ p = 0 then 1 else 0) else 0
def pTurn (σ : St) (p up : Int32) : St := oPut 1 8 σ p (if up = 0 then 0 else 1)
def pOnes (σ : St) : Nat → Int32
  | 0 => 0
  | k + 1 => if pOpen σ (nI k) = 0 then pOnes σ k else pOnes σ k ||| ((1 : Int32) <<< (nI k &&& 31))
def pBegin (σ : St) (p sec why : Int32) : St := oPut 3 8 (oPut 2 8 σ p sec) p why
def pEnd (σ : St) (p : Int32) : St := oPut 2 8 σ p 0
def pQuar (σ : St) : Nat → Int32
  | 0 => 0
  | k + 1 => if 0 < oAt 2 8 σ (nI k) then pQuar σ k + 1 else pQuar σ k
def pFar (σ : St) (p : Int32) : Int32 := oAt 4 8 σ p
def pTie (σ : St) (p q : Int32) : St := oPut 4 8 (oPut 4 8 σ p q) q p
def pUntie (σ : St) (p q : Int32) : St := oPut 4 8 (oPut 4 8 σ p (-4)) q (-4)
def pCab (σ : St) : Nat → Int32
  | 0 => 0
  | k + 1 => if oAt 4 8 σ (nI k) = -4 then pCab σ k else pCab σ k + 1
def pCredit (σ : St) (p w v : Int32) : St := oAdd 6 88 σ (p * 11 + w) v
def pCredited (σ : St) (p w : Int32) : Int32 := oAt 6 88 σ (p * 11 + w)
def pAll (σ : St) : Nat → Int32
  | 0 => 0
  | k + 1 => pAll σ k + pCredited σ (nI k) 0
def pDec (σ : St) : Nat → St
  | 0 => σ
  | k + 1 => if 0 < oAt 2 8 (pDec σ k) (nI k) then oAdd 2 8 (pDec σ k) (nI k) (-1) else pDec σ k
def pEndSec (σ : St) : St := oFill 5 8 (pDec σ 8) 0 8 0
-- queues
def qCell (p k : Int32) : Int32 := (p * 12 + k) * 4
def qPart (σ : St) (p k w : Int32) : Int32 := oAt 8 384 σ (qCell p k + w)
def qFull (σ : St) (p : Int32) : Int32 := if oAt 7 8 σ p < 12 then 0 else 1
def qSlot (σ : St) (p pr : Int32) : Nat → Int32
  | 0 => 0
  | n + 1 => if qPart σ p (nI (n + 1) - 1) 2 < pr then qSlot σ p pr n else nI (n + 1)
def qPlace (σ : St) (p pr : Int32) : Int32 := if 0 < oAt 7 8 σ p then qSlot σ p pr (oAt 7 8 σ p).toNatClampNeg else oAt 7 8 σ p
def qWrite (σ : St) (c s d pr num : Int32) : St := oPut 8 384 (oPut 8 384 (oPut 8 384 (oPut 8 384 σ (c + 0) s) (c + 1) d) (c + 2) pr) (c + 3) num
def qIns (σ : St) (p s d pr num : Int32) : St :=
  oPut 7 8 (qWrite (oSlide 8 384 σ (qCell p (qPlace σ p pr)) (qCell p (qPlace σ p pr) + 4) ((oAt 7 8 σ p - qPlace σ p pr) * 4)) (qCell p (qPlace σ p pr)) s d pr num) p (oAt 7 8 σ p + 1)
def qRem (σ : St) (p k : Int32) : St := oPut 7 8 (oSlide 8 384 σ (qCell p k) (qCell p 0) ((oAt 7 8 σ p - k) * 4)) p (oAt 7 8 σ p - k)
-- table
def tPort (σ : St) (a : Int32) : Int32 := oAt 9 100 σ a
def tRemove (σ : St) (a : Int32) : St := sput (oPut 9 100 σ a (-4)) 3 (σ.2 3 - 1)
def tOldest (σ : St) : Nat → Int32
  | 0 => 0
  | k + 1 => if oAt 9 100 σ (nI (k + 1)) = -4 then tOldest σ k else if tOldest σ k = 0 then nI (k + 1) else if oAt 10 100 σ (nI (k + 1)) < oAt 10 100 σ (tOldest σ k) then nI (k + 1) else tOldest σ k
def tRoom (σ : St) : St := if σ.2 3 < 20 then sput σ 3 (σ.2 3 + 1) else sput (tRemove σ (tOldest σ 99)) 3 ((tRemove σ (tOldest σ 99)).2 3 + 1)
def tLearn (σ : St) (a p t : Int32) : St := if oAt 9 100 σ a = -4 then oPut 10 100 (oPut 9 100 (tRoom σ) a p) a t else oPut 10 100 (oPut 9 100 σ a p) a t
def tRemAll (σ : St) (p : Int32) : Nat → St
  | 0 => σ
  | k + 1 => if oAt 9 100 (tRemAll σ p k) (nI (k + 1)) = p then tRemove (tRemAll σ p k) (nI (k + 1)) else tRemAll σ p k
def tUntil (σ : St) (t : Int32) : Nat → St
  | 0 => σ
  | k + 1 => if oAt 9 100 (tUntil σ t k) (nI (k + 1)) = -4 then tUntil σ t k else if t < oAt 10 100 (tUntil σ t k) (nI (k + 1)) then tUntil σ t k else tRemove (tUntil σ t k) (nI (k + 1))
def tWith (σ : St) (p : Int32) : Nat → Int32
  | 0 => 0
  | k + 1 => if oAt 9 100 σ (nI (k + 1)) = p then tWith σ p k + 1 else tWith σ p k
/-- the address of an entry: from the address k on (k + n = 100), so many entries before it -/
def tAddr (σ : St) (x : Int32) : Nat → Nat → Int32 → Int32
  | 0, _, _ => -4
  | n + 1, k, b => if oAt 9 100 σ (nI k) = -4 then tAddr σ x n (k + 1) b else if b = x then nI k else tAddr σ x n (k + 1) (b + 1)
-- moves
def mSec (c : Int32) : Int32 := (c - c / 10 * 10) * 100
def mAdd (σ : St) (a c : Int32) : St := oAdd 11 1000 σ (mSec c + a) 1
def mLate (σ : St) (a : Int32) : Nat → Int32
  | 0 => 0
  | k + 1 => mLate σ a k + oAt 11 1000 σ (nI k * 100 + a)
def mBegin (σ : St) (c : Int32) : St := oFill 11 1000 σ (mSec c) 100 0
-- a state
def sDrop (σ : St) (p : Int32) : St := pCredit (qRem σ p (oAt 7 8 σ p)) p 8 (oAt 7 8 σ p)
def sQuar (σ : St) (p why : Int32) : St := sput (tRemAll (pBegin σ p (oAt 0 4 σ 1) why) p 99) 2 ((tRemAll (pBegin σ p (oAt 0 4 σ 1) why) p 99).2 2 + 1)
def sDec (σ : St) (p d : Int32) : Int32 × St :=
  if tPort σ d = p then (1, σ) else if tPort σ d = -4 then (if oAt 5 8 σ p < oAt 0 4 σ 2 then (3, oAdd 5 8 σ p 1) else (5, sQuar σ p 2)) else if pOpen σ (tPort σ d) = 0 then (6, σ) else (2, σ)
def sMoved (σ : St) (p s d : Int32) : Int32 × St := if mLate σ s 10 < 3 then sDec σ p d else (4, sQuar σ p 1)
def sLD (σ : St) (p s d : Int32) : Int32 × St :=
  if pOpen σ p = 0 then (0, σ) else if tPort σ s = -4 then sDec (tLearn σ s p (σ.2 0)) p d else if tPort σ s = p then sDec (tLearn σ s p (σ.2 0)) p d else sMoved (mAdd (tLearn σ s p (σ.2 0)) s ((tLearn σ s p (σ.2 0)).2 0)) p s d
def sWaysOut (σ : St) (fate p d : Int32) : Int32 := if fate = 2 then (1 : Int32) <<< (tPort σ d &&& 31) else if fate = 3 then pOnes σ 8 &&& (((1 : Int32) <<< (p &&& 31)) ^^^ (-1)) else 0
def sOut (σ : St) (p s d pr : Int32) : St :=
  if qFull σ p = 0 then sput (pCredit (qIns σ p s d pr (σ.2 1)) p 7 1) 1 ((pCredit (qIns σ p s d pr (σ.2 1)) p 7 1).2 1 + 1) else pCredit σ p 8 1
def sGo (σ : St) (ways s d pr : Int32) : Nat → St
  | 0 => σ
  | k + 1 => if (ways >>> (nI k &&& 31)) &&& 1 = 1 then sOut (sGo σ ways s d pr k) (nI k) s d pr else sGo σ ways s d pr k
def sAcc (fate : Int32) : Int32 := if fate = 6 then 6 else if fate = 4 then 5 else if fate = 5 then 5 else fate + 1
def sCome (σ : St) (p s d pr : Int32) : Int32 × St :=
  ((sLD σ p s d).1, pCredit (pCredit (sGo (sLD σ p s d).2 (sWaysOut (sLD σ p s d).2 (sLD σ p s d).1 p d) s d pr 8) p 0 1) p (sAcc (sLD σ p s d).1) 1)
def sTick (σ : St) : St := pEndSec (sput σ 0 (σ.2 0 + 1))
def sEnd (σ : St) : St := mBegin (tUntil (sTick σ) ((sTick σ).2 0 - oAt 0 4 (sTick σ) 0) 99) ((tUntil (sTick σ) ((sTick σ).2 0 - oAt 0 4 (sTick σ) 0) 99).2 0)
def bitC (x : Int32) : Int32 :=
  let a := x - ((x.toUInt32 >>> ((1 : Int32).toUInt32 &&& Int32.toUInt32 31)).toInt32 &&& 1431655765)
  let b := (a &&& 858993459) + ((a.toUInt32 >>> ((2 : Int32).toUInt32 &&& Int32.toUInt32 31)).toInt32 &&& 858993459)
  let c := (b + (b.toUInt32 >>> ((4 : Int32).toUInt32 &&& Int32.toUInt32 31)).toInt32) &&& 252645135
  let d := c + (c.toUInt32 >>> ((8 : Int32).toUInt32 &&& Int32.toUInt32 31)).toInt32
  let e := d + (d.toUInt32 >>> ((16 : Int32).toUInt32 &&& Int32.toUInt32 31)).toInt32
  e &&& 63
def xPut (S : Sy) (i v : Int32) : Sy := xar S 1 (rPut 384 (S.2.2 1) i v)
end
section
set_option maxRecDepth 100000 in
set_option maxHeartbeats 8000000 in
theorem c_X5_at (l : Launch) {D : DD} {B z : Nat} {h : HF} {r c n : Nat} {f : Nat → Int32} {i : Int32} (hn : n < 1000000000) (hr_ : h r = some (rowE c)) (hc_ : h c = some (arrE D n f)) : CT l yX5_at cX5_at 2 (some .int) 0 0 [.ref r, .int i] D B z h (some (.int (rAt n f i))) 0 0 h := by
  refine CT.of (L := [(0, .ref r), (1, .int i)]) (by decide +kernel) (Nat.le_of_ble_eq_true rfl) rfl ?_
  intro P E S0 M0 AR BL ME CO X hr hnm
  refine j_iload_n X 1 dX5_at_0 rfl rfl ?_
  refine j_if_lt X (tgt := 22) dX5_at_1 (by decide) (fun c_1 => ?_) (fun c_1 => ?_)
  · refine j_iconst X (v := 0) dX5_at_22 (by decide) ?_
    exact j_iret X hr rfl (by first | rfl | (simp only [rAt, c_1]; done) | (simp only [rAt, c_1]; rfl) | (simp [rAt, c_1]; done)) rfl (by first | rfl | (simp only [rAt, c_1]; done) | (simp only [rAt, c_1]; rfl) | (simp [rAt, c_1]; done)) dX5_at_23
  · refine j_iload_n X 1 dX5_at_4 rfl rfl ?_
    refine j_aload_n X 0 dX5_at_5 rfl rfl ?_
    refine j_get X fG_RX5_13 hr_ rfl rfl dX5_at_6 ?_
    refine j_alen X (k := 0) (v := nI n) rfl hc_ rfl rfl dX5_at_9 ?_
    refine j_icmp_ge X (tgt := 22) dX5_at_10 (by decide) (fun c_10 => ?_) (fun c_10 => ?_)
    · refine j_iconst X (v := 0) dX5_at_22 (by decide) ?_
      exact j_iret X hr rfl (by first | rfl | (simp only [rAt, c_1, c_10]; done) | (simp only [rAt, c_1, c_10]; rfl) | (simp [rAt, c_1, c_10]; done)) rfl (by first | rfl | (simp only [rAt, c_1, c_10]; done) | (simp only [rAt, c_1, c_10]; rfl) | (simp [rAt, c_1, c_10]; done)) dX5_at_23
    · refine j_aload_n X 0 dX5_at_13 rfl rfl ?_
      refine j_get X fG_RX5_13 hr_ rfl rfl dX5_at_14 ?_
      refine j_iload_n X 1 dX5_at_17 rfl rfl ?_
      refine j_iald X hc_ rfl (vp_in_c (by omega) c_1 c_10) dX5_at_18 ?_
      refine j_goto X (tgt := 23) dX5_at_19 (by decide) ?_
      exact j_iret X hr rfl (by first | rfl | (simp only [rAt, c_1, c_10]; done) | (simp only [rAt, c_1, c_10]; rfl) | (simp [rAt, c_1, c_10]; done)) rfl (by first | rfl | (simp only [rAt, c_1, c_10]; done) | (simp only [rAt, c_1, c_10]; rfl) | (simp [rAt, c_1, c_10]; done)) dX5_at_23
set_option maxRecDepth 100000 in
set_option maxHeartbeats 8000000 in
theorem c_X5_put (l : Launch) {D : DD} {B z : Nat} {h : HF} {r c n : Nat} {f : Nat → Int32} {i : Int32} {v : Int32} (hn : n < 1000000000) (hr_ : h r = some (rowE c)) (hc_ : h c = some (arrE D n f)) : CT l yX5_put cX5_put 3 none 0 0 [.ref r, .int i, .int v] D B z h none 0 0 (hupd h c (arrE D n (rPut n f i v))) := by
  refine CT.of (L := [(0, .ref r), (1, .int i), (2, .int v)]) (by decide +kernel) (Nat.le_of_ble_eq_true rfl) rfl ?_
  intro P E S0 M0 AR BL ME CO X hr hnm
  refine j_iload_n X 1 dX5_put_0 rfl rfl ?_
  refine j_if_lt X (tgt := 20) dX5_put_1 (by decide) (fun c_1 => ?_) (fun c_1 => ?_)
  · exact j_vret X hr rfl (by first | rfl | (simp only [rPut, c_1, if_true, if_false]; done) | (simp only [rPut, c_1, if_true, if_false]; rfl) | (simp only [rPut, c_1, if_true, if_false]; exact (hupd_self hc_).symm)) dX5_put_20
  · refine j_iload_n X 1 dX5_put_4 rfl rfl ?_
    refine j_aload_n X 0 dX5_put_5 rfl rfl ?_
    refine j_get X fG_RX5_13 hr_ rfl rfl dX5_put_6 ?_
    refine j_alen X (k := 0) (v := nI n) rfl hc_ rfl rfl dX5_put_9 ?_
    refine j_icmp_ge X (tgt := 20) dX5_put_10 (by decide) (fun c_10 => ?_) (fun c_10 => ?_)
    · exact j_vret X hr rfl (by first | rfl | (simp only [rPut, c_1, c_10, if_true, if_false]; done) | (simp only [rPut, c_1, c_10, if_true, if_false]; rfl) | (simp only [rPut, c_1, c_10, if_true, if_false]; exact (hupd_self hc_).symm)) dX5_put_20
    · refine j_aload_n X 0 dX5_put_13 rfl rfl ?_
      refine j_get X fG_RX5_13 hr_ rfl rfl dX5_put_14 ?_
      refine j_iload_n X 1 dX5_put_17 rfl rfl ?_
      refine j_iload_n X 2 dX5_put_18 rfl rfl ?_
      refine j_iast X hc_ rfl (vp_in_c (by omega) c_1 c_10) dX5_put_19 ?_
      exact j_vret X hr rfl (by first | rfl | (simp only [rPut, c_1, c_10, if_true, if_false]; done) | (simp only [rPut, c_1, c_10, if_true, if_false]; rfl) | (simp only [rPut, c_1, c_10, if_true, if_false]; exact (hupd_self hc_).symm)) dX5_put_20
set_option maxRecDepth 100000 in
set_option maxHeartbeats 8000000 in
theorem c_X5_add (l : Launch) {D : DD} {B z : Nat} {h : HF} {r c n : Nat} {f : Nat → Int32} {i : Int32} {v : Int32} (hn : n < 1000000000) (hr_ : h r = some (rowE c)) (hc_ : h c = some (arrE D n f)) : CT l yX5_add cX5_add 3 none 0 0 [.ref r, .int i, .int v] D B z h none 0 0 (hupd h c (arrE D n (rAdd n f i v))) := by
  refine CT.of (L := [(0, .ref r), (1, .int i), (2, .int v)]) (by decide +kernel) (Nat.le_of_ble_eq_true rfl) rfl ?_
  intro P E S0 M0 AR BL ME CO X hr hnm
  refine j_iload_n X 1 dX5_add_0 rfl rfl ?_
  refine j_if_lt X (tgt := 23) dX5_add_1 (by decide) (fun c_1 => ?_) (fun c_1 => ?_)
  · exact j_vret X hr rfl (by first | rfl | (simp only [rAdd, c_1, if_true, if_false]; done) | (simp only [rAdd, c_1, if_true, if_false]; rfl) | (simp only [rAdd, c_1, if_true, if_false]; exact (hupd_self hc_).symm)) dX5_add_23
  · refine j_iload_n X 1 dX5_add_4 rfl rfl ?_
    refine j_aload_n X 0 dX5_add_5 rfl rfl ?_
    refine j_get X fG_RX5_13 hr_ rfl rfl dX5_add_6 ?_
    refine j_alen X (k := 0) (v := nI n) rfl hc_ rfl rfl dX5_add_9 ?_
    refine j_icmp_ge X (tgt := 23) dX5_add_10 (by decide) (fun c_10 => ?_) (fun c_10 => ?_)
    · exact j_vret X hr rfl (by first | rfl | (simp only [rAdd, c_1, c_10, if_true, if_false]; done) | (simp only [rAdd, c_1, c_10, if_true, if_false]; rfl) | (simp only [rAdd, c_1, c_10, if_true, if_false]; exact (hupd_self hc_).symm)) dX5_add_23
    · refine j_aload_n X 0 dX5_add_13 rfl rfl ?_
      refine j_get X fG_RX5_13 hr_ rfl rfl dX5_add_14 ?_
      refine j_iload_n X 1 dX5_add_17 rfl rfl ?_
      refine j_dup2 X dX5_add_18 rfl rfl ?_
      refine j_iald X hc_ rfl (vp_in_c (by omega) c_1 c_10) dX5_add_19 ?_
      refine j_iload_n X 2 dX5_add_20 rfl rfl ?_
      refine j_iadd X dX5_add_21 ?_
      refine j_iast X hc_ rfl (vp_in_c (by omega) c_1 c_10) dX5_add_22 ?_
      exact j_vret X hr rfl (by first | rfl | (simp only [rAdd, c_1, c_10, if_true, if_false]; done) | (simp only [rAdd, c_1, c_10, if_true, if_false]; rfl) | (simp only [rAdd, c_1, c_10, if_true, if_false]; exact (hupd_self hc_).symm)) dX5_add_23
set_option maxRecDepth 100000 in
set_option maxHeartbeats 8000000 in
theorem c_X5_fits (l : Launch) {D : DD} {B z : Nat} {h : HF} {r c n : Nat} {f : Nat → Int32} {i : Int32} {k : Int32} (hn : n < 1000000000) (hr_ : h r = some (rowE c)) (hc_ : h c = some (arrE D n f)) : CT l yX5_fits cX5_fits 3 (some .boolean) 0 0 [.ref r, .int i, .int k] D B z h (some (.int (rFits n i k))) 0 0 h := by
  refine CT.of (L := [(0, .ref r), (1, .int i), (2, .int k)]) (by decide +kernel) (Nat.le_of_ble_eq_true rfl) rfl ?_
  intro P E S0 M0 AR BL ME CO X hr hnm
  refine j_iload_n X 1 dX5_fits_0 rfl rfl ?_
  refine j_if_lt X (tgt := 23) dX5_fits_1 (by decide) (fun c_1 => ?_) (fun c_1 => ?_)
  · refine j_iconst X (v := 0) dX5_fits_23 (by decide) ?_
    exact j_iret X hr rfl (by first | rfl | (simp only [rFits, c_1]; done) | (simp only [rFits, c_1]; rfl) | (simp [rFits, c_1]; done)) rfl (by first | rfl | (simp only [rFits, c_1]; done) | (simp only [rFits, c_1]; rfl) | (simp [rFits, c_1]; done)) dX5_fits_24
  · refine j_iload_n X 2 dX5_fits_4 rfl rfl ?_
    refine j_if_lt X (tgt := 23) dX5_fits_5 (by decide) (fun c_5 => ?_) (fun c_5 => ?_)
    · refine j_iconst X (v := 0) dX5_fits_23 (by decide) ?_
      exact j_iret X hr rfl (by first | rfl | (simp only [rFits, c_1, c_5]; done) | (simp only [rFits, c_1, c_5]; rfl) | (simp [rFits, c_1, c_5]; done)) rfl (by first | rfl | (simp only [rFits, c_1, c_5]; done) | (simp only [rFits, c_1, c_5]; rfl) | (simp [rFits, c_1, c_5]; done)) dX5_fits_24
    · refine j_iload_n X 1 dX5_fits_8 rfl rfl ?_
      refine j_aload_n X 0 dX5_fits_9 rfl rfl ?_
      refine j_get X fG_RX5_13 hr_ rfl rfl dX5_fits_10 ?_
      refine j_alen X (k := 0) (v := nI n) rfl hc_ rfl rfl dX5_fits_13 ?_
      refine j_iload_n X 2 dX5_fits_14 rfl rfl ?_
      refine j_isub X dX5_fits_15 ?_
      refine j_icmp_gt X (tgt := 23) dX5_fits_16 (by decide) (fun c_16 => ?_) (fun c_16 => ?_)
      · refine j_iconst X (v := 0) dX5_fits_23 (by decide) ?_
        exact j_iret X hr rfl (by first | rfl | (simp only [rFits, c_1, c_5, c_16]; done) | (simp only [rFits, c_1, c_5, c_16]; rfl) | (simp [rFits, c_1, c_5, c_16]; done)) rfl (by first | rfl | (simp only [rFits, c_1, c_5, c_16]; done) | (simp only [rFits, c_1, c_5, c_16]; rfl) | (simp [rFits, c_1, c_5, c_16]; done)) dX5_fits_24
      · refine j_iconst X (v := 1) dX5_fits_19 (by decide) ?_
        refine j_goto X (tgt := 24) dX5_fits_20 (by decide) ?_
        exact j_iret X hr rfl (by first | rfl | (simp only [rFits, c_1, c_5, c_16]; done) | (simp only [rFits, c_1, c_5, c_16]; rfl) | (simp [rFits, c_1, c_5, c_16]; done)) rfl (by first | rfl | (simp only [rFits, c_1, c_5, c_16]; done) | (simp only [rFits, c_1, c_5, c_16]; rfl) | (simp [rFits, c_1, c_5, c_16]; done)) dX5_fits_24
set_option maxRecDepth 100000 in
set_option maxHeartbeats 8000000 in
theorem c_X5_sum (l : Launch) {D : DD} {B z : Nat} {h : HF} {r c : Nat} {f : Nat → Int32} (hr_ : h r = some (rowE c)) (hc_ : h c = some (arrE D 8 f)) : CT l yX5_sum cX5_sum 6 (some .int) 0 0 [.ref r] D B z h (some (.int (rSum f 8))) 0 0 h := by
  refine CT.of (L := [(0, .ref r)]) (by decide +kernel) (Nat.le_of_ble_eq_true rfl) rfl ?_
  intro P E S0 M0 AR BL ME CO X hr hnm
  refine j_iconst X (v := 0) dX5_sum_0 (by decide) ?_
  refine j_istore_n X (L' := [(1, .int 0), (0, .ref r)]) dX5_sum_1 rfl (by decide) rfl ?_
  refine j_aload_n X 1 dX5_sum_2 rfl rfl ?_
  refine j_get X fG_RX5_13 hr_ rfl rfl dX5_sum_3 ?_
  refine j_astore_n X (L' := [(2, .ref c), (1, .int 0), (0, .ref r)]) dX5_sum_6 rfl (by decide) rfl ?_
  refine j_aload_n X 0 dX5_sum_7 rfl rfl ?_
  refine j_alen X (k := 0) (v := 8) rfl hc_ rfl rfl dX5_sum_8 ?_
  refine j_istore_n X (L' := [(3, .int 8), (2, .ref c), (1, .int 0), (0, .ref r)]) dX5_sum_9 rfl (by decide) rfl ?_
  refine j_iconst X (v := 0) dX5_sum_10 (by decide) ?_
  refine j_istore X (L' := [(4, .int 0), (3, .int 8), (2, .ref c), (1, .int 0), (0, .ref r)]) dX5_sum_11 (by decide) rfl ?_
  have loop13 : ∀ (n k : Nat), k + n = 8 → J P l E { frames := 0, cells := 0, slots := 0, locals := 0 } S0 M0 AR BL ME CO D B 6 (MQ BL (QC (some (.int (rSum f 8))) D B (z + 0) h) AR S0 0 0 (aB B)) 0 0 z h [(0, .ref r), (1, .int (rSum f k)), (2, .ref c), (3, .int 8), (4, .int (nI k))] [] 13 := by
    intro n
    induction n with
    | zero =>
      intro k hk
      obtain rfl : k = 8 := by omega
      refine j_iload X 4 dX5_sum_13 rfl ?_
      refine j_iload_n X 3 dX5_sum_15 rfl rfl ?_
      refine j_icmp_ge X (tgt := 36) dX5_sum_16 (by decide) (fun c_16 => ?_) (fun c_16 => absurd c_16 (by decide))
      refine j_iload_n X 1 dX5_sum_36 rfl rfl ?_
      exact j_iret X hr rfl (by first | rfl | (simp only [rSum, c_16]; done) | (simp only [rSum, c_16]; rfl) | (simp [rSum, c_16]; done)) rfl (by first | rfl | (simp only [rSum, c_16]; done) | (simp only [rSum, c_16]; rfl) | (simp [rSum, c_16]; done)) dX5_sum_37
    | succ n ih =>
      intro k hk
      have hcl : (nI k).toNatClampNeg = k := nI_clamp (by omega)
      have hlt : nI k < 8 := nlt_lit (b := 8) (by omega) (by decide)
      refine j_iload X 4 dX5_sum_13 rfl ?_
      refine j_iload_n X 3 dX5_sum_15 rfl rfl ?_
      refine j_icmp_ge X (tgt := 36) dX5_sum_16 (by decide) (fun c_16 => absurd hlt c_16) (fun c_16 => ?_)
      refine j_aload_n X 2 dX5_sum_19 rfl rfl ?_
      refine j_iload X 4 dX5_sum_20 rfl ?_
      refine j_iald X hc_ rfl (vp_in_nI (by omega) (by decide)) dX5_sum_22 ?_
      refine j_top (fun v1 ev1 => ?_)
      refine j_istore X (L' := [(5, .int v1), (0, .ref r), (1, .int (rSum f k)), (2, .ref c), (3, .int 8), (4, .int (nI k))]) dX5_sum_23 (by decide) rfl ?_
      refine j_iload_n X 2 dX5_sum_25 rfl rfl ?_
      refine j_iload X 0 dX5_sum_26 rfl ?_
      refine j_iadd X dX5_sum_28 ?_
      refine j_top (fun v2 ev2 => ?_)
      refine j_istore_n X (L' := [(1, .int v2), (5, .int v1), (0, .ref r), (2, .ref c), (3, .int 8), (4, .int (nI k))]) dX5_sum_29 rfl (by decide) rfl ?_
      obtain ⟨v3, ev3⟩ : ∃ y : Int32, y = (nI k) + 1 := ⟨_, rfl⟩
      refine j_iinc X 5 (k := 1) (v := v3) (L' := [(4, .int v3), (1, .int v2), (5, .int v1), (0, .ref r), (2, .ref c), (3, .int 8)]) dX5_sum_30 rfl (by decide) (by decide) ev3.symm rfl ?_
      refine j_goto X (tgt := 13) dX5_sum_33 (by decide) ?_
      refine j_sub [3, 1, 4, 5, 0] (L' := [(0, .ref r), (1, .int (rSum f (k + 1))), (2, .ref c), (3, .int 8), (4, .int (nI (k + 1)))]) (by subst ev3 ev2 ev1; first | rfl | (simp only [rSum, nI_0, hcl, c_16, nI_succ, if_true, if_false]; rfl) | (simp only [lv_pick, rSum, nI_0, hcl, c_16, nI_succ]; rfl)) ?_
      exact ih (k + 1) (by omega)
  refine j_sub [4, 3, 2, 1, 0] (L' := [(0, .ref r), (1, .int (rSum f 0)), (2, .ref c), (3, .int 8), (4, .int (nI 0))]) (by first | rfl | (simp only [rSum, nI_0, nI_succ, if_true, if_false]; rfl) | (simp only [lv_pick, rSum, nI_0, nI_succ]; rfl)) ?_
  exact loop13 8 0 rfl
/-! fill, slide, copyFrom and the JDK's own of them: by hand -/
theorem rFits_ok {n : Nat} {i k : Int32} (hn : n < 1000000000) (h : ¬ rFits n i k = 0) : ∃ a b : Nat, a + b ≤ n ∧ i = nI a ∧ k = nI b := by
  unfold rFits at h
  by_cases c1 : i < 0
  · rw [if_pos c1] at h; exact absurd rfl h
  rw [if_neg c1] at h
  by_cases c2 : k < 0
  · rw [if_pos c2] at h; exact absurd rfl h
  rw [if_neg c2] at h
  by_cases c3 : nI n - k < i
  · rw [if_pos c3] at h; exact absurd rfl h
  obtain ⟨a, ha, rfl⟩ := nI_of c1
  obtain ⟨b, hb, rfl⟩ := nI_of c2
  refine ⟨a, b, ?_, rfl, rfl⟩
  have h4 := Int32.le_iff_toInt_le.mp (Int32.not_lt.mp c3)
  rw [nI_toInt ha] at h4
  have h5 : (nI n - nI b).toInt = (n : Int) - b := by
    rw [Int32.toInt_sub, nI_toInt (by omega), nI_toInt hb]
    exact Int.bmod_eq_of_le (by omega) (by omega)
  rw [h5] at h4
  omega
set_option maxRecDepth 100000 in
theorem c_J7_rangeCheck (l : Launch) {D : DD} {B z : Nat} {h : HF} {n i j : Int32} (h1 : ¬ j < i) (h2 : ¬ i < 0) (h3 : ¬ n < j) : CT l yJ7_rangeCheck_23922 cJ7_rangeCheck_23922 3 none 0 0 [.int n, .int i, .int j] D B z h none 0 0 h := by
  refine CT.of (L := [(0, .int n), (1, .int i), (2, .int j)]) (by decide +kernel) (Nat.le_of_ble_eq_true rfl) rfl ?_
  intro P E S0 M0 AR BL ME CO X hr hnm
  refine j_iload_n X 1 dJ7_rangeCheck_23922_0 rfl rfl ?_
  refine j_iload_n X 2 dJ7_rangeCheck_23922_1 rfl rfl ?_
  refine j_icmp_le X (tgt := 46) dJ7_rangeCheck_23922_2 (by decide) (fun c => ?_) (fun c => absurd c h1)
  refine j_iload_n X 1 dJ7_rangeCheck_23922_46 rfl rfl ?_
  refine j_if_ge X (tgt := 59) dJ7_rangeCheck_23922_47 (by decide) (fun c => ?_) (fun c => absurd c h2)
  refine j_iload_n X 2 dJ7_rangeCheck_23922_59 rfl rfl ?_
  refine j_iload_n X 0 dJ7_rangeCheck_23922_60 rfl rfl ?_
  refine j_icmp_le X (tgt := 73) dJ7_rangeCheck_23922_61 (by decide) (fun c => ?_) (fun c => absurd c h3)
  exact j_vret X hr rfl rfl dJ7_rangeCheck_23922_73
set_option maxRecDepth 100000 in
set_option maxHeartbeats 1000000 in
theorem c_J7_fill (l : Launch) {D : DD} {B z : Nat} {h : HF} {a n i j : Nat} {f : Nat → Int32} {v : Int32} (hn : n < 1000000000) (hij : i ≤ j) (hj : j ≤ n) (ha : h a = some (arrE D n f)) : CT l yJ7_fill_fda19 cJ7_fill_fda19 5 none 1 22 [.ref a, .int (nI i), .int (nI j), .int v] D B z h none 0 0 (hupd h a (arrE D n (fillF f i j v))) := by
  refine CT.of (L := [(0, .ref a), (1, .int (nI i)), (2, .int (nI j)), (3, .int v)]) (by decide +kernel) (Nat.le_of_ble_eq_true rfl) rfl ?_
  intro P E S0 M0 AR BL ME CO X hr hnm
  refine j_aload_n X 0 dJ7_fill_fda19_0 rfl rfl ?_
  refine j_alen X (k := 0) (v := nI n) rfl ha rfl rfl dJ7_fill_fda19_1 ?_
  refine j_iload_n X 1 dJ7_fill_fda19_2 rfl rfl ?_
  refine j_iload_n X 2 dJ7_fill_fda19_3 rfl rfl ?_
  refine j_callSv X (rest := []) (c_J7_rangeCheck l (nI_nlt hij (by omega)) (nI_pos (by omega)) (nI_nlt hj (by omega))) m_yJ7_rangeCheck_23922 kM_RJ7_13 rfl rfl (Nat.le_of_ble_eq_true rfl) ⟨Nat.le_of_ble_eq_true rfl, Nat.le_of_ble_eq_true rfl, Nat.le_of_ble_eq_true rfl, Nat.le_of_ble_eq_true rfl⟩ dJ7_fill_fda19_4 ?_
  refine j_iload_n X 1 dJ7_fill_fda19_7 rfl rfl ?_
  refine j_istore X (L' := [(4, .int (nI i)), (0, .ref a), (1, .int (nI i)), (2, .int (nI j)), (3, .int v)]) dJ7_fill_fda19_8 (by decide) rfl ?_
  have loop : ∀ (m k : Nat), k + m = j → i ≤ k → J P l E { frames := 1, cells := 0, slots := 0, locals := 22 } S0 M0 AR BL ME CO D B 5 (MQ BL (QC none D B (z + 0) (hupd h a (arrE D n (fillF f i j v)))) AR S0 0 0 (aB B)) 0 0 z (hupd h a (arrE D n (fillF f i k v))) [(4, .int (nI k)), (0, .ref a), (1, .int (nI i)), (2, .int (nI j)), (3, .int v)] [] 10 := by
    intro m
    induction m with
    | zero =>
      intro k hk hik
      obtain rfl : k = j := by omega
      refine j_iload X 0 dJ7_fill_fda19_10 rfl ?_
      refine j_iload_n X 3 dJ7_fill_fda19_12 rfl rfl ?_
      refine j_icmp_ge X (tgt := 27) dJ7_fill_fda19_13 (by decide) (fun c => ?_) (fun c => absurd c Int32.lt_irrefl)
      exact j_vret X hr rfl rfl dJ7_fill_fda19_27
    | succ m ih =>
      intro k hk hik
      have hlt : nI k < nI j := nI_lt (by omega) (by omega)
      refine j_iload X 0 dJ7_fill_fda19_10 rfl ?_
      refine j_iload_n X 3 dJ7_fill_fda19_12 rfl rfl ?_
      refine j_icmp_ge X (tgt := 27) dJ7_fill_fda19_13 (by decide) (fun c => absurd hlt c) (fun c => ?_)
      refine j_aload_n X 1 dJ7_fill_fda19_16 rfl rfl ?_
      refine j_iload X 0 dJ7_fill_fda19_17 rfl ?_
      refine j_iload_n X 4 dJ7_fill_fda19_19 rfl rfl ?_
      refine j_iast X hupd_same rfl (vp_in_nI (by omega) (by omega)) dJ7_fill_fda19_20 ?_
      refine j_heap (h' := hupd h a (arrE D n (fillF f i (k + 1) v))) ?_ ?_
      · rw [hupd_hupd, nI_clamp (by omega)]
        congr 5
        funext q
        unfold upd fillF
        by_cases e : q = k
        · subst e; rw [if_pos rfl, if_pos ⟨hik, by omega⟩]
        · rw [if_neg e]
          by_cases e2 : i ≤ q ∧ q < k
          · rw [if_pos e2, if_pos ⟨e2.1, by omega⟩]
          · rw [if_neg e2, if_neg (by omega)]
      refine j_iinc X 0 (k := 1) (v := nI (k + 1)) (L' := [(4, .int (nI (k + 1))), (0, .ref a), (1, .int (nI i)), (2, .int (nI j)), (3, .int v)]) dJ7_fill_fda19_21 rfl (by decide) (by decide) (nI_succ k).symm rfl ?_
      refine j_goto X (tgt := 10) dJ7_fill_fda19_24 (by decide) ?_
      exact ih (k + 1) (by omega) (by omega)
  refine j_heap (h' := hupd h a (arrE D n (fillF f i i v))) ?_ ?_
  · refine (hupd_self ?_).symm
    rw [ha]
    congr 5
    funext q
    unfold fillF
    rw [if_neg (by omega)]
  exact loop (j - i) i (by omega) (Nat.le_refl i)
set_option maxRecDepth 100000 in
theorem c_X5_fill (l : Launch) {D : DD} {B z : Nat} {h : HF} {r c n : Nat} {f : Nat → Int32} {i k v : Int32} (hn : n < 1000000000) (hr_ : h r = some (rowE c)) (hc_ : h c = some (arrE D n f)) : CT l yX5_fill cX5_fill 4 none 2 46 [.ref r, .int i, .int k, .int v] D B z h none 0 0 (hupd h c (arrE D n (rFill n f i k v))) := by
  refine CT.of (L := [(0, .ref r), (1, .int i), (2, .int k), (3, .int v)]) (by decide +kernel) (Nat.le_of_ble_eq_true rfl) rfl ?_
  intro P E S0 M0 AR BL ME CO X hr hnm
  refine j_aload_n X 0 dX5_fill_0 rfl rfl ?_
  refine j_iload_n X 1 dX5_fill_1 rfl rfl ?_
  refine j_iload_n X 2 dX5_fill_2 rfl rfl ?_
  refine j_callVi X (rest := []) (c_X5_fits l hn hr_ hc_) m_yX5_fits kM_RX5_19 hr_ rfl rfl rfl rfl rfl (Nat.le_of_ble_eq_true rfl) ⟨Nat.le_of_ble_eq_true rfl, Nat.le_of_ble_eq_true rfl, Nat.le_of_ble_eq_true rfl, Nat.le_of_ble_eq_true rfl⟩ dX5_fill_3 ?_
  refine j_if_eq X (tgt := 21) dX5_fill_6 (by decide) (fun c_ => ?_) (fun c_ => ?_)
  · exact j_vret X hr rfl (by rw [rFill, if_pos c_]; exact (hupd_self hc_).symm) dX5_fill_21
  · obtain ⟨a, b, hab, rfl, rfl⟩ := rFits_ok hn c_
    refine j_aload_n X 0 dX5_fill_9 rfl rfl ?_
    refine j_get X fG_RX5_13 hr_ rfl rfl dX5_fill_10 ?_
    refine j_iload_n X 1 dX5_fill_13 rfl rfl ?_
    refine j_iload_n X 1 dX5_fill_14 rfl rfl ?_
    refine j_iload_n X 2 dX5_fill_15 rfl rfl ?_
    refine j_iadd X dX5_fill_16 ?_
    refine j_iload_n X 3 dX5_fill_17 rfl rfl ?_
    rw [nI_add]
    refine j_callSv X (rest := []) (c_J7_fill l (i := a) (j := a + b) hn (by omega) hab hc_) m_yJ7_fill_fda19 kM_RX5_23 rfl rfl (Nat.le_of_ble_eq_true rfl) ⟨Nat.le_of_ble_eq_true rfl, Nat.le_of_ble_eq_true rfl, Nat.le_of_ble_eq_true rfl, Nat.le_of_ble_eq_true rfl⟩ dX5_fill_18 ?_
    exact j_vret X hr rfl (by rw [rFill, if_neg c_, nI_add, nI_clamp (by omega), nI_clamp (by omega)]) dX5_fill_21
set_option maxRecDepth 100000 in
theorem c_X5_slide (l : Launch) {D : DD} {B z : Nat} {h : HF} {r c n : Nat} {f : Nat → Int32} {i j k : Int32} (hn : n < 1000000000) (hr_ : h r = some (rowE c)) (hc_ : h c = some (arrE D n f)) : CT l yX5_slide cX5_slide 4 none 1 22 [.ref r, .int i, .int j, .int k] D B z h none 0 0 (hupd h c (arrE D n (rSlide n f i j k))) := by
  refine CT.of (L := [(0, .ref r), (1, .int i), (2, .int j), (3, .int k)]) (by decide +kernel) (Nat.le_of_ble_eq_true rfl) rfl ?_
  intro P E S0 M0 AR BL ME CO X hr hnm
  refine j_aload_n X 0 dX5_slide_0 rfl rfl ?_
  refine j_iload_n X 1 dX5_slide_1 rfl rfl ?_
  refine j_iload_n X 3 dX5_slide_2 rfl rfl ?_
  refine j_callVi X (rest := []) (c_X5_fits l hn hr_ hc_) m_yX5_fits kM_RX5_19 hr_ rfl rfl rfl rfl rfl (Nat.le_of_ble_eq_true rfl) ⟨Nat.le_of_ble_eq_true rfl, Nat.le_of_ble_eq_true rfl, Nat.le_of_ble_eq_true rfl, Nat.le_of_ble_eq_true rfl⟩ dX5_slide_3 ?_
  refine j_if_eq X (tgt := 32) dX5_slide_6 (by decide) (fun c_ => ?_) (fun c_ => ?_)
  · exact j_vret X hr rfl (by rw [rSlide, if_pos c_]; exact (hupd_self hc_).symm) dX5_slide_32
  refine j_aload_n X 0 dX5_slide_9 rfl rfl ?_
  refine j_iload_n X 2 dX5_slide_10 rfl rfl ?_
  refine j_iload_n X 3 dX5_slide_11 rfl rfl ?_
  refine j_callVi X (rest := []) (c_X5_fits l hn hr_ hc_) m_yX5_fits kM_RX5_19 hr_ rfl rfl rfl rfl rfl (Nat.le_of_ble_eq_true rfl) ⟨Nat.le_of_ble_eq_true rfl, Nat.le_of_ble_eq_true rfl, Nat.le_of_ble_eq_true rfl, Nat.le_of_ble_eq_true rfl⟩ dX5_slide_12 ?_
  refine j_if_eq X (tgt := 32) dX5_slide_15 (by decide) (fun c2_ => ?_) (fun c2_ => ?_)
  · exact j_vret X hr rfl (by rw [rSlide, if_neg c_, if_pos c2_]; exact (hupd_self hc_).symm) dX5_slide_32
  refine j_aload_n X 0 dX5_slide_18 rfl rfl ?_
  refine j_get X fG_RX5_13 hr_ rfl rfl dX5_slide_19 ?_
  refine j_iload_n X 1 dX5_slide_22 rfl rfl ?_
  refine j_aload_n X 0 dX5_slide_23 rfl rfl ?_
  refine j_get X fG_RX5_13 hr_ rfl rfl dX5_slide_24 ?_
  refine j_iload_n X 2 dX5_slide_27 rfl rfl ?_
  refine j_iload_n X 3 dX5_slide_28 rfl rfl ?_
  obtain ⟨a, b, hab, ea, eb⟩ := rFits_ok hn c_
  obtain ⟨a2, b2, hab2, ea2, eb2⟩ := rFits_ok hn c2_
  have k1 : i.toNatClampNeg = a := by rw [ea]; exact nI_clamp (by omega)
  have k2 : k.toNatClampNeg = b := by rw [eb]; exact nI_clamp (by omega)
  have k3 : j.toNatClampNeg = a2 := by rw [ea2]; exact nI_clamp (by omega)
  have k4 : k.toNatClampNeg = b2 := by rw [eb2]; exact nI_clamp (by omega)
  refine j_copyi X kM_RX5_29 hc_ rfl hc_ rfl (by rw [ea]; exact nI_pos (by omega)) (by rw [ea2]; exact nI_pos (by omega)) (by rw [eb]; exact nI_pos (by omega)) (by rw [k1, k2]; exact hab) (by rw [k3, k4]; exact hab2) ⟨Nat.le_of_ble_eq_true rfl, Nat.le_of_ble_eq_true rfl⟩ dX5_slide_29 ?_
  exact j_vret X hr rfl (by rw [rSlide, if_neg c_, if_neg c2_]) dX5_slide_32
set_option maxRecDepth 100000 in
theorem c_X5_copyFrom (l : Launch) {D : DD} {B z : Nat} {h : HF} {r c r2 c2 n : Nat} {f g : Nat → Int32} (hn : n < 1000000000) (hr_ : h r = some (rowE c)) (hc_ : h c = some (arrE D n f)) (hr2 : h r2 = some (rowE c2)) (hc2 : h c2 = some (arrE D n g)) : CT l yX5_copyFrom cX5_copyFrom 2 none 1 22 [.ref r, .ref r2] D B z h none 0 0 (hupd h c (arrE D n g)) := by
  refine CT.of (L := [(0, .ref r), (1, .ref r2)]) (by decide +kernel) (Nat.le_of_ble_eq_true rfl) rfl ?_
  intro P E S0 M0 AR BL ME CO X hr hnm
  refine j_aload_n X 1 dX5_copyFrom_0 rfl rfl ?_
  refine j_get X fG_RX5_13 hr2 rfl rfl dX5_copyFrom_1 ?_
  refine j_iconst X (v := 0) dX5_copyFrom_4 (by decide) ?_
  refine j_aload_n X 0 dX5_copyFrom_5 rfl rfl ?_
  refine j_get X fG_RX5_13 hr_ rfl rfl dX5_copyFrom_6 ?_
  refine j_iconst X (v := 0) dX5_copyFrom_9 (by decide) ?_
  refine j_aload_n X 0 dX5_copyFrom_10 rfl rfl ?_
  refine j_get X fG_RX5_13 hr_ rfl rfl dX5_copyFrom_11 ?_
  refine j_alen X (k := 0) (v := nI n) rfl hc_ rfl rfl dX5_copyFrom_14 ?_
  refine j_aload_n X 1 dX5_copyFrom_15 rfl rfl ?_
  refine j_get X fG_RX5_13 hr2 rfl rfl dX5_copyFrom_16 ?_
  refine j_alen X (k := 0) (v := nI n) rfl hc2 rfl rfl dX5_copyFrom_19 ?_
  refine j_mmin X kM_RX5_35 ⟨Nat.le_of_ble_eq_true rfl, Nat.le_of_ble_eq_true rfl, Nat.le_of_ble_eq_true rfl, Nat.le_of_ble_eq_true rfl⟩ dX5_copyFrom_20 ?_
  rw [if_neg Int32.lt_irrefl]
  have k1 : (nI n).toNatClampNeg = n := nI_clamp (by omega)
  have k0 : (0 : Int32).toNatClampNeg = 0 := rfl
  refine j_copyi X kM_RX5_29 hc2 rfl hc_ rfl (by decide) (by decide) (nI_pos (by omega)) (by rw [k1, k0]; omega) (by rw [k1, k0]; omega) ⟨Nat.le_of_ble_eq_true rfl, Nat.le_of_ble_eq_true rfl⟩ dX5_copyFrom_23 ?_
  refine j_recell (g := g) hupd_same (fun j hj => ?_) ?_
  · rw [k1, k0]
    unfold va_cpy
    rw [if_pos ⟨by omega, by omega⟩]
    congr 1
    omega
  exact j_vret X hr rfl hupd_hupd dX5_copyFrom_26
end
section
theorem s_at0 (l : Launch) {D : DD} {B z : Nat} {h : HF} {a : Nat} {σ : St} {i : Int32} : CT l yX5_at cX5_at 2 (some .int) 0 0 [.ref (a + 1), .int i] D B z (hput D h a σ) (some (.int (oAt 0 4 σ i))) 0 0 (hput D h a σ) := c_X5_at l (by decide) (hput_k 1 (by decide)) (hput_k 2 (by decide))
theorem s_put0 (l : Launch) {D : DD} {B z : Nat} {h : HF} {a : Nat} {σ : St} {i v : Int32} : CT l yX5_put cX5_put 3 none 0 0 [.ref (a + 1), .int i, .int v] D B z (hput D h a σ) none 0 0 (hput D h a (oPut 0 4 σ i v)) := by
  have w := c_X5_put l (D := D) (B := B) (z := z) (h := hput D h a σ) (r := a + 1) (c := a + 2) (n := 4) (f := σ.1 0) (i := i) (v := v) (by decide) (hput_k 1 (by decide)) (hput_k 2 (by decide))
  rw [hput_r0] at w
  exact w
theorem s_add0 (l : Launch) {D : DD} {B z : Nat} {h : HF} {a : Nat} {σ : St} {i v : Int32} : CT l yX5_add cX5_add 3 none 0 0 [.ref (a + 1), .int i, .int v] D B z (hput D h a σ) none 0 0 (hput D h a (oAdd 0 4 σ i v)) := by
  have w := c_X5_add l (D := D) (B := B) (z := z) (h := hput D h a σ) (r := a + 1) (c := a + 2) (n := 4) (f := σ.1 0) (i := i) (v := v) (by decide) (hput_k 1 (by decide)) (hput_k 2 (by decide))
  rw [hput_r0] at w
  exact w
theorem s_fill0 (l : Launch) {D : DD} {B z : Nat} {h : HF} {a : Nat} {σ : St} {i k v : Int32} : CT l yX5_fill cX5_fill 4 none 2 46 [.ref (a + 1), .int i, .int k, .int v] D B z (hput D h a σ) none 0 0 (hput D h a (oFill 0 4 σ i k v)) := by
  have w := c_X5_fill l (D := D) (B := B) (z := z) (h := hput D h a σ) (r := a + 1) (c := a + 2) (n := 4) (f := σ.1 0) (i := i) (k := k) (v := v) (by decide) (hput_k 1 (by decide)) (hput_k 2 (by decide))
  rw [hput_r0] at w
  exact w
theorem s_slide0 (l : Launch) {D : DD} {B z : Nat} {h : HF} {a : Nat} {σ : St} {i j k : Int32} : CT l yX5_slide cX5_slide 4 none 1 22 [.ref (a + 1), .int i, .int j, .int k] D B z (hput D h a σ) none 0 0 (hput D h a (oSlide 0 4 σ i j k)) := by
  have w := c_X5_slide l (D := D) (B := B) (z := z) (h := hput D h a σ) (r := a + 1) (c := a + 2) (n := 4) (f := σ.1 0) (i := i) (j := j) (k := k) (by decide) (hput_k 1 (by decide)) (hput_k 2 (by decide))
  rw [hput_r0] at w
  exact w
theorem s_at1 (l : Launch) {D : DD} {B z : Nat} {h : HF} {a : Nat} {σ : St} {i : Int32} : CT l yX5_at cX5_at 2 (some .int) 0 0 [.ref (a + 4), .int i] D B z (hput D h a σ) (some (.int (oAt 1 8 σ i))) 0 0 (hput D h a σ) := c_X5_at l (by decide) (hput_k 4 (by decide)) (hput_k 5 (by decide))
theorem s_put1 (l : Launch) {D : DD} {B z : Nat} {h : HF} {a : Nat} {σ : St} {i v : Int32} : CT l yX5_put cX5_put 3 none 0 0 [.ref (a + 4), .int i, .int v] D B z (hput D h a σ) none 0 0 (hput D h a (oPut 1 8 σ i v)) := by
  have w := c_X5_put l (D := D) (B := B) (z := z) (h := hput D h a σ) (r := a + 4) (c := a + 5) (n := 8) (f := σ.1 1) (i := i) (v := v) (by decide) (hput_k 4 (by decide)) (hput_k 5 (by decide))
  rw [hput_r1] at w
  exact w
theorem s_add1 (l : Launch) {D : DD} {B z : Nat} {h : HF} {a : Nat} {σ : St} {i v : Int32} : CT l yX5_add cX5_add 3 none 0 0 [.ref (a + 4), .int i, .int v] D B z (hput D h a σ) none 0 0 (hput D h a (oAdd 1 8 σ i v)) := by
  have w := c_X5_add l (D := D) (B := B) (z := z) (h := hput D h a σ) (r := a + 4) (c := a + 5) (n := 8) (f := σ.1 1) (i := i) (v := v) (by decide) (hput_k 4 (by decide)) (hput_k 5 (by decide))
  rw [hput_r1] at w
  exact w
theorem s_fill1 (l : Launch) {D : DD} {B z : Nat} {h : HF} {a : Nat} {σ : St} {i k v : Int32} : CT l yX5_fill cX5_fill 4 none 2 46 [.ref (a + 4), .int i, .int k, .int v] D B z (hput D h a σ) none 0 0 (hput D h a (oFill 1 8 σ i k v)) := by
  have w := c_X5_fill l (D := D) (B := B) (z := z) (h := hput D h a σ) (r := a + 4) (c := a + 5) (n := 8) (f := σ.1 1) (i := i) (k := k) (v := v) (by decide) (hput_k 4 (by decide)) (hput_k 5 (by decide))
  rw [hput_r1] at w
  exact w
theorem s_slide1 (l : Launch) {D : DD} {B z : Nat} {h : HF} {a : Nat} {σ : St} {i j k : Int32} : CT l yX5_slide cX5_slide 4 none 1 22 [.ref (a + 4), .int i, .int j, .int k] D B z (hput D h a σ) none 0 0 (hput D h a (oSlide 1 8 σ i j k)) := by
  have w := c_X5_slide l (D := D) (B := B) (z := z) (h := hput D h a σ) (r := a + 4) (c := a + 5) (n := 8) (f := σ.1 1) (i := i) (j := j) (k := k) (by decide) (hput_k 4 (by decide)) (hput_k 5 (by decide))
  rw [hput_r1] at w
  exact w
theorem s_at2 (l : Launch) {D : DD} {B z : Nat} {h : HF} {a : Nat} {σ : St} {i : Int32} : CT l yX5_at cX5_at 2 (some .int) 0 0 [.ref (a + 6), .int i] D B z (hput D h a σ) (some (.int (oAt 2 8 σ i))) 0 0 (hput D h a σ) := c_X5_at l (by decide) (hput_k 6 (by decide)) (hput_k 7 (by decide))
theorem s_put2 (l : Launch) {D : DD} {B z : Nat} {h : HF} {a : Nat} {σ : St} {i v : Int32} : CT l yX5_put cX5_put 3 none 0 0 [.ref (a + 6), .int i, .int v] D B z (hput D h a σ) none 0 0 (hput D h a (oPut 2 8 σ i v)) := by
  have w := c_X5_put l (D := D) (B := B) (z := z) (h := hput D h a σ) (r := a + 6) (c := a + 7) (n := 8) (f := σ.1 2) (i := i) (v := v) (by decide) (hput_k 6 (by decide)) (hput_k 7 (by decide))
  rw [hput_r2] at w
  exact w
theorem s_add2 (l : Launch) {D : DD} {B z : Nat} {h : HF} {a : Nat} {σ : St} {i v : Int32} : CT l yX5_add cX5_add 3 none 0 0 [.ref (a + 6), .int i, .int v] D B z (hput D h a σ) none 0 0 (hput D h a (oAdd 2 8 σ i v)) := by
  have w := c_X5_add l (D := D) (B := B) (z := z) (h := hput D h a σ) (r := a + 6) (c := a + 7) (n := 8) (f := σ.1 2) (i := i) (v := v) (by decide) (hput_k 6 (by decide)) (hput_k 7 (by decide))
  rw [hput_r2] at w
  exact w
theorem s_fill2 (l : Launch) {D : DD} {B z : Nat} {h : HF} {a : Nat} {σ : St} {i k v : Int32} : CT l yX5_fill cX5_fill 4 none 2 46 [.ref (a + 6), .int i, .int k, .int v] D B z (hput D h a σ) none 0 0 (hput D h a (oFill 2 8 σ i k v)) := by
  have w := c_X5_fill l (D := D) (B := B) (z := z) (h := hput D h a σ) (r := a + 6) (c := a + 7) (n := 8) (f := σ.1 2) (i := i) (k := k) (v := v) (by decide) (hput_k 6 (by decide)) (hput_k 7 (by decide))
  rw [hput_r2] at w
  exact w
theorem s_slide2 (l : Launch) {D : DD} {B z : Nat} {h : HF} {a : Nat} {σ : St} {i j k : Int32} : CT l yX5_slide cX5_slide 4 none 1 22 [.ref (a + 6), .int i, .int j, .int k] D B z (hput D h a σ) none 0 0 (hput D h a (oSlide 2 8 σ i j k)) := by
  have w := c_X5_slide l (D := D) (B := B) (z := z) (h := hput D h a σ) (r := a + 6) (c := a + 7) (n := 8) (f := σ.1 2) (i := i) (j := j) (k := k) (by decide) (hput_k 6 (by decide)) (hput_k 7 (by decide))
  rw [hput_r2] at w
  exact w
theorem s_at3 (l : Launch) {D : DD} {B z : Nat} {h : HF} {a : Nat} {σ : St} {i : Int32} : CT l yX5_at cX5_at 2 (some .int) 0 0 [.ref (a + 8), .int i] D B z (hput D h a σ) (some (.int (oAt 3 8 σ i))) 0 0 (hput D h a σ) := c_X5_at l (by decide) (hput_k 8 (by decide)) (hput_k 9 (by decide))
theorem s_put3 (l : Launch) {D : DD} {B z : Nat} {h : HF} {a : Nat} {σ : St} {i v : Int32} : CT l yX5_put cX5_put 3 none 0 0 [.ref (a + 8), .int i, .int v] D B z (hput D h a σ) none 0 0 (hput D h a (oPut 3 8 σ i v)) := by
  have w := c_X5_put l (D := D) (B := B) (z := z) (h := hput D h a σ) (r := a + 8) (c := a + 9) (n := 8) (f := σ.1 3) (i := i) (v := v) (by decide) (hput_k 8 (by decide)) (hput_k 9 (by decide))
  rw [hput_r3] at w
  exact w
theorem s_add3 (l : Launch) {D : DD} {B z : Nat} {h : HF} {a : Nat} {σ : St} {i v : Int32} : CT l yX5_add cX5_add 3 none 0 0 [.ref (a + 8), .int i, .int v] D B z (hput D h a σ) none 0 0 (hput D h a (oAdd 3 8 σ i v)) := by
  have w := c_X5_add l (D := D) (B := B) (z := z) (h := hput D h a σ) (r := a + 8) (c := a + 9) (n := 8) (f := σ.1 3) (i := i) (v := v) (by decide) (hput_k 8 (by decide)) (hput_k 9 (by decide))
  rw [hput_r3] at w
  exact w
theorem s_fill3 (l : Launch) {D : DD} {B z : Nat} {h : HF} {a : Nat} {σ : St} {i k v : Int32} : CT l yX5_fill cX5_fill 4 none 2 46 [.ref (a + 8), .int i, .int k, .int v] D B z (hput D h a σ) none 0 0 (hput D h a (oFill 3 8 σ i k v)) := by
  have w := c_X5_fill l (D := D) (B := B) (z := z) (h := hput D h a σ) (r := a + 8) (c := a + 9) (n := 8) (f := σ.1 3) (i := i) (k := k) (v := v) (by decide) (hput_k 8 (by decide)) (hput_k 9 (by decide))
  rw [hput_r3] at w
  exact w
theorem s_slide3 (l : Launch) {D : DD} {B z : Nat} {h : HF} {a : Nat} {σ : St} {i j k : Int32} : CT l yX5_slide cX5_slide 4 none 1 22 [.ref (a + 8), .int i, .int j, .int k] D B z (hput D h a σ) none 0 0 (hput D h a (oSlide 3 8 σ i j k)) := by
  have w := c_X5_slide l (D := D) (B := B) (z := z) (h := hput D h a σ) (r := a + 8) (c := a + 9) (n := 8) (f := σ.1 3) (i := i) (j := j) (k := k) (by decide) (hput_k 8 (by decide)) (hput_k 9 (by decide))
  rw [hput_r3] at w
  exact w
theorem s_at4 (l : Launch) {D : DD} {B z : Nat} {h : HF} {a : Nat} {σ : St} {i : Int32} : CT l yX5_at cX5_at 2 (some .int) 0 0 [.ref (a + 10), .int i] D B z (hput D h a σ) (some (.int (oAt 4 8 σ i))) 0 0 (hput D h a σ) := c_X5_at l (by decide) (hput_k 10 (by decide)) (hput_k 11 (by decide))
theorem s_put4 (l : Launch) {D : DD} {B z : Nat} {h : HF} {a : Nat} {σ : St} {i v : Int32} : CT l yX5_put cX5_put 3 none 0 0 [.ref (a + 10), .int i, .int v] D B z (hput D h a σ) none 0 0 (hput D h a (oPut 4 8 σ i v)) := by
  have w := c_X5_put l (D := D) (B := B) (z := z) (h := hput D h a σ) (r := a + 10) (c := a + 11) (n := 8) (f := σ.1 4) (i := i) (v := v) (by decide) (hput_k 10 (by decide)) (hput_k 11 (by decide))
  rw [hput_r4] at w
  exact w
theorem s_add4 (l : Launch) {D : DD} {B z : Nat} {h : HF} {a : Nat} {σ : St} {i v : Int32} : CT l yX5_add cX5_add 3 none 0 0 [.ref (a + 10), .int i, .int v] D B z (hput D h a σ) none 0 0 (hput D h a (oAdd 4 8 σ i v)) := by
  have w := c_X5_add l (D := D) (B := B) (z := z) (h := hput D h a σ) (r := a + 10) (c := a + 11) (n := 8) (f := σ.1 4) (i := i) (v := v) (by decide) (hput_k 10 (by decide)) (hput_k 11 (by decide))
  rw [hput_r4] at w
  exact w
theorem s_fill4 (l : Launch) {D : DD} {B z : Nat} {h : HF} {a : Nat} {σ : St} {i k v : Int32} : CT l yX5_fill cX5_fill 4 none 2 46 [.ref (a + 10), .int i, .int k, .int v] D B z (hput D h a σ) none 0 0 (hput D h a (oFill 4 8 σ i k v)) := by
  have w := c_X5_fill l (D := D) (B := B) (z := z) (h := hput D h a σ) (r := a + 10) (c := a + 11) (n := 8) (f := σ.1 4) (i := i) (k := k) (v := v) (by decide) (hput_k 10 (by decide)) (hput_k 11 (by decide))
  rw [hput_r4] at w
  exact w
theorem s_slide4 (l : Launch) {D : DD} {B z : Nat} {h : HF} {a : Nat} {σ : St} {i j k : Int32} : CT l yX5_slide cX5_slide 4 none 1 22 [.ref (a + 10), .int i, .int j, .int k] D B z (hput D h a σ) none 0 0 (hput D h a (oSlide 4 8 σ i j k)) := by
  have w := c_X5_slide l (D := D) (B := B) (z := z) (h := hput D h a σ) (r := a + 10) (c := a + 11) (n := 8) (f := σ.1 4) (i := i) (j := j) (k := k) (by decide) (hput_k 10 (by decide)) (hput_k 11 (by decide))
  rw [hput_r4] at w
  exact w
theorem s_at5 (l : Launch) {D : DD} {B z : Nat} {h : HF} {a : Nat} {σ : St} {i : Int32} : CT l yX5_at cX5_at 2 (some .int) 0 0 [.ref (a + 12), .int i] D B z (hput D h a σ) (some (.int (oAt 5 8 σ i))) 0 0 (hput D h a σ) := c_X5_at l (by decide) (hput_k 12 (by decide)) (hput_k 13 (by decide))
theorem s_put5 (l : Launch) {D : DD} {B z : Nat} {h : HF} {a : Nat} {σ : St} {i v : Int32} : CT l yX5_put cX5_put 3 none 0 0 [.ref (a + 12), .int i, .int v] D B z (hput D h a σ) none 0 0 (hput D h a (oPut 5 8 σ i v)) := by
  have w := c_X5_put l (D := D) (B := B) (z := z) (h := hput D h a σ) (r := a + 12) (c := a + 13) (n := 8) (f := σ.1 5) (i := i) (v := v) (by decide) (hput_k 12 (by decide)) (hput_k 13 (by decide))
  rw [hput_r5] at w
  exact w
theorem s_add5 (l : Launch) {D : DD} {B z : Nat} {h : HF} {a : Nat} {σ : St} {i v : Int32} : CT l yX5_add cX5_add 3 none 0 0 [.ref (a + 12), .int i, .int v] D B z (hput D h a σ) none 0 0 (hput D h a (oAdd 5 8 σ i v)) := by
  have w := c_X5_add l (D := D) (B := B) (z := z) (h := hput D h a σ) (r := a + 12) (c := a + 13) (n := 8) (f := σ.1 5) (i := i) (v := v) (by decide) (hput_k 12 (by decide)) (hput_k 13 (by decide))
  rw [hput_r5] at w
  exact w
theorem s_fill5 (l : Launch) {D : DD} {B z : Nat} {h : HF} {a : Nat} {σ : St} {i k v : Int32} : CT l yX5_fill cX5_fill 4 none 2 46 [.ref (a + 12), .int i, .int k, .int v] D B z (hput D h a σ) none 0 0 (hput D h a (oFill 5 8 σ i k v)) := by
  have w := c_X5_fill l (D := D) (B := B) (z := z) (h := hput D h a σ) (r := a + 12) (c := a + 13) (n := 8) (f := σ.1 5) (i := i) (k := k) (v := v) (by decide) (hput_k 12 (by decide)) (hput_k 13 (by decide))
  rw [hput_r5] at w
  exact w
theorem s_slide5 (l : Launch) {D : DD} {B z : Nat} {h : HF} {a : Nat} {σ : St} {i j k : Int32} : CT l yX5_slide cX5_slide 4 none 1 22 [.ref (a + 12), .int i, .int j, .int k] D B z (hput D h a σ) none 0 0 (hput D h a (oSlide 5 8 σ i j k)) := by
  have w := c_X5_slide l (D := D) (B := B) (z := z) (h := hput D h a σ) (r := a + 12) (c := a + 13) (n := 8) (f := σ.1 5) (i := i) (j := j) (k := k) (by decide) (hput_k 12 (by decide)) (hput_k 13 (by decide))
  rw [hput_r5] at w
  exact w
theorem s_at6 (l : Launch) {D : DD} {B z : Nat} {h : HF} {a : Nat} {σ : St} {i : Int32} : CT l yX5_at cX5_at 2 (some .int) 0 0 [.ref (a + 14), .int i] D B z (hput D h a σ) (some (.int (oAt 6 88 σ i))) 0 0 (hput D h a σ) := c_X5_at l (by decide) (hput_k 14 (by decide)) (hput_k 15 (by decide))
theorem s_put6 (l : Launch) {D : DD} {B z : Nat} {h : HF} {a : Nat} {σ : St} {i v : Int32} : CT l yX5_put cX5_put 3 none 0 0 [.ref (a + 14), .int i, .int v] D B z (hput D h a σ) none 0 0 (hput D h a (oPut 6 88 σ i v)) := by
  have w := c_X5_put l (D := D) (B := B) (z := z) (h := hput D h a σ) (r := a + 14) (c := a + 15) (n := 88) (f := σ.1 6) (i := i) (v := v) (by decide) (hput_k 14 (by decide)) (hput_k 15 (by decide))
  rw [hput_r6] at w
  exact w
theorem s_add6 (l : Launch) {D : DD} {B z : Nat} {h : HF} {a : Nat} {σ : St} {i v : Int32} : CT l yX5_add cX5_add 3 none 0 0 [.ref (a + 14), .int i, .int v] D B z (hput D h a σ) none 0 0 (hput D h a (oAdd 6 88 σ i v)) := by
  have w := c_X5_add l (D := D) (B := B) (z := z) (h := hput D h a σ) (r := a + 14) (c := a + 15) (n := 88) (f := σ.1 6) (i := i) (v := v) (by decide) (hput_k 14 (by decide)) (hput_k 15 (by decide))
  rw [hput_r6] at w
  exact w
theorem s_fill6 (l : Launch) {D : DD} {B z : Nat} {h : HF} {a : Nat} {σ : St} {i k v : Int32} : CT l yX5_fill cX5_fill 4 none 2 46 [.ref (a + 14), .int i, .int k, .int v] D B z (hput D h a σ) none 0 0 (hput D h a (oFill 6 88 σ i k v)) := by
  have w := c_X5_fill l (D := D) (B := B) (z := z) (h := hput D h a σ) (r := a + 14) (c := a + 15) (n := 88) (f := σ.1 6) (i := i) (k := k) (v := v) (by decide) (hput_k 14 (by decide)) (hput_k 15 (by decide))
  rw [hput_r6] at w
  exact w
theorem s_slide6 (l : Launch) {D : DD} {B z : Nat} {h : HF} {a : Nat} {σ : St} {i j k : Int32} : CT l yX5_slide cX5_slide 4 none 1 22 [.ref (a + 14), .int i, .int j, .int k] D B z (hput D h a σ) none 0 0 (hput D h a (oSlide 6 88 σ i j k)) := by
  have w := c_X5_slide l (D := D) (B := B) (z := z) (h := hput D h a σ) (r := a + 14) (c := a + 15) (n := 88) (f := σ.1 6) (i := i) (j := j) (k := k) (by decide) (hput_k 14 (by decide)) (hput_k 15 (by decide))
  rw [hput_r6] at w
  exact w
theorem s_at7 (l : Launch) {D : DD} {B z : Nat} {h : HF} {a : Nat} {σ : St} {i : Int32} : CT l yX5_at cX5_at 2 (some .int) 0 0 [.ref (a + 17), .int i] D B z (hput D h a σ) (some (.int (oAt 7 8 σ i))) 0 0 (hput D h a σ) := c_X5_at l (by decide) (hput_k 17 (by decide)) (hput_k 18 (by decide))
theorem s_sum7 (l : Launch) {D : DD} {B z : Nat} {h : HF} {a : Nat} {σ : St} : CT l yX5_sum cX5_sum 6 (some .int) 0 0 [.ref (a + 17)] D B z (hput D h a σ) (some (.int (rSum (σ.1 7) 8))) 0 0 (hput D h a σ) := c_X5_sum l (hput_k 17 (by decide)) (hput_k 18 (by decide))
theorem s_put7 (l : Launch) {D : DD} {B z : Nat} {h : HF} {a : Nat} {σ : St} {i v : Int32} : CT l yX5_put cX5_put 3 none 0 0 [.ref (a + 17), .int i, .int v] D B z (hput D h a σ) none 0 0 (hput D h a (oPut 7 8 σ i v)) := by
  have w := c_X5_put l (D := D) (B := B) (z := z) (h := hput D h a σ) (r := a + 17) (c := a + 18) (n := 8) (f := σ.1 7) (i := i) (v := v) (by decide) (hput_k 17 (by decide)) (hput_k 18 (by decide))
  rw [hput_r7] at w
  exact w
theorem s_add7 (l : Launch) {D : DD} {B z : Nat} {h : HF} {a : Nat} {σ : St} {i v : Int32} : CT l yX5_add cX5_add 3 none 0 0 [.ref (a + 17), .int i, .int v] D B z (hput D h a σ) none 0 0 (hput D h a (oAdd 7 8 σ i v)) := by
  have w := c_X5_add l (D := D) (B := B) (z := z) (h := hput D h a σ) (r := a + 17) (c := a + 18) (n := 8) (f := σ.1 7) (i := i) (v := v) (by decide) (hput_k 17 (by decide)) (hput_k 18 (by decide))
  rw [hput_r7] at w
  exact w
theorem s_fill7 (l : Launch) {D : DD} {B z : Nat} {h : HF} {a : Nat} {σ : St} {i k v : Int32} : CT l yX5_fill cX5_fill 4 none 2 46 [.ref (a + 17), .int i, .int k, .int v] D B z (hput D h a σ) none 0 0 (hput D h a (oFill 7 8 σ i k v)) := by
  have w := c_X5_fill l (D := D) (B := B) (z := z) (h := hput D h a σ) (r := a + 17) (c := a + 18) (n := 8) (f := σ.1 7) (i := i) (k := k) (v := v) (by decide) (hput_k 17 (by decide)) (hput_k 18 (by decide))
  rw [hput_r7] at w
  exact w
theorem s_slide7 (l : Launch) {D : DD} {B z : Nat} {h : HF} {a : Nat} {σ : St} {i j k : Int32} : CT l yX5_slide cX5_slide 4 none 1 22 [.ref (a + 17), .int i, .int j, .int k] D B z (hput D h a σ) none 0 0 (hput D h a (oSlide 7 8 σ i j k)) := by
  have w := c_X5_slide l (D := D) (B := B) (z := z) (h := hput D h a σ) (r := a + 17) (c := a + 18) (n := 8) (f := σ.1 7) (i := i) (j := j) (k := k) (by decide) (hput_k 17 (by decide)) (hput_k 18 (by decide))
  rw [hput_r7] at w
  exact w
theorem s_at8 (l : Launch) {D : DD} {B z : Nat} {h : HF} {a : Nat} {σ : St} {i : Int32} : CT l yX5_at cX5_at 2 (some .int) 0 0 [.ref (a + 19), .int i] D B z (hput D h a σ) (some (.int (oAt 8 384 σ i))) 0 0 (hput D h a σ) := c_X5_at l (by decide) (hput_k 19 (by decide)) (hput_k 20 (by decide))
theorem s_put8 (l : Launch) {D : DD} {B z : Nat} {h : HF} {a : Nat} {σ : St} {i v : Int32} : CT l yX5_put cX5_put 3 none 0 0 [.ref (a + 19), .int i, .int v] D B z (hput D h a σ) none 0 0 (hput D h a (oPut 8 384 σ i v)) := by
  have w := c_X5_put l (D := D) (B := B) (z := z) (h := hput D h a σ) (r := a + 19) (c := a + 20) (n := 384) (f := σ.1 8) (i := i) (v := v) (by decide) (hput_k 19 (by decide)) (hput_k 20 (by decide))
  rw [hput_r8] at w
  exact w
theorem s_add8 (l : Launch) {D : DD} {B z : Nat} {h : HF} {a : Nat} {σ : St} {i v : Int32} : CT l yX5_add cX5_add 3 none 0 0 [.ref (a + 19), .int i, .int v] D B z (hput D h a σ) none 0 0 (hput D h a (oAdd 8 384 σ i v)) := by
  have w := c_X5_add l (D := D) (B := B) (z := z) (h := hput D h a σ) (r := a + 19) (c := a + 20) (n := 384) (f := σ.1 8) (i := i) (v := v) (by decide) (hput_k 19 (by decide)) (hput_k 20 (by decide))
  rw [hput_r8] at w
  exact w
theorem s_fill8 (l : Launch) {D : DD} {B z : Nat} {h : HF} {a : Nat} {σ : St} {i k v : Int32} : CT l yX5_fill cX5_fill 4 none 2 46 [.ref (a + 19), .int i, .int k, .int v] D B z (hput D h a σ) none 0 0 (hput D h a (oFill 8 384 σ i k v)) := by
  have w := c_X5_fill l (D := D) (B := B) (z := z) (h := hput D h a σ) (r := a + 19) (c := a + 20) (n := 384) (f := σ.1 8) (i := i) (k := k) (v := v) (by decide) (hput_k 19 (by decide)) (hput_k 20 (by decide))
  rw [hput_r8] at w
  exact w
theorem s_slide8 (l : Launch) {D : DD} {B z : Nat} {h : HF} {a : Nat} {σ : St} {i j k : Int32} : CT l yX5_slide cX5_slide 4 none 1 22 [.ref (a + 19), .int i, .int j, .int k] D B z (hput D h a σ) none 0 0 (hput D h a (oSlide 8 384 σ i j k)) := by
  have w := c_X5_slide l (D := D) (B := B) (z := z) (h := hput D h a σ) (r := a + 19) (c := a + 20) (n := 384) (f := σ.1 8) (i := i) (j := j) (k := k) (by decide) (hput_k 19 (by decide)) (hput_k 20 (by decide))
  rw [hput_r8] at w
  exact w
theorem s_at9 (l : Launch) {D : DD} {B z : Nat} {h : HF} {a : Nat} {σ : St} {i : Int32} : CT l yX5_at cX5_at 2 (some .int) 0 0 [.ref (a + 22), .int i] D B z (hput D h a σ) (some (.int (oAt 9 100 σ i))) 0 0 (hput D h a σ) := c_X5_at l (by decide) (hput_k 22 (by decide)) (hput_k 23 (by decide))
theorem s_put9 (l : Launch) {D : DD} {B z : Nat} {h : HF} {a : Nat} {σ : St} {i v : Int32} : CT l yX5_put cX5_put 3 none 0 0 [.ref (a + 22), .int i, .int v] D B z (hput D h a σ) none 0 0 (hput D h a (oPut 9 100 σ i v)) := by
  have w := c_X5_put l (D := D) (B := B) (z := z) (h := hput D h a σ) (r := a + 22) (c := a + 23) (n := 100) (f := σ.1 9) (i := i) (v := v) (by decide) (hput_k 22 (by decide)) (hput_k 23 (by decide))
  rw [hput_r9] at w
  exact w
theorem s_add9 (l : Launch) {D : DD} {B z : Nat} {h : HF} {a : Nat} {σ : St} {i v : Int32} : CT l yX5_add cX5_add 3 none 0 0 [.ref (a + 22), .int i, .int v] D B z (hput D h a σ) none 0 0 (hput D h a (oAdd 9 100 σ i v)) := by
  have w := c_X5_add l (D := D) (B := B) (z := z) (h := hput D h a σ) (r := a + 22) (c := a + 23) (n := 100) (f := σ.1 9) (i := i) (v := v) (by decide) (hput_k 22 (by decide)) (hput_k 23 (by decide))
  rw [hput_r9] at w
  exact w
theorem s_fill9 (l : Launch) {D : DD} {B z : Nat} {h : HF} {a : Nat} {σ : St} {i k v : Int32} : CT l yX5_fill cX5_fill 4 none 2 46 [.ref (a + 22), .int i, .int k, .int v] D B z (hput D h a σ) none 0 0 (hput D h a (oFill 9 100 σ i k v)) := by
  have w := c_X5_fill l (D := D) (B := B) (z := z) (h := hput D h a σ) (r := a + 22) (c := a + 23) (n := 100) (f := σ.1 9) (i := i) (k := k) (v := v) (by decide) (hput_k 22 (by decide)) (hput_k 23 (by decide))
  rw [hput_r9] at w
  exact w
theorem s_slide9 (l : Launch) {D : DD} {B z : Nat} {h : HF} {a : Nat} {σ : St} {i j k : Int32} : CT l yX5_slide cX5_slide 4 none 1 22 [.ref (a + 22), .int i, .int j, .int k] D B z (hput D h a σ) none 0 0 (hput D h a (oSlide 9 100 σ i j k)) := by
  have w := c_X5_slide l (D := D) (B := B) (z := z) (h := hput D h a σ) (r := a + 22) (c := a + 23) (n := 100) (f := σ.1 9) (i := i) (j := j) (k := k) (by decide) (hput_k 22 (by decide)) (hput_k 23 (by decide))
  rw [hput_r9] at w
  exact w
theorem s_at10 (l : Launch) {D : DD} {B z : Nat} {h : HF} {a : Nat} {σ : St} {i : Int32} : CT l yX5_at cX5_at 2 (some .int) 0 0 [.ref (a + 24), .int i] D B z (hput D h a σ) (some (.int (oAt 10 100 σ i))) 0 0 (hput D h a σ) := c_X5_at l (by decide) (hput_k 24 (by decide)) (hput_k 25 (by decide))
theorem s_put10 (l : Launch) {D : DD} {B z : Nat} {h : HF} {a : Nat} {σ : St} {i v : Int32} : CT l yX5_put cX5_put 3 none 0 0 [.ref (a + 24), .int i, .int v] D B z (hput D h a σ) none 0 0 (hput D h a (oPut 10 100 σ i v)) := by
  have w := c_X5_put l (D := D) (B := B) (z := z) (h := hput D h a σ) (r := a + 24) (c := a + 25) (n := 100) (f := σ.1 10) (i := i) (v := v) (by decide) (hput_k 24 (by decide)) (hput_k 25 (by decide))
  rw [hput_r10] at w
  exact w
theorem s_add10 (l : Launch) {D : DD} {B z : Nat} {h : HF} {a : Nat} {σ : St} {i v : Int32} : CT l yX5_add cX5_add 3 none 0 0 [.ref (a + 24), .int i, .int v] D B z (hput D h a σ) none 0 0 (hput D h a (oAdd 10 100 σ i v)) := by
  have w := c_X5_add l (D := D) (B := B) (z := z) (h := hput D h a σ) (r := a + 24) (c := a + 25) (n := 100) (f := σ.1 10) (i := i) (v := v) (by decide) (hput_k 24 (by decide)) (hput_k 25 (by decide))
  rw [hput_r10] at w
  exact w
theorem s_fill10 (l : Launch) {D : DD} {B z : Nat} {h : HF} {a : Nat} {σ : St} {i k v : Int32} : CT l yX5_fill cX5_fill 4 none 2 46 [.ref (a + 24), .int i, .int k, .int v] D B z (hput D h a σ) none 0 0 (hput D h a (oFill 10 100 σ i k v)) := by
  have w := c_X5_fill l (D := D) (B := B) (z := z) (h := hput D h a σ) (r := a + 24) (c := a + 25) (n := 100) (f := σ.1 10) (i := i) (k := k) (v := v) (by decide) (hput_k 24 (by decide)) (hput_k 25 (by decide))
  rw [hput_r10] at w
  exact w
theorem s_slide10 (l : Launch) {D : DD} {B z : Nat} {h : HF} {a : Nat} {σ : St} {i j k : Int32} : CT l yX5_slide cX5_slide 4 none 1 22 [.ref (a + 24), .int i, .int j, .int k] D B z (hput D h a σ) none 0 0 (hput D h a (oSlide 10 100 σ i j k)) := by
  have w := c_X5_slide l (D := D) (B := B) (z := z) (h := hput D h a σ) (r := a + 24) (c := a + 25) (n := 100) (f := σ.1 10) (i := i) (j := j) (k := k) (by decide) (hput_k 24 (by decide)) (hput_k 25 (by decide))
  rw [hput_r10] at w
  exact w
theorem s_at11 (l : Launch) {D : DD} {B z : Nat} {h : HF} {a : Nat} {σ : St} {i : Int32} : CT l yX5_at cX5_at 2 (some .int) 0 0 [.ref (a + 27), .int i] D B z (hput D h a σ) (some (.int (oAt 11 1000 σ i))) 0 0 (hput D h a σ) := c_X5_at l (by decide) (hput_k 27 (by decide)) (hput_k 28 (by decide))
theorem s_put11 (l : Launch) {D : DD} {B z : Nat} {h : HF} {a : Nat} {σ : St} {i v : Int32} : CT l yX5_put cX5_put 3 none 0 0 [.ref (a + 27), .int i, .int v] D B z (hput D h a σ) none 0 0 (hput D h a (oPut 11 1000 σ i v)) := by
  have w := c_X5_put l (D := D) (B := B) (z := z) (h := hput D h a σ) (r := a + 27) (c := a + 28) (n := 1000) (f := σ.1 11) (i := i) (v := v) (by decide) (hput_k 27 (by decide)) (hput_k 28 (by decide))
  rw [hput_r11] at w
  exact w
theorem s_add11 (l : Launch) {D : DD} {B z : Nat} {h : HF} {a : Nat} {σ : St} {i v : Int32} : CT l yX5_add cX5_add 3 none 0 0 [.ref (a + 27), .int i, .int v] D B z (hput D h a σ) none 0 0 (hput D h a (oAdd 11 1000 σ i v)) := by
  have w := c_X5_add l (D := D) (B := B) (z := z) (h := hput D h a σ) (r := a + 27) (c := a + 28) (n := 1000) (f := σ.1 11) (i := i) (v := v) (by decide) (hput_k 27 (by decide)) (hput_k 28 (by decide))
  rw [hput_r11] at w
  exact w
theorem s_fill11 (l : Launch) {D : DD} {B z : Nat} {h : HF} {a : Nat} {σ : St} {i k v : Int32} : CT l yX5_fill cX5_fill 4 none 2 46 [.ref (a + 27), .int i, .int k, .int v] D B z (hput D h a σ) none 0 0 (hput D h a (oFill 11 1000 σ i k v)) := by
  have w := c_X5_fill l (D := D) (B := B) (z := z) (h := hput D h a σ) (r := a + 27) (c := a + 28) (n := 1000) (f := σ.1 11) (i := i) (k := k) (v := v) (by decide) (hput_k 27 (by decide)) (hput_k 28 (by decide))
  rw [hput_r11] at w
  exact w
theorem s_slide11 (l : Launch) {D : DD} {B z : Nat} {h : HF} {a : Nat} {σ : St} {i j k : Int32} : CT l yX5_slide cX5_slide 4 none 1 22 [.ref (a + 27), .int i, .int j, .int k] D B z (hput D h a σ) none 0 0 (hput D h a (oSlide 11 1000 σ i j k)) := by
  have w := c_X5_slide l (D := D) (B := B) (z := z) (h := hput D h a σ) (r := a + 27) (c := a + 28) (n := 1000) (f := σ.1 11) (i := i) (j := j) (k := k) (by decide) (hput_k 27 (by decide)) (hput_k 28 (by decide))
  rw [hput_r11] at w
  exact w
set_option maxRecDepth 100000 in
set_option maxHeartbeats 8000000 in
theorem c_J6_bitCount_0f7a4 (l : Launch) {D : DD} {B z : Nat} {h : HF} {x : Int32} : CT l yJ6_bitCount_0f7a4 cJ6_bitCount_0f7a4 1 (some .int) 0 0 [.int x] D B z h (some (.int (bitC x))) 0 0 h := by
  refine CT.of (L := [(0, .int x)]) (by decide +kernel) (Nat.le_of_ble_eq_true rfl) rfl ?_
  intro P E S0 M0 AR BL ME CO X hr hnm
  refine j_iload_n X 0 dJ6_bitCount_0f7a4_0 rfl rfl ?_
  refine j_iload_n X 0 dJ6_bitCount_0f7a4_1 rfl rfl ?_
  refine j_iconst X (v := 1) dJ6_bitCount_0f7a4_2 (by decide) ?_
  refine j_iushr X dJ6_bitCount_0f7a4_3 ?_
  refine j_ldcw X kK_RJ6_265 dJ6_bitCount_0f7a4_4 ?_
  refine j_iand X dJ6_bitCount_0f7a4_7 ?_
  refine j_isub X dJ6_bitCount_0f7a4_8 ?_
  refine j_top (fun v1 ev1 => ?_)
  refine j_istore_n X (L' := [(0, .int v1)]) dJ6_bitCount_0f7a4_9 rfl (by decide) rfl ?_
  refine j_iload_n X 0 dJ6_bitCount_0f7a4_10 rfl rfl ?_
  refine j_ldcw X kK_RJ6_266 dJ6_bitCount_0f7a4_11 ?_
  refine j_iand X dJ6_bitCount_0f7a4_14 ?_
  refine j_iload_n X 0 dJ6_bitCount_0f7a4_15 rfl rfl ?_
  refine j_iconst X (v := 2) dJ6_bitCount_0f7a4_16 (by decide) ?_
  refine j_iushr X dJ6_bitCount_0f7a4_17 ?_
  refine j_ldcw X kK_RJ6_266 dJ6_bitCount_0f7a4_18 ?_
  refine j_iand X dJ6_bitCount_0f7a4_21 ?_
  refine j_iadd X dJ6_bitCount_0f7a4_22 ?_
  refine j_top (fun v2 ev2 => ?_)
  refine j_istore_n X (L' := [(0, .int v2)]) dJ6_bitCount_0f7a4_23 rfl (by decide) rfl ?_
  refine j_iload_n X 0 dJ6_bitCount_0f7a4_24 rfl rfl ?_
  refine j_iload_n X 0 dJ6_bitCount_0f7a4_25 rfl rfl ?_
  refine j_iconst X (v := 4) dJ6_bitCount_0f7a4_26 (by decide) ?_
  refine j_iushr X dJ6_bitCount_0f7a4_27 ?_
  refine j_iadd X dJ6_bitCount_0f7a4_28 ?_
  refine j_ldcw X kK_RJ6_267 dJ6_bitCount_0f7a4_29 ?_
  refine j_iand X dJ6_bitCount_0f7a4_32 ?_
  refine j_top (fun v3 ev3 => ?_)
  refine j_istore_n X (L' := [(0, .int v3)]) dJ6_bitCount_0f7a4_33 rfl (by decide) rfl ?_
  refine j_iload_n X 0 dJ6_bitCount_0f7a4_34 rfl rfl ?_
  refine j_iload_n X 0 dJ6_bitCount_0f7a4_35 rfl rfl ?_
  refine j_bipush X (v := 8) dJ6_bitCount_0f7a4_36 (by decide) ?_
  refine j_iushr X dJ6_bitCount_0f7a4_38 ?_
  refine j_iadd X dJ6_bitCount_0f7a4_39 ?_
  refine j_top (fun v4 ev4 => ?_)
  refine j_istore_n X (L' := [(0, .int v4)]) dJ6_bitCount_0f7a4_40 rfl (by decide) rfl ?_
  refine j_iload_n X 0 dJ6_bitCount_0f7a4_41 rfl rfl ?_
  refine j_iload_n X 0 dJ6_bitCount_0f7a4_42 rfl rfl ?_
  refine j_bipush X (v := 16) dJ6_bitCount_0f7a4_43 (by decide) ?_
  refine j_iushr X dJ6_bitCount_0f7a4_45 ?_
  refine j_iadd X dJ6_bitCount_0f7a4_46 ?_
  refine j_top (fun v5 ev5 => ?_)
  refine j_istore_n X (L' := [(0, .int v5)]) dJ6_bitCount_0f7a4_47 rfl (by decide) rfl ?_
  refine j_iload_n X 0 dJ6_bitCount_0f7a4_48 rfl rfl ?_
  refine j_bipush X (v := 63) dJ6_bitCount_0f7a4_49 (by decide) ?_
  refine j_iand X dJ6_bitCount_0f7a4_51 ?_
  exact j_iret X hr rfl (by subst ev5 ev4 ev3 ev2 ev1; first | rfl | (simp only [bitC]; done) | (simp only [bitC]; rfl) | (simp [bitC]; done)) rfl (by subst ev5 ev4 ev3 ev2 ev1; first | rfl | (simp only [bitC]; done) | (simp only [bitC]; rfl) | (simp [bitC]; done)) dJ6_bitCount_0f7a4_52
set_option maxRecDepth 100000 in
set_option maxHeartbeats 8000000 in
theorem c_X4_cellOf (l : Launch) {D : DD} {B z : Nat} {h : HF} {p k : Int32} : CT l yX4_cellOf cX4_cellOf 2 (some .int) 0 0 [.int p, .int k] D B z h (some (.int (qCell p k))) 0 0 h := by
  refine CT.of (L := [(0, .int p), (1, .int k)]) (by decide +kernel) (Nat.le_of_ble_eq_true rfl) rfl ?_
  intro P E S0 M0 AR BL ME CO X hr hnm
  refine j_iload_n X 0 dX4_cellOf_0 rfl rfl ?_
  refine j_bipush X (v := 12) dX4_cellOf_1 (by decide) ?_
  refine j_imul X dX4_cellOf_3 ?_
  refine j_iload_n X 1 dX4_cellOf_4 rfl rfl ?_
  refine j_iadd X dX4_cellOf_5 ?_
  refine j_iconst X (v := 4) dX4_cellOf_6 (by decide) ?_
  refine j_imul X dX4_cellOf_7 ?_
  exact j_iret X hr rfl (by first | rfl | (simp only [qCell]; done) | (simp only [qCell]; rfl) | (simp [qCell]; done)) rfl (by first | rfl | (simp only [qCell]; done) | (simp only [qCell]; rfl) | (simp [qCell]; done)) dX4_cellOf_8
set_option maxRecDepth 100000 in
set_option maxHeartbeats 8000000 in
theorem c_X6_accountOf (l : Launch) {D : DD} {B z : Nat} {h : HF} {t : Int32} : CT l yX6_accountOf cX6_accountOf 1 (some .int) 0 0 [.int t] D B z h (some (.int (sAcc t))) 0 0 h := by
  refine CT.of (L := [(0, .int t)]) (by decide +kernel) (Nat.le_of_ble_eq_true rfl) rfl ?_
  intro P E S0 M0 AR BL ME CO X hr hnm
  refine j_iload_n X 0 dX6_accountOf_0 rfl rfl ?_
  refine j_bipush X (v := 6) dX6_accountOf_1 (by decide) ?_
  refine j_icmp_ne X (tgt := 9) dX6_accountOf_3 (by decide) (fun c_3 => ?_) (fun c_3 => ?_)
  · refine j_iload_n X 0 dX6_accountOf_9 rfl rfl ?_
    refine j_iconst X (v := 4) dX6_accountOf_10 (by decide) ?_
    refine j_icmp_eq X (tgt := 19) dX6_accountOf_11 (by decide) (fun c_11 => ?_) (fun c_11 => ?_)
    · refine j_iconst X (v := 5) dX6_accountOf_19 (by decide) ?_
      refine j_goto X (tgt := 26) dX6_accountOf_20 (by decide) ?_
      exact j_iret X hr rfl (by first | rfl | (simp only [sAcc, c_3, c_11]; done) | (simp only [sAcc, c_3, c_11]; rfl) | (simp [sAcc, c_3, c_11]; done)) rfl (by first | rfl | (simp only [sAcc, c_3, c_11]; done) | (simp only [sAcc, c_3, c_11]; rfl) | (simp [sAcc, c_3, c_11]; done)) dX6_accountOf_26
    · refine j_iload_n X 0 dX6_accountOf_14 rfl rfl ?_
      refine j_iconst X (v := 5) dX6_accountOf_15 (by decide) ?_
      refine j_icmp_ne X (tgt := 23) dX6_accountOf_16 (by decide) (fun c_16 => ?_) (fun c_16 => ?_)
      · refine j_iload_n X 0 dX6_accountOf_23 rfl rfl ?_
        refine j_iconst X (v := 1) dX6_accountOf_24 (by decide) ?_
        refine j_iadd X dX6_accountOf_25 ?_
        exact j_iret X hr rfl (by first | rfl | (simp only [sAcc, c_3, c_11, c_16]; done) | (simp only [sAcc, c_3, c_11, c_16]; rfl) | (simp [sAcc, c_3, c_11, c_16]; done)) rfl (by first | rfl | (simp only [sAcc, c_3, c_11, c_16]; done) | (simp only [sAcc, c_3, c_11, c_16]; rfl) | (simp [sAcc, c_3, c_11, c_16]; done)) dX6_accountOf_26
      · refine j_iconst X (v := 5) dX6_accountOf_19 (by decide) ?_
        refine j_goto X (tgt := 26) dX6_accountOf_20 (by decide) ?_
        exact j_iret X hr rfl (by first | rfl | (simp only [sAcc, c_3, c_11, c_16]; done) | (simp only [sAcc, c_3, c_11, c_16]; rfl) | (simp [sAcc, c_3, c_11, c_16]; done)) rfl (by first | rfl | (simp only [sAcc, c_3, c_11, c_16]; done) | (simp only [sAcc, c_3, c_11, c_16]; rfl) | (simp [sAcc, c_3, c_11, c_16]; done)) dX6_accountOf_26
  · refine j_bipush X (v := 6) dX6_accountOf_6 (by decide) ?_
    exact j_iret X hr rfl (by first | rfl | (simp only [sAcc, c_3]; done) | (simp only [sAcc, c_3]; rfl) | (simp [sAcc, c_3]; done)) rfl (by first | rfl | (simp only [sAcc, c_3]; done) | (simp only [sAcc, c_3]; rfl) | (simp [sAcc, c_3]; done)) dX6_accountOf_8
set_option maxRecDepth 100000 in
set_option maxHeartbeats 8000000 in
theorem c_X3_isUp (l : Launch) {D : DD} {B z : Nat} {h : HF} {a : Nat} {σ : St} {p : Int32} : CT l yX3_isUp cX3_isUp 2 (some .boolean) 1 21 [.ref (a + 3), .int p] D B z (hput D h a σ) (some (.int (pUp σ p))) 0 0 (hput D h a σ) := by
  refine CT.of (L := [(0, .ref (a + 3)), (1, .int p)]) (by decide +kernel) (Nat.le_of_ble_eq_true rfl) rfl ?_
  intro P E S0 M0 AR BL ME CO X hr hnm
  refine j_aload_n X 0 dX3_isUp_0 rfl rfl ?_
  refine j_get X fG_RX3_14 (hput_k 3 (by decide)) rfl rfl dX3_isUp_1 ?_
  refine j_iload_n X 1 dX3_isUp_4 rfl rfl ?_
  refine j_callVi X (rest := []) (s_at1 l) m_yX5_at kM_RX3_43 (hput_k 4 (by decide)) rfl rfl rfl rfl rfl (Nat.le_of_ble_eq_true rfl) ⟨Nat.le_of_ble_eq_true rfl, Nat.le_of_ble_eq_true rfl, Nat.le_of_ble_eq_true rfl, Nat.le_of_ble_eq_true rfl⟩ dX3_isUp_5 ?_
  refine j_iconst X (v := 1) dX3_isUp_8 (by decide) ?_
  refine j_icmp_ne X (tgt := 16) dX3_isUp_9 (by decide) (fun c_9 => ?_) (fun c_9 => ?_)
  · refine j_iconst X (v := 0) dX3_isUp_16 (by decide) ?_
    exact j_iret X hr rfl (by first | rfl | (simp only [pUp, c_9]; done) | (simp only [pUp, c_9]; rfl) | (simp [pUp, c_9]; done)) rfl (by first | rfl | (simp only [pUp, c_9]; done) | (simp only [pUp, c_9]; rfl) | (simp [pUp, c_9]; done)) dX3_isUp_17
  · refine j_iconst X (v := 1) dX3_isUp_12 (by decide) ?_
    refine j_goto X (tgt := 17) dX3_isUp_13 (by decide) ?_
    exact j_iret X hr rfl (by first | rfl | (simp only [pUp, c_9]; done) | (simp only [pUp, c_9]; rfl) | (simp [pUp, c_9]; done)) rfl (by first | rfl | (simp only [pUp, c_9]; done) | (simp only [pUp, c_9]; rfl) | (simp [pUp, c_9]; done)) dX3_isUp_17
set_option maxRecDepth 100000 in
set_option maxHeartbeats 8000000 in
theorem c_X3_isOpen (l : Launch) {D : DD} {B z : Nat} {h : HF} {a : Nat} {σ : St} {p : Int32} : CT l yX3_isOpen cX3_isOpen 2 (some .boolean) 1 21 [.ref (a + 3), .int p] D B z (hput D h a σ) (some (.int (pOpen σ p))) 0 0 (hput D h a σ) := by
  refine CT.of (L := [(0, .ref (a + 3)), (1, .int p)]) (by decide +kernel) (Nat.le_of_ble_eq_true rfl) rfl ?_
  intro P E S0 M0 AR BL ME CO X hr hnm
  refine j_aload_n X 0 dX3_isOpen_0 rfl rfl ?_
  refine j_get X fG_RX3_14 (hput_k 3 (by decide)) rfl rfl dX3_isOpen_1 ?_
  refine j_iload_n X 1 dX3_isOpen_4 rfl rfl ?_
  refine j_callVi X (rest := []) (s_at1 l) m_yX5_at kM_RX3_43 (hput_k 4 (by decide)) rfl rfl rfl rfl rfl (Nat.le_of_ble_eq_true rfl) ⟨Nat.le_of_ble_eq_true rfl, Nat.le_of_ble_eq_true rfl, Nat.le_of_ble_eq_true rfl, Nat.le_of_ble_eq_true rfl⟩ dX3_isOpen_5 ?_
  refine j_iconst X (v := 1) dX3_isOpen_8 (by decide) ?_
  refine j_icmp_ne X (tgt := 27) dX3_isOpen_9 (by decide) (fun c_9 => ?_) (fun c_9 => ?_)
  · refine j_iconst X (v := 0) dX3_isOpen_27 (by decide) ?_
    exact j_iret X hr rfl (by first | rfl | (simp only [pOpen, c_9]; done) | (simp only [pOpen, c_9]; rfl) | (simp [pOpen, c_9]; done)) rfl (by first | rfl | (simp only [pOpen, c_9]; done) | (simp only [pOpen, c_9]; rfl) | (simp [pOpen, c_9]; done)) dX3_isOpen_28
  · refine j_aload_n X 0 dX3_isOpen_12 rfl rfl ?_
    refine j_get X fG_RX3_20 (hput_k 3 (by decide)) rfl rfl dX3_isOpen_13 ?_
    refine j_iload_n X 1 dX3_isOpen_16 rfl rfl ?_
    refine j_callVi X (rest := []) (s_at2 l) m_yX5_at kM_RX3_43 (hput_k 6 (by decide)) rfl rfl rfl rfl rfl (Nat.le_of_ble_eq_true rfl) ⟨Nat.le_of_ble_eq_true rfl, Nat.le_of_ble_eq_true rfl, Nat.le_of_ble_eq_true rfl, Nat.le_of_ble_eq_true rfl⟩ dX3_isOpen_17 ?_
    refine j_if_ne X (tgt := 27) dX3_isOpen_20 (by decide) (fun c_20 => ?_) (fun c_20 => ?_)
    · refine j_iconst X (v := 0) dX3_isOpen_27 (by decide) ?_
      exact j_iret X hr rfl (by first | rfl | (simp only [pOpen, c_9, c_20]; done) | (simp only [pOpen, c_9, c_20]; rfl) | (simp [pOpen, c_9, c_20]; done)) rfl (by first | rfl | (simp only [pOpen, c_9, c_20]; done) | (simp only [pOpen, c_9, c_20]; rfl) | (simp [pOpen, c_9, c_20]; done)) dX3_isOpen_28
    · refine j_iconst X (v := 1) dX3_isOpen_23 (by decide) ?_
      refine j_goto X (tgt := 28) dX3_isOpen_24 (by decide) ?_
      exact j_iret X hr rfl (by first | rfl | (simp only [pOpen, c_9, c_20]; done) | (simp only [pOpen, c_9, c_20]; rfl) | (simp [pOpen, c_9, c_20]; done)) rfl (by first | rfl | (simp only [pOpen, c_9, c_20]; done) | (simp only [pOpen, c_9, c_20]; rfl) | (simp [pOpen, c_9, c_20]; done)) dX3_isOpen_28
set_option maxRecDepth 100000 in
set_option maxHeartbeats 8000000 in
theorem c_X3_turn (l : Launch) {D : DD} {B z : Nat} {h : HF} {a : Nat} {σ : St} {p up : Int32} : CT l yX3_turn cX3_turn 3 none 1 22 [.ref (a + 3), .int p, .int up] D B z (hput D h a σ) none 0 0 (hput D h a (pTurn σ p up)) := by
  refine CT.of (L := [(0, .ref (a + 3)), (1, .int p), (2, .int up)]) (by decide +kernel) (Nat.le_of_ble_eq_true rfl) rfl ?_
  intro P E S0 M0 AR BL ME CO X hr hnm
  refine j_aload_n X 0 dX3_turn_0 rfl rfl ?_
  refine j_get X fG_RX3_14 (hput_k 3 (by decide)) rfl rfl dX3_turn_1 ?_
  refine j_iload_n X 1 dX3_turn_4 rfl rfl ?_
  refine j_iload_n X 2 dX3_turn_5 rfl rfl ?_
  refine j_if_eq X (tgt := 13) dX3_turn_6 (by decide) (fun c_6 => ?_) (fun c_6 => ?_)
  · refine j_iconst X (v := 0) dX3_turn_13 (by decide) ?_
    refine j_callVv X (rest := []) (s_put1 l) m_yX5_put kM_RX3_47 (hput_k 4 (by decide)) rfl rfl rfl rfl rfl (Nat.le_of_ble_eq_true rfl) ⟨Nat.le_of_ble_eq_true rfl, Nat.le_of_ble_eq_true rfl, Nat.le_of_ble_eq_true rfl, Nat.le_of_ble_eq_true rfl⟩ dX3_turn_14 ?_
    exact j_vret X hr rfl (by first | rfl | (simp only [pTurn, c_6]; done) | (simp only [pTurn, c_6]; rfl) | (simp [pTurn, c_6]; done)) dX3_turn_17
  · refine j_iconst X (v := 1) dX3_turn_9 (by decide) ?_
    refine j_goto X (tgt := 14) dX3_turn_10 (by decide) ?_
    refine j_callVv X (rest := []) (s_put1 l) m_yX5_put kM_RX3_47 (hput_k 4 (by decide)) rfl rfl rfl rfl rfl (Nat.le_of_ble_eq_true rfl) ⟨Nat.le_of_ble_eq_true rfl, Nat.le_of_ble_eq_true rfl, Nat.le_of_ble_eq_true rfl, Nat.le_of_ble_eq_true rfl⟩ dX3_turn_14 ?_
    exact j_vret X hr rfl (by first | rfl | (simp only [pTurn, c_6]; done) | (simp only [pTurn, c_6]; rfl) | (simp [pTurn, c_6]; done)) dX3_turn_17
set_option maxRecDepth 100000 in
set_option maxHeartbeats 8000000 in
theorem c_X3_openOnes (l : Launch) {D : DD} {B z : Nat} {h : HF} {a : Nat} {σ : St}  : CT l yX3_openOnes cX3_openOnes 3 (some .int) 2 42 [.ref (a + 3)] D B z (hput D h a σ) (some (.int (pOnes σ 8))) 0 0 (hput D h a σ) := by
  refine CT.of (L := [(0, .ref (a + 3))]) (by decide +kernel) (Nat.le_of_ble_eq_true rfl) rfl ?_
  intro P E S0 M0 AR BL ME CO X hr hnm
  refine j_iconst X (v := 0) dX3_openOnes_0 (by decide) ?_
  refine j_istore_n X (L' := [(1, .int 0), (0, .ref (a + 3))]) dX3_openOnes_1 rfl (by decide) rfl ?_
  refine j_iconst X (v := 0) dX3_openOnes_2 (by decide) ?_
  refine j_istore_n X (L' := [(2, .int 0), (1, .int 0), (0, .ref (a + 3))]) dX3_openOnes_3 rfl (by decide) rfl ?_
  have loop4 : ∀ (n k : Nat), k + n = 8 → J P l E { frames := 2, cells := 0, slots := 0, locals := 42 } S0 M0 AR BL ME CO D B 3 (MQ BL (QC (some (.int (pOnes σ 8))) D B (z + 0) (hput D h a σ)) AR S0 0 0 (aB B)) 0 0 z (hput D h a σ) [(0, .ref (a + 3)), (1, .int (pOnes σ k)), (2, .int (nI k))] [] 4 := by
    intro n
    induction n with
    | zero =>
      intro k hk
      obtain rfl : k = 8 := by omega
      refine j_iload_n X 2 dX3_openOnes_4 rfl rfl ?_
      refine j_bipush X (v := 8) dX3_openOnes_5 (by decide) ?_
      refine j_icmp_ge X (tgt := 30) dX3_openOnes_7 (by decide) (fun c_7 => ?_) (fun c_7 => absurd c_7 (by decide))
      refine j_iload_n X 1 dX3_openOnes_30 rfl rfl ?_
      exact j_iret X hr rfl (by first | rfl | (simp only [pOnes, c_7]; done) | (simp only [pOnes, c_7]; rfl) | (simp [pOnes, c_7]; done)) rfl (by first | rfl | (simp only [pOnes, c_7]; done) | (simp only [pOnes, c_7]; rfl) | (simp [pOnes, c_7]; done)) dX3_openOnes_31
    | succ n ih =>
      intro k hk
      have hlt : nI k < 8 := nlt_lit (b := 8) (by omega) (by decide)
      refine j_iload_n X 2 dX3_openOnes_4 rfl rfl ?_
      refine j_bipush X (v := 8) dX3_openOnes_5 (by decide) ?_
      refine j_icmp_ge X (tgt := 30) dX3_openOnes_7 (by decide) (fun c_7 => absurd hlt c_7) (fun c_7 => ?_)
      refine j_aload_n X 0 dX3_openOnes_10 rfl rfl ?_
      refine j_iload_n X 2 dX3_openOnes_11 rfl rfl ?_
      refine j_callVi X (rest := []) (c_X3_isOpen l) m_yX3_isOpen kM_RX3_51 (hput_k 3 (by decide)) rfl rfl rfl rfl rfl (Nat.le_of_ble_eq_true rfl) ⟨Nat.le_of_ble_eq_true rfl, Nat.le_of_ble_eq_true rfl, Nat.le_of_ble_eq_true rfl, Nat.le_of_ble_eq_true rfl⟩ dX3_openOnes_12 ?_
      refine j_if_eq X (tgt := 24) dX3_openOnes_15 (by decide) (fun c_15 => ?_) (fun c_15 => ?_)
      · obtain ⟨v1, ev1⟩ : ∃ y : Int32, y = (nI k) + 1 := ⟨_, rfl⟩
        refine j_iinc X 2 (k := 1) (v := v1) (L' := [(2, .int v1), (0, .ref (a + 3)), (1, .int (pOnes σ k))]) dX3_openOnes_24 rfl (by decide) (by decide) ev1.symm rfl ?_
        refine j_goto X (tgt := 4) dX3_openOnes_27 (by decide) ?_
        refine j_sub [1, 2, 0] (L' := [(0, .ref (a + 3)), (1, .int (pOnes σ (k + 1))), (2, .int (nI (k + 1)))]) (by subst ev1; first | rfl | (simp only [pOnes, nI_0, c_7, c_15, nI_succ, if_true, if_false]; rfl) | (simp only [lv_pick, pOnes, nI_0, c_7, c_15, nI_succ]; rfl)) ?_
        exact ih (k + 1) (by omega)
      · refine j_iload_n X 1 dX3_openOnes_18 rfl rfl ?_
        refine j_iconst X (v := 1) dX3_openOnes_19 (by decide) ?_
        refine j_iload_n X 2 dX3_openOnes_20 rfl rfl ?_
        refine j_ishl X dX3_openOnes_21 ?_
        refine j_ior X dX3_openOnes_22 ?_
        refine j_top (fun v2 ev2 => ?_)
        refine j_istore_n X (L' := [(1, .int v2), (0, .ref (a + 3)), (2, .int (nI k))]) dX3_openOnes_23 rfl (by decide) rfl ?_
        obtain ⟨v3, ev3⟩ : ∃ y : Int32, y = (nI k) + 1 := ⟨_, rfl⟩
        refine j_iinc X 2 (k := 1) (v := v3) (L' := [(2, .int v3), (1, .int v2), (0, .ref (a + 3))]) dX3_openOnes_24 rfl (by decide) (by decide) ev3.symm rfl ?_
        refine j_goto X (tgt := 4) dX3_openOnes_27 (by decide) ?_
        refine j_sub [2, 1, 0] (L' := [(0, .ref (a + 3)), (1, .int (pOnes σ (k + 1))), (2, .int (nI (k + 1)))]) (by subst ev3 ev2; first | rfl | (simp only [pOnes, nI_0, c_7, c_15, nI_succ, if_true, if_false]; rfl) | (simp only [lv_pick, pOnes, nI_0, c_7, c_15, nI_succ]; rfl)) ?_
        exact ih (k + 1) (by omega)
  refine j_sub [2, 1, 0] (L' := [(0, .ref (a + 3)), (1, .int (pOnes σ 0)), (2, .int (nI 0))]) (by first | rfl | (simp only [pOnes, nI_0, nI_succ, if_true, if_false]; rfl) | (simp only [lv_pick, pOnes, nI_0, nI_succ]; rfl)) ?_
  exact loop4 8 0 rfl
set_option maxRecDepth 100000 in
set_option maxHeartbeats 8000000 in
theorem c_X3_secondsLeft (l : Launch) {D : DD} {B z : Nat} {h : HF} {a : Nat} {σ : St} {p : Int32} : CT l yX3_secondsLeft cX3_secondsLeft 2 (some .int) 1 21 [.ref (a + 3), .int p] D B z (hput D h a σ) (some (.int (oAt 2 8 σ p))) 0 0 (hput D h a σ) := by
  refine CT.of (L := [(0, .ref (a + 3)), (1, .int p)]) (by decide +kernel) (Nat.le_of_ble_eq_true rfl) rfl ?_
  intro P E S0 M0 AR BL ME CO X hr hnm
  refine j_aload_n X 0 dX3_secondsLeft_0 rfl rfl ?_
  refine j_get X fG_RX3_20 (hput_k 3 (by decide)) rfl rfl dX3_secondsLeft_1 ?_
  refine j_iload_n X 1 dX3_secondsLeft_4 rfl rfl ?_
  refine j_callVi X (rest := []) (s_at2 l) m_yX5_at kM_RX3_43 (hput_k 6 (by decide)) rfl rfl rfl rfl rfl (Nat.le_of_ble_eq_true rfl) ⟨Nat.le_of_ble_eq_true rfl, Nat.le_of_ble_eq_true rfl, Nat.le_of_ble_eq_true rfl, Nat.le_of_ble_eq_true rfl⟩ dX3_secondsLeft_5 ?_
  exact j_iret X hr rfl (by first | rfl | (simp only [oAt]; done) | (simp only [oAt]; rfl) | (simp [oAt]; done)) rfl (by first | rfl | (simp only [oAt]; done) | (simp only [oAt]; rfl) | (simp [oAt]; done)) dX3_secondsLeft_8
set_option maxRecDepth 100000 in
set_option maxHeartbeats 8000000 in
theorem c_X3_beginQuarantine (l : Launch) {D : DD} {B z : Nat} {h : HF} {a : Nat} {σ : St} {p sec why : Int32} : CT l yX3_beginQuarantine cX3_beginQuarantine 4 none 1 22 [.ref (a + 3), .int p, .int sec, .int why] D B z (hput D h a σ) none 0 0 (hput D h a (pBegin σ p sec why)) := by
  refine CT.of (L := [(0, .ref (a + 3)), (1, .int p), (2, .int sec), (3, .int why)]) (by decide +kernel) (Nat.le_of_ble_eq_true rfl) rfl ?_
  intro P E S0 M0 AR BL ME CO X hr hnm
  refine j_aload_n X 0 dX3_beginQuarantine_0 rfl rfl ?_
  refine j_get X fG_RX3_20 (hput_k 3 (by decide)) rfl rfl dX3_beginQuarantine_1 ?_
  refine j_iload_n X 1 dX3_beginQuarantine_4 rfl rfl ?_
  refine j_iload_n X 2 dX3_beginQuarantine_5 rfl rfl ?_
  refine j_callVv X (rest := []) (s_put2 l) m_yX5_put kM_RX3_47 (hput_k 6 (by decide)) rfl rfl rfl rfl rfl (Nat.le_of_ble_eq_true rfl) ⟨Nat.le_of_ble_eq_true rfl, Nat.le_of_ble_eq_true rfl, Nat.le_of_ble_eq_true rfl, Nat.le_of_ble_eq_true rfl⟩ dX3_beginQuarantine_6 ?_
  refine j_aload_n X 0 dX3_beginQuarantine_9 rfl rfl ?_
  refine j_get X fG_RX3_23 (hput_k 3 (by decide)) rfl rfl dX3_beginQuarantine_10 ?_
  refine j_iload_n X 1 dX3_beginQuarantine_13 rfl rfl ?_
  refine j_iload_n X 3 dX3_beginQuarantine_14 rfl rfl ?_
  refine j_callVv X (rest := []) (s_put3 l) m_yX5_put kM_RX3_47 (hput_k 8 (by decide)) rfl rfl rfl rfl rfl (Nat.le_of_ble_eq_true rfl) ⟨Nat.le_of_ble_eq_true rfl, Nat.le_of_ble_eq_true rfl, Nat.le_of_ble_eq_true rfl, Nat.le_of_ble_eq_true rfl⟩ dX3_beginQuarantine_15 ?_
  exact j_vret X hr rfl (by first | rfl | (simp only [pBegin]; done) | (simp only [pBegin]; rfl) | (simp [pBegin]; done)) dX3_beginQuarantine_18
set_option maxRecDepth 100000 in
set_option maxHeartbeats 8000000 in
theorem c_X3_endQuarantine (l : Launch) {D : DD} {B z : Nat} {h : HF} {a : Nat} {σ : St} {p : Int32} : CT l yX3_endQuarantine cX3_endQuarantine 2 none 1 22 [.ref (a + 3), .int p] D B z (hput D h a σ) none 0 0 (hput D h a (pEnd σ p)) := by
  refine CT.of (L := [(0, .ref (a + 3)), (1, .int p)]) (by decide +kernel) (Nat.le_of_ble_eq_true rfl) rfl ?_
  intro P E S0 M0 AR BL ME CO X hr hnm
  refine j_aload_n X 0 dX3_endQuarantine_0 rfl rfl ?_
  refine j_get X fG_RX3_20 (hput_k 3 (by decide)) rfl rfl dX3_endQuarantine_1 ?_
  refine j_iload_n X 1 dX3_endQuarantine_4 rfl rfl ?_
  refine j_iconst X (v := 0) dX3_endQuarantine_5 (by decide) ?_
  refine j_callVv X (rest := []) (s_put2 l) m_yX5_put kM_RX3_47 (hput_k 6 (by decide)) rfl rfl rfl rfl rfl (Nat.le_of_ble_eq_true rfl) ⟨Nat.le_of_ble_eq_true rfl, Nat.le_of_ble_eq_true rfl, Nat.le_of_ble_eq_true rfl, Nat.le_of_ble_eq_true rfl⟩ dX3_endQuarantine_6 ?_
  exact j_vret X hr rfl (by first | rfl | (simp only [pEnd]; done) | (simp only [pEnd]; rfl) | (simp [pEnd]; done)) dX3_endQuarantine_9
set_option maxRecDepth 100000 in
set_option maxHeartbeats 8000000 in
theorem c_X3_quarantined (l : Launch) {D : DD} {B z : Nat} {h : HF} {a : Nat} {σ : St}  : CT l yX3_quarantined cX3_quarantined 3 (some .int) 1 21 [.ref (a + 3)] D B z (hput D h a σ) (some (.int (pQuar σ 8))) 0 0 (hput D h a σ) := by
  refine CT.of (L := [(0, .ref (a + 3))]) (by decide +kernel) (Nat.le_of_ble_eq_true rfl) rfl ?_
  intro P E S0 M0 AR BL ME CO X hr hnm
  refine j_iconst X (v := 0) dX3_quarantined_0 (by decide) ?_
  refine j_istore_n X (L' := [(1, .int 0), (0, .ref (a + 3))]) dX3_quarantined_1 rfl (by decide) rfl ?_
  refine j_iconst X (v := 0) dX3_quarantined_2 (by decide) ?_
  refine j_istore_n X (L' := [(2, .int 0), (1, .int 0), (0, .ref (a + 3))]) dX3_quarantined_3 rfl (by decide) rfl ?_
  have loop4 : ∀ (n k : Nat), k + n = 8 → J P l E { frames := 1, cells := 0, slots := 0, locals := 21 } S0 M0 AR BL ME CO D B 3 (MQ BL (QC (some (.int (pQuar σ 8))) D B (z + 0) (hput D h a σ)) AR S0 0 0 (aB B)) 0 0 z (hput D h a σ) [(0, .ref (a + 3)), (1, .int (pQuar σ k)), (2, .int (nI k))] [] 4 := by
    intro n
    induction n with
    | zero =>
      intro k hk
      obtain rfl : k = 8 := by omega
      refine j_iload_n X 2 dX3_quarantined_4 rfl rfl ?_
      refine j_bipush X (v := 8) dX3_quarantined_5 (by decide) ?_
      refine j_icmp_ge X (tgt := 30) dX3_quarantined_7 (by decide) (fun c_7 => ?_) (fun c_7 => absurd c_7 (by decide))
      refine j_iload_n X 1 dX3_quarantined_30 rfl rfl ?_
      exact j_iret X hr rfl (by first | rfl | (simp only [pQuar, c_7]; done) | (simp only [pQuar, c_7]; rfl) | (simp [pQuar, c_7]; done)) rfl (by first | rfl | (simp only [pQuar, c_7]; done) | (simp only [pQuar, c_7]; rfl) | (simp [pQuar, c_7]; done)) dX3_quarantined_31
    | succ n ih =>
      intro k hk
      have hlt : nI k < 8 := nlt_lit (b := 8) (by omega) (by decide)
      refine j_iload_n X 2 dX3_quarantined_4 rfl rfl ?_
      refine j_bipush X (v := 8) dX3_quarantined_5 (by decide) ?_
      refine j_icmp_ge X (tgt := 30) dX3_quarantined_7 (by decide) (fun c_7 => absurd hlt c_7) (fun c_7 => ?_)
      refine j_aload_n X 0 dX3_quarantined_10 rfl rfl ?_
      refine j_get X fG_RX3_20 (hput_k 3 (by decide)) rfl rfl dX3_quarantined_11 ?_
      refine j_iload_n X 2 dX3_quarantined_14 rfl rfl ?_
      refine j_callVi X (rest := []) (s_at2 l) m_yX5_at kM_RX3_43 (hput_k 6 (by decide)) rfl rfl rfl rfl rfl (Nat.le_of_ble_eq_true rfl) ⟨Nat.le_of_ble_eq_true rfl, Nat.le_of_ble_eq_true rfl, Nat.le_of_ble_eq_true rfl, Nat.le_of_ble_eq_true rfl⟩ dX3_quarantined_15 ?_
      refine j_if_le X (tgt := 24) dX3_quarantined_18 (by decide) (fun c_18 => ?_) (fun c_18 => ?_)
      · obtain ⟨v1, ev1⟩ : ∃ y : Int32, y = (nI k) + 1 := ⟨_, rfl⟩
        refine j_iinc X 2 (k := 1) (v := v1) (L' := [(2, .int v1), (0, .ref (a + 3)), (1, .int (pQuar σ k))]) dX3_quarantined_24 rfl (by decide) (by decide) ev1.symm rfl ?_
        refine j_goto X (tgt := 4) dX3_quarantined_27 (by decide) ?_
        refine j_sub [1, 2, 0] (L' := [(0, .ref (a + 3)), (1, .int (pQuar σ (k + 1))), (2, .int (nI (k + 1)))]) (by subst ev1; first | rfl | (simp only [pQuar, nI_0, c_7, c_18, nI_succ, if_true, if_false]; rfl) | (simp only [lv_pick, pQuar, nI_0, c_7, c_18, nI_succ]; rfl)) ?_
        exact ih (k + 1) (by omega)
      · obtain ⟨v2, ev2⟩ : ∃ y : Int32, y = (pQuar σ k) + 1 := ⟨_, rfl⟩
        refine j_iinc X 1 (k := 1) (v := v2) (L' := [(1, .int v2), (0, .ref (a + 3)), (2, .int (nI k))]) dX3_quarantined_21 rfl (by decide) (by decide) ev2.symm rfl ?_
        obtain ⟨v3, ev3⟩ : ∃ y : Int32, y = (nI k) + 1 := ⟨_, rfl⟩
        refine j_iinc X 2 (k := 1) (v := v3) (L' := [(2, .int v3), (1, .int v2), (0, .ref (a + 3))]) dX3_quarantined_24 rfl (by decide) (by decide) ev3.symm rfl ?_
        refine j_goto X (tgt := 4) dX3_quarantined_27 (by decide) ?_
        refine j_sub [2, 1, 0] (L' := [(0, .ref (a + 3)), (1, .int (pQuar σ (k + 1))), (2, .int (nI (k + 1)))]) (by subst ev3 ev2; first | rfl | (simp only [pQuar, nI_0, c_7, c_18, nI_succ, if_true, if_false]; rfl) | (simp only [lv_pick, pQuar, nI_0, c_7, c_18, nI_succ]; rfl)) ?_
        exact ih (k + 1) (by omega)
  refine j_sub [2, 1, 0] (L' := [(0, .ref (a + 3)), (1, .int (pQuar σ 0)), (2, .int (nI 0))]) (by first | rfl | (simp only [pQuar, nI_0, nI_succ, if_true, if_false]; rfl) | (simp only [lv_pick, pQuar, nI_0, nI_succ]; rfl)) ?_
  exact loop4 8 0 rfl
set_option maxRecDepth 100000 in
set_option maxHeartbeats 8000000 in
theorem c_X3_farEnd (l : Launch) {D : DD} {B z : Nat} {h : HF} {a : Nat} {σ : St} {p : Int32} : CT l yX3_farEnd cX3_farEnd 2 (some .int) 1 21 [.ref (a + 3), .int p] D B z (hput D h a σ) (some (.int (pFar σ p))) 0 0 (hput D h a σ) := by
  refine CT.of (L := [(0, .ref (a + 3)), (1, .int p)]) (by decide +kernel) (Nat.le_of_ble_eq_true rfl) rfl ?_
  intro P E S0 M0 AR BL ME CO X hr hnm
  refine j_aload_n X 0 dX3_farEnd_0 rfl rfl ?_
  refine j_get X fG_RX3_26 (hput_k 3 (by decide)) rfl rfl dX3_farEnd_1 ?_
  refine j_iload_n X 1 dX3_farEnd_4 rfl rfl ?_
  refine j_callVi X (rest := []) (s_at4 l) m_yX5_at kM_RX3_43 (hput_k 10 (by decide)) rfl rfl rfl rfl rfl (Nat.le_of_ble_eq_true rfl) ⟨Nat.le_of_ble_eq_true rfl, Nat.le_of_ble_eq_true rfl, Nat.le_of_ble_eq_true rfl, Nat.le_of_ble_eq_true rfl⟩ dX3_farEnd_5 ?_
  exact j_iret X hr rfl (by first | rfl | (simp only [pFar]; done) | (simp only [pFar]; rfl) | (simp [pFar]; done)) rfl (by first | rfl | (simp only [pFar]; done) | (simp only [pFar]; rfl) | (simp [pFar]; done)) dX3_farEnd_8
set_option maxRecDepth 100000 in
set_option maxHeartbeats 8000000 in
theorem c_X3_tie (l : Launch) {D : DD} {B z : Nat} {h : HF} {a : Nat} {σ : St} {p q : Int32} : CT l yX3_tie cX3_tie 3 none 1 22 [.ref (a + 3), .int p, .int q] D B z (hput D h a σ) none 0 0 (hput D h a (pTie σ p q)) := by
  refine CT.of (L := [(0, .ref (a + 3)), (1, .int p), (2, .int q)]) (by decide +kernel) (Nat.le_of_ble_eq_true rfl) rfl ?_
  intro P E S0 M0 AR BL ME CO X hr hnm
  refine j_aload_n X 0 dX3_tie_0 rfl rfl ?_
  refine j_get X fG_RX3_26 (hput_k 3 (by decide)) rfl rfl dX3_tie_1 ?_
  refine j_iload_n X 1 dX3_tie_4 rfl rfl ?_
  refine j_iload_n X 2 dX3_tie_5 rfl rfl ?_
  refine j_callVv X (rest := []) (s_put4 l) m_yX5_put kM_RX3_47 (hput_k 10 (by decide)) rfl rfl rfl rfl rfl (Nat.le_of_ble_eq_true rfl) ⟨Nat.le_of_ble_eq_true rfl, Nat.le_of_ble_eq_true rfl, Nat.le_of_ble_eq_true rfl, Nat.le_of_ble_eq_true rfl⟩ dX3_tie_6 ?_
  refine j_aload_n X 0 dX3_tie_9 rfl rfl ?_
  refine j_get X fG_RX3_26 (hput_k 3 (by decide)) rfl rfl dX3_tie_10 ?_
  refine j_iload_n X 2 dX3_tie_13 rfl rfl ?_
  refine j_iload_n X 1 dX3_tie_14 rfl rfl ?_
  refine j_callVv X (rest := []) (s_put4 l) m_yX5_put kM_RX3_47 (hput_k 10 (by decide)) rfl rfl rfl rfl rfl (Nat.le_of_ble_eq_true rfl) ⟨Nat.le_of_ble_eq_true rfl, Nat.le_of_ble_eq_true rfl, Nat.le_of_ble_eq_true rfl, Nat.le_of_ble_eq_true rfl⟩ dX3_tie_15 ?_
  exact j_vret X hr rfl (by first | rfl | (simp only [pTie]; done) | (simp only [pTie]; rfl) | (simp [pTie]; done)) dX3_tie_18
set_option maxRecDepth 100000 in
set_option maxHeartbeats 8000000 in
theorem c_X3_untie (l : Launch) {D : DD} {B z : Nat} {h : HF} {a : Nat} {σ : St} {p q : Int32} : CT l yX3_untie cX3_untie 3 none 1 22 [.ref (a + 3), .int p, .int q] D B z (hput D h a σ) none 0 0 (hput D h a (pUntie σ p q)) := by
  refine CT.of (L := [(0, .ref (a + 3)), (1, .int p), (2, .int q)]) (by decide +kernel) (Nat.le_of_ble_eq_true rfl) rfl ?_
  intro P E S0 M0 AR BL ME CO X hr hnm
  refine j_aload_n X 0 dX3_untie_0 rfl rfl ?_
  refine j_get X fG_RX3_26 (hput_k 3 (by decide)) rfl rfl dX3_untie_1 ?_
  refine j_iload_n X 1 dX3_untie_4 rfl rfl ?_
  refine j_bipush X (v := (-4)) dX3_untie_5 (by decide) ?_
  refine j_callVv X (rest := []) (s_put4 l) m_yX5_put kM_RX3_47 (hput_k 10 (by decide)) rfl rfl rfl rfl rfl (Nat.le_of_ble_eq_true rfl) ⟨Nat.le_of_ble_eq_true rfl, Nat.le_of_ble_eq_true rfl, Nat.le_of_ble_eq_true rfl, Nat.le_of_ble_eq_true rfl⟩ dX3_untie_7 ?_
  refine j_aload_n X 0 dX3_untie_10 rfl rfl ?_
  refine j_get X fG_RX3_26 (hput_k 3 (by decide)) rfl rfl dX3_untie_11 ?_
  refine j_iload_n X 2 dX3_untie_14 rfl rfl ?_
  refine j_bipush X (v := (-4)) dX3_untie_15 (by decide) ?_
  refine j_callVv X (rest := []) (s_put4 l) m_yX5_put kM_RX3_47 (hput_k 10 (by decide)) rfl rfl rfl rfl rfl (Nat.le_of_ble_eq_true rfl) ⟨Nat.le_of_ble_eq_true rfl, Nat.le_of_ble_eq_true rfl, Nat.le_of_ble_eq_true rfl, Nat.le_of_ble_eq_true rfl⟩ dX3_untie_17 ?_
  exact j_vret X hr rfl (by first | rfl | (simp only [pUntie]; done) | (simp only [pUntie]; rfl) | (simp [pUntie]; done)) dX3_untie_20
set_option maxRecDepth 100000 in
set_option maxHeartbeats 8000000 in
theorem c_X3_cables (l : Launch) {D : DD} {B z : Nat} {h : HF} {a : Nat} {σ : St}  : CT l yX3_cables cX3_cables 3 (some .int) 1 21 [.ref (a + 3)] D B z (hput D h a σ) (some (.int (pCab σ 8 / 2))) 0 0 (hput D h a σ) := by
  refine CT.of (L := [(0, .ref (a + 3))]) (by decide +kernel) (Nat.le_of_ble_eq_true rfl) rfl ?_
  intro P E S0 M0 AR BL ME CO X hr hnm
  refine j_iconst X (v := 0) dX3_cables_0 (by decide) ?_
  refine j_istore_n X (L' := [(1, .int 0), (0, .ref (a + 3))]) dX3_cables_1 rfl (by decide) rfl ?_
  refine j_iconst X (v := 0) dX3_cables_2 (by decide) ?_
  refine j_istore_n X (L' := [(2, .int 0), (1, .int 0), (0, .ref (a + 3))]) dX3_cables_3 rfl (by decide) rfl ?_
  have loop4 : ∀ (n k : Nat), k + n = 8 → J P l E { frames := 1, cells := 0, slots := 0, locals := 21 } S0 M0 AR BL ME CO D B 3 (MQ BL (QC (some (.int (pCab σ 8 / 2))) D B (z + 0) (hput D h a σ)) AR S0 0 0 (aB B)) 0 0 z (hput D h a σ) [(0, .ref (a + 3)), (1, .int (pCab σ k)), (2, .int (nI k))] [] 4 := by
    intro n
    induction n with
    | zero =>
      intro k hk
      obtain rfl : k = 8 := by omega
      refine j_iload_n X 2 dX3_cables_4 rfl rfl ?_
      refine j_bipush X (v := 8) dX3_cables_5 (by decide) ?_
      refine j_icmp_ge X (tgt := 32) dX3_cables_7 (by decide) (fun c_7 => ?_) (fun c_7 => absurd c_7 (by decide))
      refine j_iload_n X 1 dX3_cables_32 rfl rfl ?_
      refine j_iconst X (v := 2) dX3_cables_33 (by decide) ?_
      refine j_idiv X dX3_cables_34 (by decide) ?_
      exact j_iret X hr rfl (by first | rfl | (simp only [pCab, c_7]; done) | (simp only [pCab, c_7]; rfl) | (simp [pCab, c_7]; done)) rfl (by first | rfl | (simp only [pCab, c_7]; done) | (simp only [pCab, c_7]; rfl) | (simp [pCab, c_7]; done)) dX3_cables_35
    | succ n ih =>
      intro k hk
      have hlt : nI k < 8 := nlt_lit (b := 8) (by omega) (by decide)
      refine j_iload_n X 2 dX3_cables_4 rfl rfl ?_
      refine j_bipush X (v := 8) dX3_cables_5 (by decide) ?_
      refine j_icmp_ge X (tgt := 32) dX3_cables_7 (by decide) (fun c_7 => absurd hlt c_7) (fun c_7 => ?_)
      refine j_aload_n X 0 dX3_cables_10 rfl rfl ?_
      refine j_get X fG_RX3_26 (hput_k 3 (by decide)) rfl rfl dX3_cables_11 ?_
      refine j_iload_n X 2 dX3_cables_14 rfl rfl ?_
      refine j_callVi X (rest := []) (s_at4 l) m_yX5_at kM_RX3_43 (hput_k 10 (by decide)) rfl rfl rfl rfl rfl (Nat.le_of_ble_eq_true rfl) ⟨Nat.le_of_ble_eq_true rfl, Nat.le_of_ble_eq_true rfl, Nat.le_of_ble_eq_true rfl, Nat.le_of_ble_eq_true rfl⟩ dX3_cables_15 ?_
      refine j_bipush X (v := (-4)) dX3_cables_18 (by decide) ?_
      refine j_icmp_eq X (tgt := 26) dX3_cables_20 (by decide) (fun c_20 => ?_) (fun c_20 => ?_)
      · obtain ⟨v1, ev1⟩ : ∃ y : Int32, y = (nI k) + 1 := ⟨_, rfl⟩
        refine j_iinc X 2 (k := 1) (v := v1) (L' := [(2, .int v1), (0, .ref (a + 3)), (1, .int (pCab σ k))]) dX3_cables_26 rfl (by decide) (by decide) ev1.symm rfl ?_
        refine j_goto X (tgt := 4) dX3_cables_29 (by decide) ?_
        refine j_sub [1, 2, 0] (L' := [(0, .ref (a + 3)), (1, .int (pCab σ (k + 1))), (2, .int (nI (k + 1)))]) (by subst ev1; first | rfl | (simp only [pCab, nI_0, c_7, c_20, nI_succ, if_true, if_false]; rfl) | (simp only [lv_pick, pCab, nI_0, c_7, c_20, nI_succ]; rfl)) ?_
        exact ih (k + 1) (by omega)
      · obtain ⟨v2, ev2⟩ : ∃ y : Int32, y = (pCab σ k) + 1 := ⟨_, rfl⟩
        refine j_iinc X 1 (k := 1) (v := v2) (L' := [(1, .int v2), (0, .ref (a + 3)), (2, .int (nI k))]) dX3_cables_23 rfl (by decide) (by decide) ev2.symm rfl ?_
        obtain ⟨v3, ev3⟩ : ∃ y : Int32, y = (nI k) + 1 := ⟨_, rfl⟩
        refine j_iinc X 2 (k := 1) (v := v3) (L' := [(2, .int v3), (1, .int v2), (0, .ref (a + 3))]) dX3_cables_26 rfl (by decide) (by decide) ev3.symm rfl ?_
        refine j_goto X (tgt := 4) dX3_cables_29 (by decide) ?_
        refine j_sub [2, 1, 0] (L' := [(0, .ref (a + 3)), (1, .int (pCab σ (k + 1))), (2, .int (nI (k + 1)))]) (by subst ev3 ev2; first | rfl | (simp only [pCab, nI_0, c_7, c_20, nI_succ, if_true, if_false]; rfl) | (simp only [lv_pick, pCab, nI_0, c_7, c_20, nI_succ]; rfl)) ?_
        exact ih (k + 1) (by omega)
  refine j_sub [2, 1, 0] (L' := [(0, .ref (a + 3)), (1, .int (pCab σ 0)), (2, .int (nI 0))]) (by first | rfl | (simp only [pCab, nI_0, nI_succ, if_true, if_false]; rfl) | (simp only [lv_pick, pCab, nI_0, nI_succ]; rfl)) ?_
  exact loop4 8 0 rfl
set_option maxRecDepth 100000 in
set_option maxHeartbeats 8000000 in
theorem c_X3_credit (l : Launch) {D : DD} {B z : Nat} {h : HF} {a : Nat} {σ : St} {p w v : Int32} : CT l yX3_credit cX3_credit 4 none 1 22 [.ref (a + 3), .int p, .int w, .int v] D B z (hput D h a σ) none 0 0 (hput D h a (pCredit σ p w v)) := by
  refine CT.of (L := [(0, .ref (a + 3)), (1, .int p), (2, .int w), (3, .int v)]) (by decide +kernel) (Nat.le_of_ble_eq_true rfl) rfl ?_
  intro P E S0 M0 AR BL ME CO X hr hnm
  refine j_aload_n X 0 dX3_credit_0 rfl rfl ?_
  refine j_get X fG_RX3_32 (hput_k 3 (by decide)) rfl rfl dX3_credit_1 ?_
  refine j_iload_n X 1 dX3_credit_4 rfl rfl ?_
  refine j_bipush X (v := 11) dX3_credit_5 (by decide) ?_
  refine j_imul X dX3_credit_7 ?_
  refine j_iload_n X 2 dX3_credit_8 rfl rfl ?_
  refine j_iadd X dX3_credit_9 ?_
  refine j_iload_n X 3 dX3_credit_10 rfl rfl ?_
  refine j_callVv X (rest := []) (s_add6 l) m_yX5_add kM_RX3_55 (hput_k 14 (by decide)) rfl rfl rfl rfl rfl (Nat.le_of_ble_eq_true rfl) ⟨Nat.le_of_ble_eq_true rfl, Nat.le_of_ble_eq_true rfl, Nat.le_of_ble_eq_true rfl, Nat.le_of_ble_eq_true rfl⟩ dX3_credit_11 ?_
  exact j_vret X hr rfl (by first | rfl | (simp only [pCredit]; done) | (simp only [pCredit]; rfl) | (simp [pCredit]; done)) dX3_credit_14
set_option maxRecDepth 100000 in
set_option maxHeartbeats 8000000 in
theorem c_X3_credited (l : Launch) {D : DD} {B z : Nat} {h : HF} {a : Nat} {σ : St} {p w : Int32} : CT l yX3_credited cX3_credited 3 (some .int) 1 21 [.ref (a + 3), .int p, .int w] D B z (hput D h a σ) (some (.int (pCredited σ p w))) 0 0 (hput D h a σ) := by
  refine CT.of (L := [(0, .ref (a + 3)), (1, .int p), (2, .int w)]) (by decide +kernel) (Nat.le_of_ble_eq_true rfl) rfl ?_
  intro P E S0 M0 AR BL ME CO X hr hnm
  refine j_aload_n X 0 dX3_credited_0 rfl rfl ?_
  refine j_get X fG_RX3_32 (hput_k 3 (by decide)) rfl rfl dX3_credited_1 ?_
  refine j_iload_n X 1 dX3_credited_4 rfl rfl ?_
  refine j_bipush X (v := 11) dX3_credited_5 (by decide) ?_
  refine j_imul X dX3_credited_7 ?_
  refine j_iload_n X 2 dX3_credited_8 rfl rfl ?_
  refine j_iadd X dX3_credited_9 ?_
  refine j_callVi X (rest := []) (s_at6 l) m_yX5_at kM_RX3_43 (hput_k 14 (by decide)) rfl rfl rfl rfl rfl (Nat.le_of_ble_eq_true rfl) ⟨Nat.le_of_ble_eq_true rfl, Nat.le_of_ble_eq_true rfl, Nat.le_of_ble_eq_true rfl, Nat.le_of_ble_eq_true rfl⟩ dX3_credited_10 ?_
  exact j_iret X hr rfl (by first | rfl | (simp only [pCredited]; done) | (simp only [pCredited]; rfl) | (simp [pCredited]; done)) rfl (by first | rfl | (simp only [pCredited]; done) | (simp only [pCredited]; rfl) | (simp [pCredited]; done)) dX3_credited_13
set_option maxRecDepth 100000 in
set_option maxHeartbeats 8000000 in
theorem c_X3_allCameIn (l : Launch) {D : DD} {B z : Nat} {h : HF} {a : Nat} {σ : St}  : CT l yX3_allCameIn cX3_allCameIn 3 (some .int) 2 43 [.ref (a + 3)] D B z (hput D h a σ) (some (.int (pAll σ 8))) 0 0 (hput D h a σ) := by
  refine CT.of (L := [(0, .ref (a + 3))]) (by decide +kernel) (Nat.le_of_ble_eq_true rfl) rfl ?_
  intro P E S0 M0 AR BL ME CO X hr hnm
  refine j_iconst X (v := 0) dX3_allCameIn_0 (by decide) ?_
  refine j_istore_n X (L' := [(1, .int 0), (0, .ref (a + 3))]) dX3_allCameIn_1 rfl (by decide) rfl ?_
  refine j_iconst X (v := 0) dX3_allCameIn_2 (by decide) ?_
  refine j_istore_n X (L' := [(2, .int 0), (1, .int 0), (0, .ref (a + 3))]) dX3_allCameIn_3 rfl (by decide) rfl ?_
  have loop4 : ∀ (n k : Nat), k + n = 8 → J P l E { frames := 2, cells := 0, slots := 0, locals := 43 } S0 M0 AR BL ME CO D B 3 (MQ BL (QC (some (.int (pAll σ 8))) D B (z + 0) (hput D h a σ)) AR S0 0 0 (aB B)) 0 0 z (hput D h a σ) [(0, .ref (a + 3)), (1, .int (pAll σ k)), (2, .int (nI k))] [] 4 := by
    intro n
    induction n with
    | zero =>
      intro k hk
      obtain rfl : k = 8 := by omega
      refine j_iload_n X 2 dX3_allCameIn_4 rfl rfl ?_
      refine j_bipush X (v := 8) dX3_allCameIn_5 (by decide) ?_
      refine j_icmp_ge X (tgt := 25) dX3_allCameIn_7 (by decide) (fun c_7 => ?_) (fun c_7 => absurd c_7 (by decide))
      refine j_iload_n X 1 dX3_allCameIn_25 rfl rfl ?_
      exact j_iret X hr rfl (by first | rfl | (simp only [pAll, c_7]; done) | (simp only [pAll, c_7]; rfl) | (simp [pAll, c_7]; done)) rfl (by first | rfl | (simp only [pAll, c_7]; done) | (simp only [pAll, c_7]; rfl) | (simp [pAll, c_7]; done)) dX3_allCameIn_26
    | succ n ih =>
      intro k hk
      have hlt : nI k < 8 := nlt_lit (b := 8) (by omega) (by decide)
      refine j_iload_n X 2 dX3_allCameIn_4 rfl rfl ?_
      refine j_bipush X (v := 8) dX3_allCameIn_5 (by decide) ?_
      refine j_icmp_ge X (tgt := 25) dX3_allCameIn_7 (by decide) (fun c_7 => absurd hlt c_7) (fun c_7 => ?_)
      refine j_iload_n X 1 dX3_allCameIn_10 rfl rfl ?_
      refine j_aload_n X 0 dX3_allCameIn_11 rfl rfl ?_
      refine j_iload_n X 2 dX3_allCameIn_12 rfl rfl ?_
      refine j_iconst X (v := 0) dX3_allCameIn_13 (by decide) ?_
      refine j_callVi X (rest := [.int (pAll σ k)]) (c_X3_credited l) m_yX3_credited kM_RX3_58 (hput_k 3 (by decide)) rfl rfl rfl rfl rfl (Nat.le_of_ble_eq_true rfl) ⟨Nat.le_of_ble_eq_true rfl, Nat.le_of_ble_eq_true rfl, Nat.le_of_ble_eq_true rfl, Nat.le_of_ble_eq_true rfl⟩ dX3_allCameIn_14 ?_
      refine j_iadd X dX3_allCameIn_17 ?_
      refine j_top (fun v1 ev1 => ?_)
      refine j_istore_n X (L' := [(1, .int v1), (0, .ref (a + 3)), (2, .int (nI k))]) dX3_allCameIn_18 rfl (by decide) rfl ?_
      obtain ⟨v2, ev2⟩ : ∃ y : Int32, y = (nI k) + 1 := ⟨_, rfl⟩
      refine j_iinc X 2 (k := 1) (v := v2) (L' := [(2, .int v2), (1, .int v1), (0, .ref (a + 3))]) dX3_allCameIn_19 rfl (by decide) (by decide) ev2.symm rfl ?_
      refine j_goto X (tgt := 4) dX3_allCameIn_22 (by decide) ?_
      refine j_sub [2, 1, 0] (L' := [(0, .ref (a + 3)), (1, .int (pAll σ (k + 1))), (2, .int (nI (k + 1)))]) (by subst ev2 ev1; first | rfl | (simp only [pAll, nI_0, c_7, nI_succ, if_true, if_false]; rfl) | (simp only [lv_pick, pAll, nI_0, c_7, nI_succ]; rfl)) ?_
      exact ih (k + 1) (by omega)
  refine j_sub [2, 1, 0] (L' := [(0, .ref (a + 3)), (1, .int (pAll σ 0)), (2, .int (nI 0))]) (by first | rfl | (simp only [pAll, nI_0, nI_succ, if_true, if_false]; rfl) | (simp only [lv_pick, pAll, nI_0, nI_succ]; rfl)) ?_
  exact loop4 8 0 rfl
set_option maxRecDepth 100000 in
set_option maxHeartbeats 8000000 in
theorem c_X3_endSecond (l : Launch) {D : DD} {B z : Nat} {h : HF} {a : Nat} {σ : St}  : CT l yX3_endSecond cX3_endSecond 2 none 3 69 [.ref (a + 3)] D B z (hput D h a σ) none 0 0 (hput D h a (pEndSec σ)) := by
  refine CT.of (L := [(0, .ref (a + 3))]) (by decide +kernel) (Nat.le_of_ble_eq_true rfl) rfl ?_
  intro P E S0 M0 AR BL ME CO X hr hnm
  refine j_iconst X (v := 0) dX3_endSecond_0 (by decide) ?_
  refine j_istore_n X (L' := [(1, .int 0), (0, .ref (a + 3))]) dX3_endSecond_1 rfl (by decide) rfl ?_
  have loop2 : ∀ (n k : Nat), k + n = 8 → J P l E { frames := 3, cells := 0, slots := 0, locals := 69 } S0 M0 AR BL ME CO D B 2 (MQ BL (QC none D B (z + 0) (hput D h a (pEndSec σ))) AR S0 0 0 (aB B)) 0 0 z (hput D h a (pDec σ k)) [(0, .ref (a + 3)), (1, .int (nI k))] [] 2 := by
    intro n
    induction n with
    | zero =>
      intro k hk
      obtain rfl : k = 8 := by omega
      refine j_iload_n X 1 dX3_endSecond_2 rfl rfl ?_
      refine j_bipush X (v := 8) dX3_endSecond_3 (by decide) ?_
      refine j_icmp_ge X (tgt := 34) dX3_endSecond_5 (by decide) (fun c_5 => ?_) (fun c_5 => absurd c_5 (by decide))
      refine j_aload_n X 0 dX3_endSecond_34 rfl rfl ?_
      refine j_get X fG_RX3_29 (hput_k 3 (by decide)) rfl rfl dX3_endSecond_35 ?_
      refine j_iconst X (v := 0) dX3_endSecond_38 (by decide) ?_
      refine j_bipush X (v := 8) dX3_endSecond_39 (by decide) ?_
      refine j_iconst X (v := 0) dX3_endSecond_41 (by decide) ?_
      refine j_callVv X (rest := []) (s_fill5 l) m_yX5_fill kM_RX3_35 (hput_k 12 (by decide)) rfl rfl rfl rfl rfl (Nat.le_of_ble_eq_true rfl) ⟨Nat.le_of_ble_eq_true rfl, Nat.le_of_ble_eq_true rfl, Nat.le_of_ble_eq_true rfl, Nat.le_of_ble_eq_true rfl⟩ dX3_endSecond_42 ?_
      exact j_vret X hr rfl (by first | rfl | (simp only [pEndSec, pDec, c_5]; done) | (simp only [pEndSec, pDec, c_5]; rfl) | (simp [pEndSec, pDec, c_5]; done)) dX3_endSecond_45
    | succ n ih =>
      intro k hk
      have hlt : nI k < 8 := nlt_lit (b := 8) (by omega) (by decide)
      refine j_iload_n X 1 dX3_endSecond_2 rfl rfl ?_
      refine j_bipush X (v := 8) dX3_endSecond_3 (by decide) ?_
      refine j_icmp_ge X (tgt := 34) dX3_endSecond_5 (by decide) (fun c_5 => absurd hlt c_5) (fun c_5 => ?_)
      refine j_aload_n X 0 dX3_endSecond_8 rfl rfl ?_
      refine j_get X fG_RX3_20 (hput_k 3 (by decide)) rfl rfl dX3_endSecond_9 ?_
      refine j_iload_n X 1 dX3_endSecond_12 rfl rfl ?_
      refine j_callVi X (rest := []) (s_at2 l) m_yX5_at kM_RX3_43 (hput_k 6 (by decide)) rfl rfl rfl rfl rfl (Nat.le_of_ble_eq_true rfl) ⟨Nat.le_of_ble_eq_true rfl, Nat.le_of_ble_eq_true rfl, Nat.le_of_ble_eq_true rfl, Nat.le_of_ble_eq_true rfl⟩ dX3_endSecond_13 ?_
      refine j_if_le X (tgt := 28) dX3_endSecond_16 (by decide) (fun c_16 => ?_) (fun c_16 => ?_)
      · obtain ⟨v1, ev1⟩ : ∃ y : Int32, y = (nI k) + 1 := ⟨_, rfl⟩
        refine j_iinc X 1 (k := 1) (v := v1) (L' := [(1, .int v1), (0, .ref (a + 3))]) dX3_endSecond_28 rfl (by decide) (by decide) ev1.symm rfl ?_
        refine j_goto X (tgt := 2) dX3_endSecond_31 (by decide) ?_
        refine j_sub [1, 0] (L' := [(0, .ref (a + 3)), (1, .int (nI (k + 1)))]) (by subst ev1; first | rfl | (simp only [pDec, nI_0, c_5, c_16, nI_succ, if_true, if_false]; rfl) | (simp only [lv_pick, pDec, nI_0, c_5, c_16, nI_succ]; rfl)) ?_
        refine j_heap (h' := hput D h a (pDec σ (k + 1))) (by subst ev1; first | rfl | (simp only [pDec, nI_0, c_5, c_16, nI_succ, if_true, if_false]; rfl) | (simp only [lv_pick, pDec, nI_0, c_5, c_16, nI_succ]; rfl)) ?_
        exact ih (k + 1) (by omega)
      · refine j_aload_n X 0 dX3_endSecond_19 rfl rfl ?_
        refine j_get X fG_RX3_20 (hput_k 3 (by decide)) rfl rfl dX3_endSecond_20 ?_
        refine j_iload_n X 1 dX3_endSecond_23 rfl rfl ?_
        refine j_iconst X (v := (-1)) dX3_endSecond_24 (by decide) ?_
        refine j_callVv X (rest := []) (s_add2 l) m_yX5_add kM_RX3_55 (hput_k 6 (by decide)) rfl rfl rfl rfl rfl (Nat.le_of_ble_eq_true rfl) ⟨Nat.le_of_ble_eq_true rfl, Nat.le_of_ble_eq_true rfl, Nat.le_of_ble_eq_true rfl, Nat.le_of_ble_eq_true rfl⟩ dX3_endSecond_25 ?_
        obtain ⟨v2, ev2⟩ : ∃ y : Int32, y = (nI k) + 1 := ⟨_, rfl⟩
        refine j_iinc X 1 (k := 1) (v := v2) (L' := [(1, .int v2), (0, .ref (a + 3))]) dX3_endSecond_28 rfl (by decide) (by decide) ev2.symm rfl ?_
        refine j_goto X (tgt := 2) dX3_endSecond_31 (by decide) ?_
        refine j_sub [1, 0] (L' := [(0, .ref (a + 3)), (1, .int (nI (k + 1)))]) (by subst ev2; first | rfl | (simp only [pDec, nI_0, c_5, c_16, nI_succ, if_true, if_false]; rfl) | (simp only [lv_pick, pDec, nI_0, c_5, c_16, nI_succ]; rfl)) ?_
        refine j_heap (h' := hput D h a (pDec σ (k + 1))) (by subst ev2; first | rfl | (simp only [pDec, nI_0, c_5, c_16, nI_succ, if_true, if_false]; rfl) | (simp only [lv_pick, pDec, nI_0, c_5, c_16, nI_succ]; rfl)) ?_
        exact ih (k + 1) (by omega)
  refine j_sub [1, 0] (L' := [(0, .ref (a + 3)), (1, .int (nI 0))]) (by first | rfl | (simp only [pDec, nI_0, nI_succ, if_true, if_false]; rfl) | (simp only [lv_pick, pDec, nI_0, nI_succ]; rfl)) ?_
  refine j_heap (h' := hput D h a (pDec σ 0)) (by first | rfl | (simp only [pDec, nI_0, nI_succ, if_true, if_false]; rfl) | (simp only [lv_pick, pDec, nI_0, nI_succ]; rfl)) ?_
  exact loop2 8 0 rfl
end
