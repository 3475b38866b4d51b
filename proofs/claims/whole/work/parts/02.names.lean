def RX0 : String := "AtomicRuntime$1"
def TX0 : u_T := fun k => match k with
  | _ => ("", "", "", false)
def tyX0 : Nat → FieldType := fun k => match k with
  | _ => .int
theorem nmX0 : ∀ a, a < 0 → ∀ b, b < 0 → a ≠ b → (TX0 a).2.1 ≠ (TX0 b).2.1 := by decide +kernel
theorem tyX0_ok : ∀ k, k < 0 → parseFieldDescriptor (TX0 k).2.2.1 = some (tyX0 k) := by decide +kernel
def RX1 : String := "AtomicRuntime$Heap"
def TX1 : u_T := fun k => match k with
  | 0 => ("AtomicRuntime$Heap", "sorts", "[I", true)
  | 1 => ("AtomicRuntime$Heap", "firsts", "[J", true)
  | 2 => ("AtomicRuntime$Heap", "seconds", "[J", true)
  | 3 => ("AtomicRuntime$Heap", "reached", "[I", true)
  | 4 => ("AtomicRuntime$Heap", "targets", "[I", true)
  | 5 => ("AtomicRuntime$Heap", "used", "I", false)
  | _ => ("AtomicRuntime$Heap", "reachedCount", "I", false)
def tyX1 : Nat → FieldType := fun k => match k with
  | 0 => .array .int
  | 1 => .array .long
  | 2 => .array .long
  | 3 => .array .int
  | 4 => .array .int
  | 5 => .int
  | _ => .int
theorem nmX1 : ∀ a, a < 7 → ∀ b, b < 7 → a ≠ b → (TX1 a).2.1 ≠ (TX1 b).2.1 := by decide +kernel
theorem tyX1_ok : ∀ k, k < 7 → parseFieldDescriptor (TX1 k).2.2.1 = some (tyX1 k) := by decide +kernel
abbrev cX1_init : ByteArray := prog_3_method_1_code
def yX1_init : MethodName := ⟨RX1, "<init>", "()V"⟩
abbrev cX1_newPair : ByteArray := prog_3_method_2_code
def yX1_newPair : MethodName := ⟨RX1, "newPair", "(JJ)J"⟩
abbrev cX1_newVar : ByteArray := prog_3_method_3_code
def yX1_newVar : MethodName := ⟨RX1, "newVar", "(J)J"⟩
abbrev cX1_fillNext : ByteArray := prog_3_method_4_code
def yX1_fillNext : MethodName := ⟨RX1, "fillNext", "(IJJ)I"⟩
abbrev cX1_assign : ByteArray := prog_3_method_5_code
def yX1_assign : MethodName := ⟨RX1, "assign", "(IJI)V"⟩
abbrev cX1_beginMarking : ByteArray := prog_3_method_6_code
def yX1_beginMarking : MethodName := ⟨RX1, "beginMarking", "()V"⟩
abbrev cX1_reachRow : ByteArray := prog_3_method_7_code
def yX1_reachRow : MethodName := ⟨RX1, "reachRow", "([JI)V"⟩
abbrev cX1_reachPlaces : ByteArray := prog_3_method_8_code
def yX1_reachPlaces : MethodName := ⟨RX1, "reachPlaces", "([II)V"⟩
abbrev cX1_reach : ByteArray := prog_3_method_9_code
def yX1_reach : MethodName := ⟨RX1, "reach", "(J)V"⟩
abbrev cX1_reachOnward : ByteArray := prog_3_method_10_code
def yX1_reachOnward : MethodName := ⟨RX1, "reachOnward", "()V"⟩
abbrev cX1_slide : ByteArray := prog_3_method_11_code
def yX1_slide : MethodName := ⟨RX1, "slide", "()V"⟩
abbrev cX1_followRow : ByteArray := prog_3_method_12_code
def yX1_followRow : MethodName := ⟨RX1, "followRow", "([JI)V"⟩
abbrev cX1_followPlaces : ByteArray := prog_3_method_13_code
def yX1_followPlaces : MethodName := ⟨RX1, "followPlaces", "([II)V"⟩
def RX2 : String := "AtomicRuntime$Instruction"
def TX2 : u_T := fun k => match k with
  | 0 => ("AtomicRuntime$Instruction", "number", "I", true)
  | 1 => ("AtomicRuntime$Instruction", "a", "I", true)
  | 2 => ("AtomicRuntime$Instruction", "b", "I", true)
  | _ => ("AtomicRuntime$Instruction", "c", "I", true)
def tyX2 : Nat → FieldType := fun k => match k with
  | 0 => .int
  | 1 => .int
  | 2 => .int
  | _ => .int
theorem nmX2 : ∀ a, a < 4 → ∀ b, b < 4 → a ≠ b → (TX2 a).2.1 ≠ (TX2 b).2.1 := by decide +kernel
theorem tyX2_ok : ∀ k, k < 4 → parseFieldDescriptor (TX2 k).2.2.1 = some (tyX2 k) := by decide +kernel
abbrev cX2_init : ByteArray := prog_4_method_1_code
def yX2_init : MethodName := ⟨RX2, "<init>", "(IIII)V"⟩
def RX3 : String := "AtomicRuntime$Log"
def TX3 : u_T := fun k => match k with
  | 0 => ("AtomicRuntime$Log", "readPlaces", "[I", true)
  | 1 => ("AtomicRuntime$Log", "writePlaces", "[I", true)
  | 2 => ("AtomicRuntime$Log", "writeValues", "[J", true)
  | 3 => ("AtomicRuntime$Log", "reads", "I", false)
  | 4 => ("AtomicRuntime$Log", "writes", "I", false)
  | _ => ("AtomicRuntime$Log", "start", "I", false)
def tyX3 : Nat → FieldType := fun k => match k with
  | 0 => .array .int
  | 1 => .array .int
  | 2 => .array .long
  | 3 => .int
  | 4 => .int
  | _ => .int
theorem nmX3 : ∀ a, a < 6 → ∀ b, b < 6 → a ≠ b → (TX3 a).2.1 ≠ (TX3 b).2.1 := by decide +kernel
theorem tyX3_ok : ∀ k, k < 6 → parseFieldDescriptor (TX3 k).2.2.1 = some (tyX3 k) := by decide +kernel
abbrev cX3_init : ByteArray := prog_5_method_1_code
def yX3_init : MethodName := ⟨RX3, "<init>", "()V"⟩
abbrev cX3_begin : ByteArray := prog_5_method_2_code
def yX3_begin : MethodName := ⟨RX3, "begin", "(I)V"⟩
abbrev cX3_clear : ByteArray := prog_5_method_3_code
def yX3_clear : MethodName := ⟨RX3, "clear", "()V"⟩
abbrev cX3_isValid : ByteArray := prog_5_method_4_code
def yX3_isValid : MethodName := ⟨RX3, "isValid", "(LAtomicRuntime$Heap;)Z"⟩
abbrev cX3_hasRead : ByteArray := prog_5_method_5_code
def yX3_hasRead : MethodName := ⟨RX3, "hasRead", "(I)Z"⟩
abbrev cX3_lastWriteOf : ByteArray := prog_5_method_6_code
def yX3_lastWriteOf : MethodName := ⟨RX3, "lastWriteOf", "(I)I"⟩
abbrev cX3_addRead : ByteArray := prog_5_method_7_code
def yX3_addRead : MethodName := ⟨RX3, "addRead", "(I)V"⟩
abbrev cX3_addWrite : ByteArray := prog_5_method_8_code
def yX3_addWrite : MethodName := ⟨RX3, "addWrite", "(IJ)V"⟩
abbrev cX3_readsOneThatIsIn : ByteArray := prog_5_method_9_code
def yX3_readsOneThatIsIn : MethodName := ⟨RX3, "readsOneThatIsIn", "(LAtomicRuntime$Log;)Z"⟩
def RX4 : String := "AtomicRuntime$Op"
def TX4 : u_T := fun k => match k with
  | _ => ("", "", "", false)
def tyX4 : Nat → FieldType := fun k => match k with
  | _ => .int
theorem nmX4 : ∀ a, a < 0 → ∀ b, b < 0 → a ≠ b → (TX4 a).2.1 ≠ (TX4 b).2.1 := by decide +kernel
theorem tyX4_ok : ∀ k, k < 0 → parseFieldDescriptor (TX4 k).2.2.1 = some (tyX4 k) := by decide +kernel
def RX5 : String := "AtomicRuntime$Printout"
def TX5 : u_T := fun k => match k with
  | 0 => ("AtomicRuntime$Printout", "numbers", "[I", true)
  | 1 => ("AtomicRuntime$Printout", "oldest", "I", false)
  | _ => ("AtomicRuntime$Printout", "kept", "I", false)
def tyX5 : Nat → FieldType := fun k => match k with
  | 0 => .array .int
  | 1 => .int
  | _ => .int
theorem nmX5 : ∀ a, a < 3 → ∀ b, b < 3 → a ≠ b → (TX5 a).2.1 ≠ (TX5 b).2.1 := by decide +kernel
theorem tyX5_ok : ∀ k, k < 3 → parseFieldDescriptor (TX5 k).2.2.1 = some (tyX5 k) := by decide +kernel
abbrev cX5_init : ByteArray := prog_7_method_1_code
def yX5_init : MethodName := ⟨RX5, "<init>", "()V"⟩
abbrev cX5_append : ByteArray := prog_7_method_2_code
def yX5_append : MethodName := ⟨RX5, "append", "(I)V"⟩
abbrev cX5_numberAt : ByteArray := prog_7_method_3_code
def yX5_numberAt : MethodName := ⟨RX5, "numberAt", "(I)I"⟩
def RX6 : String := "AtomicRuntime$Strand"
def TX6 : u_T := fun k => match k with
  | 0 => ("AtomicRuntime$Strand", "registers", "[J", true)
  | 1 => ("AtomicRuntime$Strand", "returns", "[I", true)
  | 2 => ("AtomicRuntime$Strand", "nestSorts", "[I", true)
  | 3 => ("AtomicRuntime$Strand", "nestAlts", "[I", true)
  | 4 => ("AtomicRuntime$Strand", "nestCalls", "[I", true)
  | 5 => ("AtomicRuntime$Strand", "nestWrites", "[I", true)
  | 6 => ("AtomicRuntime$Strand", "nestRegisters", "[J", true)
  | 7 => ("AtomicRuntime$Strand", "log", "LAtomicRuntime$Log;", true)
  | 8 => ("AtomicRuntime$Strand", "state", "I", false)
  | 9 => ("AtomicRuntime$Strand", "code", "I", false)
  | 10 => ("AtomicRuntime$Strand", "pc", "I", false)
  | 11 => ("AtomicRuntime$Strand", "calls", "I", false)
  | 12 => ("AtomicRuntime$Strand", "nests", "I", false)
  | _ => ("AtomicRuntime$Strand", "atomic", "I", false)
def tyX6 : Nat → FieldType := fun k => match k with
  | 0 => .array .long
  | 1 => .array .int
  | 2 => .array .int
  | 3 => .array .int
  | 4 => .array .int
  | 5 => .array .int
  | 6 => .array .long
  | 7 => .object "AtomicRuntime$Log"
  | 8 => .int
  | 9 => .int
  | 10 => .int
  | 11 => .int
  | 12 => .int
  | _ => .int
theorem nmX6 : ∀ a, a < 14 → ∀ b, b < 14 → a ≠ b → (TX6 a).2.1 ≠ (TX6 b).2.1 := by decide +kernel
theorem tyX6_ok : ∀ k, k < 14 → parseFieldDescriptor (TX6 k).2.2.1 = some (tyX6 k) := by decide +kernel
abbrev cX6_init : ByteArray := prog_8_method_1_code
def yX6_init : MethodName := ⟨RX6, "<init>", "(I)V"⟩
abbrev cX6_isInTransaction : ByteArray := prog_8_method_2_code
def yX6_isInTransaction : MethodName := ⟨RX6, "isInTransaction", "()Z"⟩
abbrev cX6_callsOfInnermostNest : ByteArray := prog_8_method_3_code
def yX6_callsOfInnermostNest : MethodName := ⟨RX6, "callsOfInnermostNest", "()I"⟩
abbrev cX6_enter : ByteArray := prog_8_method_4_code
def yX6_enter : MethodName := ⟨RX6, "enter", "(I)V"⟩
abbrev cX6_leave : ByteArray := prog_8_method_5_code
def yX6_leave : MethodName := ⟨RX6, "leave", "()V"⟩
abbrev cX6_openNest : ByteArray := prog_8_method_6_code
def yX6_openNest : MethodName := ⟨RX6, "openNest", "(II)V"⟩
abbrev cX6_dropNestsTo : ByteArray := prog_8_method_7_code
def yX6_dropNestsTo : MethodName := ⟨RX6, "dropNestsTo", "(I)V"⟩
abbrev cX6_restore : ByteArray := prog_8_method_8_code
def yX6_restore : MethodName := ⟨RX6, "restore", "(I)V"⟩
abbrev cX6_rollBackTo : ByteArray := prog_8_method_9_code
def yX6_rollBackTo : MethodName := ⟨RX6, "rollBackTo", "(I)V"⟩
abbrev cX6_beginAgain : ByteArray := prog_8_method_10_code
def yX6_beginAgain : MethodName := ⟨RX6, "beginAgain", "(I)V"⟩
abbrev cX6_fail : ByteArray := prog_8_method_11_code
def yX6_fail : MethodName := ⟨RX6, "fail", "(I)V"⟩
abbrev cX6_registersKept : ByteArray := prog_8_method_12_code
def yX6_registersKept : MethodName := ⟨RX6, "registersKept", "()I"⟩
abbrev cX6_forgetPlacesFrom : ByteArray := prog_8_method_13_code
def yX6_forgetPlacesFrom : MethodName := ⟨RX6, "forgetPlacesFrom", "(I)V"⟩
def RX7 : String := "AtomicRuntime"
def TX7 : u_T := fun k => match k with
  | 0 => ("AtomicRuntime", "program", "Ljava/util/ArrayList;", true)
  | 1 => ("AtomicRuntime", "strands", "Ljava/util/ArrayList;", true)
  | 2 => ("AtomicRuntime", "globals", "[J", true)
  | 3 => ("AtomicRuntime", "heap", "LAtomicRuntime$Heap;", true)
  | 4 => ("AtomicRuntime", "printout", "LAtomicRuntime$Printout;", true)
  | 5 => ("AtomicRuntime", "clock", "I", false)
  | 6 => ("AtomicRuntime", "aborts", "I", false)
  | 7 => ("AtomicRuntime", "collections", "I", false)
  | _ => ("AtomicRuntime", "steps", "I", false)
def tyX7 : Nat → FieldType := fun k => match k with
  | 0 => .object "java/util/ArrayList"
  | 1 => .object "java/util/ArrayList"
  | 2 => .array .long
  | 3 => .object "AtomicRuntime$Heap"
  | 4 => .object "AtomicRuntime$Printout"
  | 5 => .int
  | 6 => .int
  | 7 => .int
  | _ => .int
theorem nmX7 : ∀ a, a < 9 → ∀ b, b < 9 → a ≠ b → (TX7 a).2.1 ≠ (TX7 b).2.1 := by decide +kernel
theorem tyX7_ok : ∀ k, k < 9 → parseFieldDescriptor (TX7 k).2.2.1 = some (tyX7 k) := by decide +kernel
abbrev cX7_init : ByteArray := prog_1_method_1_code
def yX7_init : MethodName := ⟨RX7, "<init>", "()V"⟩
abbrev cX7_put : ByteArray := prog_1_method_2_code
def yX7_put : MethodName := ⟨RX7, "put", "(IIII)I"⟩
abbrev cX7_run : ByteArray := prog_1_method_3_code
def yX7_run : MethodName := ⟨RX7, "run", "(II)I"⟩
abbrev cX7_turn : ByteArray := prog_1_method_4_code
def yX7_turn : MethodName := ⟨RX7, "turn", "(I)I"⟩
abbrev cX7_thread : ByteArray := prog_1_method_5_code
def yX7_thread : MethodName := ⟨RX7, "thread", "(II)I"⟩
abbrev cX7_register : ByteArray := prog_1_method_6_code
def yX7_register : MethodName := ⟨RX7, "register", "(II)J"⟩
abbrev cX7_global : ByteArray := prog_1_method_7_code
def yX7_global : MethodName := ⟨RX7, "global", "(I)J"⟩
abbrev cX7_place : ByteArray := prog_1_method_8_code
def yX7_place : MethodName := ⟨RX7, "place", "(II)J"⟩
abbrev cX7_output : ByteArray := prog_1_method_9_code
def yX7_output : MethodName := ⟨RX7, "output", "(I)I"⟩
abbrev cX7_collect : ByteArray := prog_1_method_10_code
def yX7_collect : MethodName := ⟨RX7, "collect", "()I"⟩
abbrev cX7_count : ByteArray := prog_1_method_11_code
def yX7_count : MethodName := ⟨RX7, "count", "(I)I"⟩
abbrev cX7_isDeadlocked : ByteArray := prog_1_method_12_code
def yX7_isDeadlocked : MethodName := ⟨RX7, "isDeadlocked", "()Z"⟩
abbrev cX7_sortOf : ByteArray := prog_1_method_13_code
def yX7_sortOf : MethodName := ⟨RX7, "sortOf", "(J)I"⟩
abbrev cX7_placeOf : ByteArray := prog_1_method_14_code
def yX7_placeOf : MethodName := ⟨RX7, "placeOf", "(J)I"⟩
abbrev cX7_step : ByteArray := prog_1_method_15_code
def yX7_step : MethodName := ⟨RX7, "step", "(LAtomicRuntime$Strand;)V"⟩
abbrev cX7_perform : ByteArray := prog_1_method_16_code
def yX7_perform : MethodName := ⟨RX7, "perform", "(LAtomicRuntime$Strand;LAtomicRuntime$Instruction;)I"⟩
abbrev cX7_faultBefore : ByteArray := prog_1_method_17_code
def yX7_faultBefore : MethodName := ⟨RX7, "faultBefore", "(LAtomicRuntime$Strand;LAtomicRuntime$Instruction;)I"⟩
abbrev cX7_operandsFit : ByteArray := prog_1_method_18_code
def yX7_operandsFit : MethodName := ⟨RX7, "operandsFit", "(LAtomicRuntime$Strand;LAtomicRuntime$Op;LAtomicRuntime$Instruction;)Z"⟩
abbrev cX7_operandFits : ByteArray := prog_1_method_19_code
def yX7_operandFits : MethodName := ⟨RX7, "operandFits", "(LAtomicRuntime$Strand;CI)Z"⟩
abbrev cX7_nestsFit : ByteArray := prog_1_method_20_code
def yX7_nestsFit : MethodName := ⟨RX7, "nestsFit", "(LAtomicRuntime$Strand;LAtomicRuntime$Op;)Z"⟩
abbrev cX7_callsFit : ByteArray := prog_1_method_21_code
def yX7_callsFit : MethodName := ⟨RX7, "callsFit", "(LAtomicRuntime$Strand;LAtomicRuntime$Op;)Z"⟩
abbrev cX7_performPlainly : ByteArray := prog_1_method_22_code
def yX7_performPlainly : MethodName := ⟨RX7, "performPlainly", "(LAtomicRuntime$Strand;LAtomicRuntime$Op;LAtomicRuntime$Instruction;)V"⟩
abbrev cX7_openOrEnd : ByteArray := prog_1_method_23_code
def yX7_openOrEnd : MethodName := ⟨RX7, "openOrEnd", "(LAtomicRuntime$Strand;LAtomicRuntime$Op;I)V"⟩
abbrev cX7_fork : ByteArray := prog_1_method_24_code
def yX7_fork : MethodName := ⟨RX7, "fork", "(LAtomicRuntime$Strand;II)V"⟩
abbrev cX7_readVar : ByteArray := prog_1_method_25_code
def yX7_readVar : MethodName := ⟨RX7, "readVar", "(LAtomicRuntime$Strand;II)I"⟩
abbrev cX7_writeVar : ByteArray := prog_1_method_26_code
def yX7_writeVar : MethodName := ⟨RX7, "writeVar", "(LAtomicRuntime$Strand;II)I"⟩
abbrev cX7_abort : ByteArray := prog_1_method_27_code
def yX7_abort : MethodName := ⟨RX7, "abort", "(LAtomicRuntime$Strand;)V"⟩
abbrev cX7_commit : ByteArray := prog_1_method_28_code
def yX7_commit : MethodName := ⟨RX7, "commit", "(LAtomicRuntime$Strand;)V"⟩
abbrev cX7_wakeReadersOf : ByteArray := prog_1_method_29_code
def yX7_wakeReadersOf : MethodName := ⟨RX7, "wakeReadersOf", "(LAtomicRuntime$Log;)V"⟩
abbrev cX7_retry : ByteArray := prog_1_method_30_code
def yX7_retry : MethodName := ⟨RX7, "retry", "(LAtomicRuntime$Strand;)V"⟩
abbrev cX7_raise : ByteArray := prog_1_method_31_code
def yX7_raise : MethodName := ⟨RX7, "raise", "(LAtomicRuntime$Strand;I)V"⟩
abbrev cX7_markAndSlide : ByteArray := prog_1_method_32_code
def yX7_markAndSlide : MethodName := ⟨RX7, "markAndSlide", "()V"⟩
abbrev cX7_reachFrom : ByteArray := prog_1_method_33_code
def yX7_reachFrom : MethodName := ⟨RX7, "reachFrom", "(LAtomicRuntime$Strand;)V"⟩
abbrev cX7_followIn : ByteArray := prog_1_method_34_code
def yX7_followIn : MethodName := ⟨RX7, "followIn", "(LAtomicRuntime$Strand;)V"⟩
def RX8 : String := "AtomicRuntimeModel$Task"
def TX8 : u_T := fun k => match k with
  | 0 => ("AtomicRuntimeModel$Task", "state", "I", false)
  | 1 => ("AtomicRuntimeModel$Task", "code", "I", false)
  | 2 => ("AtomicRuntimeModel$Task", "pc", "I", false)
  | 3 => ("AtomicRuntimeModel$Task", "calls", "I", false)
  | 4 => ("AtomicRuntimeModel$Task", "nests", "I", false)
  | 5 => ("AtomicRuntimeModel$Task", "reads", "I", false)
  | 6 => ("AtomicRuntimeModel$Task", "writes", "I", false)
  | 7 => ("AtomicRuntimeModel$Task", "start", "I", false)
  | 8 => ("AtomicRuntimeModel$Task", "register", "[J", true)
  | 9 => ("AtomicRuntimeModel$Task", "saved", "[J", true)
  | 10 => ("AtomicRuntimeModel$Task", "back", "[I", true)
  | 11 => ("AtomicRuntimeModel$Task", "sort", "[I", true)
  | 12 => ("AtomicRuntimeModel$Task", "alt", "[I", true)
  | 13 => ("AtomicRuntimeModel$Task", "callsThen", "[I", true)
  | 14 => ("AtomicRuntimeModel$Task", "writesThen", "[I", true)
  | 15 => ("AtomicRuntimeModel$Task", "read", "[J", true)
  | 16 => ("AtomicRuntimeModel$Task", "written", "[J", true)
  | _ => ("AtomicRuntimeModel$Task", "value", "[J", true)
def tyX8 : Nat → FieldType := fun k => match k with
  | 0 => .int
  | 1 => .int
  | 2 => .int
  | 3 => .int
  | 4 => .int
  | 5 => .int
  | 6 => .int
  | 7 => .int
  | 8 => .array .long
  | 9 => .array .long
  | 10 => .array .int
  | 11 => .array .int
  | 12 => .array .int
  | 13 => .array .int
  | 14 => .array .int
  | 15 => .array .long
  | 16 => .array .long
  | _ => .array .long
theorem nmX8 : ∀ a, a < 18 → ∀ b, b < 18 → a ≠ b → (TX8 a).2.1 ≠ (TX8 b).2.1 := by decide +kernel
theorem tyX8_ok : ∀ k, k < 18 → parseFieldDescriptor (TX8 k).2.2.1 = some (tyX8 k) := by decide +kernel
abbrev cX8_init : ByteArray := prog_11_method_1_code
def yX8_init : MethodName := ⟨RX8, "<init>", "()V"⟩
abbrev cX8_atomic : ByteArray := prog_11_method_2_code
def yX8_atomic : MethodName := ⟨RX8, "atomic", "()I"⟩
abbrev cX8_nest : ByteArray := prog_11_method_3_code
def yX8_nest : MethodName := ⟨RX8, "nest", "(II)V"⟩
abbrev cX8_restore : ByteArray := prog_11_method_4_code
def yX8_restore : MethodName := ⟨RX8, "restore", "(I)V"⟩
abbrev cX8_rollBack : ByteArray := prog_11_method_5_code
def yX8_rollBack : MethodName := ⟨RX8, "rollBack", "(I)V"⟩
abbrev cX8_again : ByteArray := prog_11_method_6_code
def yX8_again : MethodName := ⟨RX8, "again", "(I)V"⟩
abbrev cX8_end : ByteArray := prog_11_method_7_code
def yX8_end : MethodName := ⟨RX8, "end", "(II)V"⟩
abbrev cX8_hasRead : ByteArray := prog_11_method_8_code
def yX8_hasRead : MethodName := ⟨RX8, "hasRead", "(J)Z"⟩
def RX9 : String := "AtomicRuntimeModel"
def TX9 : u_T := fun k => match k with
  | 0 => ("AtomicRuntimeModel", "thrown", "I", false)
  | 1 => ("AtomicRuntimeModel", "size", "I", false)
  | 2 => ("AtomicRuntimeModel", "tasks", "I", false)
  | 3 => ("AtomicRuntimeModel", "used", "I", false)
  | 4 => ("AtomicRuntimeModel", "clock", "I", false)
  | 5 => ("AtomicRuntimeModel", "aborts", "I", false)
  | 6 => ("AtomicRuntimeModel", "collections", "I", false)
  | 7 => ("AtomicRuntimeModel", "steps", "I", false)
  | 8 => ("AtomicRuntimeModel", "printed", "I", false)
  | 9 => ("AtomicRuntimeModel", "op", "[I", true)
  | 10 => ("AtomicRuntimeModel", "a", "[I", true)
  | 11 => ("AtomicRuntimeModel", "b", "[I", true)
  | 12 => ("AtomicRuntimeModel", "c", "[I", true)
  | 13 => ("AtomicRuntimeModel", "task", "[LAtomicRuntimeModel$Task;", true)
  | 14 => ("AtomicRuntimeModel", "global", "[J", true)
  | 15 => ("AtomicRuntimeModel", "first", "[J", true)
  | 16 => ("AtomicRuntimeModel", "second", "[J", true)
  | 17 => ("AtomicRuntimeModel", "pair", "[Z", true)
  | 18 => ("AtomicRuntimeModel", "kept", "[Z", true)
  | 19 => ("AtomicRuntimeModel", "version", "[I", true)
  | 20 => ("AtomicRuntimeModel", "to", "[I", true)
  | _ => ("AtomicRuntimeModel", "output", "[I", true)
def tyX9 : Nat → FieldType := fun k => match k with
  | 0 => .int
  | 1 => .int
  | 2 => .int
  | 3 => .int
  | 4 => .int
  | 5 => .int
  | 6 => .int
  | 7 => .int
  | 8 => .int
  | 9 => .array .int
  | 10 => .array .int
  | 11 => .array .int
  | 12 => .array .int
  | 13 => .array (.object "AtomicRuntimeModel$Task")
  | 14 => .array .long
  | 15 => .array .long
  | 16 => .array .long
  | 17 => .array .boolean
  | 18 => .array .boolean
  | 19 => .array .int
  | 20 => .array .int
  | _ => .array .int
theorem nmX9 : ∀ a, a < 22 → ∀ b, b < 22 → a ≠ b → (TX9 a).2.1 ≠ (TX9 b).2.1 := by decide +kernel
theorem tyX9_ok : ∀ k, k < 22 → parseFieldDescriptor (TX9 k).2.2.1 = some (tyX9 k) := by decide +kernel
abbrev cX9_init : ByteArray := prog_10_method_1_code
def yX9_init : MethodName := ⟨RX9, "<init>", "()V"⟩
abbrev cX9_thrown : ByteArray := prog_10_method_2_code
def yX9_thrown : MethodName := ⟨RX9, "thrown", "()I"⟩
abbrev cX9_fail : ByteArray := prog_10_method_3_code
def yX9_fail : MethodName := ⟨RX9, "fail", "(I)I"⟩
abbrev cX9_isInt : ByteArray := prog_10_method_4_code
def yX9_isInt : MethodName := ⟨RX9, "isInt", "(J)Z"⟩
abbrev cX9_isPair : ByteArray := prog_10_method_5_code
def yX9_isPair : MethodName := ⟨RX9, "isPair", "(J)Z"⟩
abbrev cX9_isVar : ByteArray := prog_10_method_6_code
def yX9_isVar : MethodName := ⟨RX9, "isVar", "(J)Z"⟩
abbrev cX9_place : ByteArray := prog_10_method_7_code
def yX9_place : MethodName := ⟨RX9, "place", "(J)I"⟩
abbrev cX9_noRegister : ByteArray := prog_10_method_8_code
def yX9_noRegister : MethodName := ⟨RX9, "noRegister", "(I)Z"⟩
abbrev cX9_noGlobal : ByteArray := prog_10_method_9_code
def yX9_noGlobal : MethodName := ⟨RX9, "noGlobal", "(I)Z"⟩
abbrev cX9_step : ByteArray := prog_10_method_10_code
def yX9_step : MethodName := ⟨RX9, "step", "(LAtomicRuntimeModel$Task;)V"⟩
abbrev cX9_known : ByteArray := prog_10_method_11_code
def yX9_known : MethodName := ⟨RX9, "known", "(LAtomicRuntimeModel$Task;IIII)I"⟩
abbrev cX9_wrong : ByteArray := prog_10_method_12_code
def yX9_wrong : MethodName := ⟨RX9, "wrong", "(LAtomicRuntimeModel$Task;IIII)Z"⟩
abbrev cX9_plain : ByteArray := prog_10_method_13_code
def yX9_plain : MethodName := ⟨RX9, "plain", "(LAtomicRuntimeModel$Task;IIII)I"⟩
abbrev cX9_made : ByteArray := prog_10_method_14_code
def yX9_made : MethodName := ⟨RX9, "made", "(LAtomicRuntimeModel$Task;ZIII)I"⟩
abbrev cX9_valid : ByteArray := prog_10_method_15_code
def yX9_valid : MethodName := ⟨RX9, "valid", "(LAtomicRuntimeModel$Task;)Z"⟩
abbrev cX9_aborted : ByteArray := prog_10_method_16_code
def yX9_aborted : MethodName := ⟨RX9, "aborted", "(LAtomicRuntimeModel$Task;)I"⟩
abbrev cX9_guarded : ByteArray := prog_10_method_17_code
def yX9_guarded : MethodName := ⟨RX9, "guarded", "(LAtomicRuntimeModel$Task;III)I"⟩
abbrev cX9_reading : ByteArray := prog_10_method_18_code
def yX9_reading : MethodName := ⟨RX9, "reading", "(LAtomicRuntimeModel$Task;IJ)I"⟩
abbrev cX9_committed : ByteArray := prog_10_method_19_code
def yX9_committed : MethodName := ⟨RX9, "committed", "(LAtomicRuntimeModel$Task;)I"⟩
abbrev cX9_retried : ByteArray := prog_10_method_20_code
def yX9_retried : MethodName := ⟨RX9, "retried", "(LAtomicRuntimeModel$Task;)I"⟩
abbrev cX9_thrownUp : ByteArray := prog_10_method_21_code
def yX9_thrownUp : MethodName := ⟨RX9, "thrownUp", "(LAtomicRuntimeModel$Task;I)I"⟩
abbrev cX9_outer : ByteArray := prog_10_method_22_code
def yX9_outer : MethodName := ⟨RX9, "outer", "(LAtomicRuntimeModel$Task;III)I"⟩
abbrev cX9_reach : ByteArray := prog_10_method_23_code
def yX9_reach : MethodName := ⟨RX9, "reach", "(J)Z"⟩
abbrev cX9_reachRow : ByteArray := prog_10_method_24_code
def yX9_reachRow : MethodName := ⟨RX9, "reachRow", "([JI)Z"⟩
abbrev cX9_moved : ByteArray := prog_10_method_25_code
def yX9_moved : MethodName := ⟨RX9, "moved", "(J)J"⟩
abbrev cX9_moveRow : ByteArray := prog_10_method_26_code
def yX9_moveRow : MethodName := ⟨RX9, "moveRow", "([JI)V"⟩
abbrev cX9_gather : ByteArray := prog_10_method_27_code
def yX9_gather : MethodName := ⟨RX9, "gather", "()V"⟩
abbrev cX9_slide : ByteArray := prog_10_method_28_code
def yX9_slide : MethodName := ⟨RX9, "slide", "()V"⟩
abbrev cX9_put : ByteArray := prog_10_method_29_code
def yX9_put : MethodName := ⟨RX9, "put", "(IIII)I"⟩
abbrev cX9_noTask : ByteArray := prog_10_method_30_code
def yX9_noTask : MethodName := ⟨RX9, "noTask", "(I)Z"⟩
abbrev cX9_run : ByteArray := prog_10_method_31_code
def yX9_run : MethodName := ⟨RX9, "run", "(II)I"⟩
abbrev cX9_turn : ByteArray := prog_10_method_32_code
def yX9_turn : MethodName := ⟨RX9, "turn", "(I)I"⟩
abbrev cX9_thread : ByteArray := prog_10_method_33_code
def yX9_thread : MethodName := ⟨RX9, "thread", "(II)I"⟩
abbrev cX9_register : ByteArray := prog_10_method_34_code
def yX9_register : MethodName := ⟨RX9, "register", "(II)J"⟩
abbrev cX9_global : ByteArray := prog_10_method_35_code
def yX9_global : MethodName := ⟨RX9, "global", "(I)J"⟩
abbrev cX9_place_ : ByteArray := prog_10_method_36_code
def yX9_place_ : MethodName := ⟨RX9, "place", "(II)J"⟩
abbrev cX9_output : ByteArray := prog_10_method_37_code
def yX9_output : MethodName := ⟨RX9, "output", "(I)I"⟩
abbrev cX9_collect : ByteArray := prog_10_method_38_code
def yX9_collect : MethodName := ⟨RX9, "collect", "()I"⟩
abbrev cX9_count : ByteArray := prog_10_method_39_code
def yX9_count : MethodName := ⟨RX9, "count", "(I)I"⟩
def RJx145de : String := "java/io/Serializable"
def TJx145de : u_T := fun k => match k with
  | _ => ("", "", "", false)
def tyJx145de : Nat → FieldType := fun k => match k with
  | _ => .int
theorem nmJx145de : ∀ a, a < 0 → ∀ b, b < 0 → a ≠ b → (TJx145de a).2.1 ≠ (TJx145de b).2.1 := by decide +kernel
theorem tyJx145de_ok : ∀ k, k < 0 → parseFieldDescriptor (TJx145de k).2.2.1 = some (tyJx145de k) := by decide +kernel
def RJx9f9b0 : String := "java/lang/CharSequence"
def TJx9f9b0 : u_T := fun k => match k with
  | _ => ("", "", "", false)
def tyJx9f9b0 : Nat → FieldType := fun k => match k with
  | _ => .int
theorem nmJx9f9b0 : ∀ a, a < 0 → ∀ b, b < 0 → a ≠ b → (TJx9f9b0 a).2.1 ≠ (TJx9f9b0 b).2.1 := by decide +kernel
theorem tyJx9f9b0_ok : ∀ k, k < 0 → parseFieldDescriptor (TJx9f9b0 k).2.2.1 = some (tyJx9f9b0 k) := by decide +kernel
def RJx8e188 : String := "java/lang/Cloneable"
def TJx8e188 : u_T := fun k => match k with
  | _ => ("", "", "", false)
def tyJx8e188 : Nat → FieldType := fun k => match k with
  | _ => .int
theorem nmJx8e188 : ∀ a, a < 0 → ∀ b, b < 0 → a ≠ b → (TJx8e188 a).2.1 ≠ (TJx8e188 b).2.1 := by decide +kernel
theorem tyJx8e188_ok : ∀ k, k < 0 → parseFieldDescriptor (TJx8e188 k).2.2.1 = some (tyJx8e188 k) := by decide +kernel
def RJxb160c : String := "java/lang/Comparable"
def TJxb160c : u_T := fun k => match k with
  | _ => ("", "", "", false)
def tyJxb160c : Nat → FieldType := fun k => match k with
  | _ => .int
theorem nmJxb160c : ∀ a, a < 0 → ∀ b, b < 0 → a ≠ b → (TJxb160c a).2.1 ≠ (TJxb160c b).2.1 := by decide +kernel
theorem tyJxb160c_ok : ∀ k, k < 0 → parseFieldDescriptor (TJxb160c k).2.2.1 = some (tyJxb160c k) := by decide +kernel
def RJx29ce0 : String := "java/lang/Enum"
def TJx29ce0 : u_T := fun k => match k with
  | _ => ("", "", "", false)
def tyJx29ce0 : Nat → FieldType := fun k => match k with
  | _ => .int
theorem nmJx29ce0 : ∀ a, a < 0 → ∀ b, b < 0 → a ≠ b → (TJx29ce0 a).2.1 ≠ (TJx29ce0 b).2.1 := by decide +kernel
theorem tyJx29ce0_ok : ∀ k, k < 0 → parseFieldDescriptor (TJx29ce0 k).2.2.1 = some (tyJx29ce0 k) := by decide +kernel
abbrev cJx29ce0_ordinal_8abf5 : ByteArray := prog_16_method_2_code
def yJx29ce0_ordinal_8abf5 : MethodName := ⟨RJx29ce0, "ordinal", "()I"⟩
def RJxab1ab : String := "java/lang/Iterable"
def TJxab1ab : u_T := fun k => match k with
  | _ => ("", "", "", false)
def tyJxab1ab : Nat → FieldType := fun k => match k with
  | _ => .int
theorem nmJxab1ab : ∀ a, a < 0 → ∀ b, b < 0 → a ≠ b → (TJxab1ab a).2.1 ≠ (TJxab1ab b).2.1 := by decide +kernel
theorem tyJxab1ab_ok : ∀ k, k < 0 → parseFieldDescriptor (TJxab1ab k).2.2.1 = some (tyJxab1ab k) := by decide +kernel
def RJ9 : String := "java/lang/Math"
def TJ9 : u_T := fun k => match k with
  | _ => ("", "", "", false)
def tyJ9 : Nat → FieldType := fun k => match k with
  | _ => .int
theorem nmJ9 : ∀ a, a < 0 → ∀ b, b < 0 → a ≠ b → (TJ9 a).2.1 ≠ (TJ9 b).2.1 := by decide +kernel
theorem tyJ9_ok : ∀ k, k < 0 → parseFieldDescriptor (TJ9 k).2.2.1 = some (tyJ9 k) := by decide +kernel
abbrev cJ9_max_7cf53 : ByteArray := prog_22_method_65_code
def yJ9_max_7cf53 : MethodName := ⟨RJ9, "max", "(II)I"⟩
abbrev cJ9_min_7cf53 : ByteArray := prog_22_method_69_code
def yJ9_min_7cf53 : MethodName := ⟨RJ9, "min", "(II)I"⟩
def RJ0 : String := "java/lang/String"
def TJ0 : u_T := fun k => match k with
  | _ => ("", "", "", false)
def tyJ0 : Nat → FieldType := fun k => match k with
  | _ => .int
theorem nmJ0 : ∀ a, a < 0 → ∀ b, b < 0 → a ≠ b → (TJ0 a).2.1 ≠ (TJ0 b).2.1 := by decide +kernel
theorem tyJ0_ok : ∀ k, k < 0 → parseFieldDescriptor (TJ0 k).2.2.1 = some (tyJ0 k) := by decide +kernel
abbrev cJ0_charAt_5068e : ByteArray := prog_24_method_56_code
def yJ0_charAt_5068e : MethodName := ⟨RJ0, "charAt", "(I)C"⟩
abbrev cJ0_isLatin1_aae02 : ByteArray := prog_24_method_154_code
def yJ0_isLatin1_aae02 : MethodName := ⟨RJ0, "isLatin1", "()Z"⟩
abbrev cJ0_checkIndex_df160 : ByteArray := prog_24_method_155_code
def yJ0_checkIndex_df160 : MethodName := ⟨RJ0, "checkIndex", "(II)V"⟩
def RJ1 : String := "java/lang/StringLatin1"
def TJ1 : u_T := fun k => match k with
  | _ => ("", "", "", false)
def tyJ1 : Nat → FieldType := fun k => match k with
  | _ => .int
theorem nmJ1 : ∀ a, a < 0 → ∀ b, b < 0 → a ≠ b → (TJ1 a).2.1 ≠ (TJ1 b).2.1 := by decide +kernel
theorem tyJ1_ok : ∀ k, k < 0 → parseFieldDescriptor (TJ1 k).2.2.1 = some (tyJ1 k) := by decide +kernel
abbrev cJ1_charAt_3b067 : ByteArray := prog_25_method_2_code
def yJ1_charAt_3b067 : MethodName := ⟨RJ1, "charAt", "([BI)C"⟩
def RJ2 : String := "java/lang/StringUTF16"
def TJ2 : u_T := fun k => match k with
  | _ => ("", "", "", false)
def tyJ2 : Nat → FieldType := fun k => match k with
  | _ => .int
theorem nmJ2 : ∀ a, a < 0 → ∀ b, b < 0 → a ≠ b → (TJ2 a).2.1 ≠ (TJ2 b).2.1 := by decide +kernel
theorem tyJ2_ok : ∀ k, k < 0 → parseFieldDescriptor (TJ2 k).2.2.1 = some (tyJ2 k) := by decide +kernel
abbrev cJ2_getChar_3b067 : ByteArray := prog_26_method_5_code
def yJ2_getChar_3b067 : MethodName := ⟨RJ2, "getChar", "([BI)C"⟩
abbrev cJ2_length_9d52b : ByteArray := prog_26_method_6_code
def yJ2_length_9d52b : MethodName := ⟨RJ2, "length", "([B)I"⟩
abbrev cJ2_charAt_3b067 : ByteArray := prog_26_method_83_code
def yJ2_charAt_3b067 : MethodName := ⟨RJ2, "charAt", "([BI)C"⟩
abbrev cJ2_checkIndex_2214a : ByteArray := prog_26_method_91_code
def yJ2_checkIndex_2214a : MethodName := ⟨RJ2, "checkIndex", "(I[B)V"⟩
def RJ10 : String := "java/lang/System"
def TJ10 : u_T := fun k => match k with
  | _ => ("", "", "", false)
def tyJ10 : Nat → FieldType := fun k => match k with
  | _ => .int
theorem nmJ10 : ∀ a, a < 0 → ∀ b, b < 0 → a ≠ b → (TJ10 a).2.1 ≠ (TJ10 b).2.1 := by decide +kernel
theorem tyJ10_ok : ∀ k, k < 0 → parseFieldDescriptor (TJ10 k).2.2.1 = some (tyJ10 k) := by decide +kernel
def RJxfd54e : String := "java/lang/constant/Constable"
def TJxfd54e : u_T := fun k => match k with
  | _ => ("", "", "", false)
def tyJxfd54e : Nat → FieldType := fun k => match k with
  | _ => .int
theorem nmJxfd54e : ∀ a, a < 0 → ∀ b, b < 0 → a ≠ b → (TJxfd54e a).2.1 ≠ (TJxfd54e b).2.1 := by decide +kernel
theorem tyJxfd54e_ok : ∀ k, k < 0 → parseFieldDescriptor (TJxfd54e k).2.2.1 = some (tyJxfd54e k) := by decide +kernel
def RJx3cf43 : String := "java/lang/constant/ConstantDesc"
def TJx3cf43 : u_T := fun k => match k with
  | _ => ("", "", "", false)
def tyJx3cf43 : Nat → FieldType := fun k => match k with
  | _ => .int
theorem nmJx3cf43 : ∀ a, a < 0 → ∀ b, b < 0 → a ≠ b → (TJx3cf43 a).2.1 ≠ (TJx3cf43 b).2.1 := by decide +kernel
theorem tyJx3cf43_ok : ∀ k, k < 0 → parseFieldDescriptor (TJx3cf43 k).2.2.1 = some (tyJx3cf43 k) := by decide +kernel
def RJxa1e45 : String := "java/util/AbstractCollection"
def TJxa1e45 : u_T := fun k => match k with
  | _ => ("", "", "", false)
def tyJxa1e45 : Nat → FieldType := fun k => match k with
  | _ => .int
theorem nmJxa1e45 : ∀ a, a < 0 → ∀ b, b < 0 → a ≠ b → (TJxa1e45 a).2.1 ≠ (TJxa1e45 b).2.1 := by decide +kernel
theorem tyJxa1e45_ok : ∀ k, k < 0 → parseFieldDescriptor (TJxa1e45 k).2.2.1 = some (tyJxa1e45 k) := by decide +kernel
abbrev cJxa1e45_init_da8c8 : ByteArray := prog_31_method_1_code
def yJxa1e45_init_da8c8 : MethodName := ⟨RJxa1e45, "<init>", "()V"⟩
def RJxc12de : String := "java/util/AbstractList"
def TJxc12de : u_T := fun k => match k with
  | _ => ("", "", "", false)
def tyJxc12de : Nat → FieldType := fun k => match k with
  | _ => .int
theorem nmJxc12de : ∀ a, a < 0 → ∀ b, b < 0 → a ≠ b → (TJxc12de a).2.1 ≠ (TJxc12de b).2.1 := by decide +kernel
theorem tyJxc12de_ok : ∀ k, k < 0 → parseFieldDescriptor (TJxc12de k).2.2.1 = some (tyJxc12de k) := by decide +kernel
abbrev cJxc12de_init_da8c8 : ByteArray := prog_32_method_1_code
def yJxc12de_init_da8c8 : MethodName := ⟨RJxc12de, "<init>", "()V"⟩
def RJx4a65c : String := "java/util/ArrayList"
def TJx4a65c : u_T := fun k => match k with
  | 0 => ("java/util/AbstractList", "modCount", "I", false)
  | 1 => ("java/util/ArrayList", "elementData", "[Ljava/lang/Object;", false)
  | _ => ("java/util/ArrayList", "size", "I", false)
def tyJx4a65c : Nat → FieldType := fun k => match k with
  | 0 => .int
  | 1 => .array (.object "java/lang/Object")
  | _ => .int
theorem nmJx4a65c : ∀ a, a < 3 → ∀ b, b < 3 → a ≠ b → (TJx4a65c a).2.1 ≠ (TJx4a65c b).2.1 := by decide +kernel
theorem tyJx4a65c_ok : ∀ k, k < 3 → parseFieldDescriptor (TJx4a65c k).2.2.1 = some (tyJx4a65c k) := by decide +kernel
abbrev cJx4a65c_init_da8c8 : ByteArray := prog_33_method_2_code
def yJx4a65c_init_da8c8 : MethodName := ⟨RJx4a65c, "<init>", "()V"⟩
abbrev cJx4a65c_grow_92f84 : ByteArray := prog_33_method_6_code
def yJx4a65c_grow_92f84 : MethodName := ⟨RJx4a65c, "grow", "(I)[Ljava/lang/Object;"⟩
abbrev cJx4a65c_grow_d5877 : ByteArray := prog_33_method_7_code
def yJx4a65c_grow_d5877 : MethodName := ⟨RJx4a65c, "grow", "()[Ljava/lang/Object;"⟩
abbrev cJx4a65c_size_8abf5 : ByteArray := prog_33_method_8_code
def yJx4a65c_size_8abf5 : MethodName := ⟨RJx4a65c, "size", "()I"⟩
abbrev cJx4a65c_elementData_915e3 : ByteArray := prog_33_method_18_code
def yJx4a65c_elementData_915e3 : MethodName := ⟨RJx4a65c, "elementData", "(I)Ljava/lang/Object;"⟩
abbrev cJx4a65c_get_915e3 : ByteArray := prog_33_method_20_code
def yJx4a65c_get_915e3 : MethodName := ⟨RJx4a65c, "get", "(I)Ljava/lang/Object;"⟩
abbrev cJx4a65c_add_72be8 : ByteArray := prog_33_method_24_code
def yJx4a65c_add_72be8 : MethodName := ⟨RJx4a65c, "add", "(Ljava/lang/Object;[Ljava/lang/Object;I)V"⟩
abbrev cJx4a65c_add_9ea2d : ByteArray := prog_33_method_25_code
def yJx4a65c_add_9ea2d : MethodName := ⟨RJx4a65c, "add", "(Ljava/lang/Object;)Z"⟩
def RJ7 : String := "java/util/Arrays"
def TJ7 : u_T := fun k => match k with
  | _ => ("", "", "", false)
def tyJ7 : Nat → FieldType := fun k => match k with
  | _ => .int
theorem nmJ7 : ∀ a, a < 0 → ∀ b, b < 0 → a ≠ b → (TJ7 a).2.1 ≠ (TJ7 b).2.1 := by decide +kernel
theorem tyJ7_ok : ∀ k, k < 0 → parseFieldDescriptor (TJ7 k).2.2.1 = some (tyJ7 k) := by decide +kernel
abbrev cJ7_fill_53178 : ByteArray := prog_34_method_103_code
def yJ7_fill_53178 : MethodName := ⟨RJ7, "fill", "([II)V"⟩
abbrev cJ7_copyOf_1904c : ByteArray := prog_34_method_119_code
def yJ7_copyOf_1904c : MethodName := ⟨RJ7, "copyOf", "([Ljava/lang/Object;I)[Ljava/lang/Object;"⟩
abbrev cJ7_copyOf_6403c : ByteArray := prog_34_method_120_code
def yJ7_copyOf_6403c : MethodName := ⟨RJ7, "copyOf", "([Ljava/lang/Object;ILjava/lang/Class;)[Ljava/lang/Object;"⟩
def RJx5ef63 : String := "java/util/Collection"
def TJx5ef63 : u_T := fun k => match k with
  | _ => ("", "", "", false)
def tyJx5ef63 : Nat → FieldType := fun k => match k with
  | _ => .int
theorem nmJx5ef63 : ∀ a, a < 0 → ∀ b, b < 0 → a ≠ b → (TJx5ef63 a).2.1 ≠ (TJx5ef63 b).2.1 := by decide +kernel
theorem tyJx5ef63_ok : ∀ k, k < 0 → parseFieldDescriptor (TJx5ef63 k).2.2.1 = some (tyJx5ef63 k) := by decide +kernel
def RJxbd725 : String := "java/util/List"
def TJxbd725 : u_T := fun k => match k with
  | _ => ("", "", "", false)
def tyJxbd725 : Nat → FieldType := fun k => match k with
  | _ => .int
theorem nmJxbd725 : ∀ a, a < 0 → ∀ b, b < 0 → a ≠ b → (TJxbd725 a).2.1 ≠ (TJxbd725 b).2.1 := by decide +kernel
theorem tyJxbd725_ok : ∀ k, k < 0 → parseFieldDescriptor (TJxbd725 k).2.2.1 = some (tyJxbd725 k) := by decide +kernel
def RJ15 : String := "java/util/Objects"
def TJ15 : u_T := fun k => match k with
  | _ => ("", "", "", false)
def tyJ15 : Nat → FieldType := fun k => match k with
  | _ => .int
theorem nmJ15 : ∀ a, a < 0 → ∀ b, b < 0 → a ≠ b → (TJ15 a).2.1 ≠ (TJ15 b).2.1 := by decide +kernel
theorem tyJ15_ok : ∀ k, k < 0 → parseFieldDescriptor (TJ15 k).2.2.1 = some (tyJ15 k) := by decide +kernel
abbrev cJ15_checkIndex_7cf53 : ByteArray := prog_38_method_17_code
def yJ15_checkIndex_7cf53 : MethodName := ⟨RJ15, "checkIndex", "(II)I"⟩
def RJxf0a74 : String := "java/util/RandomAccess"
def TJxf0a74 : u_T := fun k => match k with
  | _ => ("", "", "", false)
def tyJxf0a74 : Nat → FieldType := fun k => match k with
  | _ => .int
theorem nmJxf0a74 : ∀ a, a < 0 → ∀ b, b < 0 → a ≠ b → (TJxf0a74 a).2.1 ≠ (TJxf0a74 b).2.1 := by decide +kernel
theorem tyJxf0a74_ok : ∀ k, k < 0 → parseFieldDescriptor (TJxf0a74 k).2.2.1 = some (tyJxf0a74 k) := by decide +kernel
def RJxa66e6 : String := "java/util/SequencedCollection"
def TJxa66e6 : u_T := fun k => match k with
  | _ => ("", "", "", false)
def tyJxa66e6 : Nat → FieldType := fun k => match k with
  | _ => .int
theorem nmJxa66e6 : ∀ a, a < 0 → ∀ b, b < 0 → a ≠ b → (TJxa66e6 a).2.1 ≠ (TJxa66e6 b).2.1 := by decide +kernel
theorem tyJxa66e6_ok : ∀ k, k < 0 → parseFieldDescriptor (TJxa66e6 k).2.2.1 = some (tyJxa66e6 k) := by decide +kernel
def RJ8 : String := "jdk/internal/util/ArraysSupport"
def TJ8 : u_T := fun k => match k with
  | _ => ("", "", "", false)
def tyJ8 : Nat → FieldType := fun k => match k with
  | _ => .int
theorem nmJ8 : ∀ a, a < 0 → ∀ b, b < 0 → a ≠ b → (TJ8 a).2.1 ≠ (TJ8 b).2.1 := by decide +kernel
theorem tyJ8_ok : ∀ k, k < 0 → parseFieldDescriptor (TJ8 k).2.2.1 = some (tyJ8 k) := by decide +kernel
abbrev cJ8_newLength_cabcc : ByteArray := prog_41_method_27_code
def yJ8_newLength_cabcc : MethodName := ⟨RJ8, "newLength", "(III)I"⟩
abbrev cJ8_hugeLength_7cf53 : ByteArray := prog_41_method_28_code
def yJ8_hugeLength_7cf53 : MethodName := ⟨RJ8, "hugeLength", "(II)I"⟩
def RJ3 : String := "jdk/internal/util/Preconditions"
def TJ3 : u_T := fun k => match k with
  | _ => ("", "", "", false)
def tyJ3 : Nat → FieldType := fun k => match k with
  | _ => .int
theorem nmJ3 : ∀ a, a < 0 → ∀ b, b < 0 → a ≠ b → (TJ3 a).2.1 ≠ (TJ3 b).2.1 := by decide +kernel
theorem tyJ3_ok : ∀ k, k < 0 → parseFieldDescriptor (TJ3 k).2.2.1 = some (tyJ3 k) := by decide +kernel
abbrev cJ3_checkIndex_8e157 : ByteArray := prog_42_method_11_code
def yJ3_checkIndex_8e157 : MethodName := ⟨RJ3, "checkIndex", "(IILjava/util/function/BiFunction;)I"⟩
def RL : String := "AtomicRuntimeLaw"
abbrev cL_put : ByteArray := method_3_code
def yL_put : MethodName := ⟨RL, "put", "(LAtomicRuntime;IIII[J)I"⟩
abbrev cL_run : ByteArray := method_4_code
def yL_run : MethodName := ⟨RL, "run", "(LAtomicRuntime;II[J)I"⟩
abbrev cL_turn : ByteArray := method_5_code
def yL_turn : MethodName := ⟨RL, "turn", "(LAtomicRuntime;I[J)I"⟩
abbrev cL_thread : ByteArray := method_6_code
def yL_thread : MethodName := ⟨RL, "thread", "(LAtomicRuntime;II[J)I"⟩
abbrev cL_register : ByteArray := method_7_code
def yL_register : MethodName := ⟨RL, "register", "(LAtomicRuntime;II[J)I"⟩
abbrev cL_global : ByteArray := method_8_code
def yL_global : MethodName := ⟨RL, "global", "(LAtomicRuntime;I[J)I"⟩
abbrev cL_place : ByteArray := method_9_code
def yL_place : MethodName := ⟨RL, "place", "(LAtomicRuntime;II[J)I"⟩
abbrev cL_output : ByteArray := method_10_code
def yL_output : MethodName := ⟨RL, "output", "(LAtomicRuntime;I[J)I"⟩
abbrev cL_law : ByteArray := code
def yL_law : MethodName := ⟨RL, "law", "([I)Z"⟩
abbrev vwCl : List vw_C := [(RJx4a65c, TJx4a65c, 3), (RX1, TX1, 7), (RX2, TX2, 4), (RX3, TX3, 6), (RX5, TX5, 3), (RX6, TX6, 14), (RX7, TX7, 9), (RX8, TX8, 18), (RX9, TX9, 22)]
