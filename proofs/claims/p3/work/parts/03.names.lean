def RX0 : String := "OverflowGuards$Analysis"
def TX0 : u_T := fun k => match k with
  | 0 => ("OverflowGuards$Analysis", "cursor", "LOverflowGuards$Cursor;", true)
  | 1 => ("OverflowGuards$Analysis", "ended", "Z", false)
  | 2 => ("OverflowGuards$Analysis", "openChecks", "I", false)
  | 3 => ("OverflowGuards$Analysis", "low", "[J", true)
  | 4 => ("OverflowGuards$Analysis", "high", "[J", true)
  | 5 => ("OverflowGuards$Analysis", "negative", "I", false)
  | 6 => ("OverflowGuards$Analysis", "reached", "[Z", true)
  | 7 => ("OverflowGuards$Analysis", "canFail", "[Z", true)
  | 8 => ("OverflowGuards$Analysis", "resultLow", "[J", true)
  | 9 => ("OverflowGuards$Analysis", "resultHigh", "[J", true)
  | 10 => ("OverflowGuards$Analysis", "negativeAt", "[I", true)
  | 11 => ("OverflowGuards$Analysis", "newLow", "J", false)
  | _ => ("OverflowGuards$Analysis", "newHigh", "J", false)
def tyX0 : Nat → FieldType := fun k => match k with
  | 0 => .object "OverflowGuards$Cursor"
  | 1 => .boolean
  | 2 => .int
  | 3 => .array .long
  | 4 => .array .long
  | 5 => .int
  | 6 => .array .boolean
  | 7 => .array .boolean
  | 8 => .array .long
  | 9 => .array .long
  | 10 => .array .int
  | 11 => .long
  | _ => .long
theorem nmX0 : ∀ a, a < 13 → ∀ b, b < 13 → a ≠ b → (TX0 a).2.1 ≠ (TX0 b).2.1 := by decide +kernel
theorem tyX0_ok : ∀ k, k < 13 → parseFieldDescriptor (TX0 k).2.2.1 = some (tyX0 k) := by decide +kernel
abbrev cX0_init : ByteArray := prog_2_method_1_code
def yX0_init : MethodName := ⟨RX0, "<init>", "()V"⟩
abbrev cX0_go : ByteArray := prog_2_method_2_code
def yX0_go : MethodName := ⟨RX0, "go", "(LOverflowGuards$Program;LOverflowGuards$Inputs;)V"⟩
abbrev cX0_begin : ByteArray := prog_2_method_3_code
def yX0_begin : MethodName := ⟨RX0, "begin", "(LOverflowGuards$Inputs;)V"⟩
abbrev cX0_assign : ByteArray := prog_2_method_4_code
def yX0_assign : MethodName := ⟨RX0, "assign", "(IJJ)V"⟩
abbrev cX0_execute : ByteArray := prog_2_method_5_code
def yX0_execute : MethodName := ⟨RX0, "execute", "(LOverflowGuards$Program;I)V"⟩
abbrev cX0_compute : ByteArray := prog_2_method_6_code
def yX0_compute : MethodName := ⟨RX0, "compute", "(III)V"⟩
abbrev cX0_multiply : ByteArray := prog_2_method_7_code
def yX0_multiply : MethodName := ⟨RX0, "multiply", "(JJJJ)V"⟩
abbrev cX0_lowOf : ByteArray := prog_2_method_8_code
def yX0_lowOf : MethodName := ⟨RX0, "lowOf", "(I)J"⟩
abbrev cX0_highOf : ByteArray := prog_2_method_9_code
def yX0_highOf : MethodName := ⟨RX0, "highOf", "(I)J"⟩
abbrev cX0_note : ByteArray := prog_2_method_10_code
def yX0_note : MethodName := ⟨RX0, "note", "(I)V"⟩
abbrev cX0_finalLow : ByteArray := prog_2_method_11_code
def yX0_finalLow : MethodName := ⟨RX0, "finalLow", "(I)I"⟩
abbrev cX0_finalHigh : ByteArray := prog_2_method_12_code
def yX0_finalHigh : MethodName := ⟨RX0, "finalHigh", "(I)I"⟩
abbrev cX0_isNeverNegative : ByteArray := prog_2_method_13_code
def yX0_isNeverNegative : MethodName := ⟨RX0, "isNeverNegative", "(III)Z"⟩
def RX1 : String := "OverflowGuards$Cursor"
def TX1 : u_T := fun k => match k with
  | 0 => ("OverflowGuards$Cursor", "at", "I", false)
  | _ => ("OverflowGuards$Cursor", "roundsLeft", "[I", true)
def tyX1 : Nat → FieldType := fun k => match k with
  | 0 => .int
  | _ => .array .int
theorem nmX1 : ∀ a, a < 2 → ∀ b, b < 2 → a ≠ b → (TX1 a).2.1 ≠ (TX1 b).2.1 := by decide +kernel
theorem tyX1_ok : ∀ k, k < 2 → parseFieldDescriptor (TX1 k).2.2.1 = some (tyX1 k) := by decide +kernel
abbrev cX1_init : ByteArray := prog_3_method_1_code
def yX1_init : MethodName := ⟨RX1, "<init>", "()V"⟩
abbrev cX1_advance : ByteArray := prog_3_method_2_code
def yX1_advance : MethodName := ⟨RX1, "advance", "(LOverflowGuards$Program;)V"⟩
def RX2 : String := "OverflowGuards$History"
def TX2 : u_T := fun k => match k with
  | 0 => ("OverflowGuards$History", "saved", "I", false)
  | _ => ("OverflowGuards$History", "slots", "[LOverflowGuards$Situation;", true)
def tyX2 : Nat → FieldType := fun k => match k with
  | 0 => .int
  | _ => .array (.object "OverflowGuards$Situation")
theorem nmX2 : ∀ a, a < 2 → ∀ b, b < 2 → a ≠ b → (TX2 a).2.1 ≠ (TX2 b).2.1 := by decide +kernel
theorem tyX2_ok : ∀ k, k < 2 → parseFieldDescriptor (TX2 k).2.2.1 = some (tyX2 k) := by decide +kernel
abbrev cX2_init : ByteArray := prog_4_method_1_code
def yX2_init : MethodName := ⟨RX2, "<init>", "()V"⟩
abbrev cX2_save : ByteArray := prog_4_method_2_code
def yX2_save : MethodName := ⟨RX2, "save", "(LOverflowGuards$Situation;)V"⟩
abbrev cX2_dropOldest : ByteArray := prog_4_method_3_code
def yX2_dropOldest : MethodName := ⟨RX2, "dropOldest", "()V"⟩
abbrev cX2_restore : ByteArray := prog_4_method_4_code
def yX2_restore : MethodName := ⟨RX2, "restore", "(LOverflowGuards$Situation;)V"⟩
def RX3 : String := "OverflowGuards$Inputs"
def TX3 : u_T := fun k => match k with
  | 0 => ("OverflowGuards$Inputs", "low", "[I", true)
  | 1 => ("OverflowGuards$Inputs", "high", "[I", true)
  | _ => ("OverflowGuards$Inputs", "value", "[I", true)
def tyX3 : Nat → FieldType := fun k => match k with
  | 0 => .array .int
  | 1 => .array .int
  | _ => .array .int
theorem nmX3 : ∀ a, a < 3 → ∀ b, b < 3 → a ≠ b → (TX3 a).2.1 ≠ (TX3 b).2.1 := by decide +kernel
theorem tyX3_ok : ∀ k, k < 3 → parseFieldDescriptor (TX3 k).2.2.1 = some (tyX3 k) := by decide +kernel
abbrev cX3_init : ByteArray := prog_5_method_1_code
def yX3_init : MethodName := ⟨RX3, "<init>", "()V"⟩
abbrev cX3_copyFrom : ByteArray := prog_5_method_2_code
def yX3_copyFrom : MethodName := ⟨RX3, "copyFrom", "(LOverflowGuards$Inputs;)V"⟩
abbrev cX3_narrowTo : ByteArray := prog_5_method_3_code
def yX3_narrowTo : MethodName := ⟨RX3, "narrowTo", "(LOverflowGuards$Inputs;)V"⟩
abbrev cX3_limit : ByteArray := prog_5_method_4_code
def yX3_limit : MethodName := ⟨RX3, "limit", "(III)I"⟩
def RX4 : String := "OverflowGuards$Parser"
def TX4 : u_T := fun k => match k with
  | 0 => ("OverflowGuards$Parser", "text", "LOverflowGuards$Text;", true)
  | 1 => ("OverflowGuards$Parser", "program", "LOverflowGuards$Program;", true)
  | 2 => ("OverflowGuards$Parser", "at", "I", false)
  | 3 => ("OverflowGuards$Parser", "error", "I", false)
  | 4 => ("OverflowGuards$Parser", "depth", "I", false)
  | _ => ("OverflowGuards$Parser", "openLoop", "[I", true)
def tyX4 : Nat → FieldType := fun k => match k with
  | 0 => .object "OverflowGuards$Text"
  | 1 => .object "OverflowGuards$Program"
  | 2 => .int
  | 3 => .int
  | 4 => .int
  | _ => .array .int
theorem nmX4 : ∀ a, a < 6 → ∀ b, b < 6 → a ≠ b → (TX4 a).2.1 ≠ (TX4 b).2.1 := by decide +kernel
theorem tyX4_ok : ∀ k, k < 6 → parseFieldDescriptor (TX4 k).2.2.1 = some (tyX4 k) := by decide +kernel
abbrev cX4_init : ByteArray := prog_6_method_1_code
def yX4_init : MethodName := ⟨RX4, "<init>", "(LOverflowGuards$Text;LOverflowGuards$Program;)V"⟩
abbrev cX4_read : ByteArray := prog_6_method_2_code
def yX4_read : MethodName := ⟨RX4, "read", "()I"⟩
abbrev cX4_readStatement : ByteArray := prog_6_method_3_code
def yX4_readStatement : MethodName := ⟨RX4, "readStatement", "()V"⟩
abbrev cX4_readAssignment : ByteArray := prog_6_method_4_code
def yX4_readAssignment : MethodName := ⟨RX4, "readAssignment", "()V"⟩
abbrev cX4_readLoopBegin : ByteArray := prog_6_method_5_code
def yX4_readLoopBegin : MethodName := ⟨RX4, "readLoopBegin", "()V"⟩
abbrev cX4_readLoopEnd : ByteArray := prog_6_method_6_code
def yX4_readLoopEnd : MethodName := ⟨RX4, "readLoopEnd", "()V"⟩
abbrev cX4_readOperand : ByteArray := prog_6_method_7_code
def yX4_readOperand : MethodName := ⟨RX4, "readOperand", "()I"⟩
abbrev cX4_readNumber : ByteArray := prog_6_method_8_code
def yX4_readNumber : MethodName := ⟨RX4, "readNumber", "(I)I"⟩
abbrev cX4_take : ByteArray := prog_6_method_9_code
def yX4_take : MethodName := ⟨RX4, "take", "(C)Z"⟩
abbrev cX4_kindOf : ByteArray := prog_6_method_10_code
def yX4_kindOf : MethodName := ⟨RX4, "kindOf", "(I)I"⟩
abbrev cX4_isLetter : ByteArray := prog_6_method_11_code
def yX4_isLetter : MethodName := ⟨RX4, "isLetter", "(I)Z"⟩
abbrev cX4_isDigit : ByteArray := prog_6_method_12_code
def yX4_isDigit : MethodName := ⟨RX4, "isDigit", "(I)Z"⟩
def RX5 : String := "OverflowGuards$Plan"
def TX5 : u_T := fun k => match k with
  | 0 => ("OverflowGuards$Plan", "stateOf", "[I", true)
  | 1 => ("OverflowGuards$Plan", "cover", "[I", true)
  | _ => ("OverflowGuards$Plan", "coversOne", "[Z", true)
def tyX5 : Nat → FieldType := fun k => match k with
  | 0 => .array .int
  | 1 => .array .int
  | _ => .array .boolean
theorem nmX5 : ∀ a, a < 3 → ∀ b, b < 3 → a ≠ b → (TX5 a).2.1 ≠ (TX5 b).2.1 := by decide +kernel
theorem tyX5_ok : ∀ k, k < 3 → parseFieldDescriptor (TX5 k).2.2.1 = some (tyX5 k) := by decide +kernel
abbrev cX5_init : ByteArray := prog_7_method_1_code
def yX5_init : MethodName := ⟨RX5, "<init>", "()V"⟩
abbrev cX5_make : ByteArray := prog_7_method_2_code
def yX5_make : MethodName := ⟨RX5, "make", "(LOverflowGuards$Program;LOverflowGuards$Analysis;)V"⟩
abbrev cX5_findState : ByteArray := prog_7_method_3_code
def yX5_findState : MethodName := ⟨RX5, "findState", "(LOverflowGuards$Program;LOverflowGuards$Analysis;I)I"⟩
abbrev cX5_findCover : ByteArray := prog_7_method_4_code
def yX5_findCover : MethodName := ⟨RX5, "findCover", "(LOverflowGuards$Program;LOverflowGuards$Analysis;I)I"⟩
abbrev cX5_canCover : ByteArray := prog_7_method_5_code
def yX5_canCover : MethodName := ⟨RX5, "canCover", "(LOverflowGuards$Program;LOverflowGuards$Analysis;II)Z"⟩
abbrev cX5_standsBetween : ByteArray := prog_7_method_6_code
def yX5_standsBetween : MethodName := ⟨RX5, "standsBetween", "(LOverflowGuards$Program;LOverflowGuards$Analysis;II)Z"⟩
abbrev cX5_canMoveOut : ByteArray := prog_7_method_7_code
def yX5_canMoveOut : MethodName := ⟨RX5, "canMoveOut", "(LOverflowGuards$Program;I)Z"⟩
def RX6 : String := "OverflowGuards$Program"
def TX6 : u_T := fun k => match k with
  | 0 => ("OverflowGuards$Program", "count", "I", false)
  | 1 => ("OverflowGuards$Program", "kind", "[I", true)
  | 2 => ("OverflowGuards$Program", "target", "[I", true)
  | 3 => ("OverflowGuards$Program", "first", "[I", true)
  | 4 => ("OverflowGuards$Program", "second", "[I", true)
  | 5 => ("OverflowGuards$Program", "depth", "[I", true)
  | _ => ("OverflowGuards$Program", "partner", "[I", true)
def tyX6 : Nat → FieldType := fun k => match k with
  | 0 => .int
  | 1 => .array .int
  | 2 => .array .int
  | 3 => .array .int
  | 4 => .array .int
  | 5 => .array .int
  | _ => .array .int
theorem nmX6 : ∀ a, a < 7 → ∀ b, b < 7 → a ≠ b → (TX6 a).2.1 ≠ (TX6 b).2.1 := by decide +kernel
theorem tyX6_ok : ∀ k, k < 7 → parseFieldDescriptor (TX6 k).2.2.1 = some (tyX6 k) := by decide +kernel
abbrev cX6_init : ByteArray := prog_8_method_1_code
def yX6_init : MethodName := ⟨RX6, "<init>", "()V"⟩
abbrev cX6_copyFrom : ByteArray := prog_8_method_2_code
def yX6_copyFrom : MethodName := ⟨RX6, "copyFrom", "(LOverflowGuards$Program;)V"⟩
abbrev cX6_add : ByteArray := prog_8_method_3_code
def yX6_add : MethodName := ⟨RX6, "add", "(IIIII)V"⟩
abbrev cX6_pair : ByteArray := prog_8_method_4_code
def yX6_pair : MethodName := ⟨RX6, "pair", "(II)V"⟩
abbrev cX6_takeOut : ByteArray := prog_8_method_5_code
def yX6_takeOut : MethodName := ⟨RX6, "takeOut", "(I)V"⟩
abbrev cX6_isLoopEdge : ByteArray := prog_8_method_6_code
def yX6_isLoopEdge : MethodName := ⟨RX6, "isLoopEdge", "(I)Z"⟩
abbrev cX6_hasCheck : ByteArray := prog_8_method_7_code
def yX6_hasCheck : MethodName := ⟨RX6, "hasCheck", "(I)Z"⟩
abbrev cX6_assigns : ByteArray := prog_8_method_8_code
def yX6_assigns : MethodName := ⟨RX6, "assigns", "(II)Z"⟩
abbrev cX6_uses : ByteArray := prog_8_method_9_code
def yX6_uses : MethodName := ⟨RX6, "uses", "(II)Z"⟩
abbrev cX6_besides : ByteArray := prog_8_method_10_code
def yX6_besides : MethodName := ⟨RX6, "besides", "(II)I"⟩
abbrev cX6_innermostLoopOf : ByteArray := prog_8_method_11_code
def yX6_innermostLoopOf : MethodName := ⟨RX6, "innermostLoopOf", "(I)I"⟩
def RX7 : String := "OverflowGuards$Run"
def TX7 : u_T := fun k => match k with
  | 0 => ("OverflowGuards$Run", "cursor", "LOverflowGuards$Cursor;", true)
  | 1 => ("OverflowGuards$Run", "values", "[J", true)
  | 2 => ("OverflowGuards$Run", "failedAt", "I", false)
  | 3 => ("OverflowGuards$Run", "checksDone", "I", false)
  | 4 => ("OverflowGuards$Run", "completed", "I", false)
  | _ => ("OverflowGuards$Run", "checked", "[Z", true)
def tyX7 : Nat → FieldType := fun k => match k with
  | 0 => .object "OverflowGuards$Cursor"
  | 1 => .array .long
  | 2 => .int
  | 3 => .int
  | 4 => .int
  | _ => .array .boolean
theorem nmX7 : ∀ a, a < 6 → ∀ b, b < 6 → a ≠ b → (TX7 a).2.1 ≠ (TX7 b).2.1 := by decide +kernel
theorem tyX7_ok : ∀ k, k < 6 → parseFieldDescriptor (TX7 k).2.2.1 = some (tyX7 k) := by decide +kernel
abbrev cX7_init : ByteArray := prog_9_method_1_code
def yX7_init : MethodName := ⟨RX7, "<init>", "()V"⟩
abbrev cX7_goPlain : ByteArray := prog_9_method_2_code
def yX7_goPlain : MethodName := ⟨RX7, "goPlain", "(LOverflowGuards$Program;LOverflowGuards$Inputs;)V"⟩
abbrev cX7_goOptimized : ByteArray := prog_9_method_3_code
def yX7_goOptimized : MethodName := ⟨RX7, "goOptimized", "(LOverflowGuards$Program;LOverflowGuards$Inputs;LOverflowGuards$Plan;)V"⟩
abbrev cX7_begin : ByteArray := prog_9_method_4_code
def yX7_begin : MethodName := ⟨RX7, "begin", "(LOverflowGuards$Inputs;)V"⟩
abbrev cX7_isGoingOn : ByteArray := prog_9_method_5_code
def yX7_isGoingOn : MethodName := ⟨RX7, "isGoingOn", "(LOverflowGuards$Program;)Z"⟩
abbrev cX7_checkAhead : ByteArray := prog_9_method_6_code
def yX7_checkAhead : MethodName := ⟨RX7, "checkAhead", "(LOverflowGuards$Program;LOverflowGuards$Plan;I)V"⟩
abbrev cX7_execute : ByteArray := prog_9_method_7_code
def yX7_execute : MethodName := ⟨RX7, "execute", "(LOverflowGuards$Program;I)V"⟩
abbrev cX7_compute : ByteArray := prog_9_method_8_code
def yX7_compute : MethodName := ⟨RX7, "compute", "(III)J"⟩
abbrev cX7_valueOf : ByteArray := prog_9_method_9_code
def yX7_valueOf : MethodName := ⟨RX7, "valueOf", "(I)J"⟩
def RX8 : String := "OverflowGuards$Situation"
def TX8 : u_T := fun k => match k with
  | 0 => ("OverflowGuards$Situation", "program", "LOverflowGuards$Program;", true)
  | _ => ("OverflowGuards$Situation", "inputs", "LOverflowGuards$Inputs;", true)
def tyX8 : Nat → FieldType := fun k => match k with
  | 0 => .object "OverflowGuards$Program"
  | _ => .object "OverflowGuards$Inputs"
theorem nmX8 : ∀ a, a < 2 → ∀ b, b < 2 → a ≠ b → (TX8 a).2.1 ≠ (TX8 b).2.1 := by decide +kernel
theorem tyX8_ok : ∀ k, k < 2 → parseFieldDescriptor (TX8 k).2.2.1 = some (tyX8 k) := by decide +kernel
abbrev cX8_init : ByteArray := prog_10_method_1_code
def yX8_init : MethodName := ⟨RX8, "<init>", "()V"⟩
abbrev cX8_copyFrom : ByteArray := prog_10_method_2_code
def yX8_copyFrom : MethodName := ⟨RX8, "copyFrom", "(LOverflowGuards$Situation;)V"⟩
def RX9 : String := "OverflowGuards$Text"
def TX9 : u_T := fun k => match k with
  | 0 => ("OverflowGuards$Text", "bytes", "[I", true)
  | _ => ("OverflowGuards$Text", "length", "I", false)
def tyX9 : Nat → FieldType := fun k => match k with
  | 0 => .array .int
  | _ => .int
theorem nmX9 : ∀ a, a < 2 → ∀ b, b < 2 → a ≠ b → (TX9 a).2.1 ≠ (TX9 b).2.1 := by decide +kernel
theorem tyX9_ok : ∀ k, k < 2 → parseFieldDescriptor (TX9 k).2.2.1 = some (tyX9 k) := by decide +kernel
abbrev cX9_init : ByteArray := prog_11_method_1_code
def yX9_init : MethodName := ⟨RX9, "<init>", "()V"⟩
abbrev cX9_add : ByteArray := prog_11_method_2_code
def yX9_add : MethodName := ⟨RX9, "add", "(I)V"⟩
abbrev cX9_at : ByteArray := prog_11_method_3_code
def yX9_at : MethodName := ⟨RX9, "at", "(I)I"⟩
def RX10 : String := "OverflowGuards"
def TX10 : u_T := fun k => match k with
  | 0 => ("OverflowGuards", "text", "LOverflowGuards$Text;", true)
  | 1 => ("OverflowGuards", "parsed", "LOverflowGuards$Program;", true)
  | 2 => ("OverflowGuards", "parser", "LOverflowGuards$Parser;", true)
  | 3 => ("OverflowGuards", "present", "LOverflowGuards$Situation;", true)
  | 4 => ("OverflowGuards", "history", "LOverflowGuards$History;", true)
  | 5 => ("OverflowGuards", "analysis", "LOverflowGuards$Analysis;", true)
  | 6 => ("OverflowGuards", "plan", "LOverflowGuards$Plan;", true)
  | 7 => ("OverflowGuards", "plainRun", "LOverflowGuards$Run;", true)
  | 8 => ("OverflowGuards", "optimizedRun", "LOverflowGuards$Run;", true)
  | 9 => ("OverflowGuards", "analysisIsFresh", "Z", false)
  | 10 => ("OverflowGuards", "runsAreFresh", "Z", false)
  | 11 => ("OverflowGuards", "trialInputs", "LOverflowGuards$Inputs;", true)
  | 12 => ("OverflowGuards", "trialAnalysis", "LOverflowGuards$Analysis;", true)
  | _ => ("OverflowGuards", "trialRun", "LOverflowGuards$Run;", true)
def tyX10 : Nat → FieldType := fun k => match k with
  | 0 => .object "OverflowGuards$Text"
  | 1 => .object "OverflowGuards$Program"
  | 2 => .object "OverflowGuards$Parser"
  | 3 => .object "OverflowGuards$Situation"
  | 4 => .object "OverflowGuards$History"
  | 5 => .object "OverflowGuards$Analysis"
  | 6 => .object "OverflowGuards$Plan"
  | 7 => .object "OverflowGuards$Run"
  | 8 => .object "OverflowGuards$Run"
  | 9 => .boolean
  | 10 => .boolean
  | 11 => .object "OverflowGuards$Inputs"
  | 12 => .object "OverflowGuards$Analysis"
  | _ => .object "OverflowGuards$Run"
theorem nmX10 : ∀ a, a < 14 → ∀ b, b < 14 → a ≠ b → (TX10 a).2.1 ≠ (TX10 b).2.1 := by decide +kernel
theorem tyX10_ok : ∀ k, k < 14 → parseFieldDescriptor (TX10 k).2.2.1 = some (tyX10 k) := by decide +kernel
abbrev cX10_init : ByteArray := prog_1_method_1_code
def yX10_init : MethodName := ⟨RX10, "<init>", "()V"⟩
abbrev cX10_append : ByteArray := prog_1_method_2_code
def yX10_append : MethodName := ⟨RX10, "append", "(I)I"⟩
abbrev cX10_clearText : ByteArray := prog_1_method_3_code
def yX10_clearText : MethodName := ⟨RX10, "clearText", "()I"⟩
abbrev cX10_parse : ByteArray := prog_1_method_4_code
def yX10_parse : MethodName := ⟨RX10, "parse", "()I"⟩
abbrev cX10_setRange : ByteArray := prog_1_method_5_code
def yX10_setRange : MethodName := ⟨RX10, "setRange", "(III)I"⟩
abbrev cX10_setInput : ByteArray := prog_1_method_6_code
def yX10_setInput : MethodName := ⟨RX10, "setInput", "(II)I"⟩
abbrev cX10_input : ByteArray := prog_1_method_7_code
def yX10_input : MethodName := ⟨RX10, "input", "(II)I"⟩
abbrev cX10_remove : ByteArray := prog_1_method_8_code
def yX10_remove : MethodName := ⟨RX10, "remove", "(I)I"⟩
abbrev cX10_instructions : ByteArray := prog_1_method_9_code
def yX10_instructions : MethodName := ⟨RX10, "instructions", "()I"⟩
abbrev cX10_instruction : ByteArray := prog_1_method_10_code
def yX10_instruction : MethodName := ⟨RX10, "instruction", "(II)I"⟩
abbrev cX10_operand : ByteArray := prog_1_method_11_code
def yX10_operand : MethodName := ⟨RX10, "operand", "(IZ)I"⟩
abbrev cX10_state : ByteArray := prog_1_method_12_code
def yX10_state : MethodName := ⟨RX10, "state", "(I)I"⟩
abbrev cX10_states : ByteArray := prog_1_method_13_code
def yX10_states : MethodName := ⟨RX10, "states", "(I)I"⟩
abbrev cX10_coveredBy : ByteArray := prog_1_method_14_code
def yX10_coveredBy : MethodName := ⟨RX10, "coveredBy", "(I)I"⟩
abbrev cX10_range : ByteArray := prog_1_method_15_code
def yX10_range : MethodName := ⟨RX10, "range", "(IZ)J"⟩
abbrev cX10_finalRange : ByteArray := prog_1_method_16_code
def yX10_finalRange : MethodName := ⟨RX10, "finalRange", "(IZ)I"⟩
abbrev cX10_completes : ByteArray := prog_1_method_17_code
def yX10_completes : MethodName := ⟨RX10, "completes", "()Z"⟩
abbrev cX10_failure : ByteArray := prog_1_method_18_code
def yX10_failure : MethodName := ⟨RX10, "failure", "(Z)I"⟩
abbrev cX10_result : ByteArray := prog_1_method_19_code
def yX10_result : MethodName := ⟨RX10, "result", "(IZ)I"⟩
abbrev cX10_checks : ByteArray := prog_1_method_20_code
def yX10_checks : MethodName := ⟨RX10, "checks", "(Z)I"⟩
abbrev cX10_executed : ByteArray := prog_1_method_21_code
def yX10_executed : MethodName := ⟨RX10, "executed", "()I"⟩
abbrev cX10_saving : ByteArray := prog_1_method_22_code
def yX10_saving : MethodName := ⟨RX10, "saving", "()D"⟩
abbrev cX10_openWith : ByteArray := prog_1_method_23_code
def yX10_openWith : MethodName := ⟨RX10, "openWith", "(III)I"⟩
abbrev cX10_safePower : ByteArray := prog_1_method_24_code
def yX10_safePower : MethodName := ⟨RX10, "safePower", "(I)I"⟩
abbrev cX10_failingInput : ByteArray := prog_1_method_25_code
def yX10_failingInput : MethodName := ⟨RX10, "failingInput", "(I)I"⟩
abbrev cX10_undo : ByteArray := prog_1_method_26_code
def yX10_undo : MethodName := ⟨RX10, "undo", "()I"⟩
abbrev cX10_digest : ByteArray := prog_1_method_27_code
def yX10_digest : MethodName := ⟨RX10, "digest", "()J"⟩
abbrev cX10_mixedInstruction : ByteArray := prog_1_method_28_code
def yX10_mixedInstruction : MethodName := ⟨RX10, "mixedInstruction", "(JI)J"⟩
abbrev cX10_mixedVariable : ByteArray := prog_1_method_29_code
def yX10_mixedVariable : MethodName := ⟨RX10, "mixedVariable", "(JI)J"⟩
abbrev cX10_mixedRun : ByteArray := prog_1_method_30_code
def yX10_mixedRun : MethodName := ⟨RX10, "mixedRun", "(JLOverflowGuards$Run;I)J"⟩
abbrev cX10_mixed : ByteArray := prog_1_method_31_code
def yX10_mixed : MethodName := ⟨RX10, "mixed", "(JJ)J"⟩
abbrev cX10_requireVariable : ByteArray := prog_1_method_32_code
def yX10_requireVariable : MethodName := ⟨RX10, "requireVariable", "(I)V"⟩
abbrev cX10_requireOrder : ByteArray := prog_1_method_33_code
def yX10_requireOrder : MethodName := ⟨RX10, "requireOrder", "(II)V"⟩
abbrev cX10_requireInstruction : ByteArray := prog_1_method_34_code
def yX10_requireInstruction : MethodName := ⟨RX10, "requireInstruction", "(I)V"⟩
abbrev cX10_requireNoLoopEdge : ByteArray := prog_1_method_35_code
def yX10_requireNoLoopEdge : MethodName := ⟨RX10, "requireNoLoopEdge", "(I)V"⟩
abbrev cX10_saveForUndo : ByteArray := prog_1_method_36_code
def yX10_saveForUndo : MethodName := ⟨RX10, "saveForUndo", "()V"⟩
abbrev cX10_forgetAnswers : ByteArray := prog_1_method_37_code
def yX10_forgetAnswers : MethodName := ⟨RX10, "forgetAnswers", "()V"⟩
abbrev cX10_freshenAnalysis : ByteArray := prog_1_method_38_code
def yX10_freshenAnalysis : MethodName := ⟨RX10, "freshenAnalysis", "()V"⟩
abbrev cX10_freshenRuns : ByteArray := prog_1_method_39_code
def yX10_freshenRuns : MethodName := ⟨RX10, "freshenRuns", "()V"⟩
abbrev cX10_outcomeOf : ByteArray := prog_1_method_40_code
def yX10_outcomeOf : MethodName := ⟨RX10, "outcomeOf", "(Z)LOverflowGuards$Run;"⟩
abbrev cX10_openChecksWith : ByteArray := prog_1_method_41_code
def yX10_openChecksWith : MethodName := ⟨RX10, "openChecksWith", "(III)I"⟩
abbrev cX10_canFailBetween : ByteArray := prog_1_method_42_code
def yX10_canFailBetween : MethodName := ⟨RX10, "canFailBetween", "(III)Z"⟩
abbrev cX10_failsWith : ByteArray := prog_1_method_43_code
def yX10_failsWith : MethodName := ⟨RX10, "failsWith", "(II)Z"⟩
abbrev cX10_isInt : ByteArray := prog_1_method_44_code
def yX10_isInt : MethodName := ⟨RX10, "isInt", "(J)Z"⟩
abbrev cX10_isVariable : ByteArray := prog_1_method_45_code
def yX10_isVariable : MethodName := ⟨RX10, "isVariable", "(I)Z"⟩
def RX11 : String := "OverflowGuardsModel"
def TX11 : u_T := fun k => match k with
  | 0 => ("OverflowGuardsModel", "all", "[I", true)
  | 1 => ("OverflowGuardsModel", "saved", "[I", true)
  | 2 => ("OverflowGuardsModel", "savedMany", "I", false)
  | 3 => ("OverflowGuardsModel", "thrown", "I", false)
  | 4 => ("OverflowGuardsModel", "text", "[I", true)
  | 5 => ("OverflowGuardsModel", "textLong", "I", false)
  | 6 => ("OverflowGuardsModel", "place", "I", false)
  | 7 => ("OverflowGuardsModel", "read", "[I", true)
  | 8 => ("OverflowGuardsModel", "readMany", "I", false)
  | 9 => ("OverflowGuardsModel", "readDepth", "I", false)
  | 10 => ("OverflowGuardsModel", "partner", "[I", true)
  | 11 => ("OverflowGuardsModel", "around", "[I", true)
  | 12 => ("OverflowGuardsModel", "inner", "[I", true)
  | 13 => ("OverflowGuardsModel", "walked", "I", false)
  | 14 => ("OverflowGuardsModel", "open", "I", false)
  | 15 => ("OverflowGuardsModel", "left", "[I", true)
  | 16 => ("OverflowGuardsModel", "low", "[J", true)
  | 17 => ("OverflowGuardsModel", "high", "[J", true)
  | 18 => ("OverflowGuardsModel", "reached", "[Z", true)
  | 19 => ("OverflowGuardsModel", "fails", "[Z", true)
  | 20 => ("OverflowGuardsModel", "negativeFirst", "[Z", true)
  | 21 => ("OverflowGuardsModel", "negativeSecond", "[Z", true)
  | 22 => ("OverflowGuardsModel", "least", "[J", true)
  | 23 => ("OverflowGuardsModel", "greatest", "[J", true)
  | 24 => ("OverflowGuardsModel", "completes", "Z", false)
  | 25 => ("OverflowGuardsModel", "cover", "[I", true)
  | 26 => ("OverflowGuardsModel", "covers", "[Z", true)
  | 27 => ("OverflowGuardsModel", "states", "[I", true)
  | 28 => ("OverflowGuardsModel", "values", "[J", true)
  | 29 => ("OverflowGuardsModel", "free", "[Z", true)
  | 30 => ("OverflowGuardsModel", "failed", "I", false)
  | 31 => ("OverflowGuardsModel", "checks", "I", false)
  | _ => ("OverflowGuardsModel", "executed", "I", false)
def tyX11 : Nat → FieldType := fun k => match k with
  | 0 => .array .int
  | 1 => .array .int
  | 2 => .int
  | 3 => .int
  | 4 => .array .int
  | 5 => .int
  | 6 => .int
  | 7 => .array .int
  | 8 => .int
  | 9 => .int
  | 10 => .array .int
  | 11 => .array .int
  | 12 => .array .int
  | 13 => .int
  | 14 => .int
  | 15 => .array .int
  | 16 => .array .long
  | 17 => .array .long
  | 18 => .array .boolean
  | 19 => .array .boolean
  | 20 => .array .boolean
  | 21 => .array .boolean
  | 22 => .array .long
  | 23 => .array .long
  | 24 => .boolean
  | 25 => .array .int
  | 26 => .array .boolean
  | 27 => .array .int
  | 28 => .array .long
  | 29 => .array .boolean
  | 30 => .int
  | 31 => .int
  | _ => .int
theorem nmX11 : ∀ a, a < 33 → ∀ b, b < 33 → a ≠ b → (TX11 a).2.1 ≠ (TX11 b).2.1 := by decide +kernel
theorem tyX11_ok : ∀ k, k < 33 → parseFieldDescriptor (TX11 k).2.2.1 = some (tyX11 k) := by decide +kernel
abbrev cX11_init : ByteArray := prog_13_method_1_code
def yX11_init : MethodName := ⟨RX11, "<init>", "()V"⟩
abbrev cX11_in : ByteArray := prog_13_method_3_code
def yX11_in : MethodName := ⟨RX11, "in", "(JJJ)Z"⟩
abbrev cX11_goes : ByteArray := prog_13_method_4_code
def yX11_goes : MethodName := ⟨RX11, "goes", "(ZZ)Z"⟩
abbrev cX11_save : ByteArray := prog_13_method_5_code
def yX11_save : MethodName := ⟨RX11, "save", "()V"⟩
abbrev cX11_of : ByteArray := prog_13_method_6_code
def yX11_of : MethodName := ⟨RX11, "of", "(II)I"⟩
abbrev cX11_kind : ByteArray := prog_13_method_7_code
def yX11_kind : MethodName := ⟨RX11, "kind", "(I)I"⟩
abbrev cX11_isLoop : ByteArray := prog_13_method_8_code
def yX11_isLoop : MethodName := ⟨RX11, "isLoop", "(I)Z"⟩
abbrev cX11_isOne : ByteArray := prog_13_method_9_code
def yX11_isOne : MethodName := ⟨RX11, "isOne", "(I)Z"⟩
abbrev cX11_isName : ByteArray := prog_13_method_10_code
def yX11_isName : MethodName := ⟨RX11, "isName", "(I)Z"⟩
abbrev cX11_append : ByteArray := prog_13_method_11_code
def yX11_append : MethodName := ⟨RX11, "append", "(I)I"⟩
abbrev cX11_clearText : ByteArray := prog_13_method_12_code
def yX11_clearText : MethodName := ⟨RX11, "clearText", "()I"⟩
abbrev cX11_here : ByteArray := prog_13_method_13_code
def yX11_here : MethodName := ⟨RX11, "here", "()I"⟩
abbrev cX11_isFigure : ByteArray := prog_13_method_14_code
def yX11_isFigure : MethodName := ⟨RX11, "isFigure", "()Z"⟩
abbrev cX11_isLetter : ByteArray := prog_13_method_15_code
def yX11_isLetter : MethodName := ⟨RX11, "isLetter", "()Z"⟩
abbrev cX11_takes : ByteArray := prog_13_method_16_code
def yX11_takes : MethodName := ⟨RX11, "takes", "(IIII)V"⟩
abbrev cX11_operandRead : ByteArray := prog_13_method_17_code
def yX11_operandRead : MethodName := ⟨RX11, "operandRead", "()I"⟩
abbrev cX11_readsAssignment : ByteArray := prog_13_method_18_code
def yX11_readsAssignment : MethodName := ⟨RX11, "readsAssignment", "()Z"⟩
abbrev cX11_readsCount : ByteArray := prog_13_method_19_code
def yX11_readsCount : MethodName := ⟨RX11, "readsCount", "()Z"⟩
abbrev cX11_readsNext : ByteArray := prog_13_method_20_code
def yX11_readsNext : MethodName := ⟨RX11, "readsNext", "()Z"⟩
abbrev cX11_parse : ByteArray := prog_13_method_21_code
def yX11_parse : MethodName := ⟨RX11, "parse", "()I"⟩
abbrev cX11_setRange : ByteArray := prog_13_method_22_code
def yX11_setRange : MethodName := ⟨RX11, "setRange", "(III)I"⟩
abbrev cX11_setInput : ByteArray := prog_13_method_23_code
def yX11_setInput : MethodName := ⟨RX11, "setInput", "(II)I"⟩
abbrev cX11_input : ByteArray := prog_13_method_24_code
def yX11_input : MethodName := ⟨RX11, "input", "(II)I"⟩
abbrev cX11_remove : ByteArray := prog_13_method_25_code
def yX11_remove : MethodName := ⟨RX11, "remove", "(I)I"⟩
abbrev cX11_instructions : ByteArray := prog_13_method_26_code
def yX11_instructions : MethodName := ⟨RX11, "instructions", "()I"⟩
abbrev cX11_laysLoops : ByteArray := prog_13_method_27_code
def yX11_laysLoops : MethodName := ⟨RX11, "laysLoops", "()V"⟩
abbrev cX11_told : ByteArray := prog_13_method_28_code
def yX11_told : MethodName := ⟨RX11, "told", "(II)I"⟩
abbrev cX11_instruction : ByteArray := prog_13_method_29_code
def yX11_instruction : MethodName := ⟨RX11, "instruction", "(II)I"⟩
abbrev cX11_operand : ByteArray := prog_13_method_30_code
def yX11_operand : MethodName := ⟨RX11, "operand", "(IZ)I"⟩
abbrev cX11_startsWalk : ByteArray := prog_13_method_31_code
def yX11_startsWalk : MethodName := ⟨RX11, "startsWalk", "()V"⟩
abbrev cX11_walks : ByteArray := prog_13_method_32_code
def yX11_walks : MethodName := ⟨RX11, "walks", "()Z"⟩
abbrev cX11_goesOn : ByteArray := prog_13_method_33_code
def yX11_goesOn : MethodName := ⟨RX11, "goesOn", "()V"⟩
abbrev cX11_lowOf : ByteArray := prog_13_method_34_code
def yX11_lowOf : MethodName := ⟨RX11, "lowOf", "(I)J"⟩
abbrev cX11_highOf : ByteArray := prog_13_method_35_code
def yX11_highOf : MethodName := ⟨RX11, "highOf", "(I)J"⟩
abbrev cX11_lesser : ByteArray := prog_13_method_36_code
def yX11_lesser : MethodName := ⟨RX11, "lesser", "(JJ)J"⟩
abbrev cX11_greater : ByteArray := prog_13_method_37_code
def yX11_greater : MethodName := ⟨RX11, "greater", "(JJ)J"⟩
abbrev cX11_ranges : ByteArray := prog_13_method_38_code
def yX11_ranges : MethodName := ⟨RX11, "ranges", "(I)Z"⟩
abbrev cX11_analyses : ByteArray := prog_13_method_39_code
def yX11_analyses : MethodName := ⟨RX11, "analyses", "()V"⟩
abbrev cX11_has : ByteArray := prog_13_method_40_code
def yX11_has : MethodName := ⟨RX11, "has", "(II)Z"⟩
abbrev cX11_coverOf : ByteArray := prog_13_method_41_code
def yX11_coverOf : MethodName := ⟨RX11, "coverOf", "(I)I"⟩
abbrev cX11_stepOf : ByteArray := prog_13_method_42_code
def yX11_stepOf : MethodName := ⟨RX11, "stepOf", "(I)I"⟩
abbrev cX11_isHoisted : ByteArray := prog_13_method_43_code
def yX11_isHoisted : MethodName := ⟨RX11, "isHoisted", "(I)Z"⟩
abbrev cX11_state : ByteArray := prog_13_method_44_code
def yX11_state : MethodName := ⟨RX11, "state", "(I)I"⟩
abbrev cX11_statesFrom : ByteArray := prog_13_method_45_code
def yX11_statesFrom : MethodName := ⟨RX11, "statesFrom", "(II)I"⟩
abbrev cX11_states : ByteArray := prog_13_method_46_code
def yX11_states : MethodName := ⟨RX11, "states", "(I)I"⟩
abbrev cX11_coveredBy : ByteArray := prog_13_method_47_code
def yX11_coveredBy : MethodName := ⟨RX11, "coveredBy", "(I)I"⟩
abbrev cX11_range : ByteArray := prog_13_method_48_code
def yX11_range : MethodName := ⟨RX11, "range", "(IZ)J"⟩
abbrev cX11_finalOf : ByteArray := prog_13_method_49_code
def yX11_finalOf : MethodName := ⟨RX11, "finalOf", "(IZ)I"⟩
abbrev cX11_finalRange : ByteArray := prog_13_method_50_code
def yX11_finalRange : MethodName := ⟨RX11, "finalRange", "(IZ)I"⟩
abbrev cX11_completes : ByteArray := prog_13_method_51_code
def yX11_completes : MethodName := ⟨RX11, "completes", "()Z"⟩
abbrev cX11_valueOf : ByteArray := prog_13_method_52_code
def yX11_valueOf : MethodName := ⟨RX11, "valueOf", "(I)J"⟩
abbrev cX11_exact : ByteArray := prog_13_method_53_code
def yX11_exact : MethodName := ⟨RX11, "exact", "(I)J"⟩
abbrev cX11_isInt : ByteArray := prog_13_method_54_code
def yX11_isInt : MethodName := ⟨RX11, "isInt", "(J)Z"⟩
abbrev cX11_checksLoop : ByteArray := prog_13_method_55_code
def yX11_checksLoop : MethodName := ⟨RX11, "checksLoop", "(I)V"⟩
abbrev cX11_isChecked : ByteArray := prog_13_method_56_code
def yX11_isChecked : MethodName := ⟨RX11, "isChecked", "(IZ)Z"⟩
abbrev cX11_runs : ByteArray := prog_13_method_57_code
def yX11_runs : MethodName := ⟨RX11, "runs", "(Z)V"⟩
abbrev cX11_outcome : ByteArray := prog_13_method_58_code
def yX11_outcome : MethodName := ⟨RX11, "outcome", "(Z)I"⟩
abbrev cX11_failure : ByteArray := prog_13_method_59_code
def yX11_failure : MethodName := ⟨RX11, "failure", "(Z)I"⟩
abbrev cX11_result : ByteArray := prog_13_method_60_code
def yX11_result : MethodName := ⟨RX11, "result", "(IZ)I"⟩
abbrev cX11_checks : ByteArray := prog_13_method_61_code
def yX11_checks : MethodName := ⟨RX11, "checks", "(Z)I"⟩
abbrev cX11_executed : ByteArray := prog_13_method_62_code
def yX11_executed : MethodName := ⟨RX11, "executed", "()I"⟩
abbrev cX11_saving : ByteArray := prog_13_method_63_code
def yX11_saving : MethodName := ⟨RX11, "saving", "()D"⟩
abbrev cX11_openOnes : ByteArray := prog_13_method_64_code
def yX11_openOnes : MethodName := ⟨RX11, "openOnes", "(III)I"⟩
abbrev cX11_openWith : ByteArray := prog_13_method_65_code
def yX11_openWith : MethodName := ⟨RX11, "openWith", "(III)I"⟩
abbrev cX11_safePower : ByteArray := prog_13_method_66_code
def yX11_safePower : MethodName := ⟨RX11, "safePower", "(I)I"⟩
abbrev cX11_failingInput : ByteArray := prog_13_method_67_code
def yX11_failingInput : MethodName := ⟨RX11, "failingInput", "(I)I"⟩
abbrev cX11_undo : ByteArray := prog_13_method_68_code
def yX11_undo : MethodName := ⟨RX11, "undo", "()I"⟩
abbrev cX11_sumsRun : ByteArray := prog_13_method_69_code
def yX11_sumsRun : MethodName := ⟨RX11, "sumsRun", "(JZ)J"⟩
abbrev cX11_digest : ByteArray := prog_13_method_70_code
def yX11_digest : MethodName := ⟨RX11, "digest", "()J"⟩
def RJ9 : String := "java/lang/Math"
def TJ9 : u_T := fun k => match k with
  | _ => ("", "", "", false)
def tyJ9 : Nat → FieldType := fun k => match k with
  | _ => .int
theorem nmJ9 : ∀ a, a < 0 → ∀ b, b < 0 → a ≠ b → (TJ9 a).2.1 ≠ (TJ9 b).2.1 := by decide +kernel
theorem tyJ9_ok : ∀ k, k < 0 → parseFieldDescriptor (TJ9 k).2.2.1 = some (tyJ9 k) := by decide +kernel
abbrev cJ9_max_f86c9 : ByteArray := prog_18_method_66_code
def yJ9_max_f86c9 : MethodName := ⟨RJ9, "max", "(JJ)J"⟩
abbrev cJ9_min_f86c9 : ByteArray := prog_18_method_70_code
def yJ9_min_f86c9 : MethodName := ⟨RJ9, "min", "(JJ)J"⟩
def RJ0 : String := "java/lang/String"
def TJ0 : u_T := fun k => match k with
  | _ => ("", "", "", false)
def tyJ0 : Nat → FieldType := fun k => match k with
  | _ => .int
theorem nmJ0 : ∀ a, a < 0 → ∀ b, b < 0 → a ≠ b → (TJ0 a).2.1 ≠ (TJ0 b).2.1 := by decide +kernel
theorem tyJ0_ok : ∀ k, k < 0 → parseFieldDescriptor (TJ0 k).2.2.1 = some (tyJ0 k) := by decide +kernel
def RJ10 : String := "java/lang/System"
def TJ10 : u_T := fun k => match k with
  | _ => ("", "", "", false)
def tyJ10 : Nat → FieldType := fun k => match k with
  | _ => .int
theorem nmJ10 : ∀ a, a < 0 → ∀ b, b < 0 → a ≠ b → (TJ10 a).2.1 ≠ (TJ10 b).2.1 := by decide +kernel
theorem tyJ10_ok : ∀ k, k < 0 → parseFieldDescriptor (TJ10 k).2.2.1 = some (tyJ10 k) := by decide +kernel
def RL : String := "OverflowGuardsLaw"
abbrev cL_append : ByteArray := method_3_code
def yL_append : MethodName := ⟨RL, "append", "(LOverflowGuards;I[J)I"⟩
abbrev cL_setRange : ByteArray := method_4_code
def yL_setRange : MethodName := ⟨RL, "setRange", "(LOverflowGuards;III[J)I"⟩
abbrev cL_setInput : ByteArray := method_5_code
def yL_setInput : MethodName := ⟨RL, "setInput", "(LOverflowGuards;II[J)I"⟩
abbrev cL_input : ByteArray := method_6_code
def yL_input : MethodName := ⟨RL, "input", "(LOverflowGuards;II[J)I"⟩
abbrev cL_remove : ByteArray := method_7_code
def yL_remove : MethodName := ⟨RL, "remove", "(LOverflowGuards;I[J)I"⟩
abbrev cL_instruction : ByteArray := method_8_code
def yL_instruction : MethodName := ⟨RL, "instruction", "(LOverflowGuards;II[J)I"⟩
abbrev cL_operand : ByteArray := method_9_code
def yL_operand : MethodName := ⟨RL, "operand", "(LOverflowGuards;IZ[J)I"⟩
abbrev cL_state : ByteArray := method_10_code
def yL_state : MethodName := ⟨RL, "state", "(LOverflowGuards;I[J)I"⟩
abbrev cL_states : ByteArray := method_11_code
def yL_states : MethodName := ⟨RL, "states", "(LOverflowGuards;I[J)I"⟩
abbrev cL_coveredBy : ByteArray := method_12_code
def yL_coveredBy : MethodName := ⟨RL, "coveredBy", "(LOverflowGuards;I[J)I"⟩
abbrev cL_range : ByteArray := method_13_code
def yL_range : MethodName := ⟨RL, "range", "(LOverflowGuards;IZ[J)I"⟩
abbrev cL_finalRange : ByteArray := method_14_code
def yL_finalRange : MethodName := ⟨RL, "finalRange", "(LOverflowGuards;IZ[J)I"⟩
abbrev cL_result : ByteArray := method_15_code
def yL_result : MethodName := ⟨RL, "result", "(LOverflowGuards;IZ[J)I"⟩
abbrev cL_openWith : ByteArray := method_16_code
def yL_openWith : MethodName := ⟨RL, "openWith", "(LOverflowGuards;III[J)I"⟩
abbrev cL_safePower : ByteArray := method_17_code
def yL_safePower : MethodName := ⟨RL, "safePower", "(LOverflowGuards;I[J)I"⟩
abbrev cL_failingInput : ByteArray := method_18_code
def yL_failingInput : MethodName := ⟨RL, "failingInput", "(LOverflowGuards;I[J)I"⟩
abbrev cL_undo : ByteArray := method_19_code
def yL_undo : MethodName := ⟨RL, "undo", "(LOverflowGuards;[J)I"⟩
abbrev cL_law : ByteArray := code
def yL_law : MethodName := ⟨RL, "law", "([I)Z"⟩
theorem dX0_init_0 : decode cX0_init 0 = .ok (.aload_n 0, 1) := by decide +kernel
theorem dX0_init_1 : decode cX0_init 1 = .ok (.invokespecial 3, 3) := by decide +kernel
theorem dX0_init_4 : decode cX0_init 4 = .ok (.aload_n 0, 1) := by decide +kernel
theorem dX0_init_5 : decode cX0_init 5 = .ok (.new 9, 3) := by decide +kernel
theorem dX0_init_8 : decode cX0_init 8 = .ok (.dup, 1) := by decide +kernel
theorem dX0_init_9 : decode cX0_init 9 = .ok (.invokespecial 11, 3) := by decide +kernel
theorem dX0_init_12 : decode cX0_init 12 = .ok (.putfield 12, 3) := by decide +kernel
theorem dX0_init_15 : decode cX0_init 15 = .ok (.aload_n 0, 1) := by decide +kernel
theorem dX0_init_16 : decode cX0_init 16 = .ok (.iconst 0, 1) := by decide +kernel
theorem dX0_init_17 : decode cX0_init 17 = .ok (.putfield 18, 3) := by decide +kernel
theorem dX0_init_20 : decode cX0_init 20 = .ok (.aload_n 0, 1) := by decide +kernel
theorem dX0_init_21 : decode cX0_init 21 = .ok (.iconst 0, 1) := by decide +kernel
theorem dX0_init_22 : decode cX0_init 22 = .ok (.putfield 22, 3) := by decide +kernel
theorem dX0_init_25 : decode cX0_init 25 = .ok (.aload_n 0, 1) := by decide +kernel
theorem dX0_init_26 : decode cX0_init 26 = .ok (.bipush 8, 2) := by decide +kernel
theorem dX0_init_28 : decode cX0_init 28 = .ok (.newarray .long, 2) := by decide +kernel
theorem dX0_init_30 : decode cX0_init 30 = .ok (.putfield 26, 3) := by decide +kernel
theorem dX0_init_33 : decode cX0_init 33 = .ok (.aload_n 0, 1) := by decide +kernel
theorem dX0_init_34 : decode cX0_init 34 = .ok (.bipush 8, 2) := by decide +kernel
theorem dX0_init_36 : decode cX0_init 36 = .ok (.newarray .long, 2) := by decide +kernel
theorem dX0_init_38 : decode cX0_init 38 = .ok (.putfield 30, 3) := by decide +kernel
theorem dX0_init_41 : decode cX0_init 41 = .ok (.aload_n 0, 1) := by decide +kernel
theorem dX0_init_42 : decode cX0_init 42 = .ok (.iconst 0, 1) := by decide +kernel
theorem dX0_init_43 : decode cX0_init 43 = .ok (.putfield 33, 3) := by decide +kernel
theorem dX0_init_46 : decode cX0_init 46 = .ok (.aload_n 0, 1) := by decide +kernel
theorem dX0_init_47 : decode cX0_init 47 = .ok (.bipush 30, 2) := by decide +kernel
theorem dX0_init_49 : decode cX0_init 49 = .ok (.newarray .boolean, 2) := by decide +kernel
theorem dX0_init_51 : decode cX0_init 51 = .ok (.putfield 36, 3) := by decide +kernel
theorem dX0_init_54 : decode cX0_init 54 = .ok (.aload_n 0, 1) := by decide +kernel
theorem dX0_init_55 : decode cX0_init 55 = .ok (.bipush 30, 2) := by decide +kernel
theorem dX0_init_57 : decode cX0_init 57 = .ok (.newarray .boolean, 2) := by decide +kernel
theorem dX0_init_59 : decode cX0_init 59 = .ok (.putfield 40, 3) := by decide +kernel
theorem dX0_init_62 : decode cX0_init 62 = .ok (.aload_n 0, 1) := by decide +kernel
theorem dX0_init_63 : decode cX0_init 63 = .ok (.bipush 30, 2) := by decide +kernel
theorem dX0_init_65 : decode cX0_init 65 = .ok (.newarray .long, 2) := by decide +kernel
theorem dX0_init_67 : decode cX0_init 67 = .ok (.putfield 43, 3) := by decide +kernel
theorem dX0_init_70 : decode cX0_init 70 = .ok (.aload_n 0, 1) := by decide +kernel
theorem dX0_init_71 : decode cX0_init 71 = .ok (.bipush 30, 2) := by decide +kernel
theorem dX0_init_73 : decode cX0_init 73 = .ok (.newarray .long, 2) := by decide +kernel
theorem dX0_init_75 : decode cX0_init 75 = .ok (.putfield 46, 3) := by decide +kernel
theorem dX0_init_78 : decode cX0_init 78 = .ok (.aload_n 0, 1) := by decide +kernel
theorem dX0_init_79 : decode cX0_init 79 = .ok (.bipush 30, 2) := by decide +kernel
theorem dX0_init_81 : decode cX0_init 81 = .ok (.newarray .int, 2) := by decide +kernel
theorem dX0_init_83 : decode cX0_init 83 = .ok (.putfield 49, 3) := by decide +kernel
theorem dX0_init_86 : decode cX0_init 86 = .ok (.aload_n 0, 1) := by decide +kernel
theorem dX0_init_87 : decode cX0_init 87 = .ok (.lconst 0, 1) := by decide +kernel
theorem dX0_init_88 : decode cX0_init 88 = .ok (.putfield 53, 3) := by decide +kernel
theorem dX0_init_91 : decode cX0_init 91 = .ok (.aload_n 0, 1) := by decide +kernel
theorem dX0_init_92 : decode cX0_init 92 = .ok (.lconst 0, 1) := by decide +kernel
theorem dX0_init_93 : decode cX0_init 93 = .ok (.putfield 57, 3) := by decide +kernel
theorem dX0_init_96 : decode cX0_init 96 = .ok (.return_, 1) := by decide +kernel
theorem dX0_go_0 : decode cX0_go 0 = .ok (.aload_n 0, 1) := by decide +kernel
theorem dX0_go_1 : decode cX0_go 1 = .ok (.aload_n 2, 1) := by decide +kernel
theorem dX0_go_2 : decode cX0_go 2 = .ok (.invokevirtual 60, 3) := by decide +kernel
theorem dX0_go_5 : decode cX0_go 5 = .ok (.iconst 0, 1) := by decide +kernel
theorem dX0_go_6 : decode cX0_go 6 = .ok (.istore_n 3, 1) := by decide +kernel
theorem dX0_go_7 : decode cX0_go 7 = .ok (.iload_n 3, 1) := by decide +kernel
theorem dX0_go_8 : decode cX0_go 8 = .ok (.ldc 64, 2) := by decide +kernel
theorem dX0_go_10 : decode cX0_go 10 = .ok (.if_icmp .ge 64, 3) := by decide +kernel
theorem dX0_go_13 : decode cX0_go 13 = .ok (.aload_n 0, 1) := by decide +kernel
theorem dX0_go_14 : decode cX0_go 14 = .ok (.getfield 12, 3) := by decide +kernel
theorem dX0_go_17 : decode cX0_go 17 = .ok (.getfield 65, 3) := by decide +kernel
theorem dX0_go_20 : decode cX0_go 20 = .ok (.aload_n 1, 1) := by decide +kernel
theorem dX0_go_21 : decode cX0_go 21 = .ok (.getfield 68, 3) := by decide +kernel
theorem dX0_go_24 : decode cX0_go 24 = .ok (.if_icmp .ge 50, 3) := by decide +kernel
theorem dX0_go_27 : decode cX0_go 27 = .ok (.aload_n 0, 1) := by decide +kernel
theorem dX0_go_28 : decode cX0_go 28 = .ok (.getfield 18, 3) := by decide +kernel
theorem dX0_go_31 : decode cX0_go 31 = .ok (.ifCond .ne 43, 3) := by decide +kernel
theorem dX0_go_34 : decode cX0_go 34 = .ok (.aload_n 1, 1) := by decide +kernel
theorem dX0_go_35 : decode cX0_go 35 = .ok (.aload_n 0, 1) := by decide +kernel
theorem dX0_go_36 : decode cX0_go 36 = .ok (.getfield 12, 3) := by decide +kernel
theorem dX0_go_39 : decode cX0_go 39 = .ok (.getfield 65, 3) := by decide +kernel
theorem dX0_go_42 : decode cX0_go 42 = .ok (.invokevirtual 73, 3) := by decide +kernel
theorem dX0_go_45 : decode cX0_go 45 = .ok (.ifCond .ne 15, 3) := by decide +kernel
theorem dX0_go_48 : decode cX0_go 48 = .ok (.aload_n 0, 1) := by decide +kernel
theorem dX0_go_49 : decode cX0_go 49 = .ok (.aload_n 1, 1) := by decide +kernel
theorem dX0_go_50 : decode cX0_go 50 = .ok (.aload_n 0, 1) := by decide +kernel
theorem dX0_go_51 : decode cX0_go 51 = .ok (.getfield 12, 3) := by decide +kernel
theorem dX0_go_54 : decode cX0_go 54 = .ok (.getfield 65, 3) := by decide +kernel
theorem dX0_go_57 : decode cX0_go 57 = .ok (.invokevirtual 77, 3) := by decide +kernel
theorem dX0_go_60 : decode cX0_go 60 = .ok (.aload_n 0, 1) := by decide +kernel
theorem dX0_go_61 : decode cX0_go 61 = .ok (.getfield 12, 3) := by decide +kernel
theorem dX0_go_64 : decode cX0_go 64 = .ok (.aload_n 1, 1) := by decide +kernel
theorem dX0_go_65 : decode cX0_go 65 = .ok (.invokevirtual 81, 3) := by decide +kernel
theorem dX0_go_68 : decode cX0_go 68 = .ok (.iinc 3 1, 3) := by decide +kernel
theorem dX0_go_71 : decode cX0_go 71 = .ok (.goto (-64), 3) := by decide +kernel
theorem dX0_go_74 : decode cX0_go 74 = .ok (.return_, 1) := by decide +kernel
theorem dX0_begin_0 : decode cX0_begin 0 = .ok (.aload_n 0, 1) := by decide +kernel
theorem dX0_begin_1 : decode cX0_begin 1 = .ok (.getfield 12, 3) := by decide +kernel
theorem dX0_begin_4 : decode cX0_begin 4 = .ok (.iconst 0, 1) := by decide +kernel
theorem dX0_begin_5 : decode cX0_begin 5 = .ok (.putfield 65, 3) := by decide +kernel
theorem dX0_begin_8 : decode cX0_begin 8 = .ok (.aload_n 0, 1) := by decide +kernel
theorem dX0_begin_9 : decode cX0_begin 9 = .ok (.iconst 0, 1) := by decide +kernel
theorem dX0_begin_10 : decode cX0_begin 10 = .ok (.putfield 18, 3) := by decide +kernel
theorem dX0_begin_13 : decode cX0_begin 13 = .ok (.aload_n 0, 1) := by decide +kernel
theorem dX0_begin_14 : decode cX0_begin 14 = .ok (.iconst 0, 1) := by decide +kernel
theorem dX0_begin_15 : decode cX0_begin 15 = .ok (.putfield 22, 3) := by decide +kernel
theorem dX0_begin_18 : decode cX0_begin 18 = .ok (.aload_n 0, 1) := by decide +kernel
theorem dX0_begin_19 : decode cX0_begin 19 = .ok (.iconst 0, 1) := by decide +kernel
theorem dX0_begin_20 : decode cX0_begin 20 = .ok (.putfield 33, 3) := by decide +kernel
theorem dX0_begin_23 : decode cX0_begin 23 = .ok (.iconst 0, 1) := by decide +kernel
theorem dX0_begin_24 : decode cX0_begin 24 = .ok (.istore_n 2, 1) := by decide +kernel
theorem dX0_begin_25 : decode cX0_begin 25 = .ok (.iload_n 2, 1) := by decide +kernel
theorem dX0_begin_26 : decode cX0_begin 26 = .ok (.bipush 8, 2) := by decide +kernel
theorem dX0_begin_28 : decode cX0_begin 28 = .ok (.if_icmp .ge 28, 3) := by decide +kernel
theorem dX0_begin_31 : decode cX0_begin 31 = .ok (.aload_n 0, 1) := by decide +kernel
theorem dX0_begin_32 : decode cX0_begin 32 = .ok (.iload_n 2, 1) := by decide +kernel
theorem dX0_begin_33 : decode cX0_begin 33 = .ok (.aload_n 1, 1) := by decide +kernel
theorem dX0_begin_34 : decode cX0_begin 34 = .ok (.getfield 85, 3) := by decide +kernel
theorem dX0_begin_37 : decode cX0_begin 37 = .ok (.iload_n 2, 1) := by decide +kernel
theorem dX0_begin_38 : decode cX0_begin 38 = .ok (.iaload, 1) := by decide +kernel
theorem dX0_begin_39 : decode cX0_begin 39 = .ok (.i2l, 1) := by decide +kernel
theorem dX0_begin_40 : decode cX0_begin 40 = .ok (.aload_n 1, 1) := by decide +kernel
theorem dX0_begin_41 : decode cX0_begin 41 = .ok (.getfield 89, 3) := by decide +kernel
theorem dX0_begin_44 : decode cX0_begin 44 = .ok (.iload_n 2, 1) := by decide +kernel
theorem dX0_begin_45 : decode cX0_begin 45 = .ok (.iaload, 1) := by decide +kernel
theorem dX0_begin_46 : decode cX0_begin 46 = .ok (.i2l, 1) := by decide +kernel
theorem dX0_begin_47 : decode cX0_begin 47 = .ok (.invokevirtual 91, 3) := by decide +kernel
theorem dX0_begin_50 : decode cX0_begin 50 = .ok (.iinc 2 1, 3) := by decide +kernel
theorem dX0_begin_53 : decode cX0_begin 53 = .ok (.goto (-28), 3) := by decide +kernel
theorem dX0_begin_56 : decode cX0_begin 56 = .ok (.iconst 0, 1) := by decide +kernel
theorem dX0_begin_57 : decode cX0_begin 57 = .ok (.istore_n 2, 1) := by decide +kernel
theorem dX0_begin_58 : decode cX0_begin 58 = .ok (.iload_n 2, 1) := by decide +kernel
theorem dX0_begin_59 : decode cX0_begin 59 = .ok (.bipush 30, 2) := by decide +kernel
theorem dX0_begin_61 : decode cX0_begin 61 = .ok (.if_icmp .ge 44, 3) := by decide +kernel
theorem dX0_begin_64 : decode cX0_begin 64 = .ok (.aload_n 0, 1) := by decide +kernel
theorem dX0_begin_65 : decode cX0_begin 65 = .ok (.getfield 36, 3) := by decide +kernel
theorem dX0_begin_68 : decode cX0_begin 68 = .ok (.iload_n 2, 1) := by decide +kernel
theorem dX0_begin_69 : decode cX0_begin 69 = .ok (.iconst 0, 1) := by decide +kernel
theorem dX0_begin_70 : decode cX0_begin 70 = .ok (.bastore, 1) := by decide +kernel
theorem dX0_begin_71 : decode cX0_begin 71 = .ok (.aload_n 0, 1) := by decide +kernel
theorem dX0_begin_72 : decode cX0_begin 72 = .ok (.getfield 40, 3) := by decide +kernel
theorem dX0_begin_75 : decode cX0_begin 75 = .ok (.iload_n 2, 1) := by decide +kernel
theorem dX0_begin_76 : decode cX0_begin 76 = .ok (.iconst 0, 1) := by decide +kernel
theorem dX0_begin_77 : decode cX0_begin 77 = .ok (.bastore, 1) := by decide +kernel
theorem dX0_begin_78 : decode cX0_begin 78 = .ok (.aload_n 0, 1) := by decide +kernel
theorem dX0_begin_79 : decode cX0_begin 79 = .ok (.getfield 43, 3) := by decide +kernel
theorem dX0_begin_82 : decode cX0_begin 82 = .ok (.iload_n 2, 1) := by decide +kernel
theorem dX0_begin_83 : decode cX0_begin 83 = .ok (.lconst 0, 1) := by decide +kernel
theorem dX0_begin_84 : decode cX0_begin 84 = .ok (.lastore, 1) := by decide +kernel
theorem dX0_begin_85 : decode cX0_begin 85 = .ok (.aload_n 0, 1) := by decide +kernel
theorem dX0_begin_86 : decode cX0_begin 86 = .ok (.getfield 46, 3) := by decide +kernel
theorem dX0_begin_89 : decode cX0_begin 89 = .ok (.iload_n 2, 1) := by decide +kernel
theorem dX0_begin_90 : decode cX0_begin 90 = .ok (.lconst 0, 1) := by decide +kernel
theorem dX0_begin_91 : decode cX0_begin 91 = .ok (.lastore, 1) := by decide +kernel
theorem dX0_begin_92 : decode cX0_begin 92 = .ok (.aload_n 0, 1) := by decide +kernel
theorem dX0_begin_93 : decode cX0_begin 93 = .ok (.getfield 49, 3) := by decide +kernel
theorem dX0_begin_96 : decode cX0_begin 96 = .ok (.iload_n 2, 1) := by decide +kernel
theorem dX0_begin_97 : decode cX0_begin 97 = .ok (.iconst 0, 1) := by decide +kernel
theorem dX0_begin_98 : decode cX0_begin 98 = .ok (.iastore, 1) := by decide +kernel
theorem dX0_begin_99 : decode cX0_begin 99 = .ok (.iinc 2 1, 3) := by decide +kernel
theorem dX0_begin_102 : decode cX0_begin 102 = .ok (.goto (-44), 3) := by decide +kernel
theorem dX0_begin_105 : decode cX0_begin 105 = .ok (.return_, 1) := by decide +kernel
theorem dX0_assign_0 : decode cX0_assign 0 = .ok (.aload_n 0, 1) := by decide +kernel
theorem dX0_assign_1 : decode cX0_assign 1 = .ok (.getfield 26, 3) := by decide +kernel
theorem dX0_assign_4 : decode cX0_assign 4 = .ok (.iload_n 1, 1) := by decide +kernel
theorem dX0_assign_5 : decode cX0_assign 5 = .ok (.lload_n 2, 1) := by decide +kernel
theorem dX0_assign_6 : decode cX0_assign 6 = .ok (.lastore, 1) := by decide +kernel
theorem dX0_assign_7 : decode cX0_assign 7 = .ok (.aload_n 0, 1) := by decide +kernel
theorem dX0_assign_8 : decode cX0_assign 8 = .ok (.getfield 30, 3) := by decide +kernel
theorem dX0_assign_11 : decode cX0_assign 11 = .ok (.iload_n 1, 1) := by decide +kernel
theorem dX0_assign_12 : decode cX0_assign 12 = .ok (.lload 4, 2) := by decide +kernel
theorem dX0_assign_14 : decode cX0_assign 14 = .ok (.lastore, 1) := by decide +kernel
theorem dX0_assign_15 : decode cX0_assign 15 = .ok (.iconst 1, 1) := by decide +kernel
theorem dX0_assign_16 : decode cX0_assign 16 = .ok (.iload_n 1, 1) := by decide +kernel
theorem dX0_assign_17 : decode cX0_assign 17 = .ok (.ishl, 1) := by decide +kernel
theorem dX0_assign_18 : decode cX0_assign 18 = .ok (.istore 6, 2) := by decide +kernel
theorem dX0_assign_20 : decode cX0_assign 20 = .ok (.aload_n 0, 1) := by decide +kernel
theorem dX0_assign_21 : decode cX0_assign 21 = .ok (.lload_n 2, 1) := by decide +kernel
theorem dX0_assign_22 : decode cX0_assign 22 = .ok (.lconst 0, 1) := by decide +kernel
theorem dX0_assign_23 : decode cX0_assign 23 = .ok (.lcmp, 1) := by decide +kernel
theorem dX0_assign_24 : decode cX0_assign 24 = .ok (.ifCond .ge 13, 3) := by decide +kernel
theorem dX0_assign_27 : decode cX0_assign 27 = .ok (.aload_n 0, 1) := by decide +kernel
theorem dX0_assign_28 : decode cX0_assign 28 = .ok (.getfield 33, 3) := by decide +kernel
theorem dX0_assign_31 : decode cX0_assign 31 = .ok (.iload 6, 2) := by decide +kernel
theorem dX0_assign_33 : decode cX0_assign 33 = .ok (.ior, 1) := by decide +kernel
theorem dX0_assign_34 : decode cX0_assign 34 = .ok (.goto 12, 3) := by decide +kernel
theorem dX0_assign_37 : decode cX0_assign 37 = .ok (.aload_n 0, 1) := by decide +kernel
theorem dX0_assign_38 : decode cX0_assign 38 = .ok (.getfield 33, 3) := by decide +kernel
theorem dX0_assign_41 : decode cX0_assign 41 = .ok (.iload 6, 2) := by decide +kernel
theorem dX0_assign_43 : decode cX0_assign 43 = .ok (.iconst (-1), 1) := by decide +kernel
theorem dX0_assign_44 : decode cX0_assign 44 = .ok (.ixor, 1) := by decide +kernel
theorem dX0_assign_45 : decode cX0_assign 45 = .ok (.iand, 1) := by decide +kernel
theorem dX0_assign_46 : decode cX0_assign 46 = .ok (.putfield 33, 3) := by decide +kernel
theorem dX0_assign_49 : decode cX0_assign 49 = .ok (.return_, 1) := by decide +kernel
theorem dX0_execute_0 : decode cX0_execute 0 = .ok (.aload_n 0, 1) := by decide +kernel
theorem dX0_execute_1 : decode cX0_execute 1 = .ok (.getfield 49, 3) := by decide +kernel
theorem dX0_execute_4 : decode cX0_execute 4 = .ok (.iload_n 2, 1) := by decide +kernel
theorem dX0_execute_5 : decode cX0_execute 5 = .ok (.dup2, 1) := by decide +kernel
theorem dX0_execute_6 : decode cX0_execute 6 = .ok (.iaload, 1) := by decide +kernel
theorem dX0_execute_7 : decode cX0_execute 7 = .ok (.aload_n 0, 1) := by decide +kernel
theorem dX0_execute_8 : decode cX0_execute 8 = .ok (.getfield 33, 3) := by decide +kernel
theorem dX0_execute_11 : decode cX0_execute 11 = .ok (.ior, 1) := by decide +kernel
theorem dX0_execute_12 : decode cX0_execute 12 = .ok (.iastore, 1) := by decide +kernel
theorem dX0_execute_13 : decode cX0_execute 13 = .ok (.aload_n 0, 1) := by decide +kernel
theorem dX0_execute_14 : decode cX0_execute 14 = .ok (.aload_n 1, 1) := by decide +kernel
theorem dX0_execute_15 : decode cX0_execute 15 = .ok (.getfield 95, 3) := by decide +kernel
theorem dX0_execute_18 : decode cX0_execute 18 = .ok (.iload_n 2, 1) := by decide +kernel
theorem dX0_execute_19 : decode cX0_execute 19 = .ok (.iaload, 1) := by decide +kernel
theorem dX0_execute_20 : decode cX0_execute 20 = .ok (.aload_n 1, 1) := by decide +kernel
theorem dX0_execute_21 : decode cX0_execute 21 = .ok (.getfield 98, 3) := by decide +kernel
theorem dX0_execute_24 : decode cX0_execute 24 = .ok (.iload_n 2, 1) := by decide +kernel
theorem dX0_execute_25 : decode cX0_execute 25 = .ok (.iaload, 1) := by decide +kernel
theorem dX0_execute_26 : decode cX0_execute 26 = .ok (.aload_n 1, 1) := by decide +kernel
theorem dX0_execute_27 : decode cX0_execute 27 = .ok (.getfield 101, 3) := by decide +kernel
theorem dX0_execute_30 : decode cX0_execute 30 = .ok (.iload_n 2, 1) := by decide +kernel
theorem dX0_execute_31 : decode cX0_execute 31 = .ok (.iaload, 1) := by decide +kernel
theorem dX0_execute_32 : decode cX0_execute 32 = .ok (.invokevirtual 104, 3) := by decide +kernel
theorem dX0_execute_35 : decode cX0_execute 35 = .ok (.aload_n 0, 1) := by decide +kernel
theorem dX0_execute_36 : decode cX0_execute 36 = .ok (.iload_n 2, 1) := by decide +kernel
theorem dX0_execute_37 : decode cX0_execute 37 = .ok (.invokevirtual 108, 3) := by decide +kernel
theorem dX0_execute_40 : decode cX0_execute 40 = .ok (.aload_n 0, 1) := by decide +kernel
theorem dX0_execute_41 : decode cX0_execute 41 = .ok (.getfield 53, 3) := by decide +kernel
theorem dX0_execute_44 : decode cX0_execute 44 = .ok (.invokestatic 112, 3) := by decide +kernel
theorem dX0_execute_47 : decode cX0_execute 47 = .ok (.ifCond .eq 13, 3) := by decide +kernel
theorem dX0_execute_50 : decode cX0_execute 50 = .ok (.aload_n 0, 1) := by decide +kernel
theorem dX0_execute_51 : decode cX0_execute 51 = .ok (.getfield 57, 3) := by decide +kernel
theorem dX0_execute_54 : decode cX0_execute 54 = .ok (.invokestatic 112, 3) := by decide +kernel
theorem dX0_execute_57 : decode cX0_execute 57 = .ok (.ifCond .ne 57, 3) := by decide +kernel
theorem dX0_execute_60 : decode cX0_execute 60 = .ok (.aload_n 0, 1) := by decide +kernel
theorem dX0_execute_61 : decode cX0_execute 61 = .ok (.getfield 40, 3) := by decide +kernel
theorem dX0_execute_64 : decode cX0_execute 64 = .ok (.iload_n 2, 1) := by decide +kernel
theorem dX0_execute_65 : decode cX0_execute 65 = .ok (.baload, 1) := by decide +kernel
theorem dX0_execute_66 : decode cX0_execute 66 = .ok (.ifCond .ne 20, 3) := by decide +kernel
theorem dX0_execute_69 : decode cX0_execute 69 = .ok (.aload_n 0, 1) := by decide +kernel
theorem dX0_execute_70 : decode cX0_execute 70 = .ok (.getfield 40, 3) := by decide +kernel
theorem dX0_execute_73 : decode cX0_execute 73 = .ok (.iload_n 2, 1) := by decide +kernel
theorem dX0_execute_74 : decode cX0_execute 74 = .ok (.iconst 1, 1) := by decide +kernel
theorem dX0_execute_75 : decode cX0_execute 75 = .ok (.bastore, 1) := by decide +kernel
theorem dX0_execute_76 : decode cX0_execute 76 = .ok (.aload_n 0, 1) := by decide +kernel
theorem dX0_execute_77 : decode cX0_execute 77 = .ok (.dup, 1) := by decide +kernel
theorem dX0_execute_78 : decode cX0_execute 78 = .ok (.getfield 22, 3) := by decide +kernel
theorem dX0_execute_81 : decode cX0_execute 81 = .ok (.iconst 1, 1) := by decide +kernel
theorem dX0_execute_82 : decode cX0_execute 82 = .ok (.iadd, 1) := by decide +kernel
theorem dX0_execute_83 : decode cX0_execute 83 = .ok (.putfield 22, 3) := by decide +kernel
theorem dX0_execute_86 : decode cX0_execute 86 = .ok (.aload_n 0, 1) := by decide +kernel
theorem dX0_execute_87 : decode cX0_execute 87 = .ok (.aload_n 0, 1) := by decide +kernel
theorem dX0_execute_88 : decode cX0_execute 88 = .ok (.getfield 53, 3) := by decide +kernel
theorem dX0_execute_91 : decode cX0_execute 91 = .ok (.ldc2_w 118, 3) := by decide +kernel
theorem dX0_execute_94 : decode cX0_execute 94 = .ok (.invokestatic 120, 3) := by decide +kernel
theorem dX0_execute_97 : decode cX0_execute 97 = .ok (.putfield 53, 3) := by decide +kernel
theorem dX0_execute_100 : decode cX0_execute 100 = .ok (.aload_n 0, 1) := by decide +kernel
theorem dX0_execute_101 : decode cX0_execute 101 = .ok (.aload_n 0, 1) := by decide +kernel
theorem dX0_execute_102 : decode cX0_execute 102 = .ok (.getfield 57, 3) := by decide +kernel
theorem dX0_execute_105 : decode cX0_execute 105 = .ok (.ldc2_w 126, 3) := by decide +kernel
theorem dX0_execute_108 : decode cX0_execute 108 = .ok (.invokestatic 128, 3) := by decide +kernel
theorem dX0_execute_111 : decode cX0_execute 111 = .ok (.putfield 57, 3) := by decide +kernel
theorem dX0_execute_114 : decode cX0_execute 114 = .ok (.aload_n 0, 1) := by decide +kernel
theorem dX0_execute_115 : decode cX0_execute 115 = .ok (.getfield 53, 3) := by decide +kernel
theorem dX0_execute_118 : decode cX0_execute 118 = .ok (.aload_n 0, 1) := by decide +kernel
theorem dX0_execute_119 : decode cX0_execute 119 = .ok (.getfield 57, 3) := by decide +kernel
theorem dX0_execute_122 : decode cX0_execute 122 = .ok (.lcmp, 1) := by decide +kernel
theorem dX0_execute_123 : decode cX0_execute 123 = .ok (.ifCond .le 11, 3) := by decide +kernel
theorem dX0_execute_126 : decode cX0_execute 126 = .ok (.aload_n 0, 1) := by decide +kernel
theorem dX0_execute_127 : decode cX0_execute 127 = .ok (.iconst 1, 1) := by decide +kernel
theorem dX0_execute_128 : decode cX0_execute 128 = .ok (.putfield 18, 3) := by decide +kernel
theorem dX0_execute_131 : decode cX0_execute 131 = .ok (.goto 21, 3) := by decide +kernel
theorem dX0_execute_134 : decode cX0_execute 134 = .ok (.aload_n 0, 1) := by decide +kernel
theorem dX0_execute_135 : decode cX0_execute 135 = .ok (.aload_n 1, 1) := by decide +kernel
theorem dX0_execute_136 : decode cX0_execute 136 = .ok (.getfield 131, 3) := by decide +kernel
theorem dX0_execute_139 : decode cX0_execute 139 = .ok (.iload_n 2, 1) := by decide +kernel
theorem dX0_execute_140 : decode cX0_execute 140 = .ok (.iaload, 1) := by decide +kernel
theorem dX0_execute_141 : decode cX0_execute 141 = .ok (.aload_n 0, 1) := by decide +kernel
theorem dX0_execute_142 : decode cX0_execute 142 = .ok (.getfield 53, 3) := by decide +kernel
theorem dX0_execute_145 : decode cX0_execute 145 = .ok (.aload_n 0, 1) := by decide +kernel
theorem dX0_execute_146 : decode cX0_execute 146 = .ok (.getfield 57, 3) := by decide +kernel
theorem dX0_execute_149 : decode cX0_execute 149 = .ok (.invokevirtual 91, 3) := by decide +kernel
theorem dX0_execute_152 : decode cX0_execute 152 = .ok (.return_, 1) := by decide +kernel
theorem dX0_compute_0 : decode cX0_compute 0 = .ok (.aload_n 0, 1) := by decide +kernel
theorem dX0_compute_1 : decode cX0_compute 1 = .ok (.iload_n 2, 1) := by decide +kernel
theorem dX0_compute_2 : decode cX0_compute 2 = .ok (.invokevirtual 134, 3) := by decide +kernel
theorem dX0_compute_5 : decode cX0_compute 5 = .ok (.lstore 4, 2) := by decide +kernel
theorem dX0_compute_7 : decode cX0_compute 7 = .ok (.aload_n 0, 1) := by decide +kernel
theorem dX0_compute_8 : decode cX0_compute 8 = .ok (.iload_n 2, 1) := by decide +kernel
theorem dX0_compute_9 : decode cX0_compute 9 = .ok (.invokevirtual 138, 3) := by decide +kernel
theorem dX0_compute_12 : decode cX0_compute 12 = .ok (.lstore 6, 2) := by decide +kernel
theorem dX0_compute_14 : decode cX0_compute 14 = .ok (.iload_n 1, 1) := by decide +kernel
theorem dX0_compute_15 : decode cX0_compute 15 = .ok (.iconst 1, 1) := by decide +kernel
theorem dX0_compute_16 : decode cX0_compute 16 = .ok (.if_icmp .ne 30, 3) := by decide +kernel
theorem dX0_compute_19 : decode cX0_compute 19 = .ok (.aload_n 0, 1) := by decide +kernel
theorem dX0_compute_20 : decode cX0_compute 20 = .ok (.lload 4, 2) := by decide +kernel
theorem dX0_compute_22 : decode cX0_compute 22 = .ok (.aload_n 0, 1) := by decide +kernel
theorem dX0_compute_23 : decode cX0_compute 23 = .ok (.iload_n 3, 1) := by decide +kernel
theorem dX0_compute_24 : decode cX0_compute 24 = .ok (.invokevirtual 134, 3) := by decide +kernel
theorem dX0_compute_27 : decode cX0_compute 27 = .ok (.ladd, 1) := by decide +kernel
theorem dX0_compute_28 : decode cX0_compute 28 = .ok (.putfield 53, 3) := by decide +kernel
theorem dX0_compute_31 : decode cX0_compute 31 = .ok (.aload_n 0, 1) := by decide +kernel
theorem dX0_compute_32 : decode cX0_compute 32 = .ok (.lload 6, 2) := by decide +kernel
theorem dX0_compute_34 : decode cX0_compute 34 = .ok (.aload_n 0, 1) := by decide +kernel
theorem dX0_compute_35 : decode cX0_compute 35 = .ok (.iload_n 3, 1) := by decide +kernel
theorem dX0_compute_36 : decode cX0_compute 36 = .ok (.invokevirtual 138, 3) := by decide +kernel
theorem dX0_compute_39 : decode cX0_compute 39 = .ok (.ladd, 1) := by decide +kernel
theorem dX0_compute_40 : decode cX0_compute 40 = .ok (.putfield 57, 3) := by decide +kernel
theorem dX0_compute_43 : decode cX0_compute 43 = .ok (.goto 73, 3) := by decide +kernel
theorem dX0_compute_46 : decode cX0_compute 46 = .ok (.iload_n 1, 1) := by decide +kernel
theorem dX0_compute_47 : decode cX0_compute 47 = .ok (.iconst 2, 1) := by decide +kernel
theorem dX0_compute_48 : decode cX0_compute 48 = .ok (.if_icmp .ne 30, 3) := by decide +kernel
theorem dX0_compute_51 : decode cX0_compute 51 = .ok (.aload_n 0, 1) := by decide +kernel
theorem dX0_compute_52 : decode cX0_compute 52 = .ok (.lload 4, 2) := by decide +kernel
theorem dX0_compute_54 : decode cX0_compute 54 = .ok (.aload_n 0, 1) := by decide +kernel
theorem dX0_compute_55 : decode cX0_compute 55 = .ok (.iload_n 3, 1) := by decide +kernel
theorem dX0_compute_56 : decode cX0_compute 56 = .ok (.invokevirtual 138, 3) := by decide +kernel
theorem dX0_compute_59 : decode cX0_compute 59 = .ok (.lsub, 1) := by decide +kernel
theorem dX0_compute_60 : decode cX0_compute 60 = .ok (.putfield 53, 3) := by decide +kernel
theorem dX0_compute_63 : decode cX0_compute 63 = .ok (.aload_n 0, 1) := by decide +kernel
theorem dX0_compute_64 : decode cX0_compute 64 = .ok (.lload 6, 2) := by decide +kernel
theorem dX0_compute_66 : decode cX0_compute 66 = .ok (.aload_n 0, 1) := by decide +kernel
theorem dX0_compute_67 : decode cX0_compute 67 = .ok (.iload_n 3, 1) := by decide +kernel
theorem dX0_compute_68 : decode cX0_compute 68 = .ok (.invokevirtual 134, 3) := by decide +kernel
theorem dX0_compute_71 : decode cX0_compute 71 = .ok (.lsub, 1) := by decide +kernel
theorem dX0_compute_72 : decode cX0_compute 72 = .ok (.putfield 57, 3) := by decide +kernel
theorem dX0_compute_75 : decode cX0_compute 75 = .ok (.goto 41, 3) := by decide +kernel
theorem dX0_compute_78 : decode cX0_compute 78 = .ok (.iload_n 1, 1) := by decide +kernel
theorem dX0_compute_79 : decode cX0_compute 79 = .ok (.iconst 3, 1) := by decide +kernel
theorem dX0_compute_80 : decode cX0_compute 80 = .ok (.if_icmp .ne 24, 3) := by decide +kernel
theorem dX0_compute_83 : decode cX0_compute 83 = .ok (.aload_n 0, 1) := by decide +kernel
theorem dX0_compute_84 : decode cX0_compute 84 = .ok (.lload 4, 2) := by decide +kernel
theorem dX0_compute_86 : decode cX0_compute 86 = .ok (.lload 6, 2) := by decide +kernel
theorem dX0_compute_88 : decode cX0_compute 88 = .ok (.aload_n 0, 1) := by decide +kernel
theorem dX0_compute_89 : decode cX0_compute 89 = .ok (.iload_n 3, 1) := by decide +kernel
theorem dX0_compute_90 : decode cX0_compute 90 = .ok (.invokevirtual 134, 3) := by decide +kernel
theorem dX0_compute_93 : decode cX0_compute 93 = .ok (.aload_n 0, 1) := by decide +kernel
theorem dX0_compute_94 : decode cX0_compute 94 = .ok (.iload_n 3, 1) := by decide +kernel
theorem dX0_compute_95 : decode cX0_compute 95 = .ok (.invokevirtual 138, 3) := by decide +kernel
theorem dX0_compute_98 : decode cX0_compute 98 = .ok (.invokevirtual 141, 3) := by decide +kernel
theorem dX0_compute_101 : decode cX0_compute 101 = .ok (.goto 15, 3) := by decide +kernel
theorem dX0_compute_104 : decode cX0_compute 104 = .ok (.aload_n 0, 1) := by decide +kernel
theorem dX0_compute_105 : decode cX0_compute 105 = .ok (.lload 4, 2) := by decide +kernel
theorem dX0_compute_107 : decode cX0_compute 107 = .ok (.putfield 53, 3) := by decide +kernel
theorem dX0_compute_110 : decode cX0_compute 110 = .ok (.aload_n 0, 1) := by decide +kernel
theorem dX0_compute_111 : decode cX0_compute 111 = .ok (.lload 6, 2) := by decide +kernel
theorem dX0_compute_113 : decode cX0_compute 113 = .ok (.putfield 57, 3) := by decide +kernel
theorem dX0_compute_116 : decode cX0_compute 116 = .ok (.return_, 1) := by decide +kernel
theorem dX0_multiply_0 : decode cX0_multiply 0 = .ok (.lload_n 1, 1) := by decide +kernel
theorem dX0_multiply_1 : decode cX0_multiply 1 = .ok (.lload 5, 2) := by decide +kernel
theorem dX0_multiply_3 : decode cX0_multiply 3 = .ok (.lmul, 1) := by decide +kernel
theorem dX0_multiply_4 : decode cX0_multiply 4 = .ok (.lstore 9, 2) := by decide +kernel
theorem dX0_multiply_6 : decode cX0_multiply 6 = .ok (.lload_n 1, 1) := by decide +kernel
theorem dX0_multiply_7 : decode cX0_multiply 7 = .ok (.lload 7, 2) := by decide +kernel
theorem dX0_multiply_9 : decode cX0_multiply 9 = .ok (.lmul, 1) := by decide +kernel
theorem dX0_multiply_10 : decode cX0_multiply 10 = .ok (.lstore 11, 2) := by decide +kernel
theorem dX0_multiply_12 : decode cX0_multiply 12 = .ok (.lload_n 3, 1) := by decide +kernel
theorem dX0_multiply_13 : decode cX0_multiply 13 = .ok (.lload 5, 2) := by decide +kernel
theorem dX0_multiply_15 : decode cX0_multiply 15 = .ok (.lmul, 1) := by decide +kernel
theorem dX0_multiply_16 : decode cX0_multiply 16 = .ok (.lstore 13, 2) := by decide +kernel
theorem dX0_multiply_18 : decode cX0_multiply 18 = .ok (.lload_n 3, 1) := by decide +kernel
theorem dX0_multiply_19 : decode cX0_multiply 19 = .ok (.lload 7, 2) := by decide +kernel
theorem dX0_multiply_21 : decode cX0_multiply 21 = .ok (.lmul, 1) := by decide +kernel
theorem dX0_multiply_22 : decode cX0_multiply 22 = .ok (.lstore 15, 2) := by decide +kernel
theorem dX0_multiply_24 : decode cX0_multiply 24 = .ok (.aload_n 0, 1) := by decide +kernel
theorem dX0_multiply_25 : decode cX0_multiply 25 = .ok (.lload 9, 2) := by decide +kernel
theorem dX0_multiply_27 : decode cX0_multiply 27 = .ok (.lload 11, 2) := by decide +kernel
theorem dX0_multiply_29 : decode cX0_multiply 29 = .ok (.invokestatic 128, 3) := by decide +kernel
theorem dX0_multiply_32 : decode cX0_multiply 32 = .ok (.lload 13, 2) := by decide +kernel
theorem dX0_multiply_34 : decode cX0_multiply 34 = .ok (.lload 15, 2) := by decide +kernel
theorem dX0_multiply_36 : decode cX0_multiply 36 = .ok (.invokestatic 128, 3) := by decide +kernel
theorem dX0_multiply_39 : decode cX0_multiply 39 = .ok (.invokestatic 128, 3) := by decide +kernel
theorem dX0_multiply_42 : decode cX0_multiply 42 = .ok (.putfield 53, 3) := by decide +kernel
theorem dX0_multiply_45 : decode cX0_multiply 45 = .ok (.aload_n 0, 1) := by decide +kernel
theorem dX0_multiply_46 : decode cX0_multiply 46 = .ok (.lload 9, 2) := by decide +kernel
theorem dX0_multiply_48 : decode cX0_multiply 48 = .ok (.lload 11, 2) := by decide +kernel
theorem dX0_multiply_50 : decode cX0_multiply 50 = .ok (.invokestatic 120, 3) := by decide +kernel
theorem dX0_multiply_53 : decode cX0_multiply 53 = .ok (.lload 13, 2) := by decide +kernel
theorem dX0_multiply_55 : decode cX0_multiply 55 = .ok (.lload 15, 2) := by decide +kernel
theorem dX0_multiply_57 : decode cX0_multiply 57 = .ok (.invokestatic 120, 3) := by decide +kernel
theorem dX0_multiply_60 : decode cX0_multiply 60 = .ok (.invokestatic 120, 3) := by decide +kernel
theorem dX0_multiply_63 : decode cX0_multiply 63 = .ok (.putfield 57, 3) := by decide +kernel
theorem dX0_multiply_66 : decode cX0_multiply 66 = .ok (.return_, 1) := by decide +kernel
theorem dX0_lowOf_0 : decode cX0_lowOf 0 = .ok (.iload_n 1, 1) := by decide +kernel
theorem dX0_lowOf_1 : decode cX0_lowOf 1 = .ok (.invokestatic 145, 3) := by decide +kernel
theorem dX0_lowOf_4 : decode cX0_lowOf 4 = .ok (.ifCond .eq 12, 3) := by decide +kernel
theorem dX0_lowOf_7 : decode cX0_lowOf 7 = .ok (.aload_n 0, 1) := by decide +kernel
theorem dX0_lowOf_8 : decode cX0_lowOf 8 = .ok (.getfield 26, 3) := by decide +kernel
theorem dX0_lowOf_11 : decode cX0_lowOf 11 = .ok (.iload_n 1, 1) := by decide +kernel
theorem dX0_lowOf_12 : decode cX0_lowOf 12 = .ok (.laload, 1) := by decide +kernel
theorem dX0_lowOf_13 : decode cX0_lowOf 13 = .ok (.goto 9, 3) := by decide +kernel
theorem dX0_lowOf_16 : decode cX0_lowOf 16 = .ok (.iload_n 1, 1) := by decide +kernel
theorem dX0_lowOf_17 : decode cX0_lowOf 17 = .ok (.sipush 20000, 3) := by decide +kernel
theorem dX0_lowOf_20 : decode cX0_lowOf 20 = .ok (.isub, 1) := by decide +kernel
theorem dX0_lowOf_21 : decode cX0_lowOf 21 = .ok (.i2l, 1) := by decide +kernel
theorem dX0_lowOf_22 : decode cX0_lowOf 22 = .ok (.lreturn, 1) := by decide +kernel
theorem dX0_highOf_0 : decode cX0_highOf 0 = .ok (.iload_n 1, 1) := by decide +kernel
theorem dX0_highOf_1 : decode cX0_highOf 1 = .ok (.invokestatic 145, 3) := by decide +kernel
theorem dX0_highOf_4 : decode cX0_highOf 4 = .ok (.ifCond .eq 12, 3) := by decide +kernel
theorem dX0_highOf_7 : decode cX0_highOf 7 = .ok (.aload_n 0, 1) := by decide +kernel
theorem dX0_highOf_8 : decode cX0_highOf 8 = .ok (.getfield 30, 3) := by decide +kernel
theorem dX0_highOf_11 : decode cX0_highOf 11 = .ok (.iload_n 1, 1) := by decide +kernel
theorem dX0_highOf_12 : decode cX0_highOf 12 = .ok (.laload, 1) := by decide +kernel
theorem dX0_highOf_13 : decode cX0_highOf 13 = .ok (.goto 9, 3) := by decide +kernel
theorem dX0_highOf_16 : decode cX0_highOf 16 = .ok (.iload_n 1, 1) := by decide +kernel
theorem dX0_highOf_17 : decode cX0_highOf 17 = .ok (.sipush 20000, 3) := by decide +kernel
theorem dX0_highOf_20 : decode cX0_highOf 20 = .ok (.isub, 1) := by decide +kernel
theorem dX0_highOf_21 : decode cX0_highOf 21 = .ok (.i2l, 1) := by decide +kernel
theorem dX0_highOf_22 : decode cX0_highOf 22 = .ok (.lreturn, 1) := by decide +kernel
theorem dX0_note_0 : decode cX0_note 0 = .ok (.aload_n 0, 1) := by decide +kernel
theorem dX0_note_1 : decode cX0_note 1 = .ok (.getfield 36, 3) := by decide +kernel
theorem dX0_note_4 : decode cX0_note 4 = .ok (.iload_n 1, 1) := by decide +kernel
theorem dX0_note_5 : decode cX0_note 5 = .ok (.baload, 1) := by decide +kernel
theorem dX0_note_6 : decode cX0_note 6 = .ok (.ifCond .eq 44, 3) := by decide +kernel
theorem dX0_note_9 : decode cX0_note 9 = .ok (.aload_n 0, 1) := by decide +kernel
theorem dX0_note_10 : decode cX0_note 10 = .ok (.getfield 43, 3) := by decide +kernel
theorem dX0_note_13 : decode cX0_note 13 = .ok (.iload_n 1, 1) := by decide +kernel
theorem dX0_note_14 : decode cX0_note 14 = .ok (.aload_n 0, 1) := by decide +kernel
theorem dX0_note_15 : decode cX0_note 15 = .ok (.getfield 43, 3) := by decide +kernel
theorem dX0_note_18 : decode cX0_note 18 = .ok (.iload_n 1, 1) := by decide +kernel
theorem dX0_note_19 : decode cX0_note 19 = .ok (.laload, 1) := by decide +kernel
theorem dX0_note_20 : decode cX0_note 20 = .ok (.aload_n 0, 1) := by decide +kernel
theorem dX0_note_21 : decode cX0_note 21 = .ok (.getfield 53, 3) := by decide +kernel
theorem dX0_note_24 : decode cX0_note 24 = .ok (.invokestatic 128, 3) := by decide +kernel
theorem dX0_note_27 : decode cX0_note 27 = .ok (.lastore, 1) := by decide +kernel
theorem dX0_note_28 : decode cX0_note 28 = .ok (.aload_n 0, 1) := by decide +kernel
theorem dX0_note_29 : decode cX0_note 29 = .ok (.getfield 46, 3) := by decide +kernel
theorem dX0_note_32 : decode cX0_note 32 = .ok (.iload_n 1, 1) := by decide +kernel
theorem dX0_note_33 : decode cX0_note 33 = .ok (.aload_n 0, 1) := by decide +kernel
theorem dX0_note_34 : decode cX0_note 34 = .ok (.getfield 46, 3) := by decide +kernel
theorem dX0_note_37 : decode cX0_note 37 = .ok (.iload_n 1, 1) := by decide +kernel
theorem dX0_note_38 : decode cX0_note 38 = .ok (.laload, 1) := by decide +kernel
theorem dX0_note_39 : decode cX0_note 39 = .ok (.aload_n 0, 1) := by decide +kernel
theorem dX0_note_40 : decode cX0_note 40 = .ok (.getfield 57, 3) := by decide +kernel
theorem dX0_note_43 : decode cX0_note 43 = .ok (.invokestatic 120, 3) := by decide +kernel
theorem dX0_note_46 : decode cX0_note 46 = .ok (.lastore, 1) := by decide +kernel
theorem dX0_note_47 : decode cX0_note 47 = .ok (.goto 30, 3) := by decide +kernel
theorem dX0_note_50 : decode cX0_note 50 = .ok (.aload_n 0, 1) := by decide +kernel
theorem dX0_note_51 : decode cX0_note 51 = .ok (.getfield 36, 3) := by decide +kernel
theorem dX0_note_54 : decode cX0_note 54 = .ok (.iload_n 1, 1) := by decide +kernel
theorem dX0_note_55 : decode cX0_note 55 = .ok (.iconst 1, 1) := by decide +kernel
theorem dX0_note_56 : decode cX0_note 56 = .ok (.bastore, 1) := by decide +kernel
theorem dX0_note_57 : decode cX0_note 57 = .ok (.aload_n 0, 1) := by decide +kernel
theorem dX0_note_58 : decode cX0_note 58 = .ok (.getfield 43, 3) := by decide +kernel
theorem dX0_note_61 : decode cX0_note 61 = .ok (.iload_n 1, 1) := by decide +kernel
theorem dX0_note_62 : decode cX0_note 62 = .ok (.aload_n 0, 1) := by decide +kernel
theorem dX0_note_63 : decode cX0_note 63 = .ok (.getfield 53, 3) := by decide +kernel
theorem dX0_note_66 : decode cX0_note 66 = .ok (.lastore, 1) := by decide +kernel
theorem dX0_note_67 : decode cX0_note 67 = .ok (.aload_n 0, 1) := by decide +kernel
theorem dX0_note_68 : decode cX0_note 68 = .ok (.getfield 46, 3) := by decide +kernel
theorem dX0_note_71 : decode cX0_note 71 = .ok (.iload_n 1, 1) := by decide +kernel
theorem dX0_note_72 : decode cX0_note 72 = .ok (.aload_n 0, 1) := by decide +kernel
theorem dX0_note_73 : decode cX0_note 73 = .ok (.getfield 57, 3) := by decide +kernel
theorem dX0_note_76 : decode cX0_note 76 = .ok (.lastore, 1) := by decide +kernel
theorem dX0_note_77 : decode cX0_note 77 = .ok (.return_, 1) := by decide +kernel
theorem dX0_finalLow_0 : decode cX0_finalLow 0 = .ok (.aload_n 0, 1) := by decide +kernel
theorem dX0_finalLow_1 : decode cX0_finalLow 1 = .ok (.getfield 18, 3) := by decide +kernel
theorem dX0_finalLow_4 : decode cX0_finalLow 4 = .ok (.ifCond .eq 7, 3) := by decide +kernel
theorem dX0_finalLow_7 : decode cX0_finalLow 7 = .ok (.iconst 0, 1) := by decide +kernel
theorem dX0_finalLow_8 : decode cX0_finalLow 8 = .ok (.goto 10, 3) := by decide +kernel
theorem dX0_finalLow_11 : decode cX0_finalLow 11 = .ok (.aload_n 0, 1) := by decide +kernel
theorem dX0_finalLow_12 : decode cX0_finalLow 12 = .ok (.getfield 26, 3) := by decide +kernel
theorem dX0_finalLow_15 : decode cX0_finalLow 15 = .ok (.iload_n 1, 1) := by decide +kernel
theorem dX0_finalLow_16 : decode cX0_finalLow 16 = .ok (.laload, 1) := by decide +kernel
theorem dX0_finalLow_17 : decode cX0_finalLow 17 = .ok (.l2i, 1) := by decide +kernel
theorem dX0_finalLow_18 : decode cX0_finalLow 18 = .ok (.ireturn, 1) := by decide +kernel
theorem dX0_finalHigh_0 : decode cX0_finalHigh 0 = .ok (.aload_n 0, 1) := by decide +kernel
theorem dX0_finalHigh_1 : decode cX0_finalHigh 1 = .ok (.getfield 18, 3) := by decide +kernel
theorem dX0_finalHigh_4 : decode cX0_finalHigh 4 = .ok (.ifCond .eq 7, 3) := by decide +kernel
theorem dX0_finalHigh_7 : decode cX0_finalHigh 7 = .ok (.iconst 0, 1) := by decide +kernel
theorem dX0_finalHigh_8 : decode cX0_finalHigh 8 = .ok (.goto 10, 3) := by decide +kernel
theorem dX0_finalHigh_11 : decode cX0_finalHigh 11 = .ok (.aload_n 0, 1) := by decide +kernel
theorem dX0_finalHigh_12 : decode cX0_finalHigh 12 = .ok (.getfield 30, 3) := by decide +kernel
theorem dX0_finalHigh_15 : decode cX0_finalHigh 15 = .ok (.iload_n 1, 1) := by decide +kernel
theorem dX0_finalHigh_16 : decode cX0_finalHigh 16 = .ok (.laload, 1) := by decide +kernel
theorem dX0_finalHigh_17 : decode cX0_finalHigh 17 = .ok (.l2i, 1) := by decide +kernel
theorem dX0_finalHigh_18 : decode cX0_finalHigh 18 = .ok (.ireturn, 1) := by decide +kernel
theorem dX0_isNeverNegative_0 : decode cX0_isNeverNegative 0 = .ok (.iload_n 1, 1) := by decide +kernel
theorem dX0_isNeverNegative_1 : decode cX0_isNeverNegative 1 = .ok (.invokestatic 145, 3) := by decide +kernel
theorem dX0_isNeverNegative_4 : decode cX0_isNeverNegative 4 = .ok (.ifCond .ne 16, 3) := by decide +kernel
theorem dX0_isNeverNegative_7 : decode cX0_isNeverNegative 7 = .ok (.iload_n 1, 1) := by decide +kernel
theorem dX0_isNeverNegative_8 : decode cX0_isNeverNegative 8 = .ok (.sipush 20000, 3) := by decide +kernel
theorem dX0_isNeverNegative_11 : decode cX0_isNeverNegative 11 = .ok (.if_icmp .lt 7, 3) := by decide +kernel
theorem dX0_isNeverNegative_14 : decode cX0_isNeverNegative 14 = .ok (.iconst 1, 1) := by decide +kernel
theorem dX0_isNeverNegative_15 : decode cX0_isNeverNegative 15 = .ok (.goto 4, 3) := by decide +kernel
theorem dX0_isNeverNegative_18 : decode cX0_isNeverNegative 18 = .ok (.iconst 0, 1) := by decide +kernel
theorem dX0_isNeverNegative_19 : decode cX0_isNeverNegative 19 = .ok (.ireturn, 1) := by decide +kernel
theorem dX0_isNeverNegative_20 : decode cX0_isNeverNegative 20 = .ok (.aload_n 0, 1) := by decide +kernel
theorem dX0_isNeverNegative_21 : decode cX0_isNeverNegative 21 = .ok (.getfield 49, 3) := by decide +kernel
theorem dX0_isNeverNegative_24 : decode cX0_isNeverNegative 24 = .ok (.iload_n 2, 1) := by decide +kernel
theorem dX0_isNeverNegative_25 : decode cX0_isNeverNegative 25 = .ok (.iaload, 1) := by decide +kernel
theorem dX0_isNeverNegative_26 : decode cX0_isNeverNegative 26 = .ok (.aload_n 0, 1) := by decide +kernel
theorem dX0_isNeverNegative_27 : decode cX0_isNeverNegative 27 = .ok (.getfield 49, 3) := by decide +kernel
theorem dX0_isNeverNegative_30 : decode cX0_isNeverNegative 30 = .ok (.iload_n 3, 1) := by decide +kernel
theorem dX0_isNeverNegative_31 : decode cX0_isNeverNegative 31 = .ok (.iaload, 1) := by decide +kernel
theorem dX0_isNeverNegative_32 : decode cX0_isNeverNegative 32 = .ok (.ior, 1) := by decide +kernel
theorem dX0_isNeverNegative_33 : decode cX0_isNeverNegative 33 = .ok (.iconst 1, 1) := by decide +kernel
theorem dX0_isNeverNegative_34 : decode cX0_isNeverNegative 34 = .ok (.iload_n 1, 1) := by decide +kernel
theorem dX0_isNeverNegative_35 : decode cX0_isNeverNegative 35 = .ok (.ishl, 1) := by decide +kernel
theorem dX0_isNeverNegative_36 : decode cX0_isNeverNegative 36 = .ok (.iand, 1) := by decide +kernel
theorem dX0_isNeverNegative_37 : decode cX0_isNeverNegative 37 = .ok (.ifCond .ne 7, 3) := by decide +kernel
theorem dX0_isNeverNegative_40 : decode cX0_isNeverNegative 40 = .ok (.iconst 1, 1) := by decide +kernel
theorem dX0_isNeverNegative_41 : decode cX0_isNeverNegative 41 = .ok (.goto 4, 3) := by decide +kernel
theorem dX0_isNeverNegative_44 : decode cX0_isNeverNegative 44 = .ok (.iconst 0, 1) := by decide +kernel
theorem dX0_isNeverNegative_45 : decode cX0_isNeverNegative 45 = .ok (.ireturn, 1) := by decide +kernel
theorem dX1_init_0 : decode cX1_init 0 = .ok (.aload_n 0, 1) := by decide +kernel
theorem dX1_init_1 : decode cX1_init 1 = .ok (.invokespecial 3, 3) := by decide +kernel
theorem dX1_init_4 : decode cX1_init 4 = .ok (.aload_n 0, 1) := by decide +kernel
theorem dX1_init_5 : decode cX1_init 5 = .ok (.iconst 0, 1) := by decide +kernel
theorem dX1_init_6 : decode cX1_init 6 = .ok (.putfield 9, 3) := by decide +kernel
theorem dX1_init_9 : decode cX1_init 9 = .ok (.aload_n 0, 1) := by decide +kernel
theorem dX1_init_10 : decode cX1_init 10 = .ok (.iconst 2, 1) := by decide +kernel
theorem dX1_init_11 : decode cX1_init 11 = .ok (.newarray .int, 2) := by decide +kernel
theorem dX1_init_13 : decode cX1_init 13 = .ok (.putfield 15, 3) := by decide +kernel
theorem dX1_init_16 : decode cX1_init 16 = .ok (.return_, 1) := by decide +kernel
theorem dX1_advance_0 : decode cX1_advance 0 = .ok (.aload_n 1, 1) := by decide +kernel
theorem dX1_advance_1 : decode cX1_advance 1 = .ok (.getfield 19, 3) := by decide +kernel
theorem dX1_advance_4 : decode cX1_advance 4 = .ok (.aload_n 0, 1) := by decide +kernel
theorem dX1_advance_5 : decode cX1_advance 5 = .ok (.getfield 9, 3) := by decide +kernel
theorem dX1_advance_8 : decode cX1_advance 8 = .ok (.iaload, 1) := by decide +kernel
theorem dX1_advance_9 : decode cX1_advance 9 = .ok (.istore_n 2, 1) := by decide +kernel
theorem dX1_advance_10 : decode cX1_advance 10 = .ok (.aload_n 1, 1) := by decide +kernel
theorem dX1_advance_11 : decode cX1_advance 11 = .ok (.getfield 24, 3) := by decide +kernel
theorem dX1_advance_14 : decode cX1_advance 14 = .ok (.aload_n 0, 1) := by decide +kernel
theorem dX1_advance_15 : decode cX1_advance 15 = .ok (.getfield 9, 3) := by decide +kernel
theorem dX1_advance_18 : decode cX1_advance 18 = .ok (.iaload, 1) := by decide +kernel
theorem dX1_advance_19 : decode cX1_advance 19 = .ok (.iconst 4, 1) := by decide +kernel
theorem dX1_advance_20 : decode cX1_advance 20 = .ok (.if_icmp .ne 21, 3) := by decide +kernel
theorem dX1_advance_23 : decode cX1_advance 23 = .ok (.aload_n 0, 1) := by decide +kernel
theorem dX1_advance_24 : decode cX1_advance 24 = .ok (.getfield 15, 3) := by decide +kernel
theorem dX1_advance_27 : decode cX1_advance 27 = .ok (.iload_n 2, 1) := by decide +kernel
theorem dX1_advance_28 : decode cX1_advance 28 = .ok (.aload_n 1, 1) := by decide +kernel
theorem dX1_advance_29 : decode cX1_advance 29 = .ok (.getfield 27, 3) := by decide +kernel
theorem dX1_advance_32 : decode cX1_advance 32 = .ok (.aload_n 0, 1) := by decide +kernel
theorem dX1_advance_33 : decode cX1_advance 33 = .ok (.getfield 9, 3) := by decide +kernel
theorem dX1_advance_36 : decode cX1_advance 36 = .ok (.iaload, 1) := by decide +kernel
theorem dX1_advance_37 : decode cX1_advance 37 = .ok (.iastore, 1) := by decide +kernel
theorem dX1_advance_38 : decode cX1_advance 38 = .ok (.goto 48, 3) := by decide +kernel
theorem dX1_advance_41 : decode cX1_advance 41 = .ok (.aload_n 1, 1) := by decide +kernel
theorem dX1_advance_42 : decode cX1_advance 42 = .ok (.getfield 24, 3) := by decide +kernel
theorem dX1_advance_45 : decode cX1_advance 45 = .ok (.aload_n 0, 1) := by decide +kernel
theorem dX1_advance_46 : decode cX1_advance 46 = .ok (.getfield 9, 3) := by decide +kernel
theorem dX1_advance_49 : decode cX1_advance 49 = .ok (.iaload, 1) := by decide +kernel
theorem dX1_advance_50 : decode cX1_advance 50 = .ok (.iconst 5, 1) := by decide +kernel
theorem dX1_advance_51 : decode cX1_advance 51 = .ok (.if_icmp .ne 35, 3) := by decide +kernel
theorem dX1_advance_54 : decode cX1_advance 54 = .ok (.aload_n 0, 1) := by decide +kernel
theorem dX1_advance_55 : decode cX1_advance 55 = .ok (.getfield 15, 3) := by decide +kernel
theorem dX1_advance_58 : decode cX1_advance 58 = .ok (.iload_n 2, 1) := by decide +kernel
theorem dX1_advance_59 : decode cX1_advance 59 = .ok (.dup2, 1) := by decide +kernel
theorem dX1_advance_60 : decode cX1_advance 60 = .ok (.iaload, 1) := by decide +kernel
theorem dX1_advance_61 : decode cX1_advance 61 = .ok (.iconst 1, 1) := by decide +kernel
theorem dX1_advance_62 : decode cX1_advance 62 = .ok (.isub, 1) := by decide +kernel
theorem dX1_advance_63 : decode cX1_advance 63 = .ok (.iastore, 1) := by decide +kernel
theorem dX1_advance_64 : decode cX1_advance 64 = .ok (.aload_n 0, 1) := by decide +kernel
theorem dX1_advance_65 : decode cX1_advance 65 = .ok (.getfield 15, 3) := by decide +kernel
theorem dX1_advance_68 : decode cX1_advance 68 = .ok (.iload_n 2, 1) := by decide +kernel
theorem dX1_advance_69 : decode cX1_advance 69 = .ok (.iaload, 1) := by decide +kernel
theorem dX1_advance_70 : decode cX1_advance 70 = .ok (.ifCond .le 16, 3) := by decide +kernel
theorem dX1_advance_73 : decode cX1_advance 73 = .ok (.aload_n 0, 1) := by decide +kernel
theorem dX1_advance_74 : decode cX1_advance 74 = .ok (.aload_n 1, 1) := by decide +kernel
theorem dX1_advance_75 : decode cX1_advance 75 = .ok (.getfield 30, 3) := by decide +kernel
theorem dX1_advance_78 : decode cX1_advance 78 = .ok (.aload_n 0, 1) := by decide +kernel
theorem dX1_advance_79 : decode cX1_advance 79 = .ok (.getfield 9, 3) := by decide +kernel
theorem dX1_advance_82 : decode cX1_advance 82 = .ok (.iaload, 1) := by decide +kernel
theorem dX1_advance_83 : decode cX1_advance 83 = .ok (.putfield 9, 3) := by decide +kernel
theorem dX1_advance_86 : decode cX1_advance 86 = .ok (.aload_n 0, 1) := by decide +kernel
theorem dX1_advance_87 : decode cX1_advance 87 = .ok (.dup, 1) := by decide +kernel
theorem dX1_advance_88 : decode cX1_advance 88 = .ok (.getfield 9, 3) := by decide +kernel
theorem dX1_advance_91 : decode cX1_advance 91 = .ok (.iconst 1, 1) := by decide +kernel
theorem dX1_advance_92 : decode cX1_advance 92 = .ok (.iadd, 1) := by decide +kernel
theorem dX1_advance_93 : decode cX1_advance 93 = .ok (.putfield 9, 3) := by decide +kernel
theorem dX1_advance_96 : decode cX1_advance 96 = .ok (.return_, 1) := by decide +kernel
theorem dX2_init_0 : decode cX2_init 0 = .ok (.aload_n 0, 1) := by decide +kernel
theorem dX2_init_1 : decode cX2_init 1 = .ok (.invokespecial 3, 3) := by decide +kernel
theorem dX2_init_4 : decode cX2_init 4 = .ok (.aload_n 0, 1) := by decide +kernel
theorem dX2_init_5 : decode cX2_init 5 = .ok (.iconst 0, 1) := by decide +kernel
theorem dX2_init_6 : decode cX2_init 6 = .ok (.putfield 9, 3) := by decide +kernel
theorem dX2_init_9 : decode cX2_init 9 = .ok (.aload_n 0, 1) := by decide +kernel
theorem dX2_init_10 : decode cX2_init 10 = .ok (.iconst 4, 1) := by decide +kernel
theorem dX2_init_11 : decode cX2_init 11 = .ok (.anewarray 15, 3) := by decide +kernel
theorem dX2_init_14 : decode cX2_init 14 = .ok (.putfield 17, 3) := by decide +kernel
theorem dX2_init_17 : decode cX2_init 17 = .ok (.iconst 0, 1) := by decide +kernel
theorem dX2_init_18 : decode cX2_init 18 = .ok (.istore_n 1, 1) := by decide +kernel
theorem dX2_init_19 : decode cX2_init 19 = .ok (.iload_n 1, 1) := by decide +kernel
theorem dX2_init_20 : decode cX2_init 20 = .ok (.iconst 4, 1) := by decide +kernel
theorem dX2_init_21 : decode cX2_init 21 = .ok (.if_icmp .ge 22, 3) := by decide +kernel
theorem dX2_init_24 : decode cX2_init 24 = .ok (.aload_n 0, 1) := by decide +kernel
theorem dX2_init_25 : decode cX2_init 25 = .ok (.getfield 17, 3) := by decide +kernel
theorem dX2_init_28 : decode cX2_init 28 = .ok (.iload_n 1, 1) := by decide +kernel
theorem dX2_init_29 : decode cX2_init 29 = .ok (.new 15, 3) := by decide +kernel
theorem dX2_init_32 : decode cX2_init 32 = .ok (.dup, 1) := by decide +kernel
theorem dX2_init_33 : decode cX2_init 33 = .ok (.invokespecial 21, 3) := by decide +kernel
theorem dX2_init_36 : decode cX2_init 36 = .ok (.aastore, 1) := by decide +kernel
theorem dX2_init_37 : decode cX2_init 37 = .ok (.iinc 1 1, 3) := by decide +kernel
theorem dX2_init_40 : decode cX2_init 40 = .ok (.goto (-21), 3) := by decide +kernel
theorem dX2_init_43 : decode cX2_init 43 = .ok (.return_, 1) := by decide +kernel
theorem dX2_save_0 : decode cX2_save 0 = .ok (.aload_n 0, 1) := by decide +kernel
theorem dX2_save_1 : decode cX2_save 1 = .ok (.getfield 9, 3) := by decide +kernel
theorem dX2_save_4 : decode cX2_save 4 = .ok (.iconst 4, 1) := by decide +kernel
theorem dX2_save_5 : decode cX2_save 5 = .ok (.if_icmp .ne 7, 3) := by decide +kernel
theorem dX2_save_8 : decode cX2_save 8 = .ok (.aload_n 0, 1) := by decide +kernel
theorem dX2_save_9 : decode cX2_save 9 = .ok (.invokevirtual 22, 3) := by decide +kernel
theorem dX2_save_12 : decode cX2_save 12 = .ok (.aload_n 0, 1) := by decide +kernel
theorem dX2_save_13 : decode cX2_save 13 = .ok (.getfield 17, 3) := by decide +kernel
theorem dX2_save_16 : decode cX2_save 16 = .ok (.aload_n 0, 1) := by decide +kernel
theorem dX2_save_17 : decode cX2_save 17 = .ok (.getfield 9, 3) := by decide +kernel
theorem dX2_save_20 : decode cX2_save 20 = .ok (.aaload, 1) := by decide +kernel
theorem dX2_save_21 : decode cX2_save 21 = .ok (.aload_n 1, 1) := by decide +kernel
theorem dX2_save_22 : decode cX2_save 22 = .ok (.invokevirtual 25, 3) := by decide +kernel
theorem dX2_save_25 : decode cX2_save 25 = .ok (.aload_n 0, 1) := by decide +kernel
theorem dX2_save_26 : decode cX2_save 26 = .ok (.dup, 1) := by decide +kernel
theorem dX2_save_27 : decode cX2_save 27 = .ok (.getfield 9, 3) := by decide +kernel
theorem dX2_save_30 : decode cX2_save 30 = .ok (.iconst 1, 1) := by decide +kernel
theorem dX2_save_31 : decode cX2_save 31 = .ok (.iadd, 1) := by decide +kernel
theorem dX2_save_32 : decode cX2_save 32 = .ok (.putfield 9, 3) := by decide +kernel
theorem dX2_save_35 : decode cX2_save 35 = .ok (.return_, 1) := by decide +kernel
theorem dX2_dropOldest_0 : decode cX2_dropOldest 0 = .ok (.aload_n 0, 1) := by decide +kernel
theorem dX2_dropOldest_1 : decode cX2_dropOldest 1 = .ok (.getfield 17, 3) := by decide +kernel
theorem dX2_dropOldest_4 : decode cX2_dropOldest 4 = .ok (.iconst 0, 1) := by decide +kernel
theorem dX2_dropOldest_5 : decode cX2_dropOldest 5 = .ok (.aaload, 1) := by decide +kernel
theorem dX2_dropOldest_6 : decode cX2_dropOldest 6 = .ok (.astore_n 1, 1) := by decide +kernel
theorem dX2_dropOldest_7 : decode cX2_dropOldest 7 = .ok (.iconst 1, 1) := by decide +kernel
theorem dX2_dropOldest_8 : decode cX2_dropOldest 8 = .ok (.istore_n 2, 1) := by decide +kernel
theorem dX2_dropOldest_9 : decode cX2_dropOldest 9 = .ok (.iload_n 2, 1) := by decide +kernel
theorem dX2_dropOldest_10 : decode cX2_dropOldest 10 = .ok (.iconst 4, 1) := by decide +kernel
theorem dX2_dropOldest_11 : decode cX2_dropOldest 11 = .ok (.if_icmp .ge 23, 3) := by decide +kernel
theorem dX2_dropOldest_14 : decode cX2_dropOldest 14 = .ok (.aload_n 0, 1) := by decide +kernel
theorem dX2_dropOldest_15 : decode cX2_dropOldest 15 = .ok (.getfield 17, 3) := by decide +kernel
theorem dX2_dropOldest_18 : decode cX2_dropOldest 18 = .ok (.iload_n 2, 1) := by decide +kernel
theorem dX2_dropOldest_19 : decode cX2_dropOldest 19 = .ok (.iconst 1, 1) := by decide +kernel
theorem dX2_dropOldest_20 : decode cX2_dropOldest 20 = .ok (.isub, 1) := by decide +kernel
theorem dX2_dropOldest_21 : decode cX2_dropOldest 21 = .ok (.aload_n 0, 1) := by decide +kernel
theorem dX2_dropOldest_22 : decode cX2_dropOldest 22 = .ok (.getfield 17, 3) := by decide +kernel
theorem dX2_dropOldest_25 : decode cX2_dropOldest 25 = .ok (.iload_n 2, 1) := by decide +kernel
theorem dX2_dropOldest_26 : decode cX2_dropOldest 26 = .ok (.aaload, 1) := by decide +kernel
theorem dX2_dropOldest_27 : decode cX2_dropOldest 27 = .ok (.aastore, 1) := by decide +kernel
theorem dX2_dropOldest_28 : decode cX2_dropOldest 28 = .ok (.iinc 2 1, 3) := by decide +kernel
theorem dX2_dropOldest_31 : decode cX2_dropOldest 31 = .ok (.goto (-22), 3) := by decide +kernel
theorem dX2_dropOldest_34 : decode cX2_dropOldest 34 = .ok (.aload_n 0, 1) := by decide +kernel
theorem dX2_dropOldest_35 : decode cX2_dropOldest 35 = .ok (.getfield 17, 3) := by decide +kernel
theorem dX2_dropOldest_38 : decode cX2_dropOldest 38 = .ok (.iconst 3, 1) := by decide +kernel
theorem dX2_dropOldest_39 : decode cX2_dropOldest 39 = .ok (.aload_n 1, 1) := by decide +kernel
theorem dX2_dropOldest_40 : decode cX2_dropOldest 40 = .ok (.aastore, 1) := by decide +kernel
theorem dX2_dropOldest_41 : decode cX2_dropOldest 41 = .ok (.aload_n 0, 1) := by decide +kernel
theorem dX2_dropOldest_42 : decode cX2_dropOldest 42 = .ok (.dup, 1) := by decide +kernel
theorem dX2_dropOldest_43 : decode cX2_dropOldest 43 = .ok (.getfield 9, 3) := by decide +kernel
theorem dX2_dropOldest_46 : decode cX2_dropOldest 46 = .ok (.iconst 1, 1) := by decide +kernel
theorem dX2_dropOldest_47 : decode cX2_dropOldest 47 = .ok (.isub, 1) := by decide +kernel
theorem dX2_dropOldest_48 : decode cX2_dropOldest 48 = .ok (.putfield 9, 3) := by decide +kernel
theorem dX2_dropOldest_51 : decode cX2_dropOldest 51 = .ok (.return_, 1) := by decide +kernel
theorem dX2_restore_0 : decode cX2_restore 0 = .ok (.aload_n 0, 1) := by decide +kernel
theorem dX2_restore_1 : decode cX2_restore 1 = .ok (.getfield 9, 3) := by decide +kernel
theorem dX2_restore_4 : decode cX2_restore 4 = .ok (.ifCond .le 26, 3) := by decide +kernel
theorem dX2_restore_7 : decode cX2_restore 7 = .ok (.aload_n 0, 1) := by decide +kernel
theorem dX2_restore_8 : decode cX2_restore 8 = .ok (.dup, 1) := by decide +kernel
theorem dX2_restore_9 : decode cX2_restore 9 = .ok (.getfield 9, 3) := by decide +kernel
theorem dX2_restore_12 : decode cX2_restore 12 = .ok (.iconst 1, 1) := by decide +kernel
theorem dX2_restore_13 : decode cX2_restore 13 = .ok (.isub, 1) := by decide +kernel
theorem dX2_restore_14 : decode cX2_restore 14 = .ok (.putfield 9, 3) := by decide +kernel
theorem dX2_restore_17 : decode cX2_restore 17 = .ok (.aload_n 1, 1) := by decide +kernel
theorem dX2_restore_18 : decode cX2_restore 18 = .ok (.aload_n 0, 1) := by decide +kernel
theorem dX2_restore_19 : decode cX2_restore 19 = .ok (.getfield 17, 3) := by decide +kernel
theorem dX2_restore_22 : decode cX2_restore 22 = .ok (.aload_n 0, 1) := by decide +kernel
theorem dX2_restore_23 : decode cX2_restore 23 = .ok (.getfield 9, 3) := by decide +kernel
theorem dX2_restore_26 : decode cX2_restore 26 = .ok (.aaload, 1) := by decide +kernel
theorem dX2_restore_27 : decode cX2_restore 27 = .ok (.invokevirtual 25, 3) := by decide +kernel
theorem dX2_restore_30 : decode cX2_restore 30 = .ok (.return_, 1) := by decide +kernel
theorem dX3_init_0 : decode cX3_init 0 = .ok (.aload_n 0, 1) := by decide +kernel
theorem dX3_init_1 : decode cX3_init 1 = .ok (.invokespecial 3, 3) := by decide +kernel
theorem dX3_init_4 : decode cX3_init 4 = .ok (.aload_n 0, 1) := by decide +kernel
theorem dX3_init_5 : decode cX3_init 5 = .ok (.bipush 8, 2) := by decide +kernel
theorem dX3_init_7 : decode cX3_init 7 = .ok (.newarray .int, 2) := by decide +kernel
theorem dX3_init_9 : decode cX3_init 9 = .ok (.putfield 9, 3) := by decide +kernel
theorem dX3_init_12 : decode cX3_init 12 = .ok (.aload_n 0, 1) := by decide +kernel
theorem dX3_init_13 : decode cX3_init 13 = .ok (.bipush 8, 2) := by decide +kernel
theorem dX3_init_15 : decode cX3_init 15 = .ok (.newarray .int, 2) := by decide +kernel
theorem dX3_init_17 : decode cX3_init 17 = .ok (.putfield 15, 3) := by decide +kernel
theorem dX3_init_20 : decode cX3_init 20 = .ok (.aload_n 0, 1) := by decide +kernel
theorem dX3_init_21 : decode cX3_init 21 = .ok (.bipush 8, 2) := by decide +kernel
theorem dX3_init_23 : decode cX3_init 23 = .ok (.newarray .int, 2) := by decide +kernel
theorem dX3_init_25 : decode cX3_init 25 = .ok (.putfield 18, 3) := by decide +kernel
theorem dX3_init_28 : decode cX3_init 28 = .ok (.iconst 0, 1) := by decide +kernel
theorem dX3_init_29 : decode cX3_init 29 = .ok (.istore_n 1, 1) := by decide +kernel
theorem dX3_init_30 : decode cX3_init 30 = .ok (.iload_n 1, 1) := by decide +kernel
theorem dX3_init_31 : decode cX3_init 31 = .ok (.bipush 8, 2) := by decide +kernel
theorem dX3_init_33 : decode cX3_init 33 = .ok (.if_icmp .ge 17, 3) := by decide +kernel
theorem dX3_init_36 : decode cX3_init 36 = .ok (.aload_n 0, 1) := by decide +kernel
theorem dX3_init_37 : decode cX3_init 37 = .ok (.getfield 15, 3) := by decide +kernel
theorem dX3_init_40 : decode cX3_init 40 = .ok (.iload_n 1, 1) := by decide +kernel
theorem dX3_init_41 : decode cX3_init 41 = .ok (.bipush 100, 2) := by decide +kernel
theorem dX3_init_43 : decode cX3_init 43 = .ok (.iastore, 1) := by decide +kernel
theorem dX3_init_44 : decode cX3_init 44 = .ok (.iinc 1 1, 3) := by decide +kernel
theorem dX3_init_47 : decode cX3_init 47 = .ok (.goto (-17), 3) := by decide +kernel
theorem dX3_init_50 : decode cX3_init 50 = .ok (.return_, 1) := by decide +kernel
theorem dX3_copyFrom_0 : decode cX3_copyFrom 0 = .ok (.aload_n 1, 1) := by decide +kernel
theorem dX3_copyFrom_1 : decode cX3_copyFrom 1 = .ok (.getfield 9, 3) := by decide +kernel
theorem dX3_copyFrom_4 : decode cX3_copyFrom 4 = .ok (.iconst 0, 1) := by decide +kernel
theorem dX3_copyFrom_5 : decode cX3_copyFrom 5 = .ok (.aload_n 0, 1) := by decide +kernel
theorem dX3_copyFrom_6 : decode cX3_copyFrom 6 = .ok (.getfield 9, 3) := by decide +kernel
theorem dX3_copyFrom_9 : decode cX3_copyFrom 9 = .ok (.iconst 0, 1) := by decide +kernel
theorem dX3_copyFrom_10 : decode cX3_copyFrom 10 = .ok (.bipush 8, 2) := by decide +kernel
theorem dX3_copyFrom_12 : decode cX3_copyFrom 12 = .ok (.invokestatic 21, 3) := by decide +kernel
theorem dX3_copyFrom_15 : decode cX3_copyFrom 15 = .ok (.aload_n 1, 1) := by decide +kernel
theorem dX3_copyFrom_16 : decode cX3_copyFrom 16 = .ok (.getfield 15, 3) := by decide +kernel
theorem dX3_copyFrom_19 : decode cX3_copyFrom 19 = .ok (.iconst 0, 1) := by decide +kernel
theorem dX3_copyFrom_20 : decode cX3_copyFrom 20 = .ok (.aload_n 0, 1) := by decide +kernel
theorem dX3_copyFrom_21 : decode cX3_copyFrom 21 = .ok (.getfield 15, 3) := by decide +kernel
theorem dX3_copyFrom_24 : decode cX3_copyFrom 24 = .ok (.iconst 0, 1) := by decide +kernel
theorem dX3_copyFrom_25 : decode cX3_copyFrom 25 = .ok (.bipush 8, 2) := by decide +kernel
theorem dX3_copyFrom_27 : decode cX3_copyFrom 27 = .ok (.invokestatic 21, 3) := by decide +kernel
theorem dX3_copyFrom_30 : decode cX3_copyFrom 30 = .ok (.aload_n 1, 1) := by decide +kernel
theorem dX3_copyFrom_31 : decode cX3_copyFrom 31 = .ok (.getfield 18, 3) := by decide +kernel
theorem dX3_copyFrom_34 : decode cX3_copyFrom 34 = .ok (.iconst 0, 1) := by decide +kernel
theorem dX3_copyFrom_35 : decode cX3_copyFrom 35 = .ok (.aload_n 0, 1) := by decide +kernel
theorem dX3_copyFrom_36 : decode cX3_copyFrom 36 = .ok (.getfield 18, 3) := by decide +kernel
theorem dX3_copyFrom_39 : decode cX3_copyFrom 39 = .ok (.iconst 0, 1) := by decide +kernel
theorem dX3_copyFrom_40 : decode cX3_copyFrom 40 = .ok (.bipush 8, 2) := by decide +kernel
theorem dX3_copyFrom_42 : decode cX3_copyFrom 42 = .ok (.invokestatic 21, 3) := by decide +kernel
theorem dX3_copyFrom_45 : decode cX3_copyFrom 45 = .ok (.return_, 1) := by decide +kernel
theorem dX3_narrowTo_0 : decode cX3_narrowTo 0 = .ok (.aload_n 1, 1) := by decide +kernel
theorem dX3_narrowTo_1 : decode cX3_narrowTo 1 = .ok (.getfield 18, 3) := by decide +kernel
theorem dX3_narrowTo_4 : decode cX3_narrowTo 4 = .ok (.iconst 0, 1) := by decide +kernel
theorem dX3_narrowTo_5 : decode cX3_narrowTo 5 = .ok (.aload_n 0, 1) := by decide +kernel
theorem dX3_narrowTo_6 : decode cX3_narrowTo 6 = .ok (.getfield 9, 3) := by decide +kernel
theorem dX3_narrowTo_9 : decode cX3_narrowTo 9 = .ok (.iconst 0, 1) := by decide +kernel
theorem dX3_narrowTo_10 : decode cX3_narrowTo 10 = .ok (.bipush 8, 2) := by decide +kernel
theorem dX3_narrowTo_12 : decode cX3_narrowTo 12 = .ok (.invokestatic 21, 3) := by decide +kernel
theorem dX3_narrowTo_15 : decode cX3_narrowTo 15 = .ok (.aload_n 1, 1) := by decide +kernel
theorem dX3_narrowTo_16 : decode cX3_narrowTo 16 = .ok (.getfield 18, 3) := by decide +kernel
theorem dX3_narrowTo_19 : decode cX3_narrowTo 19 = .ok (.iconst 0, 1) := by decide +kernel
theorem dX3_narrowTo_20 : decode cX3_narrowTo 20 = .ok (.aload_n 0, 1) := by decide +kernel
theorem dX3_narrowTo_21 : decode cX3_narrowTo 21 = .ok (.getfield 15, 3) := by decide +kernel
theorem dX3_narrowTo_24 : decode cX3_narrowTo 24 = .ok (.iconst 0, 1) := by decide +kernel
theorem dX3_narrowTo_25 : decode cX3_narrowTo 25 = .ok (.bipush 8, 2) := by decide +kernel
theorem dX3_narrowTo_27 : decode cX3_narrowTo 27 = .ok (.invokestatic 21, 3) := by decide +kernel
theorem dX3_narrowTo_30 : decode cX3_narrowTo 30 = .ok (.aload_n 1, 1) := by decide +kernel
theorem dX3_narrowTo_31 : decode cX3_narrowTo 31 = .ok (.getfield 18, 3) := by decide +kernel
theorem dX3_narrowTo_34 : decode cX3_narrowTo 34 = .ok (.iconst 0, 1) := by decide +kernel
theorem dX3_narrowTo_35 : decode cX3_narrowTo 35 = .ok (.aload_n 0, 1) := by decide +kernel
theorem dX3_narrowTo_36 : decode cX3_narrowTo 36 = .ok (.getfield 18, 3) := by decide +kernel
theorem dX3_narrowTo_39 : decode cX3_narrowTo 39 = .ok (.iconst 0, 1) := by decide +kernel
theorem dX3_narrowTo_40 : decode cX3_narrowTo 40 = .ok (.bipush 8, 2) := by decide +kernel
theorem dX3_narrowTo_42 : decode cX3_narrowTo 42 = .ok (.invokestatic 21, 3) := by decide +kernel
theorem dX3_narrowTo_45 : decode cX3_narrowTo 45 = .ok (.return_, 1) := by decide +kernel
theorem dX3_limit_0 : decode cX3_limit 0 = .ok (.aload_n 0, 1) := by decide +kernel
theorem dX3_limit_1 : decode cX3_limit 1 = .ok (.getfield 9, 3) := by decide +kernel
theorem dX3_limit_4 : decode cX3_limit 4 = .ok (.iload_n 1, 1) := by decide +kernel
theorem dX3_limit_5 : decode cX3_limit 5 = .ok (.iload_n 2, 1) := by decide +kernel
theorem dX3_limit_6 : decode cX3_limit 6 = .ok (.iastore, 1) := by decide +kernel
theorem dX3_limit_7 : decode cX3_limit 7 = .ok (.aload_n 0, 1) := by decide +kernel
theorem dX3_limit_8 : decode cX3_limit 8 = .ok (.getfield 15, 3) := by decide +kernel
theorem dX3_limit_11 : decode cX3_limit 11 = .ok (.iload_n 1, 1) := by decide +kernel
theorem dX3_limit_12 : decode cX3_limit 12 = .ok (.iload_n 3, 1) := by decide +kernel
theorem dX3_limit_13 : decode cX3_limit 13 = .ok (.iastore, 1) := by decide +kernel
theorem dX3_limit_14 : decode cX3_limit 14 = .ok (.aload_n 0, 1) := by decide +kernel
theorem dX3_limit_15 : decode cX3_limit 15 = .ok (.getfield 18, 3) := by decide +kernel
theorem dX3_limit_18 : decode cX3_limit 18 = .ok (.iload_n 1, 1) := by decide +kernel
theorem dX3_limit_19 : decode cX3_limit 19 = .ok (.iaload, 1) := by decide +kernel
theorem dX3_limit_20 : decode cX3_limit 20 = .ok (.iload_n 2, 1) := by decide +kernel
theorem dX3_limit_21 : decode cX3_limit 21 = .ok (.if_icmp .lt 13, 3) := by decide +kernel
theorem dX3_limit_24 : decode cX3_limit 24 = .ok (.aload_n 0, 1) := by decide +kernel
theorem dX3_limit_25 : decode cX3_limit 25 = .ok (.getfield 18, 3) := by decide +kernel
theorem dX3_limit_28 : decode cX3_limit 28 = .ok (.iload_n 1, 1) := by decide +kernel
theorem dX3_limit_29 : decode cX3_limit 29 = .ok (.iaload, 1) := by decide +kernel
theorem dX3_limit_30 : decode cX3_limit 30 = .ok (.iload_n 3, 1) := by decide +kernel
theorem dX3_limit_31 : decode cX3_limit 31 = .ok (.if_icmp .le 10, 3) := by decide +kernel
theorem dX3_limit_34 : decode cX3_limit 34 = .ok (.aload_n 0, 1) := by decide +kernel
theorem dX3_limit_35 : decode cX3_limit 35 = .ok (.getfield 18, 3) := by decide +kernel
theorem dX3_limit_38 : decode cX3_limit 38 = .ok (.iload_n 1, 1) := by decide +kernel
theorem dX3_limit_39 : decode cX3_limit 39 = .ok (.iload_n 2, 1) := by decide +kernel
theorem dX3_limit_40 : decode cX3_limit 40 = .ok (.iastore, 1) := by decide +kernel
theorem dX3_limit_41 : decode cX3_limit 41 = .ok (.aload_n 0, 1) := by decide +kernel
theorem dX3_limit_42 : decode cX3_limit 42 = .ok (.getfield 18, 3) := by decide +kernel
theorem dX3_limit_45 : decode cX3_limit 45 = .ok (.iload_n 1, 1) := by decide +kernel
theorem dX3_limit_46 : decode cX3_limit 46 = .ok (.iaload, 1) := by decide +kernel
theorem dX3_limit_47 : decode cX3_limit 47 = .ok (.ireturn, 1) := by decide +kernel
theorem dX4_init_0 : decode cX4_init 0 = .ok (.aload_n 0, 1) := by decide +kernel
theorem dX4_init_1 : decode cX4_init 1 = .ok (.invokespecial 3, 3) := by decide +kernel
theorem dX4_init_4 : decode cX4_init 4 = .ok (.aload_n 0, 1) := by decide +kernel
theorem dX4_init_5 : decode cX4_init 5 = .ok (.iconst 0, 1) := by decide +kernel
theorem dX4_init_6 : decode cX4_init 6 = .ok (.putfield 9, 3) := by decide +kernel
theorem dX4_init_9 : decode cX4_init 9 = .ok (.aload_n 0, 1) := by decide +kernel
theorem dX4_init_10 : decode cX4_init 10 = .ok (.iconst (-1), 1) := by decide +kernel
theorem dX4_init_11 : decode cX4_init 11 = .ok (.putfield 15, 3) := by decide +kernel
theorem dX4_init_14 : decode cX4_init 14 = .ok (.aload_n 0, 1) := by decide +kernel
theorem dX4_init_15 : decode cX4_init 15 = .ok (.iconst 0, 1) := by decide +kernel
theorem dX4_init_16 : decode cX4_init 16 = .ok (.putfield 18, 3) := by decide +kernel
theorem dX4_init_19 : decode cX4_init 19 = .ok (.aload_n 0, 1) := by decide +kernel
theorem dX4_init_20 : decode cX4_init 20 = .ok (.iconst 2, 1) := by decide +kernel
theorem dX4_init_21 : decode cX4_init 21 = .ok (.newarray .int, 2) := by decide +kernel
theorem dX4_init_23 : decode cX4_init 23 = .ok (.putfield 21, 3) := by decide +kernel
theorem dX4_init_26 : decode cX4_init 26 = .ok (.aload_n 0, 1) := by decide +kernel
theorem dX4_init_27 : decode cX4_init 27 = .ok (.aload_n 1, 1) := by decide +kernel
theorem dX4_init_28 : decode cX4_init 28 = .ok (.putfield 25, 3) := by decide +kernel
theorem dX4_init_31 : decode cX4_init 31 = .ok (.aload_n 0, 1) := by decide +kernel
theorem dX4_init_32 : decode cX4_init 32 = .ok (.aload_n 2, 1) := by decide +kernel
theorem dX4_init_33 : decode cX4_init 33 = .ok (.putfield 29, 3) := by decide +kernel
theorem dX4_init_36 : decode cX4_init 36 = .ok (.return_, 1) := by decide +kernel
theorem dX4_read_0 : decode cX4_read 0 = .ok (.aload_n 0, 1) := by decide +kernel
theorem dX4_read_1 : decode cX4_read 1 = .ok (.getfield 29, 3) := by decide +kernel
theorem dX4_read_4 : decode cX4_read 4 = .ok (.iconst 0, 1) := by decide +kernel
theorem dX4_read_5 : decode cX4_read 5 = .ok (.putfield 33, 3) := by decide +kernel
theorem dX4_read_8 : decode cX4_read 8 = .ok (.aload_n 0, 1) := by decide +kernel
theorem dX4_read_9 : decode cX4_read 9 = .ok (.iconst 0, 1) := by decide +kernel
theorem dX4_read_10 : decode cX4_read 10 = .ok (.putfield 9, 3) := by decide +kernel
theorem dX4_read_13 : decode cX4_read 13 = .ok (.aload_n 0, 1) := by decide +kernel
theorem dX4_read_14 : decode cX4_read 14 = .ok (.iconst (-1), 1) := by decide +kernel
theorem dX4_read_15 : decode cX4_read 15 = .ok (.putfield 15, 3) := by decide +kernel
theorem dX4_read_18 : decode cX4_read 18 = .ok (.aload_n 0, 1) := by decide +kernel
theorem dX4_read_19 : decode cX4_read 19 = .ok (.iconst 0, 1) := by decide +kernel
theorem dX4_read_20 : decode cX4_read 20 = .ok (.putfield 18, 3) := by decide +kernel
theorem dX4_read_23 : decode cX4_read 23 = .ok (.iconst 0, 1) := by decide +kernel
theorem dX4_read_24 : decode cX4_read 24 = .ok (.istore_n 1, 1) := by decide +kernel
theorem dX4_read_25 : decode cX4_read 25 = .ok (.iload_n 1, 1) := by decide +kernel
theorem dX4_read_26 : decode cX4_read 26 = .ok (.sipush 200, 3) := by decide +kernel
theorem dX4_read_29 : decode cX4_read 29 = .ok (.if_icmp .ge 35, 3) := by decide +kernel
theorem dX4_read_32 : decode cX4_read 32 = .ok (.aload_n 0, 1) := by decide +kernel
theorem dX4_read_33 : decode cX4_read 33 = .ok (.getfield 15, 3) := by decide +kernel
theorem dX4_read_36 : decode cX4_read 36 = .ok (.iconst (-1), 1) := by decide +kernel
theorem dX4_read_37 : decode cX4_read 37 = .ok (.if_icmp .ne 27, 3) := by decide +kernel
theorem dX4_read_40 : decode cX4_read 40 = .ok (.aload_n 0, 1) := by decide +kernel
theorem dX4_read_41 : decode cX4_read 41 = .ok (.getfield 9, 3) := by decide +kernel
theorem dX4_read_44 : decode cX4_read 44 = .ok (.aload_n 0, 1) := by decide +kernel
theorem dX4_read_45 : decode cX4_read 45 = .ok (.getfield 25, 3) := by decide +kernel
theorem dX4_read_48 : decode cX4_read 48 = .ok (.getfield 38, 3) := by decide +kernel
theorem dX4_read_51 : decode cX4_read 51 = .ok (.if_icmp .ge 13, 3) := by decide +kernel
theorem dX4_read_54 : decode cX4_read 54 = .ok (.aload_n 0, 1) := by decide +kernel
theorem dX4_read_55 : decode cX4_read 55 = .ok (.invokevirtual 43, 3) := by decide +kernel
theorem dX4_read_58 : decode cX4_read 58 = .ok (.iinc 1 1, 3) := by decide +kernel
theorem dX4_read_61 : decode cX4_read 61 = .ok (.goto (-36), 3) := by decide +kernel
theorem dX4_read_64 : decode cX4_read 64 = .ok (.aload_n 0, 1) := by decide +kernel
theorem dX4_read_65 : decode cX4_read 65 = .ok (.getfield 15, 3) := by decide +kernel
theorem dX4_read_68 : decode cX4_read 68 = .ok (.iconst (-1), 1) := by decide +kernel
theorem dX4_read_69 : decode cX4_read 69 = .ok (.if_icmp .ne 21, 3) := by decide +kernel
theorem dX4_read_72 : decode cX4_read 72 = .ok (.aload_n 0, 1) := by decide +kernel
theorem dX4_read_73 : decode cX4_read 73 = .ok (.getfield 18, 3) := by decide +kernel
theorem dX4_read_76 : decode cX4_read 76 = .ok (.ifCond .le 14, 3) := by decide +kernel
theorem dX4_read_79 : decode cX4_read 79 = .ok (.aload_n 0, 1) := by decide +kernel
theorem dX4_read_80 : decode cX4_read 80 = .ok (.aload_n 0, 1) := by decide +kernel
theorem dX4_read_81 : decode cX4_read 81 = .ok (.getfield 25, 3) := by decide +kernel
theorem dX4_read_84 : decode cX4_read 84 = .ok (.getfield 38, 3) := by decide +kernel
theorem dX4_read_87 : decode cX4_read 87 = .ok (.putfield 15, 3) := by decide +kernel
theorem dX4_read_90 : decode cX4_read 90 = .ok (.aload_n 0, 1) := by decide +kernel
theorem dX4_read_91 : decode cX4_read 91 = .ok (.getfield 15, 3) := by decide +kernel
theorem dX4_read_94 : decode cX4_read 94 = .ok (.ireturn, 1) := by decide +kernel
theorem dX4_readStatement_0 : decode cX4_readStatement 0 = .ok (.aload_n 0, 1) := by decide +kernel
theorem dX4_readStatement_1 : decode cX4_readStatement 1 = .ok (.getfield 25, 3) := by decide +kernel
theorem dX4_readStatement_4 : decode cX4_readStatement 4 = .ok (.aload_n 0, 1) := by decide +kernel
theorem dX4_readStatement_5 : decode cX4_readStatement 5 = .ok (.getfield 9, 3) := by decide +kernel
theorem dX4_readStatement_8 : decode cX4_readStatement 8 = .ok (.invokevirtual 46, 3) := by decide +kernel
theorem dX4_readStatement_11 : decode cX4_readStatement 11 = .ok (.istore_n 1, 1) := by decide +kernel
theorem dX4_readStatement_12 : decode cX4_readStatement 12 = .ok (.aload_n 0, 1) := by decide +kernel
theorem dX4_readStatement_13 : decode cX4_readStatement 13 = .ok (.getfield 29, 3) := by decide +kernel
theorem dX4_readStatement_16 : decode cX4_readStatement 16 = .ok (.getfield 33, 3) := by decide +kernel
theorem dX4_readStatement_19 : decode cX4_readStatement 19 = .ok (.bipush 30, 2) := by decide +kernel
theorem dX4_readStatement_21 : decode cX4_readStatement 21 = .ok (.if_icmp .lt 14, 3) := by decide +kernel
theorem dX4_readStatement_24 : decode cX4_readStatement 24 = .ok (.aload_n 0, 1) := by decide +kernel
theorem dX4_readStatement_25 : decode cX4_readStatement 25 = .ok (.aload_n 0, 1) := by decide +kernel
theorem dX4_readStatement_26 : decode cX4_readStatement 26 = .ok (.getfield 9, 3) := by decide +kernel
theorem dX4_readStatement_29 : decode cX4_readStatement 29 = .ok (.putfield 15, 3) := by decide +kernel
theorem dX4_readStatement_32 : decode cX4_readStatement 32 = .ok (.goto 67, 3) := by decide +kernel
theorem dX4_readStatement_35 : decode cX4_readStatement 35 = .ok (.iload_n 1, 1) := by decide +kernel
theorem dX4_readStatement_36 : decode cX4_readStatement 36 = .ok (.invokestatic 49, 3) := by decide +kernel
theorem dX4_readStatement_39 : decode cX4_readStatement 39 = .ok (.ifCond .eq 10, 3) := by decide +kernel
theorem dX4_readStatement_42 : decode cX4_readStatement 42 = .ok (.aload_n 0, 1) := by decide +kernel
theorem dX4_readStatement_43 : decode cX4_readStatement 43 = .ok (.invokevirtual 53, 3) := by decide +kernel
theorem dX4_readStatement_46 : decode cX4_readStatement 46 = .ok (.goto 53, 3) := by decide +kernel
theorem dX4_readStatement_49 : decode cX4_readStatement 49 = .ok (.iload_n 1, 1) := by decide +kernel
theorem dX4_readStatement_50 : decode cX4_readStatement 50 = .ok (.invokestatic 56, 3) := by decide +kernel
theorem dX4_readStatement_53 : decode cX4_readStatement 53 = .ok (.ifCond .eq 18, 3) := by decide +kernel
theorem dX4_readStatement_56 : decode cX4_readStatement 56 = .ok (.aload_n 0, 1) := by decide +kernel
theorem dX4_readStatement_57 : decode cX4_readStatement 57 = .ok (.getfield 18, 3) := by decide +kernel
theorem dX4_readStatement_60 : decode cX4_readStatement 60 = .ok (.iconst 2, 1) := by decide +kernel
theorem dX4_readStatement_61 : decode cX4_readStatement 61 = .ok (.if_icmp .ge 10, 3) := by decide +kernel
theorem dX4_readStatement_64 : decode cX4_readStatement 64 = .ok (.aload_n 0, 1) := by decide +kernel
theorem dX4_readStatement_65 : decode cX4_readStatement 65 = .ok (.invokevirtual 59, 3) := by decide +kernel
theorem dX4_readStatement_68 : decode cX4_readStatement 68 = .ok (.goto 31, 3) := by decide +kernel
theorem dX4_readStatement_71 : decode cX4_readStatement 71 = .ok (.iload_n 1, 1) := by decide +kernel
theorem dX4_readStatement_72 : decode cX4_readStatement 72 = .ok (.bipush 125, 2) := by decide +kernel
theorem dX4_readStatement_74 : decode cX4_readStatement 74 = .ok (.if_icmp .ne 17, 3) := by decide +kernel
theorem dX4_readStatement_77 : decode cX4_readStatement 77 = .ok (.aload_n 0, 1) := by decide +kernel
theorem dX4_readStatement_78 : decode cX4_readStatement 78 = .ok (.getfield 18, 3) := by decide +kernel
theorem dX4_readStatement_81 : decode cX4_readStatement 81 = .ok (.ifCond .le 10, 3) := by decide +kernel
theorem dX4_readStatement_84 : decode cX4_readStatement 84 = .ok (.aload_n 0, 1) := by decide +kernel
theorem dX4_readStatement_85 : decode cX4_readStatement 85 = .ok (.invokevirtual 62, 3) := by decide +kernel
theorem dX4_readStatement_88 : decode cX4_readStatement 88 = .ok (.goto 11, 3) := by decide +kernel
theorem dX4_readStatement_91 : decode cX4_readStatement 91 = .ok (.aload_n 0, 1) := by decide +kernel
theorem dX4_readStatement_92 : decode cX4_readStatement 92 = .ok (.aload_n 0, 1) := by decide +kernel
theorem dX4_readStatement_93 : decode cX4_readStatement 93 = .ok (.getfield 9, 3) := by decide +kernel
theorem dX4_readStatement_96 : decode cX4_readStatement 96 = .ok (.putfield 15, 3) := by decide +kernel
theorem dX4_readStatement_99 : decode cX4_readStatement 99 = .ok (.return_, 1) := by decide +kernel
theorem dX4_readAssignment_0 : decode cX4_readAssignment 0 = .ok (.aload_n 0, 1) := by decide +kernel
theorem dX4_readAssignment_1 : decode cX4_readAssignment 1 = .ok (.getfield 25, 3) := by decide +kernel
theorem dX4_readAssignment_4 : decode cX4_readAssignment 4 = .ok (.aload_n 0, 1) := by decide +kernel
theorem dX4_readAssignment_5 : decode cX4_readAssignment 5 = .ok (.getfield 9, 3) := by decide +kernel
theorem dX4_readAssignment_8 : decode cX4_readAssignment 8 = .ok (.invokevirtual 46, 3) := by decide +kernel
theorem dX4_readAssignment_11 : decode cX4_readAssignment 11 = .ok (.bipush 97, 2) := by decide +kernel
theorem dX4_readAssignment_13 : decode cX4_readAssignment 13 = .ok (.isub, 1) := by decide +kernel
theorem dX4_readAssignment_14 : decode cX4_readAssignment 14 = .ok (.istore_n 1, 1) := by decide +kernel
theorem dX4_readAssignment_15 : decode cX4_readAssignment 15 = .ok (.aload_n 0, 1) := by decide +kernel
theorem dX4_readAssignment_16 : decode cX4_readAssignment 16 = .ok (.dup, 1) := by decide +kernel
theorem dX4_readAssignment_17 : decode cX4_readAssignment 17 = .ok (.getfield 9, 3) := by decide +kernel
theorem dX4_readAssignment_20 : decode cX4_readAssignment 20 = .ok (.iconst 1, 1) := by decide +kernel
theorem dX4_readAssignment_21 : decode cX4_readAssignment 21 = .ok (.iadd, 1) := by decide +kernel
theorem dX4_readAssignment_22 : decode cX4_readAssignment 22 = .ok (.putfield 9, 3) := by decide +kernel
theorem dX4_readAssignment_25 : decode cX4_readAssignment 25 = .ok (.aload_n 0, 1) := by decide +kernel
theorem dX4_readAssignment_26 : decode cX4_readAssignment 26 = .ok (.bipush 61, 2) := by decide +kernel
theorem dX4_readAssignment_28 : decode cX4_readAssignment 28 = .ok (.invokevirtual 65, 3) := by decide +kernel
theorem dX4_readAssignment_31 : decode cX4_readAssignment 31 = .ok (.ifCond .ne 4, 3) := by decide +kernel
theorem dX4_readAssignment_34 : decode cX4_readAssignment 34 = .ok (.return_, 1) := by decide +kernel
theorem dX4_readAssignment_35 : decode cX4_readAssignment 35 = .ok (.aload_n 0, 1) := by decide +kernel
theorem dX4_readAssignment_36 : decode cX4_readAssignment 36 = .ok (.invokevirtual 69, 3) := by decide +kernel
theorem dX4_readAssignment_39 : decode cX4_readAssignment 39 = .ok (.istore_n 2, 1) := by decide +kernel
theorem dX4_readAssignment_40 : decode cX4_readAssignment 40 = .ok (.aload_n 0, 1) := by decide +kernel
theorem dX4_readAssignment_41 : decode cX4_readAssignment 41 = .ok (.getfield 15, 3) := by decide +kernel
theorem dX4_readAssignment_44 : decode cX4_readAssignment 44 = .ok (.iconst (-1), 1) := by decide +kernel
theorem dX4_readAssignment_45 : decode cX4_readAssignment 45 = .ok (.if_icmp .eq 4, 3) := by decide +kernel
theorem dX4_readAssignment_48 : decode cX4_readAssignment 48 = .ok (.return_, 1) := by decide +kernel
theorem dX4_readAssignment_49 : decode cX4_readAssignment 49 = .ok (.aload_n 0, 1) := by decide +kernel
theorem dX4_readAssignment_50 : decode cX4_readAssignment 50 = .ok (.getfield 25, 3) := by decide +kernel
theorem dX4_readAssignment_53 : decode cX4_readAssignment 53 = .ok (.aload_n 0, 1) := by decide +kernel
theorem dX4_readAssignment_54 : decode cX4_readAssignment 54 = .ok (.getfield 9, 3) := by decide +kernel
theorem dX4_readAssignment_57 : decode cX4_readAssignment 57 = .ok (.invokevirtual 46, 3) := by decide +kernel
theorem dX4_readAssignment_60 : decode cX4_readAssignment 60 = .ok (.invokestatic 73, 3) := by decide +kernel
theorem dX4_readAssignment_63 : decode cX4_readAssignment 63 = .ok (.istore_n 3, 1) := by decide +kernel
theorem dX4_readAssignment_64 : decode cX4_readAssignment 64 = .ok (.iconst (-1), 1) := by decide +kernel
theorem dX4_readAssignment_65 : decode cX4_readAssignment 65 = .ok (.istore 4, 2) := by decide +kernel
theorem dX4_readAssignment_67 : decode cX4_readAssignment 67 = .ok (.iload_n 3, 1) := by decide +kernel
theorem dX4_readAssignment_68 : decode cX4_readAssignment 68 = .ok (.ifCond .eq 19, 3) := by decide +kernel
theorem dX4_readAssignment_71 : decode cX4_readAssignment 71 = .ok (.aload_n 0, 1) := by decide +kernel
theorem dX4_readAssignment_72 : decode cX4_readAssignment 72 = .ok (.dup, 1) := by decide +kernel
theorem dX4_readAssignment_73 : decode cX4_readAssignment 73 = .ok (.getfield 9, 3) := by decide +kernel
theorem dX4_readAssignment_76 : decode cX4_readAssignment 76 = .ok (.iconst 1, 1) := by decide +kernel
theorem dX4_readAssignment_77 : decode cX4_readAssignment 77 = .ok (.iadd, 1) := by decide +kernel
theorem dX4_readAssignment_78 : decode cX4_readAssignment 78 = .ok (.putfield 9, 3) := by decide +kernel
theorem dX4_readAssignment_81 : decode cX4_readAssignment 81 = .ok (.aload_n 0, 1) := by decide +kernel
theorem dX4_readAssignment_82 : decode cX4_readAssignment 82 = .ok (.invokevirtual 69, 3) := by decide +kernel
theorem dX4_readAssignment_85 : decode cX4_readAssignment 85 = .ok (.istore 4, 2) := by decide +kernel
theorem dX4_readAssignment_87 : decode cX4_readAssignment 87 = .ok (.aload_n 0, 1) := by decide +kernel
theorem dX4_readAssignment_88 : decode cX4_readAssignment 88 = .ok (.getfield 15, 3) := by decide +kernel
theorem dX4_readAssignment_91 : decode cX4_readAssignment 91 = .ok (.iconst (-1), 1) := by decide +kernel
theorem dX4_readAssignment_92 : decode cX4_readAssignment 92 = .ok (.if_icmp .ne 28, 3) := by decide +kernel
theorem dX4_readAssignment_95 : decode cX4_readAssignment 95 = .ok (.aload_n 0, 1) := by decide +kernel
theorem dX4_readAssignment_96 : decode cX4_readAssignment 96 = .ok (.bipush 59, 2) := by decide +kernel
theorem dX4_readAssignment_98 : decode cX4_readAssignment 98 = .ok (.invokevirtual 65, 3) := by decide +kernel
theorem dX4_readAssignment_101 : decode cX4_readAssignment 101 = .ok (.ifCond .eq 19, 3) := by decide +kernel
theorem dX4_readAssignment_104 : decode cX4_readAssignment 104 = .ok (.aload_n 0, 1) := by decide +kernel
theorem dX4_readAssignment_105 : decode cX4_readAssignment 105 = .ok (.getfield 29, 3) := by decide +kernel
theorem dX4_readAssignment_108 : decode cX4_readAssignment 108 = .ok (.iload_n 3, 1) := by decide +kernel
theorem dX4_readAssignment_109 : decode cX4_readAssignment 109 = .ok (.iload_n 1, 1) := by decide +kernel
theorem dX4_readAssignment_110 : decode cX4_readAssignment 110 = .ok (.iload_n 2, 1) := by decide +kernel
theorem dX4_readAssignment_111 : decode cX4_readAssignment 111 = .ok (.iload 4, 2) := by decide +kernel
theorem dX4_readAssignment_113 : decode cX4_readAssignment 113 = .ok (.aload_n 0, 1) := by decide +kernel
theorem dX4_readAssignment_114 : decode cX4_readAssignment 114 = .ok (.getfield 18, 3) := by decide +kernel
theorem dX4_readAssignment_117 : decode cX4_readAssignment 117 = .ok (.invokevirtual 76, 3) := by decide +kernel
theorem dX4_readAssignment_120 : decode cX4_readAssignment 120 = .ok (.return_, 1) := by decide +kernel
theorem dX4_readLoopBegin_0 : decode cX4_readLoopBegin 0 = .ok (.aload_n 0, 1) := by decide +kernel
theorem dX4_readLoopBegin_1 : decode cX4_readLoopBegin 1 = .ok (.getfield 9, 3) := by decide +kernel
theorem dX4_readLoopBegin_4 : decode cX4_readLoopBegin 4 = .ok (.istore_n 1, 1) := by decide +kernel
theorem dX4_readLoopBegin_5 : decode cX4_readLoopBegin 5 = .ok (.aload_n 0, 1) := by decide +kernel
theorem dX4_readLoopBegin_6 : decode cX4_readLoopBegin 6 = .ok (.iconst 2, 1) := by decide +kernel
theorem dX4_readLoopBegin_7 : decode cX4_readLoopBegin 7 = .ok (.invokevirtual 80, 3) := by decide +kernel
theorem dX4_readLoopBegin_10 : decode cX4_readLoopBegin 10 = .ok (.istore_n 2, 1) := by decide +kernel
theorem dX4_readLoopBegin_11 : decode cX4_readLoopBegin 11 = .ok (.aload_n 0, 1) := by decide +kernel
theorem dX4_readLoopBegin_12 : decode cX4_readLoopBegin 12 = .ok (.getfield 25, 3) := by decide +kernel
theorem dX4_readLoopBegin_15 : decode cX4_readLoopBegin 15 = .ok (.aload_n 0, 1) := by decide +kernel
theorem dX4_readLoopBegin_16 : decode cX4_readLoopBegin 16 = .ok (.getfield 9, 3) := by decide +kernel
theorem dX4_readLoopBegin_19 : decode cX4_readLoopBegin 19 = .ok (.invokevirtual 46, 3) := by decide +kernel
theorem dX4_readLoopBegin_22 : decode cX4_readLoopBegin 22 = .ok (.invokestatic 56, 3) := by decide +kernel
theorem dX4_readLoopBegin_25 : decode cX4_readLoopBegin 25 = .ok (.ifCond .eq 14, 3) := by decide +kernel
theorem dX4_readLoopBegin_28 : decode cX4_readLoopBegin 28 = .ok (.aload_n 0, 1) := by decide +kernel
theorem dX4_readLoopBegin_29 : decode cX4_readLoopBegin 29 = .ok (.aload_n 0, 1) := by decide +kernel
theorem dX4_readLoopBegin_30 : decode cX4_readLoopBegin 30 = .ok (.getfield 9, 3) := by decide +kernel
theorem dX4_readLoopBegin_33 : decode cX4_readLoopBegin 33 = .ok (.putfield 15, 3) := by decide +kernel
theorem dX4_readLoopBegin_36 : decode cX4_readLoopBegin 36 = .ok (.goto 80, 3) := by decide +kernel
theorem dX4_readLoopBegin_39 : decode cX4_readLoopBegin 39 = .ok (.iload_n 2, 1) := by decide +kernel
theorem dX4_readLoopBegin_40 : decode cX4_readLoopBegin 40 = .ok (.iconst 1, 1) := by decide +kernel
theorem dX4_readLoopBegin_41 : decode cX4_readLoopBegin 41 = .ok (.if_icmp .lt 9, 3) := by decide +kernel
theorem dX4_readLoopBegin_44 : decode cX4_readLoopBegin 44 = .ok (.iload_n 2, 1) := by decide +kernel
theorem dX4_readLoopBegin_45 : decode cX4_readLoopBegin 45 = .ok (.bipush 40, 2) := by decide +kernel
theorem dX4_readLoopBegin_47 : decode cX4_readLoopBegin 47 = .ok (.if_icmp .le 11, 3) := by decide +kernel
theorem dX4_readLoopBegin_50 : decode cX4_readLoopBegin 50 = .ok (.aload_n 0, 1) := by decide +kernel
theorem dX4_readLoopBegin_51 : decode cX4_readLoopBegin 51 = .ok (.iload_n 1, 1) := by decide +kernel
theorem dX4_readLoopBegin_52 : decode cX4_readLoopBegin 52 = .ok (.putfield 15, 3) := by decide +kernel
theorem dX4_readLoopBegin_55 : decode cX4_readLoopBegin 55 = .ok (.goto 61, 3) := by decide +kernel
theorem dX4_readLoopBegin_58 : decode cX4_readLoopBegin 58 = .ok (.aload_n 0, 1) := by decide +kernel
theorem dX4_readLoopBegin_59 : decode cX4_readLoopBegin 59 = .ok (.bipush 123, 2) := by decide +kernel
theorem dX4_readLoopBegin_61 : decode cX4_readLoopBegin 61 = .ok (.invokevirtual 65, 3) := by decide +kernel
theorem dX4_readLoopBegin_64 : decode cX4_readLoopBegin 64 = .ok (.ifCond .eq 52, 3) := by decide +kernel
theorem dX4_readLoopBegin_67 : decode cX4_readLoopBegin 67 = .ok (.aload_n 0, 1) := by decide +kernel
theorem dX4_readLoopBegin_68 : decode cX4_readLoopBegin 68 = .ok (.getfield 18, 3) := by decide +kernel
theorem dX4_readLoopBegin_71 : decode cX4_readLoopBegin 71 = .ok (.iconst 2, 1) := by decide +kernel
theorem dX4_readLoopBegin_72 : decode cX4_readLoopBegin 72 = .ok (.if_icmp .ge 44, 3) := by decide +kernel
theorem dX4_readLoopBegin_75 : decode cX4_readLoopBegin 75 = .ok (.aload_n 0, 1) := by decide +kernel
theorem dX4_readLoopBegin_76 : decode cX4_readLoopBegin 76 = .ok (.getfield 21, 3) := by decide +kernel
theorem dX4_readLoopBegin_79 : decode cX4_readLoopBegin 79 = .ok (.aload_n 0, 1) := by decide +kernel
theorem dX4_readLoopBegin_80 : decode cX4_readLoopBegin 80 = .ok (.getfield 18, 3) := by decide +kernel
theorem dX4_readLoopBegin_83 : decode cX4_readLoopBegin 83 = .ok (.aload_n 0, 1) := by decide +kernel
theorem dX4_readLoopBegin_84 : decode cX4_readLoopBegin 84 = .ok (.getfield 29, 3) := by decide +kernel
theorem dX4_readLoopBegin_87 : decode cX4_readLoopBegin 87 = .ok (.getfield 33, 3) := by decide +kernel
theorem dX4_readLoopBegin_90 : decode cX4_readLoopBegin 90 = .ok (.iastore, 1) := by decide +kernel
theorem dX4_readLoopBegin_91 : decode cX4_readLoopBegin 91 = .ok (.aload_n 0, 1) := by decide +kernel
theorem dX4_readLoopBegin_92 : decode cX4_readLoopBegin 92 = .ok (.getfield 29, 3) := by decide +kernel
theorem dX4_readLoopBegin_95 : decode cX4_readLoopBegin 95 = .ok (.iconst 4, 1) := by decide +kernel
theorem dX4_readLoopBegin_96 : decode cX4_readLoopBegin 96 = .ok (.iload_n 2, 1) := by decide +kernel
theorem dX4_readLoopBegin_97 : decode cX4_readLoopBegin 97 = .ok (.iconst (-1), 1) := by decide +kernel
theorem dX4_readLoopBegin_98 : decode cX4_readLoopBegin 98 = .ok (.iconst (-1), 1) := by decide +kernel
theorem dX4_readLoopBegin_99 : decode cX4_readLoopBegin 99 = .ok (.aload_n 0, 1) := by decide +kernel
theorem dX4_readLoopBegin_100 : decode cX4_readLoopBegin 100 = .ok (.getfield 18, 3) := by decide +kernel
theorem dX4_readLoopBegin_103 : decode cX4_readLoopBegin 103 = .ok (.invokevirtual 76, 3) := by decide +kernel
theorem dX4_readLoopBegin_106 : decode cX4_readLoopBegin 106 = .ok (.aload_n 0, 1) := by decide +kernel
theorem dX4_readLoopBegin_107 : decode cX4_readLoopBegin 107 = .ok (.dup, 1) := by decide +kernel
theorem dX4_readLoopBegin_108 : decode cX4_readLoopBegin 108 = .ok (.getfield 18, 3) := by decide +kernel
theorem dX4_readLoopBegin_111 : decode cX4_readLoopBegin 111 = .ok (.iconst 1, 1) := by decide +kernel
theorem dX4_readLoopBegin_112 : decode cX4_readLoopBegin 112 = .ok (.iadd, 1) := by decide +kernel
theorem dX4_readLoopBegin_113 : decode cX4_readLoopBegin 113 = .ok (.putfield 18, 3) := by decide +kernel
theorem dX4_readLoopBegin_116 : decode cX4_readLoopBegin 116 = .ok (.return_, 1) := by decide +kernel
theorem dX4_readLoopEnd_0 : decode cX4_readLoopEnd 0 = .ok (.aload_n 0, 1) := by decide +kernel
theorem dX4_readLoopEnd_1 : decode cX4_readLoopEnd 1 = .ok (.dup, 1) := by decide +kernel
theorem dX4_readLoopEnd_2 : decode cX4_readLoopEnd 2 = .ok (.getfield 9, 3) := by decide +kernel
theorem dX4_readLoopEnd_5 : decode cX4_readLoopEnd 5 = .ok (.iconst 1, 1) := by decide +kernel
theorem dX4_readLoopEnd_6 : decode cX4_readLoopEnd 6 = .ok (.iadd, 1) := by decide +kernel
theorem dX4_readLoopEnd_7 : decode cX4_readLoopEnd 7 = .ok (.putfield 9, 3) := by decide +kernel
theorem dX4_readLoopEnd_10 : decode cX4_readLoopEnd 10 = .ok (.aload_n 0, 1) := by decide +kernel
theorem dX4_readLoopEnd_11 : decode cX4_readLoopEnd 11 = .ok (.dup, 1) := by decide +kernel
theorem dX4_readLoopEnd_12 : decode cX4_readLoopEnd 12 = .ok (.getfield 18, 3) := by decide +kernel
theorem dX4_readLoopEnd_15 : decode cX4_readLoopEnd 15 = .ok (.iconst 1, 1) := by decide +kernel
theorem dX4_readLoopEnd_16 : decode cX4_readLoopEnd 16 = .ok (.isub, 1) := by decide +kernel
theorem dX4_readLoopEnd_17 : decode cX4_readLoopEnd 17 = .ok (.putfield 18, 3) := by decide +kernel
theorem dX4_readLoopEnd_20 : decode cX4_readLoopEnd 20 = .ok (.aload_n 0, 1) := by decide +kernel
theorem dX4_readLoopEnd_21 : decode cX4_readLoopEnd 21 = .ok (.getfield 29, 3) := by decide +kernel
theorem dX4_readLoopEnd_24 : decode cX4_readLoopEnd 24 = .ok (.getfield 33, 3) := by decide +kernel
theorem dX4_readLoopEnd_27 : decode cX4_readLoopEnd 27 = .ok (.istore_n 1, 1) := by decide +kernel
theorem dX4_readLoopEnd_28 : decode cX4_readLoopEnd 28 = .ok (.aload_n 0, 1) := by decide +kernel
theorem dX4_readLoopEnd_29 : decode cX4_readLoopEnd 29 = .ok (.getfield 29, 3) := by decide +kernel
theorem dX4_readLoopEnd_32 : decode cX4_readLoopEnd 32 = .ok (.iconst 5, 1) := by decide +kernel
theorem dX4_readLoopEnd_33 : decode cX4_readLoopEnd 33 = .ok (.iconst (-1), 1) := by decide +kernel
theorem dX4_readLoopEnd_34 : decode cX4_readLoopEnd 34 = .ok (.iconst (-1), 1) := by decide +kernel
theorem dX4_readLoopEnd_35 : decode cX4_readLoopEnd 35 = .ok (.iconst (-1), 1) := by decide +kernel
theorem dX4_readLoopEnd_36 : decode cX4_readLoopEnd 36 = .ok (.aload_n 0, 1) := by decide +kernel
theorem dX4_readLoopEnd_37 : decode cX4_readLoopEnd 37 = .ok (.getfield 18, 3) := by decide +kernel
theorem dX4_readLoopEnd_40 : decode cX4_readLoopEnd 40 = .ok (.invokevirtual 76, 3) := by decide +kernel
theorem dX4_readLoopEnd_43 : decode cX4_readLoopEnd 43 = .ok (.aload_n 0, 1) := by decide +kernel
theorem dX4_readLoopEnd_44 : decode cX4_readLoopEnd 44 = .ok (.getfield 29, 3) := by decide +kernel
theorem dX4_readLoopEnd_47 : decode cX4_readLoopEnd 47 = .ok (.aload_n 0, 1) := by decide +kernel
theorem dX4_readLoopEnd_48 : decode cX4_readLoopEnd 48 = .ok (.getfield 21, 3) := by decide +kernel
theorem dX4_readLoopEnd_51 : decode cX4_readLoopEnd 51 = .ok (.aload_n 0, 1) := by decide +kernel
theorem dX4_readLoopEnd_52 : decode cX4_readLoopEnd 52 = .ok (.getfield 18, 3) := by decide +kernel
theorem dX4_readLoopEnd_55 : decode cX4_readLoopEnd 55 = .ok (.iaload, 1) := by decide +kernel
theorem dX4_readLoopEnd_56 : decode cX4_readLoopEnd 56 = .ok (.iload_n 1, 1) := by decide +kernel
theorem dX4_readLoopEnd_57 : decode cX4_readLoopEnd 57 = .ok (.invokevirtual 83, 3) := by decide +kernel
theorem dX4_readLoopEnd_60 : decode cX4_readLoopEnd 60 = .ok (.return_, 1) := by decide +kernel
theorem dX4_readOperand_0 : decode cX4_readOperand 0 = .ok (.aload_n 0, 1) := by decide +kernel
theorem dX4_readOperand_1 : decode cX4_readOperand 1 = .ok (.getfield 25, 3) := by decide +kernel
theorem dX4_readOperand_4 : decode cX4_readOperand 4 = .ok (.aload_n 0, 1) := by decide +kernel
theorem dX4_readOperand_5 : decode cX4_readOperand 5 = .ok (.getfield 9, 3) := by decide +kernel
theorem dX4_readOperand_8 : decode cX4_readOperand 8 = .ok (.invokevirtual 46, 3) := by decide +kernel
theorem dX4_readOperand_11 : decode cX4_readOperand 11 = .ok (.istore_n 1, 1) := by decide +kernel
theorem dX4_readOperand_12 : decode cX4_readOperand 12 = .ok (.iload_n 1, 1) := by decide +kernel
theorem dX4_readOperand_13 : decode cX4_readOperand 13 = .ok (.invokestatic 49, 3) := by decide +kernel
theorem dX4_readOperand_16 : decode cX4_readOperand 16 = .ok (.ifCond .eq 18, 3) := by decide +kernel
theorem dX4_readOperand_19 : decode cX4_readOperand 19 = .ok (.aload_n 0, 1) := by decide +kernel
theorem dX4_readOperand_20 : decode cX4_readOperand 20 = .ok (.dup, 1) := by decide +kernel
theorem dX4_readOperand_21 : decode cX4_readOperand 21 = .ok (.getfield 9, 3) := by decide +kernel
theorem dX4_readOperand_24 : decode cX4_readOperand 24 = .ok (.iconst 1, 1) := by decide +kernel
theorem dX4_readOperand_25 : decode cX4_readOperand 25 = .ok (.iadd, 1) := by decide +kernel
theorem dX4_readOperand_26 : decode cX4_readOperand 26 = .ok (.putfield 9, 3) := by decide +kernel
theorem dX4_readOperand_29 : decode cX4_readOperand 29 = .ok (.iload_n 1, 1) := by decide +kernel
theorem dX4_readOperand_30 : decode cX4_readOperand 30 = .ok (.bipush 97, 2) := by decide +kernel
theorem dX4_readOperand_32 : decode cX4_readOperand 32 = .ok (.isub, 1) := by decide +kernel
theorem dX4_readOperand_33 : decode cX4_readOperand 33 = .ok (.ireturn, 1) := by decide +kernel
theorem dX4_readOperand_34 : decode cX4_readOperand 34 = .ok (.iload_n 1, 1) := by decide +kernel
theorem dX4_readOperand_35 : decode cX4_readOperand 35 = .ok (.bipush 95, 2) := by decide +kernel
theorem dX4_readOperand_37 : decode cX4_readOperand 37 = .ok (.if_icmp .ne 7, 3) := by decide +kernel
theorem dX4_readOperand_40 : decode cX4_readOperand 40 = .ok (.iconst 1, 1) := by decide +kernel
theorem dX4_readOperand_41 : decode cX4_readOperand 41 = .ok (.goto 4, 3) := by decide +kernel
theorem dX4_readOperand_44 : decode cX4_readOperand 44 = .ok (.iconst 0, 1) := by decide +kernel
theorem dX4_readOperand_45 : decode cX4_readOperand 45 = .ok (.istore_n 2, 1) := by decide +kernel
theorem dX4_readOperand_46 : decode cX4_readOperand 46 = .ok (.iload_n 2, 1) := by decide +kernel
theorem dX4_readOperand_47 : decode cX4_readOperand 47 = .ok (.ifCond .eq 13, 3) := by decide +kernel
theorem dX4_readOperand_50 : decode cX4_readOperand 50 = .ok (.aload_n 0, 1) := by decide +kernel
theorem dX4_readOperand_51 : decode cX4_readOperand 51 = .ok (.dup, 1) := by decide +kernel
theorem dX4_readOperand_52 : decode cX4_readOperand 52 = .ok (.getfield 9, 3) := by decide +kernel
theorem dX4_readOperand_55 : decode cX4_readOperand 55 = .ok (.iconst 1, 1) := by decide +kernel
theorem dX4_readOperand_56 : decode cX4_readOperand 56 = .ok (.iadd, 1) := by decide +kernel
theorem dX4_readOperand_57 : decode cX4_readOperand 57 = .ok (.putfield 9, 3) := by decide +kernel
theorem dX4_readOperand_60 : decode cX4_readOperand 60 = .ok (.aload_n 0, 1) := by decide +kernel
theorem dX4_readOperand_61 : decode cX4_readOperand 61 = .ok (.getfield 25, 3) := by decide +kernel
theorem dX4_readOperand_64 : decode cX4_readOperand 64 = .ok (.aload_n 0, 1) := by decide +kernel
theorem dX4_readOperand_65 : decode cX4_readOperand 65 = .ok (.getfield 9, 3) := by decide +kernel
theorem dX4_readOperand_68 : decode cX4_readOperand 68 = .ok (.invokevirtual 46, 3) := by decide +kernel
theorem dX4_readOperand_71 : decode cX4_readOperand 71 = .ok (.invokestatic 56, 3) := by decide +kernel
theorem dX4_readOperand_74 : decode cX4_readOperand 74 = .ok (.ifCond .ne 13, 3) := by decide +kernel
theorem dX4_readOperand_77 : decode cX4_readOperand 77 = .ok (.aload_n 0, 1) := by decide +kernel
theorem dX4_readOperand_78 : decode cX4_readOperand 78 = .ok (.aload_n 0, 1) := by decide +kernel
theorem dX4_readOperand_79 : decode cX4_readOperand 79 = .ok (.getfield 9, 3) := by decide +kernel
theorem dX4_readOperand_82 : decode cX4_readOperand 82 = .ok (.putfield 15, 3) := by decide +kernel
theorem dX4_readOperand_85 : decode cX4_readOperand 85 = .ok (.iconst (-1), 1) := by decide +kernel
theorem dX4_readOperand_86 : decode cX4_readOperand 86 = .ok (.ireturn, 1) := by decide +kernel
theorem dX4_readOperand_87 : decode cX4_readOperand 87 = .ok (.aload_n 0, 1) := by decide +kernel
theorem dX4_readOperand_88 : decode cX4_readOperand 88 = .ok (.iconst 4, 1) := by decide +kernel
theorem dX4_readOperand_89 : decode cX4_readOperand 89 = .ok (.invokevirtual 80, 3) := by decide +kernel
theorem dX4_readOperand_92 : decode cX4_readOperand 92 = .ok (.istore_n 3, 1) := by decide +kernel
theorem dX4_readOperand_93 : decode cX4_readOperand 93 = .ok (.sipush 20000, 3) := by decide +kernel
theorem dX4_readOperand_96 : decode cX4_readOperand 96 = .ok (.iload_n 2, 1) := by decide +kernel
theorem dX4_readOperand_97 : decode cX4_readOperand 97 = .ok (.ifCond .eq 8, 3) := by decide +kernel
theorem dX4_readOperand_100 : decode cX4_readOperand 100 = .ok (.iload_n 3, 1) := by decide +kernel
theorem dX4_readOperand_101 : decode cX4_readOperand 101 = .ok (.ineg, 1) := by decide +kernel
theorem dX4_readOperand_102 : decode cX4_readOperand 102 = .ok (.goto 4, 3) := by decide +kernel
theorem dX4_readOperand_105 : decode cX4_readOperand 105 = .ok (.iload_n 3, 1) := by decide +kernel
theorem dX4_readOperand_106 : decode cX4_readOperand 106 = .ok (.iadd, 1) := by decide +kernel
theorem dX4_readOperand_107 : decode cX4_readOperand 107 = .ok (.ireturn, 1) := by decide +kernel
theorem dX4_readNumber_0 : decode cX4_readNumber 0 = .ok (.iconst 0, 1) := by decide +kernel
theorem dX4_readNumber_1 : decode cX4_readNumber 1 = .ok (.istore_n 2, 1) := by decide +kernel
theorem dX4_readNumber_2 : decode cX4_readNumber 2 = .ok (.iconst 0, 1) := by decide +kernel
theorem dX4_readNumber_3 : decode cX4_readNumber 3 = .ok (.istore_n 3, 1) := by decide +kernel
theorem dX4_readNumber_4 : decode cX4_readNumber 4 = .ok (.iload_n 3, 1) := by decide +kernel
theorem dX4_readNumber_5 : decode cX4_readNumber 5 = .ok (.iload_n 1, 1) := by decide +kernel
theorem dX4_readNumber_6 : decode cX4_readNumber 6 = .ok (.if_icmp .ge 56, 3) := by decide +kernel
theorem dX4_readNumber_9 : decode cX4_readNumber 9 = .ok (.aload_n 0, 1) := by decide +kernel
theorem dX4_readNumber_10 : decode cX4_readNumber 10 = .ok (.getfield 25, 3) := by decide +kernel
theorem dX4_readNumber_13 : decode cX4_readNumber 13 = .ok (.aload_n 0, 1) := by decide +kernel
theorem dX4_readNumber_14 : decode cX4_readNumber 14 = .ok (.getfield 9, 3) := by decide +kernel
theorem dX4_readNumber_17 : decode cX4_readNumber 17 = .ok (.invokevirtual 46, 3) := by decide +kernel
theorem dX4_readNumber_20 : decode cX4_readNumber 20 = .ok (.invokestatic 56, 3) := by decide +kernel
theorem dX4_readNumber_23 : decode cX4_readNumber 23 = .ok (.ifCond .eq 39, 3) := by decide +kernel
theorem dX4_readNumber_26 : decode cX4_readNumber 26 = .ok (.bipush 10, 2) := by decide +kernel
theorem dX4_readNumber_28 : decode cX4_readNumber 28 = .ok (.iload_n 2, 1) := by decide +kernel
theorem dX4_readNumber_29 : decode cX4_readNumber 29 = .ok (.imul, 1) := by decide +kernel
theorem dX4_readNumber_30 : decode cX4_readNumber 30 = .ok (.aload_n 0, 1) := by decide +kernel
theorem dX4_readNumber_31 : decode cX4_readNumber 31 = .ok (.getfield 25, 3) := by decide +kernel
theorem dX4_readNumber_34 : decode cX4_readNumber 34 = .ok (.aload_n 0, 1) := by decide +kernel
theorem dX4_readNumber_35 : decode cX4_readNumber 35 = .ok (.getfield 9, 3) := by decide +kernel
theorem dX4_readNumber_38 : decode cX4_readNumber 38 = .ok (.invokevirtual 46, 3) := by decide +kernel
theorem dX4_readNumber_41 : decode cX4_readNumber 41 = .ok (.bipush 48, 2) := by decide +kernel
theorem dX4_readNumber_43 : decode cX4_readNumber 43 = .ok (.isub, 1) := by decide +kernel
theorem dX4_readNumber_44 : decode cX4_readNumber 44 = .ok (.iadd, 1) := by decide +kernel
theorem dX4_readNumber_45 : decode cX4_readNumber 45 = .ok (.istore_n 2, 1) := by decide +kernel
theorem dX4_readNumber_46 : decode cX4_readNumber 46 = .ok (.aload_n 0, 1) := by decide +kernel
theorem dX4_readNumber_47 : decode cX4_readNumber 47 = .ok (.dup, 1) := by decide +kernel
theorem dX4_readNumber_48 : decode cX4_readNumber 48 = .ok (.getfield 9, 3) := by decide +kernel
theorem dX4_readNumber_51 : decode cX4_readNumber 51 = .ok (.iconst 1, 1) := by decide +kernel
theorem dX4_readNumber_52 : decode cX4_readNumber 52 = .ok (.iadd, 1) := by decide +kernel
theorem dX4_readNumber_53 : decode cX4_readNumber 53 = .ok (.putfield 9, 3) := by decide +kernel
theorem dX4_readNumber_56 : decode cX4_readNumber 56 = .ok (.iinc 3 1, 3) := by decide +kernel
theorem dX4_readNumber_59 : decode cX4_readNumber 59 = .ok (.goto (-55), 3) := by decide +kernel
theorem dX4_readNumber_62 : decode cX4_readNumber 62 = .ok (.iload_n 2, 1) := by decide +kernel
theorem dX4_readNumber_63 : decode cX4_readNumber 63 = .ok (.ireturn, 1) := by decide +kernel
theorem dX4_take_0 : decode cX4_take 0 = .ok (.aload_n 0, 1) := by decide +kernel
theorem dX4_take_1 : decode cX4_take 1 = .ok (.getfield 25, 3) := by decide +kernel
theorem dX4_take_4 : decode cX4_take 4 = .ok (.aload_n 0, 1) := by decide +kernel
theorem dX4_take_5 : decode cX4_take 5 = .ok (.getfield 9, 3) := by decide +kernel
theorem dX4_take_8 : decode cX4_take 8 = .ok (.invokevirtual 46, 3) := by decide +kernel
theorem dX4_take_11 : decode cX4_take 11 = .ok (.iload_n 1, 1) := by decide +kernel
theorem dX4_take_12 : decode cX4_take 12 = .ok (.if_icmp .eq 13, 3) := by decide +kernel
theorem dX4_take_15 : decode cX4_take 15 = .ok (.aload_n 0, 1) := by decide +kernel
theorem dX4_take_16 : decode cX4_take 16 = .ok (.aload_n 0, 1) := by decide +kernel
theorem dX4_take_17 : decode cX4_take 17 = .ok (.getfield 9, 3) := by decide +kernel
theorem dX4_take_20 : decode cX4_take 20 = .ok (.putfield 15, 3) := by decide +kernel
theorem dX4_take_23 : decode cX4_take 23 = .ok (.iconst 0, 1) := by decide +kernel
theorem dX4_take_24 : decode cX4_take 24 = .ok (.ireturn, 1) := by decide +kernel
theorem dX4_take_25 : decode cX4_take 25 = .ok (.aload_n 0, 1) := by decide +kernel
theorem dX4_take_26 : decode cX4_take 26 = .ok (.dup, 1) := by decide +kernel
theorem dX4_take_27 : decode cX4_take 27 = .ok (.getfield 9, 3) := by decide +kernel
theorem dX4_take_30 : decode cX4_take 30 = .ok (.iconst 1, 1) := by decide +kernel
theorem dX4_take_31 : decode cX4_take 31 = .ok (.iadd, 1) := by decide +kernel
theorem dX4_take_32 : decode cX4_take 32 = .ok (.putfield 9, 3) := by decide +kernel
theorem dX4_take_35 : decode cX4_take 35 = .ok (.iconst 1, 1) := by decide +kernel
theorem dX4_take_36 : decode cX4_take 36 = .ok (.ireturn, 1) := by decide +kernel
theorem dX4_kindOf_0 : decode cX4_kindOf 0 = .ok (.iload_n 0, 1) := by decide +kernel
theorem dX4_kindOf_1 : decode cX4_kindOf 1 = .ok (.tableswitch 37 42 45 #[35, 31, 37, 33], 31) := by decide +kernel
theorem dX4_kindOf_32 : decode cX4_kindOf 32 = .ok (.iconst 1, 1) := by decide +kernel
theorem dX4_kindOf_33 : decode cX4_kindOf 33 = .ok (.ireturn, 1) := by decide +kernel
theorem dX4_kindOf_34 : decode cX4_kindOf 34 = .ok (.iconst 2, 1) := by decide +kernel
theorem dX4_kindOf_35 : decode cX4_kindOf 35 = .ok (.ireturn, 1) := by decide +kernel
theorem dX4_kindOf_36 : decode cX4_kindOf 36 = .ok (.iconst 3, 1) := by decide +kernel
theorem dX4_kindOf_37 : decode cX4_kindOf 37 = .ok (.ireturn, 1) := by decide +kernel
theorem dX4_kindOf_38 : decode cX4_kindOf 38 = .ok (.iconst 0, 1) := by decide +kernel
theorem dX4_kindOf_39 : decode cX4_kindOf 39 = .ok (.ireturn, 1) := by decide +kernel
theorem dX4_isLetter_0 : decode cX4_isLetter 0 = .ok (.iload_n 0, 1) := by decide +kernel
theorem dX4_isLetter_1 : decode cX4_isLetter 1 = .ok (.bipush 97, 2) := by decide +kernel
theorem dX4_isLetter_3 : decode cX4_isLetter 3 = .ok (.if_icmp .lt 13, 3) := by decide +kernel
theorem dX4_isLetter_6 : decode cX4_isLetter 6 = .ok (.iload_n 0, 1) := by decide +kernel
theorem dX4_isLetter_7 : decode cX4_isLetter 7 = .ok (.bipush 105, 2) := by decide +kernel
theorem dX4_isLetter_9 : decode cX4_isLetter 9 = .ok (.if_icmp .ge 7, 3) := by decide +kernel
theorem dX4_isLetter_12 : decode cX4_isLetter 12 = .ok (.iconst 1, 1) := by decide +kernel
theorem dX4_isLetter_13 : decode cX4_isLetter 13 = .ok (.goto 4, 3) := by decide +kernel
theorem dX4_isLetter_16 : decode cX4_isLetter 16 = .ok (.iconst 0, 1) := by decide +kernel
theorem dX4_isLetter_17 : decode cX4_isLetter 17 = .ok (.ireturn, 1) := by decide +kernel
theorem dX4_isDigit_0 : decode cX4_isDigit 0 = .ok (.iload_n 0, 1) := by decide +kernel
theorem dX4_isDigit_1 : decode cX4_isDigit 1 = .ok (.bipush 48, 2) := by decide +kernel
theorem dX4_isDigit_3 : decode cX4_isDigit 3 = .ok (.if_icmp .lt 13, 3) := by decide +kernel
theorem dX4_isDigit_6 : decode cX4_isDigit 6 = .ok (.iload_n 0, 1) := by decide +kernel
theorem dX4_isDigit_7 : decode cX4_isDigit 7 = .ok (.bipush 57, 2) := by decide +kernel
theorem dX4_isDigit_9 : decode cX4_isDigit 9 = .ok (.if_icmp .gt 7, 3) := by decide +kernel
theorem dX4_isDigit_12 : decode cX4_isDigit 12 = .ok (.iconst 1, 1) := by decide +kernel
theorem dX4_isDigit_13 : decode cX4_isDigit 13 = .ok (.goto 4, 3) := by decide +kernel
theorem dX4_isDigit_16 : decode cX4_isDigit 16 = .ok (.iconst 0, 1) := by decide +kernel
theorem dX4_isDigit_17 : decode cX4_isDigit 17 = .ok (.ireturn, 1) := by decide +kernel
theorem dX5_init_0 : decode cX5_init 0 = .ok (.aload_n 0, 1) := by decide +kernel
theorem dX5_init_1 : decode cX5_init 1 = .ok (.invokespecial 3, 3) := by decide +kernel
theorem dX5_init_4 : decode cX5_init 4 = .ok (.aload_n 0, 1) := by decide +kernel
theorem dX5_init_5 : decode cX5_init 5 = .ok (.bipush 30, 2) := by decide +kernel
theorem dX5_init_7 : decode cX5_init 7 = .ok (.newarray .int, 2) := by decide +kernel
theorem dX5_init_9 : decode cX5_init 9 = .ok (.putfield 9, 3) := by decide +kernel
theorem dX5_init_12 : decode cX5_init 12 = .ok (.aload_n 0, 1) := by decide +kernel
theorem dX5_init_13 : decode cX5_init 13 = .ok (.bipush 30, 2) := by decide +kernel
theorem dX5_init_15 : decode cX5_init 15 = .ok (.newarray .int, 2) := by decide +kernel
theorem dX5_init_17 : decode cX5_init 17 = .ok (.putfield 15, 3) := by decide +kernel
theorem dX5_init_20 : decode cX5_init 20 = .ok (.aload_n 0, 1) := by decide +kernel
theorem dX5_init_21 : decode cX5_init 21 = .ok (.bipush 30, 2) := by decide +kernel
theorem dX5_init_23 : decode cX5_init 23 = .ok (.newarray .boolean, 2) := by decide +kernel
theorem dX5_init_25 : decode cX5_init 25 = .ok (.putfield 18, 3) := by decide +kernel
theorem dX5_init_28 : decode cX5_init 28 = .ok (.return_, 1) := by decide +kernel
theorem dX5_make_0 : decode cX5_make 0 = .ok (.iconst 0, 1) := by decide +kernel
theorem dX5_make_1 : decode cX5_make 1 = .ok (.istore_n 3, 1) := by decide +kernel
theorem dX5_make_2 : decode cX5_make 2 = .ok (.iload_n 3, 1) := by decide +kernel
theorem dX5_make_3 : decode cX5_make 3 = .ok (.bipush 30, 2) := by decide +kernel
theorem dX5_make_5 : decode cX5_make 5 = .ok (.if_icmp .ge 16, 3) := by decide +kernel
theorem dX5_make_8 : decode cX5_make 8 = .ok (.aload_n 0, 1) := by decide +kernel
theorem dX5_make_9 : decode cX5_make 9 = .ok (.getfield 18, 3) := by decide +kernel
theorem dX5_make_12 : decode cX5_make 12 = .ok (.iload_n 3, 1) := by decide +kernel
theorem dX5_make_13 : decode cX5_make 13 = .ok (.iconst 0, 1) := by decide +kernel
theorem dX5_make_14 : decode cX5_make 14 = .ok (.bastore, 1) := by decide +kernel
theorem dX5_make_15 : decode cX5_make 15 = .ok (.iinc 3 1, 3) := by decide +kernel
theorem dX5_make_18 : decode cX5_make 18 = .ok (.goto (-16), 3) := by decide +kernel
theorem dX5_make_21 : decode cX5_make 21 = .ok (.iconst 0, 1) := by decide +kernel
theorem dX5_make_22 : decode cX5_make 22 = .ok (.istore_n 3, 1) := by decide +kernel
theorem dX5_make_23 : decode cX5_make 23 = .ok (.iload_n 3, 1) := by decide +kernel
theorem dX5_make_24 : decode cX5_make 24 = .ok (.aload_n 1, 1) := by decide +kernel
theorem dX5_make_25 : decode cX5_make 25 = .ok (.getfield 22, 3) := by decide +kernel
theorem dX5_make_28 : decode cX5_make 28 = .ok (.if_icmp .ge 43, 3) := by decide +kernel
theorem dX5_make_31 : decode cX5_make 31 = .ok (.aload_n 0, 1) := by decide +kernel
theorem dX5_make_32 : decode cX5_make 32 = .ok (.getfield 15, 3) := by decide +kernel
theorem dX5_make_35 : decode cX5_make 35 = .ok (.iload_n 3, 1) := by decide +kernel
theorem dX5_make_36 : decode cX5_make 36 = .ok (.aload_n 1, 1) := by decide +kernel
theorem dX5_make_37 : decode cX5_make 37 = .ok (.aload_n 2, 1) := by decide +kernel
theorem dX5_make_38 : decode cX5_make 38 = .ok (.iload_n 3, 1) := by decide +kernel
theorem dX5_make_39 : decode cX5_make 39 = .ok (.invokestatic 28, 3) := by decide +kernel
theorem dX5_make_42 : decode cX5_make 42 = .ok (.iastore, 1) := by decide +kernel
theorem dX5_make_43 : decode cX5_make 43 = .ok (.aload_n 0, 1) := by decide +kernel
theorem dX5_make_44 : decode cX5_make 44 = .ok (.getfield 15, 3) := by decide +kernel
theorem dX5_make_47 : decode cX5_make 47 = .ok (.iload_n 3, 1) := by decide +kernel
theorem dX5_make_48 : decode cX5_make 48 = .ok (.iaload, 1) := by decide +kernel
theorem dX5_make_49 : decode cX5_make 49 = .ok (.iconst (-1), 1) := by decide +kernel
theorem dX5_make_50 : decode cX5_make 50 = .ok (.if_icmp .eq 15, 3) := by decide +kernel
theorem dX5_make_53 : decode cX5_make 53 = .ok (.aload_n 0, 1) := by decide +kernel
theorem dX5_make_54 : decode cX5_make 54 = .ok (.getfield 18, 3) := by decide +kernel
theorem dX5_make_57 : decode cX5_make 57 = .ok (.aload_n 0, 1) := by decide +kernel
theorem dX5_make_58 : decode cX5_make 58 = .ok (.getfield 15, 3) := by decide +kernel
theorem dX5_make_61 : decode cX5_make 61 = .ok (.iload_n 3, 1) := by decide +kernel
theorem dX5_make_62 : decode cX5_make 62 = .ok (.iaload, 1) := by decide +kernel
theorem dX5_make_63 : decode cX5_make 63 = .ok (.iconst 1, 1) := by decide +kernel
theorem dX5_make_64 : decode cX5_make 64 = .ok (.bastore, 1) := by decide +kernel
theorem dX5_make_65 : decode cX5_make 65 = .ok (.iinc 3 1, 3) := by decide +kernel
theorem dX5_make_68 : decode cX5_make 68 = .ok (.goto (-45), 3) := by decide +kernel
theorem dX5_make_71 : decode cX5_make 71 = .ok (.iconst 0, 1) := by decide +kernel
theorem dX5_make_72 : decode cX5_make 72 = .ok (.istore_n 3, 1) := by decide +kernel
theorem dX5_make_73 : decode cX5_make 73 = .ok (.iload_n 3, 1) := by decide +kernel
theorem dX5_make_74 : decode cX5_make 74 = .ok (.aload_n 1, 1) := by decide +kernel
theorem dX5_make_75 : decode cX5_make 75 = .ok (.getfield 22, 3) := by decide +kernel
theorem dX5_make_78 : decode cX5_make 78 = .ok (.if_icmp .ge 22, 3) := by decide +kernel
theorem dX5_make_81 : decode cX5_make 81 = .ok (.aload_n 0, 1) := by decide +kernel
theorem dX5_make_82 : decode cX5_make 82 = .ok (.getfield 9, 3) := by decide +kernel
theorem dX5_make_85 : decode cX5_make 85 = .ok (.iload_n 3, 1) := by decide +kernel
theorem dX5_make_86 : decode cX5_make 86 = .ok (.aload_n 0, 1) := by decide +kernel
theorem dX5_make_87 : decode cX5_make 87 = .ok (.aload_n 1, 1) := by decide +kernel
theorem dX5_make_88 : decode cX5_make 88 = .ok (.aload_n 2, 1) := by decide +kernel
theorem dX5_make_89 : decode cX5_make 89 = .ok (.iload_n 3, 1) := by decide +kernel
theorem dX5_make_90 : decode cX5_make 90 = .ok (.invokevirtual 32, 3) := by decide +kernel
theorem dX5_make_93 : decode cX5_make 93 = .ok (.iastore, 1) := by decide +kernel
theorem dX5_make_94 : decode cX5_make 94 = .ok (.iinc 3 1, 3) := by decide +kernel
theorem dX5_make_97 : decode cX5_make 97 = .ok (.goto (-24), 3) := by decide +kernel
theorem dX5_make_100 : decode cX5_make 100 = .ok (.return_, 1) := by decide +kernel
theorem dX5_findState_0 : decode cX5_findState 0 = .ok (.aload_n 1, 1) := by decide +kernel
theorem dX5_findState_1 : decode cX5_findState 1 = .ok (.iload_n 3, 1) := by decide +kernel
theorem dX5_findState_2 : decode cX5_findState 2 = .ok (.invokevirtual 35, 3) := by decide +kernel
theorem dX5_findState_5 : decode cX5_findState 5 = .ok (.ifCond .ne 5, 3) := by decide +kernel
theorem dX5_findState_8 : decode cX5_findState 8 = .ok (.iconst (-1), 1) := by decide +kernel
theorem dX5_findState_9 : decode cX5_findState 9 = .ok (.ireturn, 1) := by decide +kernel
theorem dX5_findState_10 : decode cX5_findState 10 = .ok (.aload_n 2, 1) := by decide +kernel
theorem dX5_findState_11 : decode cX5_findState 11 = .ok (.getfield 39, 3) := by decide +kernel
theorem dX5_findState_14 : decode cX5_findState 14 = .ok (.iload_n 3, 1) := by decide +kernel
theorem dX5_findState_15 : decode cX5_findState 15 = .ok (.baload, 1) := by decide +kernel
theorem dX5_findState_16 : decode cX5_findState 16 = .ok (.ifCond .ne 5, 3) := by decide +kernel
theorem dX5_findState_19 : decode cX5_findState 19 = .ok (.iconst 0, 1) := by decide +kernel
theorem dX5_findState_20 : decode cX5_findState 20 = .ok (.ireturn, 1) := by decide +kernel
theorem dX5_findState_21 : decode cX5_findState 21 = .ok (.aload_n 2, 1) := by decide +kernel
theorem dX5_findState_22 : decode cX5_findState 22 = .ok (.getfield 44, 3) := by decide +kernel
theorem dX5_findState_25 : decode cX5_findState 25 = .ok (.iload_n 3, 1) := by decide +kernel
theorem dX5_findState_26 : decode cX5_findState 26 = .ok (.baload, 1) := by decide +kernel
theorem dX5_findState_27 : decode cX5_findState 27 = .ok (.ifCond .ne 5, 3) := by decide +kernel
theorem dX5_findState_30 : decode cX5_findState 30 = .ok (.iconst 1, 1) := by decide +kernel
theorem dX5_findState_31 : decode cX5_findState 31 = .ok (.ireturn, 1) := by decide +kernel
theorem dX5_findState_32 : decode cX5_findState 32 = .ok (.aload_n 0, 1) := by decide +kernel
theorem dX5_findState_33 : decode cX5_findState 33 = .ok (.getfield 15, 3) := by decide +kernel
theorem dX5_findState_36 : decode cX5_findState 36 = .ok (.iload_n 3, 1) := by decide +kernel
theorem dX5_findState_37 : decode cX5_findState 37 = .ok (.iaload, 1) := by decide +kernel
theorem dX5_findState_38 : decode cX5_findState 38 = .ok (.iconst (-1), 1) := by decide +kernel
theorem dX5_findState_39 : decode cX5_findState 39 = .ok (.if_icmp .eq 5, 3) := by decide +kernel
theorem dX5_findState_42 : decode cX5_findState 42 = .ok (.iconst 2, 1) := by decide +kernel
theorem dX5_findState_43 : decode cX5_findState 43 = .ok (.ireturn, 1) := by decide +kernel
theorem dX5_findState_44 : decode cX5_findState 44 = .ok (.aload_n 0, 1) := by decide +kernel
theorem dX5_findState_45 : decode cX5_findState 45 = .ok (.aload_n 1, 1) := by decide +kernel
theorem dX5_findState_46 : decode cX5_findState 46 = .ok (.iload_n 3, 1) := by decide +kernel
theorem dX5_findState_47 : decode cX5_findState 47 = .ok (.invokevirtual 47, 3) := by decide +kernel
theorem dX5_findState_50 : decode cX5_findState 50 = .ok (.ifCond .eq 7, 3) := by decide +kernel
theorem dX5_findState_53 : decode cX5_findState 53 = .ok (.iconst 3, 1) := by decide +kernel
theorem dX5_findState_54 : decode cX5_findState 54 = .ok (.goto 4, 3) := by decide +kernel
theorem dX5_findState_57 : decode cX5_findState 57 = .ok (.iconst 4, 1) := by decide +kernel
theorem dX5_findState_58 : decode cX5_findState 58 = .ok (.ireturn, 1) := by decide +kernel
theorem dX5_findCover_0 : decode cX5_findCover 0 = .ok (.aload_n 0, 1) := by decide +kernel
theorem dX5_findCover_1 : decode cX5_findCover 1 = .ok (.getfield 51, 3) := by decide +kernel
theorem dX5_findCover_4 : decode cX5_findCover 4 = .ok (.iload_n 2, 1) := by decide +kernel
theorem dX5_findCover_5 : decode cX5_findCover 5 = .ok (.iaload, 1) := by decide +kernel
theorem dX5_findCover_6 : decode cX5_findCover 6 = .ok (.iconst 1, 1) := by decide +kernel
theorem dX5_findCover_7 : decode cX5_findCover 7 = .ok (.if_icmp .ne 12, 3) := by decide +kernel
theorem dX5_findCover_10 : decode cX5_findCover 10 = .ok (.aload_n 1, 1) := by decide +kernel
theorem dX5_findCover_11 : decode cX5_findCover 11 = .ok (.getfield 44, 3) := by decide +kernel
theorem dX5_findCover_14 : decode cX5_findCover 14 = .ok (.iload_n 2, 1) := by decide +kernel
theorem dX5_findCover_15 : decode cX5_findCover 15 = .ok (.baload, 1) := by decide +kernel
theorem dX5_findCover_16 : decode cX5_findCover 16 = .ok (.ifCond .ne 5, 3) := by decide +kernel
theorem dX5_findCover_19 : decode cX5_findCover 19 = .ok (.iconst (-1), 1) := by decide +kernel
theorem dX5_findCover_20 : decode cX5_findCover 20 = .ok (.ireturn, 1) := by decide +kernel
theorem dX5_findCover_21 : decode cX5_findCover 21 = .ok (.iload_n 2, 1) := by decide +kernel
theorem dX5_findCover_22 : decode cX5_findCover 22 = .ok (.iconst 1, 1) := by decide +kernel
theorem dX5_findCover_23 : decode cX5_findCover 23 = .ok (.iadd, 1) := by decide +kernel
theorem dX5_findCover_24 : decode cX5_findCover 24 = .ok (.istore_n 3, 1) := by decide +kernel
theorem dX5_findCover_25 : decode cX5_findCover 25 = .ok (.iload_n 3, 1) := by decide +kernel
theorem dX5_findCover_26 : decode cX5_findCover 26 = .ok (.aload_n 0, 1) := by decide +kernel
theorem dX5_findCover_27 : decode cX5_findCover 27 = .ok (.getfield 22, 3) := by decide +kernel
theorem dX5_findCover_30 : decode cX5_findCover 30 = .ok (.if_icmp .ge 41, 3) := by decide +kernel
theorem dX5_findCover_33 : decode cX5_findCover 33 = .ok (.aload_n 0, 1) := by decide +kernel
theorem dX5_findCover_34 : decode cX5_findCover 34 = .ok (.iload_n 3, 1) := by decide +kernel
theorem dX5_findCover_35 : decode cX5_findCover 35 = .ok (.invokevirtual 54, 3) := by decide +kernel
theorem dX5_findCover_38 : decode cX5_findCover 38 = .ok (.ifCond .ne 33, 3) := by decide +kernel
theorem dX5_findCover_41 : decode cX5_findCover 41 = .ok (.aload_n 0, 1) := by decide +kernel
theorem dX5_findCover_42 : decode cX5_findCover 42 = .ok (.aload_n 1, 1) := by decide +kernel
theorem dX5_findCover_43 : decode cX5_findCover 43 = .ok (.iload_n 2, 1) := by decide +kernel
theorem dX5_findCover_44 : decode cX5_findCover 44 = .ok (.iload_n 3, 1) := by decide +kernel
theorem dX5_findCover_45 : decode cX5_findCover 45 = .ok (.invokestatic 57, 3) := by decide +kernel
theorem dX5_findCover_48 : decode cX5_findCover 48 = .ok (.ifCond .eq 5, 3) := by decide +kernel
theorem dX5_findCover_51 : decode cX5_findCover 51 = .ok (.iload_n 3, 1) := by decide +kernel
theorem dX5_findCover_52 : decode cX5_findCover 52 = .ok (.ireturn, 1) := by decide +kernel
theorem dX5_findCover_53 : decode cX5_findCover 53 = .ok (.aload_n 0, 1) := by decide +kernel
theorem dX5_findCover_54 : decode cX5_findCover 54 = .ok (.aload_n 1, 1) := by decide +kernel
theorem dX5_findCover_55 : decode cX5_findCover 55 = .ok (.iload_n 2, 1) := by decide +kernel
theorem dX5_findCover_56 : decode cX5_findCover 56 = .ok (.iload_n 3, 1) := by decide +kernel
theorem dX5_findCover_57 : decode cX5_findCover 57 = .ok (.invokestatic 61, 3) := by decide +kernel
theorem dX5_findCover_60 : decode cX5_findCover 60 = .ok (.ifCond .eq 5, 3) := by decide +kernel
theorem dX5_findCover_63 : decode cX5_findCover 63 = .ok (.iconst (-1), 1) := by decide +kernel
theorem dX5_findCover_64 : decode cX5_findCover 64 = .ok (.ireturn, 1) := by decide +kernel
theorem dX5_findCover_65 : decode cX5_findCover 65 = .ok (.iinc 3 1, 3) := by decide +kernel
theorem dX5_findCover_68 : decode cX5_findCover 68 = .ok (.goto (-43), 3) := by decide +kernel
theorem dX5_findCover_71 : decode cX5_findCover 71 = .ok (.iconst (-1), 1) := by decide +kernel
theorem dX5_findCover_72 : decode cX5_findCover 72 = .ok (.ireturn, 1) := by decide +kernel
theorem dX5_canCover_0 : decode cX5_canCover 0 = .ok (.aload_n 0, 1) := by decide +kernel
theorem dX5_canCover_1 : decode cX5_canCover 1 = .ok (.getfield 51, 3) := by decide +kernel
theorem dX5_canCover_4 : decode cX5_canCover 4 = .ok (.iload_n 3, 1) := by decide +kernel
theorem dX5_canCover_5 : decode cX5_canCover 5 = .ok (.iaload, 1) := by decide +kernel
theorem dX5_canCover_6 : decode cX5_canCover 6 = .ok (.iconst 1, 1) := by decide +kernel
theorem dX5_canCover_7 : decode cX5_canCover 7 = .ok (.if_icmp .ne 12, 3) := by decide +kernel
theorem dX5_canCover_10 : decode cX5_canCover 10 = .ok (.aload_n 1, 1) := by decide +kernel
theorem dX5_canCover_11 : decode cX5_canCover 11 = .ok (.getfield 44, 3) := by decide +kernel
theorem dX5_canCover_14 : decode cX5_canCover 14 = .ok (.iload_n 3, 1) := by decide +kernel
theorem dX5_canCover_15 : decode cX5_canCover 15 = .ok (.baload, 1) := by decide +kernel
theorem dX5_canCover_16 : decode cX5_canCover 16 = .ok (.ifCond .ne 5, 3) := by decide +kernel
theorem dX5_canCover_19 : decode cX5_canCover 19 = .ok (.iconst 0, 1) := by decide +kernel
theorem dX5_canCover_20 : decode cX5_canCover 20 = .ok (.ireturn, 1) := by decide +kernel
theorem dX5_canCover_21 : decode cX5_canCover 21 = .ok (.aload_n 0, 1) := by decide +kernel
theorem dX5_canCover_22 : decode cX5_canCover 22 = .ok (.iload_n 3, 1) := by decide +kernel
theorem dX5_canCover_23 : decode cX5_canCover 23 = .ok (.aload_n 0, 1) := by decide +kernel
theorem dX5_canCover_24 : decode cX5_canCover 24 = .ok (.getfield 64, 3) := by decide +kernel
theorem dX5_canCover_27 : decode cX5_canCover 27 = .ok (.iload_n 2, 1) := by decide +kernel
theorem dX5_canCover_28 : decode cX5_canCover 28 = .ok (.iaload, 1) := by decide +kernel
theorem dX5_canCover_29 : decode cX5_canCover 29 = .ok (.invokevirtual 67, 3) := by decide +kernel
theorem dX5_canCover_32 : decode cX5_canCover 32 = .ok (.istore 4, 2) := by decide +kernel
theorem dX5_canCover_34 : decode cX5_canCover 34 = .ok (.iload 4, 2) := by decide +kernel
theorem dX5_canCover_36 : decode cX5_canCover 36 = .ok (.iconst (-1), 1) := by decide +kernel
theorem dX5_canCover_37 : decode cX5_canCover 37 = .ok (.if_icmp .ne 5, 3) := by decide +kernel
theorem dX5_canCover_40 : decode cX5_canCover 40 = .ok (.iconst 0, 1) := by decide +kernel
theorem dX5_canCover_41 : decode cX5_canCover 41 = .ok (.ireturn, 1) := by decide +kernel
theorem dX5_canCover_42 : decode cX5_canCover 42 = .ok (.iload_n 2, 1) := by decide +kernel
theorem dX5_canCover_43 : decode cX5_canCover 43 = .ok (.iconst 1, 1) := by decide +kernel
theorem dX5_canCover_44 : decode cX5_canCover 44 = .ok (.iadd, 1) := by decide +kernel
theorem dX5_canCover_45 : decode cX5_canCover 45 = .ok (.istore 5, 2) := by decide +kernel
theorem dX5_canCover_47 : decode cX5_canCover 47 = .ok (.iload 5, 2) := by decide +kernel
theorem dX5_canCover_49 : decode cX5_canCover 49 = .ok (.iload_n 3, 1) := by decide +kernel
theorem dX5_canCover_50 : decode cX5_canCover 50 = .ok (.if_icmp .ge 22, 3) := by decide +kernel
theorem dX5_canCover_53 : decode cX5_canCover 53 = .ok (.aload_n 0, 1) := by decide +kernel
theorem dX5_canCover_54 : decode cX5_canCover 54 = .ok (.iload 5, 2) := by decide +kernel
theorem dX5_canCover_56 : decode cX5_canCover 56 = .ok (.iload 4, 2) := by decide +kernel
theorem dX5_canCover_58 : decode cX5_canCover 58 = .ok (.invokevirtual 71, 3) := by decide +kernel
theorem dX5_canCover_61 : decode cX5_canCover 61 = .ok (.ifCond .eq 5, 3) := by decide +kernel
theorem dX5_canCover_64 : decode cX5_canCover 64 = .ok (.iconst 0, 1) := by decide +kernel
theorem dX5_canCover_65 : decode cX5_canCover 65 = .ok (.ireturn, 1) := by decide +kernel
theorem dX5_canCover_66 : decode cX5_canCover 66 = .ok (.iinc 5 1, 3) := by decide +kernel
theorem dX5_canCover_69 : decode cX5_canCover 69 = .ok (.goto (-22), 3) := by decide +kernel
theorem dX5_canCover_72 : decode cX5_canCover 72 = .ok (.aload_n 1, 1) := by decide +kernel
theorem dX5_canCover_73 : decode cX5_canCover 73 = .ok (.aload_n 0, 1) := by decide +kernel
theorem dX5_canCover_74 : decode cX5_canCover 74 = .ok (.getfield 75, 3) := by decide +kernel
theorem dX5_canCover_77 : decode cX5_canCover 77 = .ok (.iload_n 2, 1) := by decide +kernel
theorem dX5_canCover_78 : decode cX5_canCover 78 = .ok (.iaload, 1) := by decide +kernel
theorem dX5_canCover_79 : decode cX5_canCover 79 = .ok (.iload_n 2, 1) := by decide +kernel
theorem dX5_canCover_80 : decode cX5_canCover 80 = .ok (.iload_n 3, 1) := by decide +kernel
theorem dX5_canCover_81 : decode cX5_canCover 81 = .ok (.invokevirtual 78, 3) := by decide +kernel
theorem dX5_canCover_84 : decode cX5_canCover 84 = .ok (.ifCond .eq 33, 3) := by decide +kernel
theorem dX5_canCover_87 : decode cX5_canCover 87 = .ok (.aload_n 1, 1) := by decide +kernel
theorem dX5_canCover_88 : decode cX5_canCover 88 = .ok (.aload_n 0, 1) := by decide +kernel
theorem dX5_canCover_89 : decode cX5_canCover 89 = .ok (.getfield 82, 3) := by decide +kernel
theorem dX5_canCover_92 : decode cX5_canCover 92 = .ok (.iload_n 2, 1) := by decide +kernel
theorem dX5_canCover_93 : decode cX5_canCover 93 = .ok (.iaload, 1) := by decide +kernel
theorem dX5_canCover_94 : decode cX5_canCover 94 = .ok (.iload_n 2, 1) := by decide +kernel
theorem dX5_canCover_95 : decode cX5_canCover 95 = .ok (.iload_n 3, 1) := by decide +kernel
theorem dX5_canCover_96 : decode cX5_canCover 96 = .ok (.invokevirtual 78, 3) := by decide +kernel
theorem dX5_canCover_99 : decode cX5_canCover 99 = .ok (.ifCond .eq 18, 3) := by decide +kernel
theorem dX5_canCover_102 : decode cX5_canCover 102 = .ok (.aload_n 1, 1) := by decide +kernel
theorem dX5_canCover_103 : decode cX5_canCover 103 = .ok (.iload 4, 2) := by decide +kernel
theorem dX5_canCover_105 : decode cX5_canCover 105 = .ok (.iload_n 2, 1) := by decide +kernel
theorem dX5_canCover_106 : decode cX5_canCover 106 = .ok (.iload_n 3, 1) := by decide +kernel
theorem dX5_canCover_107 : decode cX5_canCover 107 = .ok (.invokevirtual 78, 3) := by decide +kernel
theorem dX5_canCover_110 : decode cX5_canCover 110 = .ok (.ifCond .eq 7, 3) := by decide +kernel
theorem dX5_canCover_113 : decode cX5_canCover 113 = .ok (.iconst 1, 1) := by decide +kernel
theorem dX5_canCover_114 : decode cX5_canCover 114 = .ok (.goto 4, 3) := by decide +kernel
theorem dX5_canCover_117 : decode cX5_canCover 117 = .ok (.iconst 0, 1) := by decide +kernel
theorem dX5_canCover_118 : decode cX5_canCover 118 = .ok (.ireturn, 1) := by decide +kernel
theorem dX5_standsBetween_0 : decode cX5_standsBetween 0 = .ok (.aload_n 0, 1) := by decide +kernel
theorem dX5_standsBetween_1 : decode cX5_standsBetween 1 = .ok (.getfield 64, 3) := by decide +kernel
theorem dX5_standsBetween_4 : decode cX5_standsBetween 4 = .ok (.iload_n 2, 1) := by decide +kernel
theorem dX5_standsBetween_5 : decode cX5_standsBetween 5 = .ok (.iaload, 1) := by decide +kernel
theorem dX5_standsBetween_6 : decode cX5_standsBetween 6 = .ok (.istore 4, 2) := by decide +kernel
theorem dX5_standsBetween_8 : decode cX5_standsBetween 8 = .ok (.aload_n 1, 1) := by decide +kernel
theorem dX5_standsBetween_9 : decode cX5_standsBetween 9 = .ok (.getfield 44, 3) := by decide +kernel
theorem dX5_standsBetween_12 : decode cX5_standsBetween 12 = .ok (.iload_n 3, 1) := by decide +kernel
theorem dX5_standsBetween_13 : decode cX5_standsBetween 13 = .ok (.baload, 1) := by decide +kernel
theorem dX5_standsBetween_14 : decode cX5_standsBetween 14 = .ok (.ifCond .ne 51, 3) := by decide +kernel
theorem dX5_standsBetween_17 : decode cX5_standsBetween 17 = .ok (.aload_n 0, 1) := by decide +kernel
theorem dX5_standsBetween_18 : decode cX5_standsBetween 18 = .ok (.iload_n 3, 1) := by decide +kernel
theorem dX5_standsBetween_19 : decode cX5_standsBetween 19 = .ok (.iload 4, 2) := by decide +kernel
theorem dX5_standsBetween_21 : decode cX5_standsBetween 21 = .ok (.invokevirtual 71, 3) := by decide +kernel
theorem dX5_standsBetween_24 : decode cX5_standsBetween 24 = .ok (.ifCond .ne 41, 3) := by decide +kernel
theorem dX5_standsBetween_27 : decode cX5_standsBetween 27 = .ok (.aload_n 0, 1) := by decide +kernel
theorem dX5_standsBetween_28 : decode cX5_standsBetween 28 = .ok (.iload_n 3, 1) := by decide +kernel
theorem dX5_standsBetween_29 : decode cX5_standsBetween 29 = .ok (.iload 4, 2) := by decide +kernel
theorem dX5_standsBetween_31 : decode cX5_standsBetween 31 = .ok (.invokevirtual 85, 3) := by decide +kernel
theorem dX5_standsBetween_34 : decode cX5_standsBetween 34 = .ok (.ifCond .ne 31, 3) := by decide +kernel
theorem dX5_standsBetween_37 : decode cX5_standsBetween 37 = .ok (.aload_n 0, 1) := by decide +kernel
theorem dX5_standsBetween_38 : decode cX5_standsBetween 38 = .ok (.iload_n 3, 1) := by decide +kernel
theorem dX5_standsBetween_39 : decode cX5_standsBetween 39 = .ok (.aload_n 0, 1) := by decide +kernel
theorem dX5_standsBetween_40 : decode cX5_standsBetween 40 = .ok (.getfield 75, 3) := by decide +kernel
theorem dX5_standsBetween_43 : decode cX5_standsBetween 43 = .ok (.iload_n 2, 1) := by decide +kernel
theorem dX5_standsBetween_44 : decode cX5_standsBetween 44 = .ok (.iaload, 1) := by decide +kernel
theorem dX5_standsBetween_45 : decode cX5_standsBetween 45 = .ok (.invokevirtual 71, 3) := by decide +kernel
theorem dX5_standsBetween_48 : decode cX5_standsBetween 48 = .ok (.ifCond .ne 17, 3) := by decide +kernel
theorem dX5_standsBetween_51 : decode cX5_standsBetween 51 = .ok (.aload_n 0, 1) := by decide +kernel
theorem dX5_standsBetween_52 : decode cX5_standsBetween 52 = .ok (.iload_n 3, 1) := by decide +kernel
theorem dX5_standsBetween_53 : decode cX5_standsBetween 53 = .ok (.aload_n 0, 1) := by decide +kernel
theorem dX5_standsBetween_54 : decode cX5_standsBetween 54 = .ok (.getfield 82, 3) := by decide +kernel
theorem dX5_standsBetween_57 : decode cX5_standsBetween 57 = .ok (.iload_n 2, 1) := by decide +kernel
theorem dX5_standsBetween_58 : decode cX5_standsBetween 58 = .ok (.iaload, 1) := by decide +kernel
theorem dX5_standsBetween_59 : decode cX5_standsBetween 59 = .ok (.invokevirtual 71, 3) := by decide +kernel
theorem dX5_standsBetween_62 : decode cX5_standsBetween 62 = .ok (.ifCond .eq 7, 3) := by decide +kernel
theorem dX5_standsBetween_65 : decode cX5_standsBetween 65 = .ok (.iconst 1, 1) := by decide +kernel
theorem dX5_standsBetween_66 : decode cX5_standsBetween 66 = .ok (.goto 4, 3) := by decide +kernel
theorem dX5_standsBetween_69 : decode cX5_standsBetween 69 = .ok (.iconst 0, 1) := by decide +kernel
theorem dX5_standsBetween_70 : decode cX5_standsBetween 70 = .ok (.ireturn, 1) := by decide +kernel
theorem dX5_canMoveOut_0 : decode cX5_canMoveOut 0 = .ok (.aload_n 1, 1) := by decide +kernel
theorem dX5_canMoveOut_1 : decode cX5_canMoveOut 1 = .ok (.iload_n 2, 1) := by decide +kernel
theorem dX5_canMoveOut_2 : decode cX5_canMoveOut 2 = .ok (.invokevirtual 88, 3) := by decide +kernel
theorem dX5_canMoveOut_5 : decode cX5_canMoveOut 5 = .ok (.istore_n 3, 1) := by decide +kernel
theorem dX5_canMoveOut_6 : decode cX5_canMoveOut 6 = .ok (.aload_n 1, 1) := by decide +kernel
theorem dX5_canMoveOut_7 : decode cX5_canMoveOut 7 = .ok (.getfield 51, 3) := by decide +kernel
theorem dX5_canMoveOut_10 : decode cX5_canMoveOut 10 = .ok (.iload_n 2, 1) := by decide +kernel
theorem dX5_canMoveOut_11 : decode cX5_canMoveOut 11 = .ok (.iaload, 1) := by decide +kernel
theorem dX5_canMoveOut_12 : decode cX5_canMoveOut 12 = .ok (.iconst 1, 1) := by decide +kernel
theorem dX5_canMoveOut_13 : decode cX5_canMoveOut 13 = .ok (.if_icmp .ne 17, 3) := by decide +kernel
theorem dX5_canMoveOut_16 : decode cX5_canMoveOut 16 = .ok (.aload_n 0, 1) := by decide +kernel
theorem dX5_canMoveOut_17 : decode cX5_canMoveOut 17 = .ok (.getfield 18, 3) := by decide +kernel
theorem dX5_canMoveOut_20 : decode cX5_canMoveOut 20 = .ok (.iload_n 2, 1) := by decide +kernel
theorem dX5_canMoveOut_21 : decode cX5_canMoveOut 21 = .ok (.baload, 1) := by decide +kernel
theorem dX5_canMoveOut_22 : decode cX5_canMoveOut 22 = .ok (.ifCond .ne 8, 3) := by decide +kernel
theorem dX5_canMoveOut_25 : decode cX5_canMoveOut 25 = .ok (.iload_n 3, 1) := by decide +kernel
theorem dX5_canMoveOut_26 : decode cX5_canMoveOut 26 = .ok (.iconst (-1), 1) := by decide +kernel
theorem dX5_canMoveOut_27 : decode cX5_canMoveOut 27 = .ok (.if_icmp .ne 5, 3) := by decide +kernel
theorem dX5_canMoveOut_30 : decode cX5_canMoveOut 30 = .ok (.iconst 0, 1) := by decide +kernel
theorem dX5_canMoveOut_31 : decode cX5_canMoveOut 31 = .ok (.ireturn, 1) := by decide +kernel
theorem dX5_canMoveOut_32 : decode cX5_canMoveOut 32 = .ok (.aload_n 1, 1) := by decide +kernel
theorem dX5_canMoveOut_33 : decode cX5_canMoveOut 33 = .ok (.getfield 64, 3) := by decide +kernel
theorem dX5_canMoveOut_36 : decode cX5_canMoveOut 36 = .ok (.iload_n 2, 1) := by decide +kernel
theorem dX5_canMoveOut_37 : decode cX5_canMoveOut 37 = .ok (.iaload, 1) := by decide +kernel
theorem dX5_canMoveOut_38 : decode cX5_canMoveOut 38 = .ok (.istore 4, 2) := by decide +kernel
theorem dX5_canMoveOut_40 : decode cX5_canMoveOut 40 = .ok (.aload_n 1, 1) := by decide +kernel
theorem dX5_canMoveOut_41 : decode cX5_canMoveOut 41 = .ok (.iload_n 2, 1) := by decide +kernel
theorem dX5_canMoveOut_42 : decode cX5_canMoveOut 42 = .ok (.iload 4, 2) := by decide +kernel
theorem dX5_canMoveOut_44 : decode cX5_canMoveOut 44 = .ok (.invokevirtual 67, 3) := by decide +kernel
theorem dX5_canMoveOut_47 : decode cX5_canMoveOut 47 = .ok (.istore 5, 2) := by decide +kernel
theorem dX5_canMoveOut_49 : decode cX5_canMoveOut 49 = .ok (.iload 5, 2) := by decide +kernel
theorem dX5_canMoveOut_51 : decode cX5_canMoveOut 51 = .ok (.iconst (-1), 1) := by decide +kernel
theorem dX5_canMoveOut_52 : decode cX5_canMoveOut 52 = .ok (.if_icmp .ne 5, 3) := by decide +kernel
theorem dX5_canMoveOut_55 : decode cX5_canMoveOut 55 = .ok (.iconst 0, 1) := by decide +kernel
theorem dX5_canMoveOut_56 : decode cX5_canMoveOut 56 = .ok (.ireturn, 1) := by decide +kernel
theorem dX5_canMoveOut_57 : decode cX5_canMoveOut 57 = .ok (.iload_n 3, 1) := by decide +kernel
theorem dX5_canMoveOut_58 : decode cX5_canMoveOut 58 = .ok (.iconst 1, 1) := by decide +kernel
theorem dX5_canMoveOut_59 : decode cX5_canMoveOut 59 = .ok (.iadd, 1) := by decide +kernel
theorem dX5_canMoveOut_60 : decode cX5_canMoveOut 60 = .ok (.istore 6, 2) := by decide +kernel
theorem dX5_canMoveOut_62 : decode cX5_canMoveOut 62 = .ok (.iload 6, 2) := by decide +kernel
theorem dX5_canMoveOut_64 : decode cX5_canMoveOut 64 = .ok (.aload_n 1, 1) := by decide +kernel
theorem dX5_canMoveOut_65 : decode cX5_canMoveOut 65 = .ok (.getfield 92, 3) := by decide +kernel
theorem dX5_canMoveOut_68 : decode cX5_canMoveOut 68 = .ok (.iload_n 3, 1) := by decide +kernel
theorem dX5_canMoveOut_69 : decode cX5_canMoveOut 69 = .ok (.iaload, 1) := by decide +kernel
theorem dX5_canMoveOut_70 : decode cX5_canMoveOut 70 = .ok (.if_icmp .ge 39, 3) := by decide +kernel
theorem dX5_canMoveOut_73 : decode cX5_canMoveOut 73 = .ok (.iload 6, 2) := by decide +kernel
theorem dX5_canMoveOut_75 : decode cX5_canMoveOut 75 = .ok (.iload_n 2, 1) := by decide +kernel
theorem dX5_canMoveOut_76 : decode cX5_canMoveOut 76 = .ok (.if_icmp .eq 27, 3) := by decide +kernel
theorem dX5_canMoveOut_79 : decode cX5_canMoveOut 79 = .ok (.aload_n 1, 1) := by decide +kernel
theorem dX5_canMoveOut_80 : decode cX5_canMoveOut 80 = .ok (.iload 6, 2) := by decide +kernel
theorem dX5_canMoveOut_82 : decode cX5_canMoveOut 82 = .ok (.iload 4, 2) := by decide +kernel
theorem dX5_canMoveOut_84 : decode cX5_canMoveOut 84 = .ok (.invokevirtual 71, 3) := by decide +kernel
theorem dX5_canMoveOut_87 : decode cX5_canMoveOut 87 = .ok (.ifCond .ne 14, 3) := by decide +kernel
theorem dX5_canMoveOut_90 : decode cX5_canMoveOut 90 = .ok (.aload_n 1, 1) := by decide +kernel
theorem dX5_canMoveOut_91 : decode cX5_canMoveOut 91 = .ok (.iload 6, 2) := by decide +kernel
theorem dX5_canMoveOut_93 : decode cX5_canMoveOut 93 = .ok (.iload 5, 2) := by decide +kernel
theorem dX5_canMoveOut_95 : decode cX5_canMoveOut 95 = .ok (.invokevirtual 71, 3) := by decide +kernel
theorem dX5_canMoveOut_98 : decode cX5_canMoveOut 98 = .ok (.ifCond .eq 5, 3) := by decide +kernel
theorem dX5_canMoveOut_101 : decode cX5_canMoveOut 101 = .ok (.iconst 0, 1) := by decide +kernel
theorem dX5_canMoveOut_102 : decode cX5_canMoveOut 102 = .ok (.ireturn, 1) := by decide +kernel
theorem dX5_canMoveOut_103 : decode cX5_canMoveOut 103 = .ok (.iinc 6 1, 3) := by decide +kernel
theorem dX5_canMoveOut_106 : decode cX5_canMoveOut 106 = .ok (.goto (-44), 3) := by decide +kernel
theorem dX5_canMoveOut_109 : decode cX5_canMoveOut 109 = .ok (.iconst 1, 1) := by decide +kernel
theorem dX5_canMoveOut_110 : decode cX5_canMoveOut 110 = .ok (.ireturn, 1) := by decide +kernel
theorem dX6_init_0 : decode cX6_init 0 = .ok (.aload_n 0, 1) := by decide +kernel
theorem dX6_init_1 : decode cX6_init 1 = .ok (.invokespecial 3, 3) := by decide +kernel
theorem dX6_init_4 : decode cX6_init 4 = .ok (.aload_n 0, 1) := by decide +kernel
theorem dX6_init_5 : decode cX6_init 5 = .ok (.iconst 0, 1) := by decide +kernel
theorem dX6_init_6 : decode cX6_init 6 = .ok (.putfield 9, 3) := by decide +kernel
theorem dX6_init_9 : decode cX6_init 9 = .ok (.aload_n 0, 1) := by decide +kernel
theorem dX6_init_10 : decode cX6_init 10 = .ok (.bipush 30, 2) := by decide +kernel
theorem dX6_init_12 : decode cX6_init 12 = .ok (.newarray .int, 2) := by decide +kernel
theorem dX6_init_14 : decode cX6_init 14 = .ok (.putfield 15, 3) := by decide +kernel
theorem dX6_init_17 : decode cX6_init 17 = .ok (.aload_n 0, 1) := by decide +kernel
theorem dX6_init_18 : decode cX6_init 18 = .ok (.bipush 30, 2) := by decide +kernel
theorem dX6_init_20 : decode cX6_init 20 = .ok (.newarray .int, 2) := by decide +kernel
theorem dX6_init_22 : decode cX6_init 22 = .ok (.putfield 19, 3) := by decide +kernel
theorem dX6_init_25 : decode cX6_init 25 = .ok (.aload_n 0, 1) := by decide +kernel
theorem dX6_init_26 : decode cX6_init 26 = .ok (.bipush 30, 2) := by decide +kernel
theorem dX6_init_28 : decode cX6_init 28 = .ok (.newarray .int, 2) := by decide +kernel
theorem dX6_init_30 : decode cX6_init 30 = .ok (.putfield 22, 3) := by decide +kernel
theorem dX6_init_33 : decode cX6_init 33 = .ok (.aload_n 0, 1) := by decide +kernel
theorem dX6_init_34 : decode cX6_init 34 = .ok (.bipush 30, 2) := by decide +kernel
theorem dX6_init_36 : decode cX6_init 36 = .ok (.newarray .int, 2) := by decide +kernel
theorem dX6_init_38 : decode cX6_init 38 = .ok (.putfield 25, 3) := by decide +kernel
theorem dX6_init_41 : decode cX6_init 41 = .ok (.aload_n 0, 1) := by decide +kernel
theorem dX6_init_42 : decode cX6_init 42 = .ok (.bipush 30, 2) := by decide +kernel
theorem dX6_init_44 : decode cX6_init 44 = .ok (.newarray .int, 2) := by decide +kernel
theorem dX6_init_46 : decode cX6_init 46 = .ok (.putfield 28, 3) := by decide +kernel
theorem dX6_init_49 : decode cX6_init 49 = .ok (.aload_n 0, 1) := by decide +kernel
theorem dX6_init_50 : decode cX6_init 50 = .ok (.bipush 30, 2) := by decide +kernel
theorem dX6_init_52 : decode cX6_init 52 = .ok (.newarray .int, 2) := by decide +kernel
theorem dX6_init_54 : decode cX6_init 54 = .ok (.putfield 31, 3) := by decide +kernel
theorem dX6_init_57 : decode cX6_init 57 = .ok (.return_, 1) := by decide +kernel
theorem dX6_copyFrom_0 : decode cX6_copyFrom 0 = .ok (.aload_n 0, 1) := by decide +kernel
theorem dX6_copyFrom_1 : decode cX6_copyFrom 1 = .ok (.aload_n 1, 1) := by decide +kernel
theorem dX6_copyFrom_2 : decode cX6_copyFrom 2 = .ok (.getfield 9, 3) := by decide +kernel
theorem dX6_copyFrom_5 : decode cX6_copyFrom 5 = .ok (.putfield 9, 3) := by decide +kernel
theorem dX6_copyFrom_8 : decode cX6_copyFrom 8 = .ok (.aload_n 1, 1) := by decide +kernel
theorem dX6_copyFrom_9 : decode cX6_copyFrom 9 = .ok (.getfield 15, 3) := by decide +kernel
theorem dX6_copyFrom_12 : decode cX6_copyFrom 12 = .ok (.iconst 0, 1) := by decide +kernel
theorem dX6_copyFrom_13 : decode cX6_copyFrom 13 = .ok (.aload_n 0, 1) := by decide +kernel
theorem dX6_copyFrom_14 : decode cX6_copyFrom 14 = .ok (.getfield 15, 3) := by decide +kernel
theorem dX6_copyFrom_17 : decode cX6_copyFrom 17 = .ok (.iconst 0, 1) := by decide +kernel
theorem dX6_copyFrom_18 : decode cX6_copyFrom 18 = .ok (.aload_n 0, 1) := by decide +kernel
theorem dX6_copyFrom_19 : decode cX6_copyFrom 19 = .ok (.getfield 9, 3) := by decide +kernel
theorem dX6_copyFrom_22 : decode cX6_copyFrom 22 = .ok (.invokestatic 34, 3) := by decide +kernel
theorem dX6_copyFrom_25 : decode cX6_copyFrom 25 = .ok (.aload_n 1, 1) := by decide +kernel
theorem dX6_copyFrom_26 : decode cX6_copyFrom 26 = .ok (.getfield 19, 3) := by decide +kernel
theorem dX6_copyFrom_29 : decode cX6_copyFrom 29 = .ok (.iconst 0, 1) := by decide +kernel
theorem dX6_copyFrom_30 : decode cX6_copyFrom 30 = .ok (.aload_n 0, 1) := by decide +kernel
theorem dX6_copyFrom_31 : decode cX6_copyFrom 31 = .ok (.getfield 19, 3) := by decide +kernel
theorem dX6_copyFrom_34 : decode cX6_copyFrom 34 = .ok (.iconst 0, 1) := by decide +kernel
theorem dX6_copyFrom_35 : decode cX6_copyFrom 35 = .ok (.aload_n 0, 1) := by decide +kernel
theorem dX6_copyFrom_36 : decode cX6_copyFrom 36 = .ok (.getfield 9, 3) := by decide +kernel
theorem dX6_copyFrom_39 : decode cX6_copyFrom 39 = .ok (.invokestatic 34, 3) := by decide +kernel
theorem dX6_copyFrom_42 : decode cX6_copyFrom 42 = .ok (.aload_n 1, 1) := by decide +kernel
theorem dX6_copyFrom_43 : decode cX6_copyFrom 43 = .ok (.getfield 22, 3) := by decide +kernel
theorem dX6_copyFrom_46 : decode cX6_copyFrom 46 = .ok (.iconst 0, 1) := by decide +kernel
theorem dX6_copyFrom_47 : decode cX6_copyFrom 47 = .ok (.aload_n 0, 1) := by decide +kernel
theorem dX6_copyFrom_48 : decode cX6_copyFrom 48 = .ok (.getfield 22, 3) := by decide +kernel
theorem dX6_copyFrom_51 : decode cX6_copyFrom 51 = .ok (.iconst 0, 1) := by decide +kernel
theorem dX6_copyFrom_52 : decode cX6_copyFrom 52 = .ok (.aload_n 0, 1) := by decide +kernel
theorem dX6_copyFrom_53 : decode cX6_copyFrom 53 = .ok (.getfield 9, 3) := by decide +kernel
theorem dX6_copyFrom_56 : decode cX6_copyFrom 56 = .ok (.invokestatic 34, 3) := by decide +kernel
theorem dX6_copyFrom_59 : decode cX6_copyFrom 59 = .ok (.aload_n 1, 1) := by decide +kernel
theorem dX6_copyFrom_60 : decode cX6_copyFrom 60 = .ok (.getfield 25, 3) := by decide +kernel
theorem dX6_copyFrom_63 : decode cX6_copyFrom 63 = .ok (.iconst 0, 1) := by decide +kernel
theorem dX6_copyFrom_64 : decode cX6_copyFrom 64 = .ok (.aload_n 0, 1) := by decide +kernel
theorem dX6_copyFrom_65 : decode cX6_copyFrom 65 = .ok (.getfield 25, 3) := by decide +kernel
theorem dX6_copyFrom_68 : decode cX6_copyFrom 68 = .ok (.iconst 0, 1) := by decide +kernel
theorem dX6_copyFrom_69 : decode cX6_copyFrom 69 = .ok (.aload_n 0, 1) := by decide +kernel
theorem dX6_copyFrom_70 : decode cX6_copyFrom 70 = .ok (.getfield 9, 3) := by decide +kernel
theorem dX6_copyFrom_73 : decode cX6_copyFrom 73 = .ok (.invokestatic 34, 3) := by decide +kernel
theorem dX6_copyFrom_76 : decode cX6_copyFrom 76 = .ok (.aload_n 1, 1) := by decide +kernel
theorem dX6_copyFrom_77 : decode cX6_copyFrom 77 = .ok (.getfield 28, 3) := by decide +kernel
theorem dX6_copyFrom_80 : decode cX6_copyFrom 80 = .ok (.iconst 0, 1) := by decide +kernel
theorem dX6_copyFrom_81 : decode cX6_copyFrom 81 = .ok (.aload_n 0, 1) := by decide +kernel
theorem dX6_copyFrom_82 : decode cX6_copyFrom 82 = .ok (.getfield 28, 3) := by decide +kernel
theorem dX6_copyFrom_85 : decode cX6_copyFrom 85 = .ok (.iconst 0, 1) := by decide +kernel
theorem dX6_copyFrom_86 : decode cX6_copyFrom 86 = .ok (.aload_n 0, 1) := by decide +kernel
theorem dX6_copyFrom_87 : decode cX6_copyFrom 87 = .ok (.getfield 9, 3) := by decide +kernel
theorem dX6_copyFrom_90 : decode cX6_copyFrom 90 = .ok (.invokestatic 34, 3) := by decide +kernel
theorem dX6_copyFrom_93 : decode cX6_copyFrom 93 = .ok (.aload_n 1, 1) := by decide +kernel
theorem dX6_copyFrom_94 : decode cX6_copyFrom 94 = .ok (.getfield 31, 3) := by decide +kernel
theorem dX6_copyFrom_97 : decode cX6_copyFrom 97 = .ok (.iconst 0, 1) := by decide +kernel
theorem dX6_copyFrom_98 : decode cX6_copyFrom 98 = .ok (.aload_n 0, 1) := by decide +kernel
theorem dX6_copyFrom_99 : decode cX6_copyFrom 99 = .ok (.getfield 31, 3) := by decide +kernel
theorem dX6_copyFrom_102 : decode cX6_copyFrom 102 = .ok (.iconst 0, 1) := by decide +kernel
theorem dX6_copyFrom_103 : decode cX6_copyFrom 103 = .ok (.aload_n 0, 1) := by decide +kernel
theorem dX6_copyFrom_104 : decode cX6_copyFrom 104 = .ok (.getfield 9, 3) := by decide +kernel
theorem dX6_copyFrom_107 : decode cX6_copyFrom 107 = .ok (.invokestatic 34, 3) := by decide +kernel
theorem dX6_copyFrom_110 : decode cX6_copyFrom 110 = .ok (.return_, 1) := by decide +kernel
theorem dX6_add_0 : decode cX6_add 0 = .ok (.aload_n 0, 1) := by decide +kernel
theorem dX6_add_1 : decode cX6_add 1 = .ok (.getfield 9, 3) := by decide +kernel
theorem dX6_add_4 : decode cX6_add 4 = .ok (.bipush 30, 2) := by decide +kernel
theorem dX6_add_6 : decode cX6_add 6 = .ok (.if_icmp .ge 75, 3) := by decide +kernel
theorem dX6_add_9 : decode cX6_add 9 = .ok (.aload_n 0, 1) := by decide +kernel
theorem dX6_add_10 : decode cX6_add 10 = .ok (.getfield 15, 3) := by decide +kernel
theorem dX6_add_13 : decode cX6_add 13 = .ok (.aload_n 0, 1) := by decide +kernel
theorem dX6_add_14 : decode cX6_add 14 = .ok (.getfield 9, 3) := by decide +kernel
theorem dX6_add_17 : decode cX6_add 17 = .ok (.iload_n 1, 1) := by decide +kernel
theorem dX6_add_18 : decode cX6_add 18 = .ok (.iastore, 1) := by decide +kernel
theorem dX6_add_19 : decode cX6_add 19 = .ok (.aload_n 0, 1) := by decide +kernel
theorem dX6_add_20 : decode cX6_add 20 = .ok (.getfield 19, 3) := by decide +kernel
theorem dX6_add_23 : decode cX6_add 23 = .ok (.aload_n 0, 1) := by decide +kernel
theorem dX6_add_24 : decode cX6_add 24 = .ok (.getfield 9, 3) := by decide +kernel
theorem dX6_add_27 : decode cX6_add 27 = .ok (.iload_n 2, 1) := by decide +kernel
theorem dX6_add_28 : decode cX6_add 28 = .ok (.iastore, 1) := by decide +kernel
theorem dX6_add_29 : decode cX6_add 29 = .ok (.aload_n 0, 1) := by decide +kernel
theorem dX6_add_30 : decode cX6_add 30 = .ok (.getfield 22, 3) := by decide +kernel
theorem dX6_add_33 : decode cX6_add 33 = .ok (.aload_n 0, 1) := by decide +kernel
theorem dX6_add_34 : decode cX6_add 34 = .ok (.getfield 9, 3) := by decide +kernel
theorem dX6_add_37 : decode cX6_add 37 = .ok (.iload_n 3, 1) := by decide +kernel
theorem dX6_add_38 : decode cX6_add 38 = .ok (.iastore, 1) := by decide +kernel
theorem dX6_add_39 : decode cX6_add 39 = .ok (.aload_n 0, 1) := by decide +kernel
theorem dX6_add_40 : decode cX6_add 40 = .ok (.getfield 25, 3) := by decide +kernel
theorem dX6_add_43 : decode cX6_add 43 = .ok (.aload_n 0, 1) := by decide +kernel
theorem dX6_add_44 : decode cX6_add 44 = .ok (.getfield 9, 3) := by decide +kernel
theorem dX6_add_47 : decode cX6_add 47 = .ok (.iload 4, 2) := by decide +kernel
theorem dX6_add_49 : decode cX6_add 49 = .ok (.iastore, 1) := by decide +kernel
theorem dX6_add_50 : decode cX6_add 50 = .ok (.aload_n 0, 1) := by decide +kernel
theorem dX6_add_51 : decode cX6_add 51 = .ok (.getfield 28, 3) := by decide +kernel
theorem dX6_add_54 : decode cX6_add 54 = .ok (.aload_n 0, 1) := by decide +kernel
theorem dX6_add_55 : decode cX6_add 55 = .ok (.getfield 9, 3) := by decide +kernel
theorem dX6_add_58 : decode cX6_add 58 = .ok (.iload 5, 2) := by decide +kernel
theorem dX6_add_60 : decode cX6_add 60 = .ok (.iastore, 1) := by decide +kernel
theorem dX6_add_61 : decode cX6_add 61 = .ok (.aload_n 0, 1) := by decide +kernel
theorem dX6_add_62 : decode cX6_add 62 = .ok (.getfield 31, 3) := by decide +kernel
theorem dX6_add_65 : decode cX6_add 65 = .ok (.aload_n 0, 1) := by decide +kernel
theorem dX6_add_66 : decode cX6_add 66 = .ok (.getfield 9, 3) := by decide +kernel
theorem dX6_add_69 : decode cX6_add 69 = .ok (.iconst (-1), 1) := by decide +kernel
theorem dX6_add_70 : decode cX6_add 70 = .ok (.iastore, 1) := by decide +kernel
theorem dX6_add_71 : decode cX6_add 71 = .ok (.aload_n 0, 1) := by decide +kernel
theorem dX6_add_72 : decode cX6_add 72 = .ok (.dup, 1) := by decide +kernel
theorem dX6_add_73 : decode cX6_add 73 = .ok (.getfield 9, 3) := by decide +kernel
theorem dX6_add_76 : decode cX6_add 76 = .ok (.iconst 1, 1) := by decide +kernel
theorem dX6_add_77 : decode cX6_add 77 = .ok (.iadd, 1) := by decide +kernel
theorem dX6_add_78 : decode cX6_add 78 = .ok (.putfield 9, 3) := by decide +kernel
theorem dX6_add_81 : decode cX6_add 81 = .ok (.return_, 1) := by decide +kernel
theorem dX6_pair_0 : decode cX6_pair 0 = .ok (.aload_n 0, 1) := by decide +kernel
theorem dX6_pair_1 : decode cX6_pair 1 = .ok (.getfield 31, 3) := by decide +kernel
theorem dX6_pair_4 : decode cX6_pair 4 = .ok (.iload_n 1, 1) := by decide +kernel
theorem dX6_pair_5 : decode cX6_pair 5 = .ok (.iload_n 2, 1) := by decide +kernel
theorem dX6_pair_6 : decode cX6_pair 6 = .ok (.iastore, 1) := by decide +kernel
theorem dX6_pair_7 : decode cX6_pair 7 = .ok (.aload_n 0, 1) := by decide +kernel
theorem dX6_pair_8 : decode cX6_pair 8 = .ok (.getfield 31, 3) := by decide +kernel
theorem dX6_pair_11 : decode cX6_pair 11 = .ok (.iload_n 2, 1) := by decide +kernel
theorem dX6_pair_12 : decode cX6_pair 12 = .ok (.iload_n 1, 1) := by decide +kernel
theorem dX6_pair_13 : decode cX6_pair 13 = .ok (.iastore, 1) := by decide +kernel
theorem dX6_pair_14 : decode cX6_pair 14 = .ok (.return_, 1) := by decide +kernel
theorem dX6_takeOut_0 : decode cX6_takeOut 0 = .ok (.iload_n 1, 1) := by decide +kernel
theorem dX6_takeOut_1 : decode cX6_takeOut 1 = .ok (.istore_n 2, 1) := by decide +kernel
theorem dX6_takeOut_2 : decode cX6_takeOut 2 = .ok (.iload_n 2, 1) := by decide +kernel
theorem dX6_takeOut_3 : decode cX6_takeOut 3 = .ok (.aload_n 0, 1) := by decide +kernel
theorem dX6_takeOut_4 : decode cX6_takeOut 4 = .ok (.getfield 9, 3) := by decide +kernel
theorem dX6_takeOut_7 : decode cX6_takeOut 7 = .ok (.iconst 1, 1) := by decide +kernel
theorem dX6_takeOut_8 : decode cX6_takeOut 8 = .ok (.isub, 1) := by decide +kernel
theorem dX6_takeOut_9 : decode cX6_takeOut 9 = .ok (.if_icmp .ge 93, 3) := by decide +kernel
theorem dX6_takeOut_12 : decode cX6_takeOut 12 = .ok (.aload_n 0, 1) := by decide +kernel
theorem dX6_takeOut_13 : decode cX6_takeOut 13 = .ok (.getfield 15, 3) := by decide +kernel
theorem dX6_takeOut_16 : decode cX6_takeOut 16 = .ok (.iload_n 2, 1) := by decide +kernel
theorem dX6_takeOut_17 : decode cX6_takeOut 17 = .ok (.aload_n 0, 1) := by decide +kernel
theorem dX6_takeOut_18 : decode cX6_takeOut 18 = .ok (.getfield 15, 3) := by decide +kernel
theorem dX6_takeOut_21 : decode cX6_takeOut 21 = .ok (.iload_n 2, 1) := by decide +kernel
theorem dX6_takeOut_22 : decode cX6_takeOut 22 = .ok (.iconst 1, 1) := by decide +kernel
theorem dX6_takeOut_23 : decode cX6_takeOut 23 = .ok (.iadd, 1) := by decide +kernel
theorem dX6_takeOut_24 : decode cX6_takeOut 24 = .ok (.iaload, 1) := by decide +kernel
theorem dX6_takeOut_25 : decode cX6_takeOut 25 = .ok (.iastore, 1) := by decide +kernel
theorem dX6_takeOut_26 : decode cX6_takeOut 26 = .ok (.aload_n 0, 1) := by decide +kernel
theorem dX6_takeOut_27 : decode cX6_takeOut 27 = .ok (.getfield 19, 3) := by decide +kernel
theorem dX6_takeOut_30 : decode cX6_takeOut 30 = .ok (.iload_n 2, 1) := by decide +kernel
theorem dX6_takeOut_31 : decode cX6_takeOut 31 = .ok (.aload_n 0, 1) := by decide +kernel
theorem dX6_takeOut_32 : decode cX6_takeOut 32 = .ok (.getfield 19, 3) := by decide +kernel
theorem dX6_takeOut_35 : decode cX6_takeOut 35 = .ok (.iload_n 2, 1) := by decide +kernel
theorem dX6_takeOut_36 : decode cX6_takeOut 36 = .ok (.iconst 1, 1) := by decide +kernel
theorem dX6_takeOut_37 : decode cX6_takeOut 37 = .ok (.iadd, 1) := by decide +kernel
theorem dX6_takeOut_38 : decode cX6_takeOut 38 = .ok (.iaload, 1) := by decide +kernel
theorem dX6_takeOut_39 : decode cX6_takeOut 39 = .ok (.iastore, 1) := by decide +kernel
theorem dX6_takeOut_40 : decode cX6_takeOut 40 = .ok (.aload_n 0, 1) := by decide +kernel
theorem dX6_takeOut_41 : decode cX6_takeOut 41 = .ok (.getfield 22, 3) := by decide +kernel
theorem dX6_takeOut_44 : decode cX6_takeOut 44 = .ok (.iload_n 2, 1) := by decide +kernel
theorem dX6_takeOut_45 : decode cX6_takeOut 45 = .ok (.aload_n 0, 1) := by decide +kernel
theorem dX6_takeOut_46 : decode cX6_takeOut 46 = .ok (.getfield 22, 3) := by decide +kernel
theorem dX6_takeOut_49 : decode cX6_takeOut 49 = .ok (.iload_n 2, 1) := by decide +kernel
theorem dX6_takeOut_50 : decode cX6_takeOut 50 = .ok (.iconst 1, 1) := by decide +kernel
theorem dX6_takeOut_51 : decode cX6_takeOut 51 = .ok (.iadd, 1) := by decide +kernel
theorem dX6_takeOut_52 : decode cX6_takeOut 52 = .ok (.iaload, 1) := by decide +kernel
theorem dX6_takeOut_53 : decode cX6_takeOut 53 = .ok (.iastore, 1) := by decide +kernel
theorem dX6_takeOut_54 : decode cX6_takeOut 54 = .ok (.aload_n 0, 1) := by decide +kernel
theorem dX6_takeOut_55 : decode cX6_takeOut 55 = .ok (.getfield 25, 3) := by decide +kernel
theorem dX6_takeOut_58 : decode cX6_takeOut 58 = .ok (.iload_n 2, 1) := by decide +kernel
theorem dX6_takeOut_59 : decode cX6_takeOut 59 = .ok (.aload_n 0, 1) := by decide +kernel
theorem dX6_takeOut_60 : decode cX6_takeOut 60 = .ok (.getfield 25, 3) := by decide +kernel
theorem dX6_takeOut_63 : decode cX6_takeOut 63 = .ok (.iload_n 2, 1) := by decide +kernel
theorem dX6_takeOut_64 : decode cX6_takeOut 64 = .ok (.iconst 1, 1) := by decide +kernel
theorem dX6_takeOut_65 : decode cX6_takeOut 65 = .ok (.iadd, 1) := by decide +kernel
theorem dX6_takeOut_66 : decode cX6_takeOut 66 = .ok (.iaload, 1) := by decide +kernel
theorem dX6_takeOut_67 : decode cX6_takeOut 67 = .ok (.iastore, 1) := by decide +kernel
theorem dX6_takeOut_68 : decode cX6_takeOut 68 = .ok (.aload_n 0, 1) := by decide +kernel
theorem dX6_takeOut_69 : decode cX6_takeOut 69 = .ok (.getfield 28, 3) := by decide +kernel
theorem dX6_takeOut_72 : decode cX6_takeOut 72 = .ok (.iload_n 2, 1) := by decide +kernel
theorem dX6_takeOut_73 : decode cX6_takeOut 73 = .ok (.aload_n 0, 1) := by decide +kernel
theorem dX6_takeOut_74 : decode cX6_takeOut 74 = .ok (.getfield 28, 3) := by decide +kernel
theorem dX6_takeOut_77 : decode cX6_takeOut 77 = .ok (.iload_n 2, 1) := by decide +kernel
theorem dX6_takeOut_78 : decode cX6_takeOut 78 = .ok (.iconst 1, 1) := by decide +kernel
theorem dX6_takeOut_79 : decode cX6_takeOut 79 = .ok (.iadd, 1) := by decide +kernel
theorem dX6_takeOut_80 : decode cX6_takeOut 80 = .ok (.iaload, 1) := by decide +kernel
theorem dX6_takeOut_81 : decode cX6_takeOut 81 = .ok (.iastore, 1) := by decide +kernel
theorem dX6_takeOut_82 : decode cX6_takeOut 82 = .ok (.aload_n 0, 1) := by decide +kernel
theorem dX6_takeOut_83 : decode cX6_takeOut 83 = .ok (.getfield 31, 3) := by decide +kernel
theorem dX6_takeOut_86 : decode cX6_takeOut 86 = .ok (.iload_n 2, 1) := by decide +kernel
theorem dX6_takeOut_87 : decode cX6_takeOut 87 = .ok (.aload_n 0, 1) := by decide +kernel
theorem dX6_takeOut_88 : decode cX6_takeOut 88 = .ok (.getfield 31, 3) := by decide +kernel
theorem dX6_takeOut_91 : decode cX6_takeOut 91 = .ok (.iload_n 2, 1) := by decide +kernel
theorem dX6_takeOut_92 : decode cX6_takeOut 92 = .ok (.iconst 1, 1) := by decide +kernel
theorem dX6_takeOut_93 : decode cX6_takeOut 93 = .ok (.iadd, 1) := by decide +kernel
theorem dX6_takeOut_94 : decode cX6_takeOut 94 = .ok (.iaload, 1) := by decide +kernel
theorem dX6_takeOut_95 : decode cX6_takeOut 95 = .ok (.iastore, 1) := by decide +kernel
theorem dX6_takeOut_96 : decode cX6_takeOut 96 = .ok (.iinc 2 1, 3) := by decide +kernel
theorem dX6_takeOut_99 : decode cX6_takeOut 99 = .ok (.goto (-97), 3) := by decide +kernel
theorem dX6_takeOut_102 : decode cX6_takeOut 102 = .ok (.aload_n 0, 1) := by decide +kernel
theorem dX6_takeOut_103 : decode cX6_takeOut 103 = .ok (.dup, 1) := by decide +kernel
theorem dX6_takeOut_104 : decode cX6_takeOut 104 = .ok (.getfield 9, 3) := by decide +kernel
theorem dX6_takeOut_107 : decode cX6_takeOut 107 = .ok (.iconst 1, 1) := by decide +kernel
theorem dX6_takeOut_108 : decode cX6_takeOut 108 = .ok (.isub, 1) := by decide +kernel
theorem dX6_takeOut_109 : decode cX6_takeOut 109 = .ok (.putfield 9, 3) := by decide +kernel
theorem dX6_takeOut_112 : decode cX6_takeOut 112 = .ok (.iconst 0, 1) := by decide +kernel
theorem dX6_takeOut_113 : decode cX6_takeOut 113 = .ok (.istore_n 2, 1) := by decide +kernel
theorem dX6_takeOut_114 : decode cX6_takeOut 114 = .ok (.iload_n 2, 1) := by decide +kernel
theorem dX6_takeOut_115 : decode cX6_takeOut 115 = .ok (.aload_n 0, 1) := by decide +kernel
theorem dX6_takeOut_116 : decode cX6_takeOut 116 = .ok (.getfield 9, 3) := by decide +kernel
theorem dX6_takeOut_119 : decode cX6_takeOut 119 = .ok (.if_icmp .ge 29, 3) := by decide +kernel
theorem dX6_takeOut_122 : decode cX6_takeOut 122 = .ok (.aload_n 0, 1) := by decide +kernel
theorem dX6_takeOut_123 : decode cX6_takeOut 123 = .ok (.getfield 31, 3) := by decide +kernel
theorem dX6_takeOut_126 : decode cX6_takeOut 126 = .ok (.iload_n 2, 1) := by decide +kernel
theorem dX6_takeOut_127 : decode cX6_takeOut 127 = .ok (.iaload, 1) := by decide +kernel
theorem dX6_takeOut_128 : decode cX6_takeOut 128 = .ok (.iload_n 1, 1) := by decide +kernel
theorem dX6_takeOut_129 : decode cX6_takeOut 129 = .ok (.if_icmp .le 13, 3) := by decide +kernel
theorem dX6_takeOut_132 : decode cX6_takeOut 132 = .ok (.aload_n 0, 1) := by decide +kernel
theorem dX6_takeOut_133 : decode cX6_takeOut 133 = .ok (.getfield 31, 3) := by decide +kernel
theorem dX6_takeOut_136 : decode cX6_takeOut 136 = .ok (.iload_n 2, 1) := by decide +kernel
theorem dX6_takeOut_137 : decode cX6_takeOut 137 = .ok (.dup2, 1) := by decide +kernel
theorem dX6_takeOut_138 : decode cX6_takeOut 138 = .ok (.iaload, 1) := by decide +kernel
theorem dX6_takeOut_139 : decode cX6_takeOut 139 = .ok (.iconst 1, 1) := by decide +kernel
theorem dX6_takeOut_140 : decode cX6_takeOut 140 = .ok (.isub, 1) := by decide +kernel
theorem dX6_takeOut_141 : decode cX6_takeOut 141 = .ok (.iastore, 1) := by decide +kernel
theorem dX6_takeOut_142 : decode cX6_takeOut 142 = .ok (.iinc 2 1, 3) := by decide +kernel
theorem dX6_takeOut_145 : decode cX6_takeOut 145 = .ok (.goto (-31), 3) := by decide +kernel
theorem dX6_takeOut_148 : decode cX6_takeOut 148 = .ok (.return_, 1) := by decide +kernel
theorem dX6_isLoopEdge_0 : decode cX6_isLoopEdge 0 = .ok (.aload_n 0, 1) := by decide +kernel
theorem dX6_isLoopEdge_1 : decode cX6_isLoopEdge 1 = .ok (.getfield 15, 3) := by decide +kernel
theorem dX6_isLoopEdge_4 : decode cX6_isLoopEdge 4 = .ok (.iload_n 1, 1) := by decide +kernel
theorem dX6_isLoopEdge_5 : decode cX6_isLoopEdge 5 = .ok (.iaload, 1) := by decide +kernel
theorem dX6_isLoopEdge_6 : decode cX6_isLoopEdge 6 = .ok (.iconst 4, 1) := by decide +kernel
theorem dX6_isLoopEdge_7 : decode cX6_isLoopEdge 7 = .ok (.if_icmp .eq 13, 3) := by decide +kernel
theorem dX6_isLoopEdge_10 : decode cX6_isLoopEdge 10 = .ok (.aload_n 0, 1) := by decide +kernel
theorem dX6_isLoopEdge_11 : decode cX6_isLoopEdge 11 = .ok (.getfield 15, 3) := by decide +kernel
theorem dX6_isLoopEdge_14 : decode cX6_isLoopEdge 14 = .ok (.iload_n 1, 1) := by decide +kernel
theorem dX6_isLoopEdge_15 : decode cX6_isLoopEdge 15 = .ok (.iaload, 1) := by decide +kernel
theorem dX6_isLoopEdge_16 : decode cX6_isLoopEdge 16 = .ok (.iconst 5, 1) := by decide +kernel
theorem dX6_isLoopEdge_17 : decode cX6_isLoopEdge 17 = .ok (.if_icmp .ne 7, 3) := by decide +kernel
theorem dX6_isLoopEdge_20 : decode cX6_isLoopEdge 20 = .ok (.iconst 1, 1) := by decide +kernel
theorem dX6_isLoopEdge_21 : decode cX6_isLoopEdge 21 = .ok (.goto 4, 3) := by decide +kernel
theorem dX6_isLoopEdge_24 : decode cX6_isLoopEdge 24 = .ok (.iconst 0, 1) := by decide +kernel
theorem dX6_isLoopEdge_25 : decode cX6_isLoopEdge 25 = .ok (.ireturn, 1) := by decide +kernel
theorem dX6_hasCheck_0 : decode cX6_hasCheck 0 = .ok (.aload_n 0, 1) := by decide +kernel
theorem dX6_hasCheck_1 : decode cX6_hasCheck 1 = .ok (.getfield 15, 3) := by decide +kernel
theorem dX6_hasCheck_4 : decode cX6_hasCheck 4 = .ok (.iload_n 1, 1) := by decide +kernel
theorem dX6_hasCheck_5 : decode cX6_hasCheck 5 = .ok (.iaload, 1) := by decide +kernel
theorem dX6_hasCheck_6 : decode cX6_hasCheck 6 = .ok (.iconst 1, 1) := by decide +kernel
theorem dX6_hasCheck_7 : decode cX6_hasCheck 7 = .ok (.if_icmp .eq 23, 3) := by decide +kernel
theorem dX6_hasCheck_10 : decode cX6_hasCheck 10 = .ok (.aload_n 0, 1) := by decide +kernel
theorem dX6_hasCheck_11 : decode cX6_hasCheck 11 = .ok (.getfield 15, 3) := by decide +kernel
theorem dX6_hasCheck_14 : decode cX6_hasCheck 14 = .ok (.iload_n 1, 1) := by decide +kernel
theorem dX6_hasCheck_15 : decode cX6_hasCheck 15 = .ok (.iaload, 1) := by decide +kernel
theorem dX6_hasCheck_16 : decode cX6_hasCheck 16 = .ok (.iconst 2, 1) := by decide +kernel
theorem dX6_hasCheck_17 : decode cX6_hasCheck 17 = .ok (.if_icmp .eq 13, 3) := by decide +kernel
theorem dX6_hasCheck_20 : decode cX6_hasCheck 20 = .ok (.aload_n 0, 1) := by decide +kernel
theorem dX6_hasCheck_21 : decode cX6_hasCheck 21 = .ok (.getfield 15, 3) := by decide +kernel
theorem dX6_hasCheck_24 : decode cX6_hasCheck 24 = .ok (.iload_n 1, 1) := by decide +kernel
theorem dX6_hasCheck_25 : decode cX6_hasCheck 25 = .ok (.iaload, 1) := by decide +kernel
theorem dX6_hasCheck_26 : decode cX6_hasCheck 26 = .ok (.iconst 3, 1) := by decide +kernel
theorem dX6_hasCheck_27 : decode cX6_hasCheck 27 = .ok (.if_icmp .ne 7, 3) := by decide +kernel
theorem dX6_hasCheck_30 : decode cX6_hasCheck 30 = .ok (.iconst 1, 1) := by decide +kernel
theorem dX6_hasCheck_31 : decode cX6_hasCheck 31 = .ok (.goto 4, 3) := by decide +kernel
theorem dX6_hasCheck_34 : decode cX6_hasCheck 34 = .ok (.iconst 0, 1) := by decide +kernel
theorem dX6_hasCheck_35 : decode cX6_hasCheck 35 = .ok (.ireturn, 1) := by decide +kernel
theorem dX6_assigns_0 : decode cX6_assigns 0 = .ok (.aload_n 0, 1) := by decide +kernel
theorem dX6_assigns_1 : decode cX6_assigns 1 = .ok (.iload_n 1, 1) := by decide +kernel
theorem dX6_assigns_2 : decode cX6_assigns 2 = .ok (.invokevirtual 40, 3) := by decide +kernel
theorem dX6_assigns_5 : decode cX6_assigns 5 = .ok (.ifCond .ne 17, 3) := by decide +kernel
theorem dX6_assigns_8 : decode cX6_assigns 8 = .ok (.aload_n 0, 1) := by decide +kernel
theorem dX6_assigns_9 : decode cX6_assigns 9 = .ok (.getfield 19, 3) := by decide +kernel
theorem dX6_assigns_12 : decode cX6_assigns 12 = .ok (.iload_n 1, 1) := by decide +kernel
theorem dX6_assigns_13 : decode cX6_assigns 13 = .ok (.iaload, 1) := by decide +kernel
theorem dX6_assigns_14 : decode cX6_assigns 14 = .ok (.iload_n 2, 1) := by decide +kernel
theorem dX6_assigns_15 : decode cX6_assigns 15 = .ok (.if_icmp .ne 7, 3) := by decide +kernel
theorem dX6_assigns_18 : decode cX6_assigns 18 = .ok (.iconst 1, 1) := by decide +kernel
theorem dX6_assigns_19 : decode cX6_assigns 19 = .ok (.goto 4, 3) := by decide +kernel
theorem dX6_assigns_22 : decode cX6_assigns 22 = .ok (.iconst 0, 1) := by decide +kernel
theorem dX6_assigns_23 : decode cX6_assigns 23 = .ok (.ireturn, 1) := by decide +kernel
theorem dX6_uses_0 : decode cX6_uses 0 = .ok (.aload_n 0, 1) := by decide +kernel
theorem dX6_uses_1 : decode cX6_uses 1 = .ok (.getfield 22, 3) := by decide +kernel
theorem dX6_uses_4 : decode cX6_uses 4 = .ok (.iload_n 1, 1) := by decide +kernel
theorem dX6_uses_5 : decode cX6_uses 5 = .ok (.iaload, 1) := by decide +kernel
theorem dX6_uses_6 : decode cX6_uses 6 = .ok (.iload_n 2, 1) := by decide +kernel
theorem dX6_uses_7 : decode cX6_uses 7 = .ok (.if_icmp .eq 13, 3) := by decide +kernel
theorem dX6_uses_10 : decode cX6_uses 10 = .ok (.aload_n 0, 1) := by decide +kernel
theorem dX6_uses_11 : decode cX6_uses 11 = .ok (.getfield 25, 3) := by decide +kernel
theorem dX6_uses_14 : decode cX6_uses 14 = .ok (.iload_n 1, 1) := by decide +kernel
theorem dX6_uses_15 : decode cX6_uses 15 = .ok (.iaload, 1) := by decide +kernel
theorem dX6_uses_16 : decode cX6_uses 16 = .ok (.iload_n 2, 1) := by decide +kernel
theorem dX6_uses_17 : decode cX6_uses 17 = .ok (.if_icmp .ne 7, 3) := by decide +kernel
theorem dX6_uses_20 : decode cX6_uses 20 = .ok (.iconst 1, 1) := by decide +kernel
theorem dX6_uses_21 : decode cX6_uses 21 = .ok (.goto 4, 3) := by decide +kernel
theorem dX6_uses_24 : decode cX6_uses 24 = .ok (.iconst 0, 1) := by decide +kernel
theorem dX6_uses_25 : decode cX6_uses 25 = .ok (.ireturn, 1) := by decide +kernel
theorem dX6_besides_0 : decode cX6_besides 0 = .ok (.aload_n 0, 1) := by decide +kernel
theorem dX6_besides_1 : decode cX6_besides 1 = .ok (.getfield 22, 3) := by decide +kernel
theorem dX6_besides_4 : decode cX6_besides 4 = .ok (.iload_n 1, 1) := by decide +kernel
theorem dX6_besides_5 : decode cX6_besides 5 = .ok (.iaload, 1) := by decide +kernel
theorem dX6_besides_6 : decode cX6_besides 6 = .ok (.iload_n 2, 1) := by decide +kernel
theorem dX6_besides_7 : decode cX6_besides 7 = .ok (.if_icmp .ne 24, 3) := by decide +kernel
theorem dX6_besides_10 : decode cX6_besides 10 = .ok (.aload_n 0, 1) := by decide +kernel
theorem dX6_besides_11 : decode cX6_besides 11 = .ok (.getfield 25, 3) := by decide +kernel
theorem dX6_besides_14 : decode cX6_besides 14 = .ok (.iload_n 1, 1) := by decide +kernel
theorem dX6_besides_15 : decode cX6_besides 15 = .ok (.iaload, 1) := by decide +kernel
theorem dX6_besides_16 : decode cX6_besides 16 = .ok (.iload_n 2, 1) := by decide +kernel
theorem dX6_besides_17 : decode cX6_besides 17 = .ok (.if_icmp .ne 7, 3) := by decide +kernel
theorem dX6_besides_20 : decode cX6_besides 20 = .ok (.iconst (-1), 1) := by decide +kernel
theorem dX6_besides_21 : decode cX6_besides 21 = .ok (.goto 9, 3) := by decide +kernel
theorem dX6_besides_24 : decode cX6_besides 24 = .ok (.aload_n 0, 1) := by decide +kernel
theorem dX6_besides_25 : decode cX6_besides 25 = .ok (.getfield 25, 3) := by decide +kernel
theorem dX6_besides_28 : decode cX6_besides 28 = .ok (.iload_n 1, 1) := by decide +kernel
theorem dX6_besides_29 : decode cX6_besides 29 = .ok (.iaload, 1) := by decide +kernel
theorem dX6_besides_30 : decode cX6_besides 30 = .ok (.ireturn, 1) := by decide +kernel
theorem dX6_besides_31 : decode cX6_besides 31 = .ok (.aload_n 0, 1) := by decide +kernel
theorem dX6_besides_32 : decode cX6_besides 32 = .ok (.getfield 25, 3) := by decide +kernel
theorem dX6_besides_35 : decode cX6_besides 35 = .ok (.iload_n 1, 1) := by decide +kernel
theorem dX6_besides_36 : decode cX6_besides 36 = .ok (.iaload, 1) := by decide +kernel
theorem dX6_besides_37 : decode cX6_besides 37 = .ok (.iload_n 2, 1) := by decide +kernel
theorem dX6_besides_38 : decode cX6_besides 38 = .ok (.if_icmp .ne 12, 3) := by decide +kernel
theorem dX6_besides_41 : decode cX6_besides 41 = .ok (.aload_n 0, 1) := by decide +kernel
theorem dX6_besides_42 : decode cX6_besides 42 = .ok (.getfield 22, 3) := by decide +kernel
theorem dX6_besides_45 : decode cX6_besides 45 = .ok (.iload_n 1, 1) := by decide +kernel
theorem dX6_besides_46 : decode cX6_besides 46 = .ok (.iaload, 1) := by decide +kernel
theorem dX6_besides_47 : decode cX6_besides 47 = .ok (.goto 4, 3) := by decide +kernel
theorem dX6_besides_50 : decode cX6_besides 50 = .ok (.iconst (-1), 1) := by decide +kernel
theorem dX6_besides_51 : decode cX6_besides 51 = .ok (.ireturn, 1) := by decide +kernel
theorem dX6_innermostLoopOf_0 : decode cX6_innermostLoopOf 0 = .ok (.iload_n 1, 1) := by decide +kernel
theorem dX6_innermostLoopOf_1 : decode cX6_innermostLoopOf 1 = .ok (.iconst 1, 1) := by decide +kernel
theorem dX6_innermostLoopOf_2 : decode cX6_innermostLoopOf 2 = .ok (.isub, 1) := by decide +kernel
theorem dX6_innermostLoopOf_3 : decode cX6_innermostLoopOf 3 = .ok (.istore_n 2, 1) := by decide +kernel
theorem dX6_innermostLoopOf_4 : decode cX6_innermostLoopOf 4 = .ok (.iload_n 2, 1) := by decide +kernel
theorem dX6_innermostLoopOf_5 : decode cX6_innermostLoopOf 5 = .ok (.ifCond .lt 31, 3) := by decide +kernel
theorem dX6_innermostLoopOf_8 : decode cX6_innermostLoopOf 8 = .ok (.aload_n 0, 1) := by decide +kernel
theorem dX6_innermostLoopOf_9 : decode cX6_innermostLoopOf 9 = .ok (.getfield 15, 3) := by decide +kernel
theorem dX6_innermostLoopOf_12 : decode cX6_innermostLoopOf 12 = .ok (.iload_n 2, 1) := by decide +kernel
theorem dX6_innermostLoopOf_13 : decode cX6_innermostLoopOf 13 = .ok (.iaload, 1) := by decide +kernel
theorem dX6_innermostLoopOf_14 : decode cX6_innermostLoopOf 14 = .ok (.iconst 4, 1) := by decide +kernel
theorem dX6_innermostLoopOf_15 : decode cX6_innermostLoopOf 15 = .ok (.if_icmp .ne 15, 3) := by decide +kernel
theorem dX6_innermostLoopOf_18 : decode cX6_innermostLoopOf 18 = .ok (.aload_n 0, 1) := by decide +kernel
theorem dX6_innermostLoopOf_19 : decode cX6_innermostLoopOf 19 = .ok (.getfield 31, 3) := by decide +kernel
theorem dX6_innermostLoopOf_22 : decode cX6_innermostLoopOf 22 = .ok (.iload_n 2, 1) := by decide +kernel
theorem dX6_innermostLoopOf_23 : decode cX6_innermostLoopOf 23 = .ok (.iaload, 1) := by decide +kernel
theorem dX6_innermostLoopOf_24 : decode cX6_innermostLoopOf 24 = .ok (.iload_n 1, 1) := by decide +kernel
theorem dX6_innermostLoopOf_25 : decode cX6_innermostLoopOf 25 = .ok (.if_icmp .le 5, 3) := by decide +kernel
theorem dX6_innermostLoopOf_28 : decode cX6_innermostLoopOf 28 = .ok (.iload_n 2, 1) := by decide +kernel
theorem dX6_innermostLoopOf_29 : decode cX6_innermostLoopOf 29 = .ok (.ireturn, 1) := by decide +kernel
theorem dX6_innermostLoopOf_30 : decode cX6_innermostLoopOf 30 = .ok (.iinc 2 (-1), 3) := by decide +kernel
theorem dX6_innermostLoopOf_33 : decode cX6_innermostLoopOf 33 = .ok (.goto (-29), 3) := by decide +kernel
theorem dX6_innermostLoopOf_36 : decode cX6_innermostLoopOf 36 = .ok (.iconst (-1), 1) := by decide +kernel
theorem dX6_innermostLoopOf_37 : decode cX6_innermostLoopOf 37 = .ok (.ireturn, 1) := by decide +kernel
theorem dX7_init_0 : decode cX7_init 0 = .ok (.aload_n 0, 1) := by decide +kernel
theorem dX7_init_1 : decode cX7_init 1 = .ok (.invokespecial 3, 3) := by decide +kernel
theorem dX7_init_4 : decode cX7_init 4 = .ok (.aload_n 0, 1) := by decide +kernel
theorem dX7_init_5 : decode cX7_init 5 = .ok (.new 9, 3) := by decide +kernel
theorem dX7_init_8 : decode cX7_init 8 = .ok (.dup, 1) := by decide +kernel
theorem dX7_init_9 : decode cX7_init 9 = .ok (.invokespecial 11, 3) := by decide +kernel
theorem dX7_init_12 : decode cX7_init 12 = .ok (.putfield 12, 3) := by decide +kernel
theorem dX7_init_15 : decode cX7_init 15 = .ok (.aload_n 0, 1) := by decide +kernel
theorem dX7_init_16 : decode cX7_init 16 = .ok (.bipush 8, 2) := by decide +kernel
theorem dX7_init_18 : decode cX7_init 18 = .ok (.newarray .long, 2) := by decide +kernel
theorem dX7_init_20 : decode cX7_init 20 = .ok (.putfield 18, 3) := by decide +kernel
theorem dX7_init_23 : decode cX7_init 23 = .ok (.aload_n 0, 1) := by decide +kernel
theorem dX7_init_24 : decode cX7_init 24 = .ok (.iconst (-1), 1) := by decide +kernel
theorem dX7_init_25 : decode cX7_init 25 = .ok (.putfield 22, 3) := by decide +kernel
theorem dX7_init_28 : decode cX7_init 28 = .ok (.aload_n 0, 1) := by decide +kernel
theorem dX7_init_29 : decode cX7_init 29 = .ok (.iconst 0, 1) := by decide +kernel
theorem dX7_init_30 : decode cX7_init 30 = .ok (.putfield 26, 3) := by decide +kernel
theorem dX7_init_33 : decode cX7_init 33 = .ok (.aload_n 0, 1) := by decide +kernel
theorem dX7_init_34 : decode cX7_init 34 = .ok (.iconst 0, 1) := by decide +kernel
theorem dX7_init_35 : decode cX7_init 35 = .ok (.putfield 29, 3) := by decide +kernel
theorem dX7_init_38 : decode cX7_init 38 = .ok (.aload_n 0, 1) := by decide +kernel
theorem dX7_init_39 : decode cX7_init 39 = .ok (.bipush 30, 2) := by decide +kernel
theorem dX7_init_41 : decode cX7_init 41 = .ok (.newarray .boolean, 2) := by decide +kernel
theorem dX7_init_43 : decode cX7_init 43 = .ok (.putfield 32, 3) := by decide +kernel
theorem dX7_init_46 : decode cX7_init 46 = .ok (.return_, 1) := by decide +kernel
theorem dX7_goPlain_0 : decode cX7_goPlain 0 = .ok (.aload_n 0, 1) := by decide +kernel
theorem dX7_goPlain_1 : decode cX7_goPlain 1 = .ok (.aload_n 2, 1) := by decide +kernel
theorem dX7_goPlain_2 : decode cX7_goPlain 2 = .ok (.invokevirtual 36, 3) := by decide +kernel
theorem dX7_goPlain_5 : decode cX7_goPlain 5 = .ok (.iconst 0, 1) := by decide +kernel
theorem dX7_goPlain_6 : decode cX7_goPlain 6 = .ok (.istore_n 3, 1) := by decide +kernel
theorem dX7_goPlain_7 : decode cX7_goPlain 7 = .ok (.iload_n 3, 1) := by decide +kernel
theorem dX7_goPlain_8 : decode cX7_goPlain 8 = .ok (.aload_n 1, 1) := by decide +kernel
theorem dX7_goPlain_9 : decode cX7_goPlain 9 = .ok (.getfield 40, 3) := by decide +kernel
theorem dX7_goPlain_12 : decode cX7_goPlain 12 = .ok (.if_icmp .ge 20, 3) := by decide +kernel
theorem dX7_goPlain_15 : decode cX7_goPlain 15 = .ok (.aload_n 0, 1) := by decide +kernel
theorem dX7_goPlain_16 : decode cX7_goPlain 16 = .ok (.getfield 32, 3) := by decide +kernel
theorem dX7_goPlain_19 : decode cX7_goPlain 19 = .ok (.iload_n 3, 1) := by decide +kernel
theorem dX7_goPlain_20 : decode cX7_goPlain 20 = .ok (.aload_n 1, 1) := by decide +kernel
theorem dX7_goPlain_21 : decode cX7_goPlain 21 = .ok (.iload_n 3, 1) := by decide +kernel
theorem dX7_goPlain_22 : decode cX7_goPlain 22 = .ok (.invokevirtual 45, 3) := by decide +kernel
theorem dX7_goPlain_25 : decode cX7_goPlain 25 = .ok (.bastore, 1) := by decide +kernel
theorem dX7_goPlain_26 : decode cX7_goPlain 26 = .ok (.iinc 3 1, 3) := by decide +kernel
theorem dX7_goPlain_29 : decode cX7_goPlain 29 = .ok (.goto (-22), 3) := by decide +kernel
theorem dX7_goPlain_32 : decode cX7_goPlain 32 = .ok (.iconst 0, 1) := by decide +kernel
theorem dX7_goPlain_33 : decode cX7_goPlain 33 = .ok (.istore_n 3, 1) := by decide +kernel
theorem dX7_goPlain_34 : decode cX7_goPlain 34 = .ok (.iload_n 3, 1) := by decide +kernel
theorem dX7_goPlain_35 : decode cX7_goPlain 35 = .ok (.ldc 49, 2) := by decide +kernel
theorem dX7_goPlain_37 : decode cX7_goPlain 37 = .ok (.if_icmp .ge 51, 3) := by decide +kernel
theorem dX7_goPlain_40 : decode cX7_goPlain 40 = .ok (.aload_n 0, 1) := by decide +kernel
theorem dX7_goPlain_41 : decode cX7_goPlain 41 = .ok (.aload_n 1, 1) := by decide +kernel
theorem dX7_goPlain_42 : decode cX7_goPlain 42 = .ok (.invokevirtual 50, 3) := by decide +kernel
theorem dX7_goPlain_45 : decode cX7_goPlain 45 = .ok (.ifCond .eq 43, 3) := by decide +kernel
theorem dX7_goPlain_48 : decode cX7_goPlain 48 = .ok (.aload_n 1, 1) := by decide +kernel
theorem dX7_goPlain_49 : decode cX7_goPlain 49 = .ok (.aload_n 0, 1) := by decide +kernel
theorem dX7_goPlain_50 : decode cX7_goPlain 50 = .ok (.getfield 12, 3) := by decide +kernel
theorem dX7_goPlain_53 : decode cX7_goPlain 53 = .ok (.getfield 54, 3) := by decide +kernel
theorem dX7_goPlain_56 : decode cX7_goPlain 56 = .ok (.invokevirtual 57, 3) := by decide +kernel
theorem dX7_goPlain_59 : decode cX7_goPlain 59 = .ok (.ifCond .ne 15, 3) := by decide +kernel
theorem dX7_goPlain_62 : decode cX7_goPlain 62 = .ok (.aload_n 0, 1) := by decide +kernel
theorem dX7_goPlain_63 : decode cX7_goPlain 63 = .ok (.aload_n 1, 1) := by decide +kernel
theorem dX7_goPlain_64 : decode cX7_goPlain 64 = .ok (.aload_n 0, 1) := by decide +kernel
theorem dX7_goPlain_65 : decode cX7_goPlain 65 = .ok (.getfield 12, 3) := by decide +kernel
theorem dX7_goPlain_68 : decode cX7_goPlain 68 = .ok (.getfield 54, 3) := by decide +kernel
theorem dX7_goPlain_71 : decode cX7_goPlain 71 = .ok (.invokevirtual 60, 3) := by decide +kernel
theorem dX7_goPlain_74 : decode cX7_goPlain 74 = .ok (.aload_n 0, 1) := by decide +kernel
theorem dX7_goPlain_75 : decode cX7_goPlain 75 = .ok (.getfield 12, 3) := by decide +kernel
theorem dX7_goPlain_78 : decode cX7_goPlain 78 = .ok (.aload_n 1, 1) := by decide +kernel
theorem dX7_goPlain_79 : decode cX7_goPlain 79 = .ok (.invokevirtual 64, 3) := by decide +kernel
theorem dX7_goPlain_82 : decode cX7_goPlain 82 = .ok (.iinc 3 1, 3) := by decide +kernel
theorem dX7_goPlain_85 : decode cX7_goPlain 85 = .ok (.goto (-51), 3) := by decide +kernel
theorem dX7_goPlain_88 : decode cX7_goPlain 88 = .ok (.return_, 1) := by decide +kernel
theorem dX7_goOptimized_0 : decode cX7_goOptimized 0 = .ok (.aload_n 0, 1) := by decide +kernel
theorem dX7_goOptimized_1 : decode cX7_goOptimized 1 = .ok (.aload_n 2, 1) := by decide +kernel
theorem dX7_goOptimized_2 : decode cX7_goOptimized 2 = .ok (.invokevirtual 36, 3) := by decide +kernel
theorem dX7_goOptimized_5 : decode cX7_goOptimized 5 = .ok (.iconst 0, 1) := by decide +kernel
theorem dX7_goOptimized_6 : decode cX7_goOptimized 6 = .ok (.istore 4, 2) := by decide +kernel
theorem dX7_goOptimized_8 : decode cX7_goOptimized 8 = .ok (.iload 4, 2) := by decide +kernel
theorem dX7_goOptimized_10 : decode cX7_goOptimized 10 = .ok (.aload_n 1, 1) := by decide +kernel
theorem dX7_goOptimized_11 : decode cX7_goOptimized 11 = .ok (.getfield 40, 3) := by decide +kernel
theorem dX7_goOptimized_14 : decode cX7_goOptimized 14 = .ok (.if_icmp .ge 32, 3) := by decide +kernel
theorem dX7_goOptimized_17 : decode cX7_goOptimized 17 = .ok (.aload_n 0, 1) := by decide +kernel
theorem dX7_goOptimized_18 : decode cX7_goOptimized 18 = .ok (.getfield 32, 3) := by decide +kernel
theorem dX7_goOptimized_21 : decode cX7_goOptimized 21 = .ok (.iload 4, 2) := by decide +kernel
theorem dX7_goOptimized_23 : decode cX7_goOptimized 23 = .ok (.aload_n 3, 1) := by decide +kernel
theorem dX7_goOptimized_24 : decode cX7_goOptimized 24 = .ok (.getfield 68, 3) := by decide +kernel
theorem dX7_goOptimized_27 : decode cX7_goOptimized 27 = .ok (.iload 4, 2) := by decide +kernel
theorem dX7_goOptimized_29 : decode cX7_goOptimized 29 = .ok (.iaload, 1) := by decide +kernel
theorem dX7_goOptimized_30 : decode cX7_goOptimized 30 = .ok (.iconst 4, 1) := by decide +kernel
theorem dX7_goOptimized_31 : decode cX7_goOptimized 31 = .ok (.if_icmp .ne 7, 3) := by decide +kernel
theorem dX7_goOptimized_34 : decode cX7_goOptimized 34 = .ok (.iconst 1, 1) := by decide +kernel
theorem dX7_goOptimized_35 : decode cX7_goOptimized 35 = .ok (.goto 4, 3) := by decide +kernel
theorem dX7_goOptimized_38 : decode cX7_goOptimized 38 = .ok (.iconst 0, 1) := by decide +kernel
theorem dX7_goOptimized_39 : decode cX7_goOptimized 39 = .ok (.bastore, 1) := by decide +kernel
theorem dX7_goOptimized_40 : decode cX7_goOptimized 40 = .ok (.iinc 4 1, 3) := by decide +kernel
theorem dX7_goOptimized_43 : decode cX7_goOptimized 43 = .ok (.goto (-35), 3) := by decide +kernel
theorem dX7_goOptimized_46 : decode cX7_goOptimized 46 = .ok (.iconst 0, 1) := by decide +kernel
theorem dX7_goOptimized_47 : decode cX7_goOptimized 47 = .ok (.istore 4, 2) := by decide +kernel
theorem dX7_goOptimized_49 : decode cX7_goOptimized 49 = .ok (.iload 4, 2) := by decide +kernel
theorem dX7_goOptimized_51 : decode cX7_goOptimized 51 = .ok (.ldc 49, 2) := by decide +kernel
theorem dX7_goOptimized_53 : decode cX7_goOptimized 53 = .ok (.if_icmp .ge 85, 3) := by decide +kernel
theorem dX7_goOptimized_56 : decode cX7_goOptimized 56 = .ok (.aload_n 0, 1) := by decide +kernel
theorem dX7_goOptimized_57 : decode cX7_goOptimized 57 = .ok (.aload_n 1, 1) := by decide +kernel
theorem dX7_goOptimized_58 : decode cX7_goOptimized 58 = .ok (.invokevirtual 50, 3) := by decide +kernel
theorem dX7_goOptimized_61 : decode cX7_goOptimized 61 = .ok (.ifCond .eq 77, 3) := by decide +kernel
theorem dX7_goOptimized_64 : decode cX7_goOptimized 64 = .ok (.aload_n 1, 1) := by decide +kernel
theorem dX7_goOptimized_65 : decode cX7_goOptimized 65 = .ok (.getfield 74, 3) := by decide +kernel
theorem dX7_goOptimized_68 : decode cX7_goOptimized 68 = .ok (.aload_n 0, 1) := by decide +kernel
theorem dX7_goOptimized_69 : decode cX7_goOptimized 69 = .ok (.getfield 12, 3) := by decide +kernel
theorem dX7_goOptimized_72 : decode cX7_goOptimized 72 = .ok (.getfield 54, 3) := by decide +kernel
theorem dX7_goOptimized_75 : decode cX7_goOptimized 75 = .ok (.iaload, 1) := by decide +kernel
theorem dX7_goOptimized_76 : decode cX7_goOptimized 76 = .ok (.iconst 4, 1) := by decide +kernel
theorem dX7_goOptimized_77 : decode cX7_goOptimized 77 = .ok (.if_icmp .ne 19, 3) := by decide +kernel
theorem dX7_goOptimized_80 : decode cX7_goOptimized 80 = .ok (.aload_n 0, 1) := by decide +kernel
theorem dX7_goOptimized_81 : decode cX7_goOptimized 81 = .ok (.aload_n 1, 1) := by decide +kernel
theorem dX7_goOptimized_82 : decode cX7_goOptimized 82 = .ok (.aload_n 3, 1) := by decide +kernel
theorem dX7_goOptimized_83 : decode cX7_goOptimized 83 = .ok (.aload_n 0, 1) := by decide +kernel
theorem dX7_goOptimized_84 : decode cX7_goOptimized 84 = .ok (.getfield 12, 3) := by decide +kernel
theorem dX7_goOptimized_87 : decode cX7_goOptimized 87 = .ok (.getfield 54, 3) := by decide +kernel
theorem dX7_goOptimized_90 : decode cX7_goOptimized 90 = .ok (.invokevirtual 77, 3) := by decide +kernel
theorem dX7_goOptimized_93 : decode cX7_goOptimized 93 = .ok (.goto 31, 3) := by decide +kernel
theorem dX7_goOptimized_96 : decode cX7_goOptimized 96 = .ok (.aload_n 1, 1) := by decide +kernel
theorem dX7_goOptimized_97 : decode cX7_goOptimized 97 = .ok (.getfield 74, 3) := by decide +kernel
theorem dX7_goOptimized_100 : decode cX7_goOptimized 100 = .ok (.aload_n 0, 1) := by decide +kernel
theorem dX7_goOptimized_101 : decode cX7_goOptimized 101 = .ok (.getfield 12, 3) := by decide +kernel
theorem dX7_goOptimized_104 : decode cX7_goOptimized 104 = .ok (.getfield 54, 3) := by decide +kernel
theorem dX7_goOptimized_107 : decode cX7_goOptimized 107 = .ok (.iaload, 1) := by decide +kernel
theorem dX7_goOptimized_108 : decode cX7_goOptimized 108 = .ok (.iconst 5, 1) := by decide +kernel
theorem dX7_goOptimized_109 : decode cX7_goOptimized 109 = .ok (.if_icmp .eq 15, 3) := by decide +kernel
theorem dX7_goOptimized_112 : decode cX7_goOptimized 112 = .ok (.aload_n 0, 1) := by decide +kernel
theorem dX7_goOptimized_113 : decode cX7_goOptimized 113 = .ok (.aload_n 1, 1) := by decide +kernel
theorem dX7_goOptimized_114 : decode cX7_goOptimized 114 = .ok (.aload_n 0, 1) := by decide +kernel
theorem dX7_goOptimized_115 : decode cX7_goOptimized 115 = .ok (.getfield 12, 3) := by decide +kernel
theorem dX7_goOptimized_118 : decode cX7_goOptimized 118 = .ok (.getfield 54, 3) := by decide +kernel
theorem dX7_goOptimized_121 : decode cX7_goOptimized 121 = .ok (.invokevirtual 60, 3) := by decide +kernel
theorem dX7_goOptimized_124 : decode cX7_goOptimized 124 = .ok (.aload_n 0, 1) := by decide +kernel
theorem dX7_goOptimized_125 : decode cX7_goOptimized 125 = .ok (.getfield 12, 3) := by decide +kernel
theorem dX7_goOptimized_128 : decode cX7_goOptimized 128 = .ok (.aload_n 1, 1) := by decide +kernel
theorem dX7_goOptimized_129 : decode cX7_goOptimized 129 = .ok (.invokevirtual 64, 3) := by decide +kernel
theorem dX7_goOptimized_132 : decode cX7_goOptimized 132 = .ok (.iinc 4 1, 3) := by decide +kernel
theorem dX7_goOptimized_135 : decode cX7_goOptimized 135 = .ok (.goto (-86), 3) := by decide +kernel
theorem dX7_goOptimized_138 : decode cX7_goOptimized 138 = .ok (.return_, 1) := by decide +kernel
theorem dX7_begin_0 : decode cX7_begin 0 = .ok (.aload_n 0, 1) := by decide +kernel
theorem dX7_begin_1 : decode cX7_begin 1 = .ok (.getfield 12, 3) := by decide +kernel
theorem dX7_begin_4 : decode cX7_begin 4 = .ok (.iconst 0, 1) := by decide +kernel
theorem dX7_begin_5 : decode cX7_begin 5 = .ok (.putfield 54, 3) := by decide +kernel
theorem dX7_begin_8 : decode cX7_begin 8 = .ok (.aload_n 0, 1) := by decide +kernel
theorem dX7_begin_9 : decode cX7_begin 9 = .ok (.iconst (-1), 1) := by decide +kernel
theorem dX7_begin_10 : decode cX7_begin 10 = .ok (.putfield 22, 3) := by decide +kernel
theorem dX7_begin_13 : decode cX7_begin 13 = .ok (.aload_n 0, 1) := by decide +kernel
theorem dX7_begin_14 : decode cX7_begin 14 = .ok (.iconst 0, 1) := by decide +kernel
theorem dX7_begin_15 : decode cX7_begin 15 = .ok (.putfield 26, 3) := by decide +kernel
theorem dX7_begin_18 : decode cX7_begin 18 = .ok (.aload_n 0, 1) := by decide +kernel
theorem dX7_begin_19 : decode cX7_begin 19 = .ok (.iconst 0, 1) := by decide +kernel
theorem dX7_begin_20 : decode cX7_begin 20 = .ok (.putfield 29, 3) := by decide +kernel
theorem dX7_begin_23 : decode cX7_begin 23 = .ok (.iconst 0, 1) := by decide +kernel
theorem dX7_begin_24 : decode cX7_begin 24 = .ok (.istore_n 2, 1) := by decide +kernel
theorem dX7_begin_25 : decode cX7_begin 25 = .ok (.iload_n 2, 1) := by decide +kernel
theorem dX7_begin_26 : decode cX7_begin 26 = .ok (.bipush 8, 2) := by decide +kernel
theorem dX7_begin_28 : decode cX7_begin 28 = .ok (.if_icmp .ge 22, 3) := by decide +kernel
theorem dX7_begin_31 : decode cX7_begin 31 = .ok (.aload_n 0, 1) := by decide +kernel
theorem dX7_begin_32 : decode cX7_begin 32 = .ok (.getfield 18, 3) := by decide +kernel
theorem dX7_begin_35 : decode cX7_begin 35 = .ok (.iload_n 2, 1) := by decide +kernel
theorem dX7_begin_36 : decode cX7_begin 36 = .ok (.aload_n 1, 1) := by decide +kernel
theorem dX7_begin_37 : decode cX7_begin 37 = .ok (.getfield 81, 3) := by decide +kernel
theorem dX7_begin_40 : decode cX7_begin 40 = .ok (.iload_n 2, 1) := by decide +kernel
theorem dX7_begin_41 : decode cX7_begin 41 = .ok (.iaload, 1) := by decide +kernel
theorem dX7_begin_42 : decode cX7_begin 42 = .ok (.i2l, 1) := by decide +kernel
theorem dX7_begin_43 : decode cX7_begin 43 = .ok (.lastore, 1) := by decide +kernel
theorem dX7_begin_44 : decode cX7_begin 44 = .ok (.iinc 2 1, 3) := by decide +kernel
theorem dX7_begin_47 : decode cX7_begin 47 = .ok (.goto (-22), 3) := by decide +kernel
theorem dX7_begin_50 : decode cX7_begin 50 = .ok (.return_, 1) := by decide +kernel
theorem dX7_isGoingOn_0 : decode cX7_isGoingOn 0 = .ok (.aload_n 0, 1) := by decide +kernel
theorem dX7_isGoingOn_1 : decode cX7_isGoingOn 1 = .ok (.getfield 22, 3) := by decide +kernel
theorem dX7_isGoingOn_4 : decode cX7_isGoingOn 4 = .ok (.iconst (-1), 1) := by decide +kernel
theorem dX7_isGoingOn_5 : decode cX7_isGoingOn 5 = .ok (.if_icmp .ne 21, 3) := by decide +kernel
theorem dX7_isGoingOn_8 : decode cX7_isGoingOn 8 = .ok (.aload_n 0, 1) := by decide +kernel
theorem dX7_isGoingOn_9 : decode cX7_isGoingOn 9 = .ok (.getfield 12, 3) := by decide +kernel
theorem dX7_isGoingOn_12 : decode cX7_isGoingOn 12 = .ok (.getfield 54, 3) := by decide +kernel
theorem dX7_isGoingOn_15 : decode cX7_isGoingOn 15 = .ok (.aload_n 1, 1) := by decide +kernel
theorem dX7_isGoingOn_16 : decode cX7_isGoingOn 16 = .ok (.getfield 40, 3) := by decide +kernel
theorem dX7_isGoingOn_19 : decode cX7_isGoingOn 19 = .ok (.if_icmp .ge 7, 3) := by decide +kernel
theorem dX7_isGoingOn_22 : decode cX7_isGoingOn 22 = .ok (.iconst 1, 1) := by decide +kernel
theorem dX7_isGoingOn_23 : decode cX7_isGoingOn 23 = .ok (.goto 4, 3) := by decide +kernel
theorem dX7_isGoingOn_26 : decode cX7_isGoingOn 26 = .ok (.iconst 0, 1) := by decide +kernel
theorem dX7_isGoingOn_27 : decode cX7_isGoingOn 27 = .ok (.ireturn, 1) := by decide +kernel
theorem dX7_checkAhead_0 : decode cX7_checkAhead 0 = .ok (.aload_n 1, 1) := by decide +kernel
theorem dX7_checkAhead_1 : decode cX7_checkAhead 1 = .ok (.getfield 86, 3) := by decide +kernel
theorem dX7_checkAhead_4 : decode cX7_checkAhead 4 = .ok (.iload_n 3, 1) := by decide +kernel
theorem dX7_checkAhead_5 : decode cX7_checkAhead 5 = .ok (.iaload, 1) := by decide +kernel
theorem dX7_checkAhead_6 : decode cX7_checkAhead 6 = .ok (.istore 4, 2) := by decide +kernel
theorem dX7_checkAhead_8 : decode cX7_checkAhead 8 = .ok (.aload_n 1, 1) := by decide +kernel
theorem dX7_checkAhead_9 : decode cX7_checkAhead 9 = .ok (.getfield 89, 3) := by decide +kernel
theorem dX7_checkAhead_12 : decode cX7_checkAhead 12 = .ok (.iload_n 3, 1) := by decide +kernel
theorem dX7_checkAhead_13 : decode cX7_checkAhead 13 = .ok (.iaload, 1) := by decide +kernel
theorem dX7_checkAhead_14 : decode cX7_checkAhead 14 = .ok (.iconst 1, 1) := by decide +kernel
theorem dX7_checkAhead_15 : decode cX7_checkAhead 15 = .ok (.iadd, 1) := by decide +kernel
theorem dX7_checkAhead_16 : decode cX7_checkAhead 16 = .ok (.istore 5, 2) := by decide +kernel
theorem dX7_checkAhead_18 : decode cX7_checkAhead 18 = .ok (.iload_n 3, 1) := by decide +kernel
theorem dX7_checkAhead_19 : decode cX7_checkAhead 19 = .ok (.iconst 1, 1) := by decide +kernel
theorem dX7_checkAhead_20 : decode cX7_checkAhead 20 = .ok (.iadd, 1) := by decide +kernel
theorem dX7_checkAhead_21 : decode cX7_checkAhead 21 = .ok (.istore 6, 2) := by decide +kernel
theorem dX7_checkAhead_23 : decode cX7_checkAhead 23 = .ok (.iload 6, 2) := by decide +kernel
theorem dX7_checkAhead_25 : decode cX7_checkAhead 25 = .ok (.aload_n 1, 1) := by decide +kernel
theorem dX7_checkAhead_26 : decode cX7_checkAhead 26 = .ok (.getfield 92, 3) := by decide +kernel
theorem dX7_checkAhead_29 : decode cX7_checkAhead 29 = .ok (.iload_n 3, 1) := by decide +kernel
theorem dX7_checkAhead_30 : decode cX7_checkAhead 30 = .ok (.iaload, 1) := by decide +kernel
theorem dX7_checkAhead_31 : decode cX7_checkAhead 31 = .ok (.if_icmp .ge 97, 3) := by decide +kernel
theorem dX7_checkAhead_34 : decode cX7_checkAhead 34 = .ok (.aload_n 2, 1) := by decide +kernel
theorem dX7_checkAhead_35 : decode cX7_checkAhead 35 = .ok (.getfield 68, 3) := by decide +kernel
theorem dX7_checkAhead_38 : decode cX7_checkAhead 38 = .ok (.iload 6, 2) := by decide +kernel
theorem dX7_checkAhead_40 : decode cX7_checkAhead 40 = .ok (.iaload, 1) := by decide +kernel
theorem dX7_checkAhead_41 : decode cX7_checkAhead 41 = .ok (.iconst 3, 1) := by decide +kernel
theorem dX7_checkAhead_42 : decode cX7_checkAhead 42 = .ok (.if_icmp .ne 80, 3) := by decide +kernel
theorem dX7_checkAhead_45 : decode cX7_checkAhead 45 = .ok (.aload_n 1, 1) := by decide +kernel
theorem dX7_checkAhead_46 : decode cX7_checkAhead 46 = .ok (.getfield 89, 3) := by decide +kernel
theorem dX7_checkAhead_49 : decode cX7_checkAhead 49 = .ok (.iload 6, 2) := by decide +kernel
theorem dX7_checkAhead_51 : decode cX7_checkAhead 51 = .ok (.iaload, 1) := by decide +kernel
theorem dX7_checkAhead_52 : decode cX7_checkAhead 52 = .ok (.iload 5, 2) := by decide +kernel
theorem dX7_checkAhead_54 : decode cX7_checkAhead 54 = .ok (.if_icmp .ne 68, 3) := by decide +kernel
theorem dX7_checkAhead_57 : decode cX7_checkAhead 57 = .ok (.aload_n 1, 1) := by decide +kernel
theorem dX7_checkAhead_58 : decode cX7_checkAhead 58 = .ok (.getfield 86, 3) := by decide +kernel
theorem dX7_checkAhead_61 : decode cX7_checkAhead 61 = .ok (.iload 6, 2) := by decide +kernel
theorem dX7_checkAhead_63 : decode cX7_checkAhead 63 = .ok (.iaload, 1) := by decide +kernel
theorem dX7_checkAhead_64 : decode cX7_checkAhead 64 = .ok (.istore 7, 2) := by decide +kernel
theorem dX7_checkAhead_66 : decode cX7_checkAhead 66 = .ok (.aload_n 0, 1) := by decide +kernel
theorem dX7_checkAhead_67 : decode cX7_checkAhead 67 = .ok (.aload_n 1, 1) := by decide +kernel
theorem dX7_checkAhead_68 : decode cX7_checkAhead 68 = .ok (.iload 6, 2) := by decide +kernel
theorem dX7_checkAhead_70 : decode cX7_checkAhead 70 = .ok (.iload 7, 2) := by decide +kernel
theorem dX7_checkAhead_72 : decode cX7_checkAhead 72 = .ok (.invokevirtual 95, 3) := by decide +kernel
theorem dX7_checkAhead_75 : decode cX7_checkAhead 75 = .ok (.invokevirtual 99, 3) := by decide +kernel
theorem dX7_checkAhead_78 : decode cX7_checkAhead 78 = .ok (.lstore 8, 2) := by decide +kernel
theorem dX7_checkAhead_80 : decode cX7_checkAhead 80 = .ok (.aload_n 0, 1) := by decide +kernel
theorem dX7_checkAhead_81 : decode cX7_checkAhead 81 = .ok (.dup, 1) := by decide +kernel
theorem dX7_checkAhead_82 : decode cX7_checkAhead 82 = .ok (.getfield 26, 3) := by decide +kernel
theorem dX7_checkAhead_85 : decode cX7_checkAhead 85 = .ok (.iconst 1, 1) := by decide +kernel
theorem dX7_checkAhead_86 : decode cX7_checkAhead 86 = .ok (.iadd, 1) := by decide +kernel
theorem dX7_checkAhead_87 : decode cX7_checkAhead 87 = .ok (.putfield 26, 3) := by decide +kernel
theorem dX7_checkAhead_90 : decode cX7_checkAhead 90 = .ok (.aload_n 0, 1) := by decide +kernel
theorem dX7_checkAhead_91 : decode cX7_checkAhead 91 = .ok (.getfield 32, 3) := by decide +kernel
theorem dX7_checkAhead_94 : decode cX7_checkAhead 94 = .ok (.iload 6, 2) := by decide +kernel
theorem dX7_checkAhead_96 : decode cX7_checkAhead 96 = .ok (.aload_n 0, 1) := by decide +kernel
theorem dX7_checkAhead_97 : decode cX7_checkAhead 97 = .ok (.getfield 18, 3) := by decide +kernel
theorem dX7_checkAhead_100 : decode cX7_checkAhead 100 = .ok (.iload 7, 2) := by decide +kernel
theorem dX7_checkAhead_102 : decode cX7_checkAhead 102 = .ok (.laload, 1) := by decide +kernel
theorem dX7_checkAhead_103 : decode cX7_checkAhead 103 = .ok (.iload 4, 2) := by decide +kernel
theorem dX7_checkAhead_105 : decode cX7_checkAhead 105 = .ok (.i2l, 1) := by decide +kernel
theorem dX7_checkAhead_106 : decode cX7_checkAhead 106 = .ok (.lload 8, 2) := by decide +kernel
theorem dX7_checkAhead_108 : decode cX7_checkAhead 108 = .ok (.lmul, 1) := by decide +kernel
theorem dX7_checkAhead_109 : decode cX7_checkAhead 109 = .ok (.ladd, 1) := by decide +kernel
theorem dX7_checkAhead_110 : decode cX7_checkAhead 110 = .ok (.invokestatic 103, 3) := by decide +kernel
theorem dX7_checkAhead_113 : decode cX7_checkAhead 113 = .ok (.ifCond .ne 7, 3) := by decide +kernel
theorem dX7_checkAhead_116 : decode cX7_checkAhead 116 = .ok (.iconst 1, 1) := by decide +kernel
theorem dX7_checkAhead_117 : decode cX7_checkAhead 117 = .ok (.goto 4, 3) := by decide +kernel
theorem dX7_checkAhead_120 : decode cX7_checkAhead 120 = .ok (.iconst 0, 1) := by decide +kernel
theorem dX7_checkAhead_121 : decode cX7_checkAhead 121 = .ok (.bastore, 1) := by decide +kernel
theorem dX7_checkAhead_122 : decode cX7_checkAhead 122 = .ok (.iinc 6 1, 3) := by decide +kernel
theorem dX7_checkAhead_125 : decode cX7_checkAhead 125 = .ok (.goto (-102), 3) := by decide +kernel
theorem dX7_checkAhead_128 : decode cX7_checkAhead 128 = .ok (.return_, 1) := by decide +kernel
theorem dX7_execute_0 : decode cX7_execute 0 = .ok (.aload_n 0, 1) := by decide +kernel
theorem dX7_execute_1 : decode cX7_execute 1 = .ok (.aload_n 1, 1) := by decide +kernel
theorem dX7_execute_2 : decode cX7_execute 2 = .ok (.getfield 74, 3) := by decide +kernel
theorem dX7_execute_5 : decode cX7_execute 5 = .ok (.iload_n 2, 1) := by decide +kernel
theorem dX7_execute_6 : decode cX7_execute 6 = .ok (.iaload, 1) := by decide +kernel
theorem dX7_execute_7 : decode cX7_execute 7 = .ok (.aload_n 1, 1) := by decide +kernel
theorem dX7_execute_8 : decode cX7_execute 8 = .ok (.getfield 107, 3) := by decide +kernel
theorem dX7_execute_11 : decode cX7_execute 11 = .ok (.iload_n 2, 1) := by decide +kernel
theorem dX7_execute_12 : decode cX7_execute 12 = .ok (.iaload, 1) := by decide +kernel
theorem dX7_execute_13 : decode cX7_execute 13 = .ok (.aload_n 1, 1) := by decide +kernel
theorem dX7_execute_14 : decode cX7_execute 14 = .ok (.getfield 110, 3) := by decide +kernel
theorem dX7_execute_17 : decode cX7_execute 17 = .ok (.iload_n 2, 1) := by decide +kernel
theorem dX7_execute_18 : decode cX7_execute 18 = .ok (.iaload, 1) := by decide +kernel
theorem dX7_execute_19 : decode cX7_execute 19 = .ok (.invokevirtual 113, 3) := by decide +kernel
theorem dX7_execute_22 : decode cX7_execute 22 = .ok (.lstore_n 3, 1) := by decide +kernel
theorem dX7_execute_23 : decode cX7_execute 23 = .ok (.aload_n 0, 1) := by decide +kernel
theorem dX7_execute_24 : decode cX7_execute 24 = .ok (.getfield 32, 3) := by decide +kernel
theorem dX7_execute_27 : decode cX7_execute 27 = .ok (.iload_n 2, 1) := by decide +kernel
theorem dX7_execute_28 : decode cX7_execute 28 = .ok (.baload, 1) := by decide +kernel
theorem dX7_execute_29 : decode cX7_execute 29 = .ok (.ifCond .eq 26, 3) := by decide +kernel
theorem dX7_execute_32 : decode cX7_execute 32 = .ok (.aload_n 0, 1) := by decide +kernel
theorem dX7_execute_33 : decode cX7_execute 33 = .ok (.dup, 1) := by decide +kernel
theorem dX7_execute_34 : decode cX7_execute 34 = .ok (.getfield 26, 3) := by decide +kernel
theorem dX7_execute_37 : decode cX7_execute 37 = .ok (.iconst 1, 1) := by decide +kernel
theorem dX7_execute_38 : decode cX7_execute 38 = .ok (.iadd, 1) := by decide +kernel
theorem dX7_execute_39 : decode cX7_execute 39 = .ok (.putfield 26, 3) := by decide +kernel
theorem dX7_execute_42 : decode cX7_execute 42 = .ok (.lload_n 3, 1) := by decide +kernel
theorem dX7_execute_43 : decode cX7_execute 43 = .ok (.invokestatic 103, 3) := by decide +kernel
theorem dX7_execute_46 : decode cX7_execute 46 = .ok (.ifCond .ne 9, 3) := by decide +kernel
theorem dX7_execute_49 : decode cX7_execute 49 = .ok (.aload_n 0, 1) := by decide +kernel
theorem dX7_execute_50 : decode cX7_execute 50 = .ok (.iload_n 2, 1) := by decide +kernel
theorem dX7_execute_51 : decode cX7_execute 51 = .ok (.putfield 22, 3) := by decide +kernel
theorem dX7_execute_54 : decode cX7_execute 54 = .ok (.return_, 1) := by decide +kernel
theorem dX7_execute_55 : decode cX7_execute 55 = .ok (.aload_n 0, 1) := by decide +kernel
theorem dX7_execute_56 : decode cX7_execute 56 = .ok (.getfield 18, 3) := by decide +kernel
theorem dX7_execute_59 : decode cX7_execute 59 = .ok (.aload_n 1, 1) := by decide +kernel
theorem dX7_execute_60 : decode cX7_execute 60 = .ok (.getfield 86, 3) := by decide +kernel
theorem dX7_execute_63 : decode cX7_execute 63 = .ok (.iload_n 2, 1) := by decide +kernel
theorem dX7_execute_64 : decode cX7_execute 64 = .ok (.iaload, 1) := by decide +kernel
theorem dX7_execute_65 : decode cX7_execute 65 = .ok (.lload_n 3, 1) := by decide +kernel
theorem dX7_execute_66 : decode cX7_execute 66 = .ok (.lastore, 1) := by decide +kernel
theorem dX7_execute_67 : decode cX7_execute 67 = .ok (.aload_n 0, 1) := by decide +kernel
theorem dX7_execute_68 : decode cX7_execute 68 = .ok (.dup, 1) := by decide +kernel
theorem dX7_execute_69 : decode cX7_execute 69 = .ok (.getfield 29, 3) := by decide +kernel
theorem dX7_execute_72 : decode cX7_execute 72 = .ok (.iconst 1, 1) := by decide +kernel
theorem dX7_execute_73 : decode cX7_execute 73 = .ok (.iadd, 1) := by decide +kernel
theorem dX7_execute_74 : decode cX7_execute 74 = .ok (.putfield 29, 3) := by decide +kernel
theorem dX7_execute_77 : decode cX7_execute 77 = .ok (.return_, 1) := by decide +kernel
theorem dX7_compute_0 : decode cX7_compute 0 = .ok (.aload_n 0, 1) := by decide +kernel
theorem dX7_compute_1 : decode cX7_compute 1 = .ok (.iload_n 2, 1) := by decide +kernel
theorem dX7_compute_2 : decode cX7_compute 2 = .ok (.invokevirtual 99, 3) := by decide +kernel
theorem dX7_compute_5 : decode cX7_compute 5 = .ok (.lstore 4, 2) := by decide +kernel
theorem dX7_compute_7 : decode cX7_compute 7 = .ok (.iload_n 1, 1) := by decide +kernel
theorem dX7_compute_8 : decode cX7_compute 8 = .ok (.iconst 1, 1) := by decide +kernel
theorem dX7_compute_9 : decode cX7_compute 9 = .ok (.if_icmp .ne 12, 3) := by decide +kernel
theorem dX7_compute_12 : decode cX7_compute 12 = .ok (.lload 4, 2) := by decide +kernel
theorem dX7_compute_14 : decode cX7_compute 14 = .ok (.aload_n 0, 1) := by decide +kernel
theorem dX7_compute_15 : decode cX7_compute 15 = .ok (.iload_n 3, 1) := by decide +kernel
theorem dX7_compute_16 : decode cX7_compute 16 = .ok (.invokevirtual 99, 3) := by decide +kernel
theorem dX7_compute_19 : decode cX7_compute 19 = .ok (.ladd, 1) := by decide +kernel
theorem dX7_compute_20 : decode cX7_compute 20 = .ok (.lreturn, 1) := by decide +kernel
theorem dX7_compute_21 : decode cX7_compute 21 = .ok (.iload_n 1, 1) := by decide +kernel
theorem dX7_compute_22 : decode cX7_compute 22 = .ok (.iconst 2, 1) := by decide +kernel
theorem dX7_compute_23 : decode cX7_compute 23 = .ok (.if_icmp .ne 12, 3) := by decide +kernel
theorem dX7_compute_26 : decode cX7_compute 26 = .ok (.lload 4, 2) := by decide +kernel
theorem dX7_compute_28 : decode cX7_compute 28 = .ok (.aload_n 0, 1) := by decide +kernel
theorem dX7_compute_29 : decode cX7_compute 29 = .ok (.iload_n 3, 1) := by decide +kernel
theorem dX7_compute_30 : decode cX7_compute 30 = .ok (.invokevirtual 99, 3) := by decide +kernel
theorem dX7_compute_33 : decode cX7_compute 33 = .ok (.lsub, 1) := by decide +kernel
theorem dX7_compute_34 : decode cX7_compute 34 = .ok (.lreturn, 1) := by decide +kernel
theorem dX7_compute_35 : decode cX7_compute 35 = .ok (.iload_n 1, 1) := by decide +kernel
theorem dX7_compute_36 : decode cX7_compute 36 = .ok (.iconst 3, 1) := by decide +kernel
theorem dX7_compute_37 : decode cX7_compute 37 = .ok (.if_icmp .ne 14, 3) := by decide +kernel
theorem dX7_compute_40 : decode cX7_compute 40 = .ok (.lload 4, 2) := by decide +kernel
theorem dX7_compute_42 : decode cX7_compute 42 = .ok (.aload_n 0, 1) := by decide +kernel
theorem dX7_compute_43 : decode cX7_compute 43 = .ok (.iload_n 3, 1) := by decide +kernel
theorem dX7_compute_44 : decode cX7_compute 44 = .ok (.invokevirtual 99, 3) := by decide +kernel
theorem dX7_compute_47 : decode cX7_compute 47 = .ok (.lmul, 1) := by decide +kernel
theorem dX7_compute_48 : decode cX7_compute 48 = .ok (.goto 5, 3) := by decide +kernel
theorem dX7_compute_51 : decode cX7_compute 51 = .ok (.lload 4, 2) := by decide +kernel
theorem dX7_compute_53 : decode cX7_compute 53 = .ok (.lreturn, 1) := by decide +kernel
theorem dX7_valueOf_0 : decode cX7_valueOf 0 = .ok (.iload_n 1, 1) := by decide +kernel
theorem dX7_valueOf_1 : decode cX7_valueOf 1 = .ok (.invokestatic 117, 3) := by decide +kernel
theorem dX7_valueOf_4 : decode cX7_valueOf 4 = .ok (.ifCond .eq 12, 3) := by decide +kernel
theorem dX7_valueOf_7 : decode cX7_valueOf 7 = .ok (.aload_n 0, 1) := by decide +kernel
theorem dX7_valueOf_8 : decode cX7_valueOf 8 = .ok (.getfield 18, 3) := by decide +kernel
theorem dX7_valueOf_11 : decode cX7_valueOf 11 = .ok (.iload_n 1, 1) := by decide +kernel
theorem dX7_valueOf_12 : decode cX7_valueOf 12 = .ok (.laload, 1) := by decide +kernel
theorem dX7_valueOf_13 : decode cX7_valueOf 13 = .ok (.goto 9, 3) := by decide +kernel
theorem dX7_valueOf_16 : decode cX7_valueOf 16 = .ok (.iload_n 1, 1) := by decide +kernel
theorem dX7_valueOf_17 : decode cX7_valueOf 17 = .ok (.sipush 20000, 3) := by decide +kernel
theorem dX7_valueOf_20 : decode cX7_valueOf 20 = .ok (.isub, 1) := by decide +kernel
theorem dX7_valueOf_21 : decode cX7_valueOf 21 = .ok (.i2l, 1) := by decide +kernel
theorem dX7_valueOf_22 : decode cX7_valueOf 22 = .ok (.lreturn, 1) := by decide +kernel
theorem dX8_init_0 : decode cX8_init 0 = .ok (.aload_n 0, 1) := by decide +kernel
theorem dX8_init_1 : decode cX8_init 1 = .ok (.invokespecial 1, 3) := by decide +kernel
theorem dX8_init_4 : decode cX8_init 4 = .ok (.aload_n 0, 1) := by decide +kernel
theorem dX8_init_5 : decode cX8_init 5 = .ok (.new 7, 3) := by decide +kernel
theorem dX8_init_8 : decode cX8_init 8 = .ok (.dup, 1) := by decide +kernel
theorem dX8_init_9 : decode cX8_init 9 = .ok (.invokespecial 9, 3) := by decide +kernel
theorem dX8_init_12 : decode cX8_init 12 = .ok (.putfield 10, 3) := by decide +kernel
theorem dX8_init_15 : decode cX8_init 15 = .ok (.aload_n 0, 1) := by decide +kernel
theorem dX8_init_16 : decode cX8_init 16 = .ok (.new 16, 3) := by decide +kernel
theorem dX8_init_19 : decode cX8_init 19 = .ok (.dup, 1) := by decide +kernel
theorem dX8_init_20 : decode cX8_init 20 = .ok (.invokespecial 18, 3) := by decide +kernel
theorem dX8_init_23 : decode cX8_init 23 = .ok (.putfield 19, 3) := by decide +kernel
theorem dX8_init_26 : decode cX8_init 26 = .ok (.return_, 1) := by decide +kernel
theorem dX8_copyFrom_0 : decode cX8_copyFrom 0 = .ok (.aload_n 0, 1) := by decide +kernel
theorem dX8_copyFrom_1 : decode cX8_copyFrom 1 = .ok (.getfield 10, 3) := by decide +kernel
theorem dX8_copyFrom_4 : decode cX8_copyFrom 4 = .ok (.aload_n 1, 1) := by decide +kernel
theorem dX8_copyFrom_5 : decode cX8_copyFrom 5 = .ok (.getfield 10, 3) := by decide +kernel
theorem dX8_copyFrom_8 : decode cX8_copyFrom 8 = .ok (.invokevirtual 23, 3) := by decide +kernel
theorem dX8_copyFrom_11 : decode cX8_copyFrom 11 = .ok (.aload_n 0, 1) := by decide +kernel
theorem dX8_copyFrom_12 : decode cX8_copyFrom 12 = .ok (.getfield 19, 3) := by decide +kernel
theorem dX8_copyFrom_15 : decode cX8_copyFrom 15 = .ok (.aload_n 1, 1) := by decide +kernel
theorem dX8_copyFrom_16 : decode cX8_copyFrom 16 = .ok (.getfield 19, 3) := by decide +kernel
theorem dX8_copyFrom_19 : decode cX8_copyFrom 19 = .ok (.invokevirtual 27, 3) := by decide +kernel
theorem dX8_copyFrom_22 : decode cX8_copyFrom 22 = .ok (.return_, 1) := by decide +kernel
theorem dX9_init_0 : decode cX9_init 0 = .ok (.aload_n 0, 1) := by decide +kernel
theorem dX9_init_1 : decode cX9_init 1 = .ok (.invokespecial 3, 3) := by decide +kernel
theorem dX9_init_4 : decode cX9_init 4 = .ok (.aload_n 0, 1) := by decide +kernel
theorem dX9_init_5 : decode cX9_init 5 = .ok (.sipush 200, 3) := by decide +kernel
theorem dX9_init_8 : decode cX9_init 8 = .ok (.newarray .int, 2) := by decide +kernel
theorem dX9_init_10 : decode cX9_init 10 = .ok (.putfield 9, 3) := by decide +kernel
theorem dX9_init_13 : decode cX9_init 13 = .ok (.aload_n 0, 1) := by decide +kernel
theorem dX9_init_14 : decode cX9_init 14 = .ok (.iconst 0, 1) := by decide +kernel
theorem dX9_init_15 : decode cX9_init 15 = .ok (.putfield 15, 3) := by decide +kernel
theorem dX9_init_18 : decode cX9_init 18 = .ok (.return_, 1) := by decide +kernel
theorem dX9_add_0 : decode cX9_add 0 = .ok (.aload_n 0, 1) := by decide +kernel
theorem dX9_add_1 : decode cX9_add 1 = .ok (.getfield 15, 3) := by decide +kernel
theorem dX9_add_4 : decode cX9_add 4 = .ok (.sipush 200, 3) := by decide +kernel
theorem dX9_add_7 : decode cX9_add 7 = .ok (.if_icmp .ge 23, 3) := by decide +kernel
theorem dX9_add_10 : decode cX9_add 10 = .ok (.aload_n 0, 1) := by decide +kernel
theorem dX9_add_11 : decode cX9_add 11 = .ok (.getfield 9, 3) := by decide +kernel
theorem dX9_add_14 : decode cX9_add 14 = .ok (.aload_n 0, 1) := by decide +kernel
theorem dX9_add_15 : decode cX9_add 15 = .ok (.getfield 15, 3) := by decide +kernel
theorem dX9_add_18 : decode cX9_add 18 = .ok (.iload_n 1, 1) := by decide +kernel
theorem dX9_add_19 : decode cX9_add 19 = .ok (.iastore, 1) := by decide +kernel
theorem dX9_add_20 : decode cX9_add 20 = .ok (.aload_n 0, 1) := by decide +kernel
theorem dX9_add_21 : decode cX9_add 21 = .ok (.dup, 1) := by decide +kernel
theorem dX9_add_22 : decode cX9_add 22 = .ok (.getfield 15, 3) := by decide +kernel
theorem dX9_add_25 : decode cX9_add 25 = .ok (.iconst 1, 1) := by decide +kernel
theorem dX9_add_26 : decode cX9_add 26 = .ok (.iadd, 1) := by decide +kernel
theorem dX9_add_27 : decode cX9_add 27 = .ok (.putfield 15, 3) := by decide +kernel
theorem dX9_add_30 : decode cX9_add 30 = .ok (.return_, 1) := by decide +kernel
theorem dX9_at_0 : decode cX9_at 0 = .ok (.iload_n 1, 1) := by decide +kernel
theorem dX9_at_1 : decode cX9_at 1 = .ok (.ifCond .lt 20, 3) := by decide +kernel
theorem dX9_at_4 : decode cX9_at 4 = .ok (.iload_n 1, 1) := by decide +kernel
theorem dX9_at_5 : decode cX9_at 5 = .ok (.aload_n 0, 1) := by decide +kernel
theorem dX9_at_6 : decode cX9_at 6 = .ok (.getfield 15, 3) := by decide +kernel
theorem dX9_at_9 : decode cX9_at 9 = .ok (.if_icmp .ge 12, 3) := by decide +kernel
theorem dX9_at_12 : decode cX9_at 12 = .ok (.aload_n 0, 1) := by decide +kernel
theorem dX9_at_13 : decode cX9_at 13 = .ok (.getfield 9, 3) := by decide +kernel
theorem dX9_at_16 : decode cX9_at 16 = .ok (.iload_n 1, 1) := by decide +kernel
theorem dX9_at_17 : decode cX9_at 17 = .ok (.iaload, 1) := by decide +kernel
theorem dX9_at_18 : decode cX9_at 18 = .ok (.goto 4, 3) := by decide +kernel
theorem dX9_at_21 : decode cX9_at 21 = .ok (.iconst (-1), 1) := by decide +kernel
theorem dX9_at_22 : decode cX9_at 22 = .ok (.ireturn, 1) := by decide +kernel
theorem dX10_init_0 : decode cX10_init 0 = .ok (.aload_n 0, 1) := by decide +kernel
theorem dX10_init_1 : decode cX10_init 1 = .ok (.invokespecial 1, 3) := by decide +kernel
theorem dX10_init_4 : decode cX10_init 4 = .ok (.aload_n 0, 1) := by decide +kernel
theorem dX10_init_5 : decode cX10_init 5 = .ok (.new 7, 3) := by decide +kernel
theorem dX10_init_8 : decode cX10_init 8 = .ok (.dup, 1) := by decide +kernel
theorem dX10_init_9 : decode cX10_init 9 = .ok (.invokespecial 9, 3) := by decide +kernel
theorem dX10_init_12 : decode cX10_init 12 = .ok (.putfield 10, 3) := by decide +kernel
theorem dX10_init_15 : decode cX10_init 15 = .ok (.aload_n 0, 1) := by decide +kernel
theorem dX10_init_16 : decode cX10_init 16 = .ok (.new 16, 3) := by decide +kernel
theorem dX10_init_19 : decode cX10_init 19 = .ok (.dup, 1) := by decide +kernel
theorem dX10_init_20 : decode cX10_init 20 = .ok (.invokespecial 18, 3) := by decide +kernel
theorem dX10_init_23 : decode cX10_init 23 = .ok (.putfield 19, 3) := by decide +kernel
theorem dX10_init_26 : decode cX10_init 26 = .ok (.aload_n 0, 1) := by decide +kernel
theorem dX10_init_27 : decode cX10_init 27 = .ok (.new 23, 3) := by decide +kernel
theorem dX10_init_30 : decode cX10_init 30 = .ok (.dup, 1) := by decide +kernel
theorem dX10_init_31 : decode cX10_init 31 = .ok (.aload_n 0, 1) := by decide +kernel
theorem dX10_init_32 : decode cX10_init 32 = .ok (.getfield 10, 3) := by decide +kernel
theorem dX10_init_35 : decode cX10_init 35 = .ok (.aload_n 0, 1) := by decide +kernel
theorem dX10_init_36 : decode cX10_init 36 = .ok (.getfield 19, 3) := by decide +kernel
theorem dX10_init_39 : decode cX10_init 39 = .ok (.invokespecial 25, 3) := by decide +kernel
theorem dX10_init_42 : decode cX10_init 42 = .ok (.putfield 28, 3) := by decide +kernel
theorem dX10_init_45 : decode cX10_init 45 = .ok (.aload_n 0, 1) := by decide +kernel
theorem dX10_init_46 : decode cX10_init 46 = .ok (.new 32, 3) := by decide +kernel
theorem dX10_init_49 : decode cX10_init 49 = .ok (.dup, 1) := by decide +kernel
theorem dX10_init_50 : decode cX10_init 50 = .ok (.invokespecial 34, 3) := by decide +kernel
theorem dX10_init_53 : decode cX10_init 53 = .ok (.putfield 35, 3) := by decide +kernel
theorem dX10_init_56 : decode cX10_init 56 = .ok (.aload_n 0, 1) := by decide +kernel
theorem dX10_init_57 : decode cX10_init 57 = .ok (.new 39, 3) := by decide +kernel
theorem dX10_init_60 : decode cX10_init 60 = .ok (.dup, 1) := by decide +kernel
theorem dX10_init_61 : decode cX10_init 61 = .ok (.invokespecial 41, 3) := by decide +kernel
theorem dX10_init_64 : decode cX10_init 64 = .ok (.putfield 42, 3) := by decide +kernel
theorem dX10_init_67 : decode cX10_init 67 = .ok (.aload_n 0, 1) := by decide +kernel
theorem dX10_init_68 : decode cX10_init 68 = .ok (.new 46, 3) := by decide +kernel
theorem dX10_init_71 : decode cX10_init 71 = .ok (.dup, 1) := by decide +kernel
theorem dX10_init_72 : decode cX10_init 72 = .ok (.invokespecial 48, 3) := by decide +kernel
theorem dX10_init_75 : decode cX10_init 75 = .ok (.putfield 49, 3) := by decide +kernel
theorem dX10_init_78 : decode cX10_init 78 = .ok (.aload_n 0, 1) := by decide +kernel
theorem dX10_init_79 : decode cX10_init 79 = .ok (.new 53, 3) := by decide +kernel
theorem dX10_init_82 : decode cX10_init 82 = .ok (.dup, 1) := by decide +kernel
theorem dX10_init_83 : decode cX10_init 83 = .ok (.invokespecial 55, 3) := by decide +kernel
theorem dX10_init_86 : decode cX10_init 86 = .ok (.putfield 56, 3) := by decide +kernel
theorem dX10_init_89 : decode cX10_init 89 = .ok (.aload_n 0, 1) := by decide +kernel
theorem dX10_init_90 : decode cX10_init 90 = .ok (.new 60, 3) := by decide +kernel
theorem dX10_init_93 : decode cX10_init 93 = .ok (.dup, 1) := by decide +kernel
theorem dX10_init_94 : decode cX10_init 94 = .ok (.invokespecial 62, 3) := by decide +kernel
theorem dX10_init_97 : decode cX10_init 97 = .ok (.putfield 63, 3) := by decide +kernel
theorem dX10_init_100 : decode cX10_init 100 = .ok (.aload_n 0, 1) := by decide +kernel
theorem dX10_init_101 : decode cX10_init 101 = .ok (.new 60, 3) := by decide +kernel
theorem dX10_init_104 : decode cX10_init 104 = .ok (.dup, 1) := by decide +kernel
theorem dX10_init_105 : decode cX10_init 105 = .ok (.invokespecial 62, 3) := by decide +kernel
theorem dX10_init_108 : decode cX10_init 108 = .ok (.putfield 67, 3) := by decide +kernel
theorem dX10_init_111 : decode cX10_init 111 = .ok (.aload_n 0, 1) := by decide +kernel
theorem dX10_init_112 : decode cX10_init 112 = .ok (.iconst 0, 1) := by decide +kernel
theorem dX10_init_113 : decode cX10_init 113 = .ok (.putfield 70, 3) := by decide +kernel
theorem dX10_init_116 : decode cX10_init 116 = .ok (.aload_n 0, 1) := by decide +kernel
theorem dX10_init_117 : decode cX10_init 117 = .ok (.iconst 0, 1) := by decide +kernel
theorem dX10_init_118 : decode cX10_init 118 = .ok (.putfield 74, 3) := by decide +kernel
theorem dX10_init_121 : decode cX10_init 121 = .ok (.aload_n 0, 1) := by decide +kernel
theorem dX10_init_122 : decode cX10_init 122 = .ok (.new 77, 3) := by decide +kernel
theorem dX10_init_125 : decode cX10_init 125 = .ok (.dup, 1) := by decide +kernel
theorem dX10_init_126 : decode cX10_init 126 = .ok (.invokespecial 79, 3) := by decide +kernel
theorem dX10_init_129 : decode cX10_init 129 = .ok (.putfield 80, 3) := by decide +kernel
theorem dX10_init_132 : decode cX10_init 132 = .ok (.aload_n 0, 1) := by decide +kernel
theorem dX10_init_133 : decode cX10_init 133 = .ok (.new 46, 3) := by decide +kernel
theorem dX10_init_136 : decode cX10_init 136 = .ok (.dup, 1) := by decide +kernel
theorem dX10_init_137 : decode cX10_init 137 = .ok (.invokespecial 48, 3) := by decide +kernel
theorem dX10_init_140 : decode cX10_init 140 = .ok (.putfield 84, 3) := by decide +kernel
theorem dX10_init_143 : decode cX10_init 143 = .ok (.aload_n 0, 1) := by decide +kernel
theorem dX10_init_144 : decode cX10_init 144 = .ok (.new 60, 3) := by decide +kernel
theorem dX10_init_147 : decode cX10_init 147 = .ok (.dup, 1) := by decide +kernel
theorem dX10_init_148 : decode cX10_init 148 = .ok (.invokespecial 62, 3) := by decide +kernel
theorem dX10_init_151 : decode cX10_init 151 = .ok (.putfield 87, 3) := by decide +kernel
theorem dX10_init_154 : decode cX10_init 154 = .ok (.return_, 1) := by decide +kernel
theorem dX10_append_0 : decode cX10_append 0 = .ok (.iload_n 1, 1) := by decide +kernel
theorem dX10_append_1 : decode cX10_append 1 = .ok (.ifCond .lt 9, 3) := by decide +kernel
theorem dX10_append_4 : decode cX10_append 4 = .ok (.iload_n 1, 1) := by decide +kernel
theorem dX10_append_5 : decode cX10_append 5 = .ok (.bipush 127, 2) := by decide +kernel
theorem dX10_append_7 : decode cX10_append 7 = .ok (.if_icmp .le 13, 3) := by decide +kernel
theorem dX10_append_10 : decode cX10_append 10 = .ok (.new 90, 3) := by decide +kernel
theorem dX10_append_13 : decode cX10_append 13 = .ok (.dup, 1) := by decide +kernel
theorem dX10_append_14 : decode cX10_append 14 = .ok (.ldc 92, 2) := by decide +kernel
theorem dX10_append_16 : decode cX10_append 16 = .ok (.invokespecial 94, 3) := by decide +kernel
theorem dX10_append_19 : decode cX10_append 19 = .ok (.athrow, 1) := by decide +kernel
theorem dX10_append_20 : decode cX10_append 20 = .ok (.aload_n 0, 1) := by decide +kernel
theorem dX10_append_21 : decode cX10_append 21 = .ok (.getfield 10, 3) := by decide +kernel
theorem dX10_append_24 : decode cX10_append 24 = .ok (.getfield 97, 3) := by decide +kernel
theorem dX10_append_27 : decode cX10_append 27 = .ok (.sipush 200, 3) := by decide +kernel
theorem dX10_append_30 : decode cX10_append 30 = .ok (.if_icmp .lt 13, 3) := by decide +kernel
theorem dX10_append_33 : decode cX10_append 33 = .ok (.new 101, 3) := by decide +kernel
theorem dX10_append_36 : decode cX10_append 36 = .ok (.dup, 1) := by decide +kernel
theorem dX10_append_37 : decode cX10_append 37 = .ok (.ldc 103, 2) := by decide +kernel
theorem dX10_append_39 : decode cX10_append 39 = .ok (.invokespecial 105, 3) := by decide +kernel
theorem dX10_append_42 : decode cX10_append 42 = .ok (.athrow, 1) := by decide +kernel
theorem dX10_append_43 : decode cX10_append 43 = .ok (.aload_n 0, 1) := by decide +kernel
theorem dX10_append_44 : decode cX10_append 44 = .ok (.getfield 10, 3) := by decide +kernel
theorem dX10_append_47 : decode cX10_append 47 = .ok (.iload_n 1, 1) := by decide +kernel
theorem dX10_append_48 : decode cX10_append 48 = .ok (.invokevirtual 106, 3) := by decide +kernel
theorem dX10_append_51 : decode cX10_append 51 = .ok (.aload_n 0, 1) := by decide +kernel
theorem dX10_append_52 : decode cX10_append 52 = .ok (.getfield 10, 3) := by decide +kernel
theorem dX10_append_55 : decode cX10_append 55 = .ok (.getfield 97, 3) := by decide +kernel
theorem dX10_append_58 : decode cX10_append 58 = .ok (.ireturn, 1) := by decide +kernel
theorem dX10_clearText_0 : decode cX10_clearText 0 = .ok (.aload_n 0, 1) := by decide +kernel
theorem dX10_clearText_1 : decode cX10_clearText 1 = .ok (.getfield 10, 3) := by decide +kernel
theorem dX10_clearText_4 : decode cX10_clearText 4 = .ok (.getfield 97, 3) := by decide +kernel
theorem dX10_clearText_7 : decode cX10_clearText 7 = .ok (.istore_n 1, 1) := by decide +kernel
theorem dX10_clearText_8 : decode cX10_clearText 8 = .ok (.aload_n 0, 1) := by decide +kernel
theorem dX10_clearText_9 : decode cX10_clearText 9 = .ok (.getfield 10, 3) := by decide +kernel
theorem dX10_clearText_12 : decode cX10_clearText 12 = .ok (.iconst 0, 1) := by decide +kernel
theorem dX10_clearText_13 : decode cX10_clearText 13 = .ok (.putfield 97, 3) := by decide +kernel
theorem dX10_clearText_16 : decode cX10_clearText 16 = .ok (.iload_n 1, 1) := by decide +kernel
theorem dX10_clearText_17 : decode cX10_clearText 17 = .ok (.ireturn, 1) := by decide +kernel
theorem dX10_parse_0 : decode cX10_parse 0 = .ok (.aload_n 0, 1) := by decide +kernel
theorem dX10_parse_1 : decode cX10_parse 1 = .ok (.getfield 28, 3) := by decide +kernel
theorem dX10_parse_4 : decode cX10_parse 4 = .ok (.invokevirtual 110, 3) := by decide +kernel
theorem dX10_parse_7 : decode cX10_parse 7 = .ok (.istore_n 1, 1) := by decide +kernel
theorem dX10_parse_8 : decode cX10_parse 8 = .ok (.iload_n 1, 1) := by decide +kernel
theorem dX10_parse_9 : decode cX10_parse 9 = .ok (.iconst (-1), 1) := by decide +kernel
theorem dX10_parse_10 : decode cX10_parse 10 = .ok (.if_icmp .eq 8, 3) := by decide +kernel
theorem dX10_parse_13 : decode cX10_parse 13 = .ok (.bipush (-10), 2) := by decide +kernel
theorem dX10_parse_15 : decode cX10_parse 15 = .ok (.iload_n 1, 1) := by decide +kernel
theorem dX10_parse_16 : decode cX10_parse 16 = .ok (.isub, 1) := by decide +kernel
theorem dX10_parse_17 : decode cX10_parse 17 = .ok (.ireturn, 1) := by decide +kernel
theorem dX10_parse_18 : decode cX10_parse 18 = .ok (.aload_n 0, 1) := by decide +kernel
theorem dX10_parse_19 : decode cX10_parse 19 = .ok (.invokevirtual 114, 3) := by decide +kernel
theorem dX10_parse_22 : decode cX10_parse 22 = .ok (.aload_n 0, 1) := by decide +kernel
theorem dX10_parse_23 : decode cX10_parse 23 = .ok (.getfield 35, 3) := by decide +kernel
theorem dX10_parse_26 : decode cX10_parse 26 = .ok (.getfield 117, 3) := by decide +kernel
theorem dX10_parse_29 : decode cX10_parse 29 = .ok (.aload_n 0, 1) := by decide +kernel
theorem dX10_parse_30 : decode cX10_parse 30 = .ok (.getfield 19, 3) := by decide +kernel
theorem dX10_parse_33 : decode cX10_parse 33 = .ok (.invokevirtual 120, 3) := by decide +kernel
theorem dX10_parse_36 : decode cX10_parse 36 = .ok (.aload_n 0, 1) := by decide +kernel
theorem dX10_parse_37 : decode cX10_parse 37 = .ok (.getfield 19, 3) := by decide +kernel
theorem dX10_parse_40 : decode cX10_parse 40 = .ok (.getfield 124, 3) := by decide +kernel
theorem dX10_parse_43 : decode cX10_parse 43 = .ok (.ireturn, 1) := by decide +kernel
theorem dX10_setRange_0 : decode cX10_setRange 0 = .ok (.iload_n 1, 1) := by decide +kernel
theorem dX10_setRange_1 : decode cX10_setRange 1 = .ok (.invokestatic 127, 3) := by decide +kernel
theorem dX10_setRange_4 : decode cX10_setRange 4 = .ok (.iload_n 2, 1) := by decide +kernel
theorem dX10_setRange_5 : decode cX10_setRange 5 = .ok (.iload_n 3, 1) := by decide +kernel
theorem dX10_setRange_6 : decode cX10_setRange 6 = .ok (.invokestatic 130, 3) := by decide +kernel
theorem dX10_setRange_9 : decode cX10_setRange 9 = .ok (.aload_n 0, 1) := by decide +kernel
theorem dX10_setRange_10 : decode cX10_setRange 10 = .ok (.invokevirtual 114, 3) := by decide +kernel
theorem dX10_setRange_13 : decode cX10_setRange 13 = .ok (.aload_n 0, 1) := by decide +kernel
theorem dX10_setRange_14 : decode cX10_setRange 14 = .ok (.getfield 35, 3) := by decide +kernel
theorem dX10_setRange_17 : decode cX10_setRange 17 = .ok (.getfield 134, 3) := by decide +kernel
theorem dX10_setRange_20 : decode cX10_setRange 20 = .ok (.iload_n 1, 1) := by decide +kernel
theorem dX10_setRange_21 : decode cX10_setRange 21 = .ok (.iload_n 2, 1) := by decide +kernel
theorem dX10_setRange_22 : decode cX10_setRange 22 = .ok (.iload_n 3, 1) := by decide +kernel
theorem dX10_setRange_23 : decode cX10_setRange 23 = .ok (.invokevirtual 137, 3) := by decide +kernel
theorem dX10_setRange_26 : decode cX10_setRange 26 = .ok (.ireturn, 1) := by decide +kernel
theorem dX10_setInput_0 : decode cX10_setInput 0 = .ok (.iload_n 1, 1) := by decide +kernel
theorem dX10_setInput_1 : decode cX10_setInput 1 = .ok (.invokestatic 127, 3) := by decide +kernel
theorem dX10_setInput_4 : decode cX10_setInput 4 = .ok (.aload_n 0, 1) := by decide +kernel
theorem dX10_setInput_5 : decode cX10_setInput 5 = .ok (.getfield 35, 3) := by decide +kernel
theorem dX10_setInput_8 : decode cX10_setInput 8 = .ok (.getfield 134, 3) := by decide +kernel
theorem dX10_setInput_11 : decode cX10_setInput 11 = .ok (.astore_n 3, 1) := by decide +kernel
theorem dX10_setInput_12 : decode cX10_setInput 12 = .ok (.iload_n 2, 1) := by decide +kernel
theorem dX10_setInput_13 : decode cX10_setInput 13 = .ok (.aload_n 3, 1) := by decide +kernel
theorem dX10_setInput_14 : decode cX10_setInput 14 = .ok (.getfield 141, 3) := by decide +kernel
theorem dX10_setInput_17 : decode cX10_setInput 17 = .ok (.iload_n 1, 1) := by decide +kernel
theorem dX10_setInput_18 : decode cX10_setInput 18 = .ok (.iaload, 1) := by decide +kernel
theorem dX10_setInput_19 : decode cX10_setInput 19 = .ok (.if_icmp .lt 13, 3) := by decide +kernel
theorem dX10_setInput_22 : decode cX10_setInput 22 = .ok (.iload_n 2, 1) := by decide +kernel
theorem dX10_setInput_23 : decode cX10_setInput 23 = .ok (.aload_n 3, 1) := by decide +kernel
theorem dX10_setInput_24 : decode cX10_setInput 24 = .ok (.getfield 145, 3) := by decide +kernel
theorem dX10_setInput_27 : decode cX10_setInput 27 = .ok (.iload_n 1, 1) := by decide +kernel
theorem dX10_setInput_28 : decode cX10_setInput 28 = .ok (.iaload, 1) := by decide +kernel
theorem dX10_setInput_29 : decode cX10_setInput 29 = .ok (.if_icmp .le 13, 3) := by decide +kernel
theorem dX10_setInput_32 : decode cX10_setInput 32 = .ok (.new 90, 3) := by decide +kernel
theorem dX10_setInput_35 : decode cX10_setInput 35 = .ok (.dup, 1) := by decide +kernel
theorem dX10_setInput_36 : decode cX10_setInput 36 = .ok (.ldc 148, 2) := by decide +kernel
theorem dX10_setInput_38 : decode cX10_setInput 38 = .ok (.invokespecial 94, 3) := by decide +kernel
theorem dX10_setInput_41 : decode cX10_setInput 41 = .ok (.athrow, 1) := by decide +kernel
theorem dX10_setInput_42 : decode cX10_setInput 42 = .ok (.aload_n 0, 1) := by decide +kernel
theorem dX10_setInput_43 : decode cX10_setInput 43 = .ok (.invokevirtual 114, 3) := by decide +kernel
theorem dX10_setInput_46 : decode cX10_setInput 46 = .ok (.aload_n 3, 1) := by decide +kernel
theorem dX10_setInput_47 : decode cX10_setInput 47 = .ok (.getfield 150, 3) := by decide +kernel
theorem dX10_setInput_50 : decode cX10_setInput 50 = .ok (.iload_n 1, 1) := by decide +kernel
theorem dX10_setInput_51 : decode cX10_setInput 51 = .ok (.iaload, 1) := by decide +kernel
theorem dX10_setInput_52 : decode cX10_setInput 52 = .ok (.istore 4, 2) := by decide +kernel
theorem dX10_setInput_54 : decode cX10_setInput 54 = .ok (.aload_n 3, 1) := by decide +kernel
theorem dX10_setInput_55 : decode cX10_setInput 55 = .ok (.getfield 150, 3) := by decide +kernel
theorem dX10_setInput_58 : decode cX10_setInput 58 = .ok (.iload_n 1, 1) := by decide +kernel
theorem dX10_setInput_59 : decode cX10_setInput 59 = .ok (.iload_n 2, 1) := by decide +kernel
theorem dX10_setInput_60 : decode cX10_setInput 60 = .ok (.iastore, 1) := by decide +kernel
theorem dX10_setInput_61 : decode cX10_setInput 61 = .ok (.iload 4, 2) := by decide +kernel
theorem dX10_setInput_63 : decode cX10_setInput 63 = .ok (.ireturn, 1) := by decide +kernel
theorem dX10_input_0 : decode cX10_input 0 = .ok (.iload_n 1, 1) := by decide +kernel
theorem dX10_input_1 : decode cX10_input 1 = .ok (.invokestatic 127, 3) := by decide +kernel
theorem dX10_input_4 : decode cX10_input 4 = .ok (.iload_n 2, 1) := by decide +kernel
theorem dX10_input_5 : decode cX10_input 5 = .ok (.tableswitch 66 0 2 #[27, 40, 53], 27) := by decide +kernel
theorem dX10_input_32 : decode cX10_input 32 = .ok (.aload_n 0, 1) := by decide +kernel
theorem dX10_input_33 : decode cX10_input 33 = .ok (.getfield 35, 3) := by decide +kernel
theorem dX10_input_36 : decode cX10_input 36 = .ok (.getfield 134, 3) := by decide +kernel
theorem dX10_input_39 : decode cX10_input 39 = .ok (.getfield 141, 3) := by decide +kernel
theorem dX10_input_42 : decode cX10_input 42 = .ok (.iload_n 1, 1) := by decide +kernel
theorem dX10_input_43 : decode cX10_input 43 = .ok (.iaload, 1) := by decide +kernel
theorem dX10_input_44 : decode cX10_input 44 = .ok (.ireturn, 1) := by decide +kernel
theorem dX10_input_45 : decode cX10_input 45 = .ok (.aload_n 0, 1) := by decide +kernel
theorem dX10_input_46 : decode cX10_input 46 = .ok (.getfield 35, 3) := by decide +kernel
theorem dX10_input_49 : decode cX10_input 49 = .ok (.getfield 134, 3) := by decide +kernel
theorem dX10_input_52 : decode cX10_input 52 = .ok (.getfield 145, 3) := by decide +kernel
theorem dX10_input_55 : decode cX10_input 55 = .ok (.iload_n 1, 1) := by decide +kernel
theorem dX10_input_56 : decode cX10_input 56 = .ok (.iaload, 1) := by decide +kernel
theorem dX10_input_57 : decode cX10_input 57 = .ok (.ireturn, 1) := by decide +kernel
theorem dX10_input_58 : decode cX10_input 58 = .ok (.aload_n 0, 1) := by decide +kernel
theorem dX10_input_59 : decode cX10_input 59 = .ok (.getfield 35, 3) := by decide +kernel
theorem dX10_input_62 : decode cX10_input 62 = .ok (.getfield 134, 3) := by decide +kernel
theorem dX10_input_65 : decode cX10_input 65 = .ok (.getfield 150, 3) := by decide +kernel
theorem dX10_input_68 : decode cX10_input 68 = .ok (.iload_n 1, 1) := by decide +kernel
theorem dX10_input_69 : decode cX10_input 69 = .ok (.iaload, 1) := by decide +kernel
theorem dX10_input_70 : decode cX10_input 70 = .ok (.ireturn, 1) := by decide +kernel
theorem dX10_input_71 : decode cX10_input 71 = .ok (.new 90, 3) := by decide +kernel
theorem dX10_input_74 : decode cX10_input 74 = .ok (.dup, 1) := by decide +kernel
theorem dX10_input_75 : decode cX10_input 75 = .ok (.ldc 153, 2) := by decide +kernel
theorem dX10_input_77 : decode cX10_input 77 = .ok (.invokespecial 94, 3) := by decide +kernel
theorem dX10_input_80 : decode cX10_input 80 = .ok (.athrow, 1) := by decide +kernel
theorem dX10_remove_0 : decode cX10_remove 0 = .ok (.aload_n 0, 1) := by decide +kernel
theorem dX10_remove_1 : decode cX10_remove 1 = .ok (.iload_n 1, 1) := by decide +kernel
theorem dX10_remove_2 : decode cX10_remove 2 = .ok (.invokevirtual 155, 3) := by decide +kernel
theorem dX10_remove_5 : decode cX10_remove 5 = .ok (.aload_n 0, 1) := by decide +kernel
theorem dX10_remove_6 : decode cX10_remove 6 = .ok (.iload_n 1, 1) := by decide +kernel
theorem dX10_remove_7 : decode cX10_remove 7 = .ok (.invokevirtual 158, 3) := by decide +kernel
theorem dX10_remove_10 : decode cX10_remove 10 = .ok (.aload_n 0, 1) := by decide +kernel
theorem dX10_remove_11 : decode cX10_remove 11 = .ok (.invokevirtual 114, 3) := by decide +kernel
theorem dX10_remove_14 : decode cX10_remove 14 = .ok (.aload_n 0, 1) := by decide +kernel
theorem dX10_remove_15 : decode cX10_remove 15 = .ok (.getfield 35, 3) := by decide +kernel
theorem dX10_remove_18 : decode cX10_remove 18 = .ok (.getfield 117, 3) := by decide +kernel
theorem dX10_remove_21 : decode cX10_remove 21 = .ok (.iload_n 1, 1) := by decide +kernel
theorem dX10_remove_22 : decode cX10_remove 22 = .ok (.invokevirtual 161, 3) := by decide +kernel
theorem dX10_remove_25 : decode cX10_remove 25 = .ok (.aload_n 0, 1) := by decide +kernel
theorem dX10_remove_26 : decode cX10_remove 26 = .ok (.getfield 35, 3) := by decide +kernel
theorem dX10_remove_29 : decode cX10_remove 29 = .ok (.getfield 117, 3) := by decide +kernel
theorem dX10_remove_32 : decode cX10_remove 32 = .ok (.getfield 124, 3) := by decide +kernel
theorem dX10_remove_35 : decode cX10_remove 35 = .ok (.ireturn, 1) := by decide +kernel
theorem dX10_instructions_0 : decode cX10_instructions 0 = .ok (.aload_n 0, 1) := by decide +kernel
theorem dX10_instructions_1 : decode cX10_instructions 1 = .ok (.getfield 35, 3) := by decide +kernel
theorem dX10_instructions_4 : decode cX10_instructions 4 = .ok (.getfield 117, 3) := by decide +kernel
theorem dX10_instructions_7 : decode cX10_instructions 7 = .ok (.getfield 124, 3) := by decide +kernel
theorem dX10_instructions_10 : decode cX10_instructions 10 = .ok (.ireturn, 1) := by decide +kernel
theorem dX10_instruction_0 : decode cX10_instruction 0 = .ok (.aload_n 0, 1) := by decide +kernel
theorem dX10_instruction_1 : decode cX10_instruction 1 = .ok (.iload_n 1, 1) := by decide +kernel
theorem dX10_instruction_2 : decode cX10_instruction 2 = .ok (.invokevirtual 155, 3) := by decide +kernel
theorem dX10_instruction_5 : decode cX10_instruction 5 = .ok (.iload_n 2, 1) := by decide +kernel
theorem dX10_instruction_6 : decode cX10_instruction 6 = .ok (.tableswitch 82 0 3 #[30, 43, 56, 69], 30) := by decide +kernel
theorem dX10_instruction_36 : decode cX10_instruction 36 = .ok (.aload_n 0, 1) := by decide +kernel
theorem dX10_instruction_37 : decode cX10_instruction 37 = .ok (.getfield 35, 3) := by decide +kernel
theorem dX10_instruction_40 : decode cX10_instruction 40 = .ok (.getfield 117, 3) := by decide +kernel
theorem dX10_instruction_43 : decode cX10_instruction 43 = .ok (.getfield 164, 3) := by decide +kernel
theorem dX10_instruction_46 : decode cX10_instruction 46 = .ok (.iload_n 1, 1) := by decide +kernel
theorem dX10_instruction_47 : decode cX10_instruction 47 = .ok (.iaload, 1) := by decide +kernel
theorem dX10_instruction_48 : decode cX10_instruction 48 = .ok (.ireturn, 1) := by decide +kernel
theorem dX10_instruction_49 : decode cX10_instruction 49 = .ok (.aload_n 0, 1) := by decide +kernel
theorem dX10_instruction_50 : decode cX10_instruction 50 = .ok (.getfield 35, 3) := by decide +kernel
theorem dX10_instruction_53 : decode cX10_instruction 53 = .ok (.getfield 117, 3) := by decide +kernel
theorem dX10_instruction_56 : decode cX10_instruction 56 = .ok (.getfield 167, 3) := by decide +kernel
theorem dX10_instruction_59 : decode cX10_instruction 59 = .ok (.iload_n 1, 1) := by decide +kernel
theorem dX10_instruction_60 : decode cX10_instruction 60 = .ok (.iaload, 1) := by decide +kernel
theorem dX10_instruction_61 : decode cX10_instruction 61 = .ok (.ireturn, 1) := by decide +kernel
theorem dX10_instruction_62 : decode cX10_instruction 62 = .ok (.aload_n 0, 1) := by decide +kernel
theorem dX10_instruction_63 : decode cX10_instruction 63 = .ok (.getfield 35, 3) := by decide +kernel
theorem dX10_instruction_66 : decode cX10_instruction 66 = .ok (.getfield 117, 3) := by decide +kernel
theorem dX10_instruction_69 : decode cX10_instruction 69 = .ok (.getfield 170, 3) := by decide +kernel
theorem dX10_instruction_72 : decode cX10_instruction 72 = .ok (.iload_n 1, 1) := by decide +kernel
theorem dX10_instruction_73 : decode cX10_instruction 73 = .ok (.iaload, 1) := by decide +kernel
theorem dX10_instruction_74 : decode cX10_instruction 74 = .ok (.ireturn, 1) := by decide +kernel
theorem dX10_instruction_75 : decode cX10_instruction 75 = .ok (.aload_n 0, 1) := by decide +kernel
theorem dX10_instruction_76 : decode cX10_instruction 76 = .ok (.getfield 35, 3) := by decide +kernel
theorem dX10_instruction_79 : decode cX10_instruction 79 = .ok (.getfield 117, 3) := by decide +kernel
theorem dX10_instruction_82 : decode cX10_instruction 82 = .ok (.getfield 173, 3) := by decide +kernel
theorem dX10_instruction_85 : decode cX10_instruction 85 = .ok (.iload_n 1, 1) := by decide +kernel
theorem dX10_instruction_86 : decode cX10_instruction 86 = .ok (.iaload, 1) := by decide +kernel
theorem dX10_instruction_87 : decode cX10_instruction 87 = .ok (.ireturn, 1) := by decide +kernel
theorem dX10_instruction_88 : decode cX10_instruction 88 = .ok (.new 90, 3) := by decide +kernel
theorem dX10_instruction_91 : decode cX10_instruction 91 = .ok (.dup, 1) := by decide +kernel
theorem dX10_instruction_92 : decode cX10_instruction 92 = .ok (.ldc 176, 2) := by decide +kernel
theorem dX10_instruction_94 : decode cX10_instruction 94 = .ok (.invokespecial 94, 3) := by decide +kernel
theorem dX10_instruction_97 : decode cX10_instruction 97 = .ok (.athrow, 1) := by decide +kernel
theorem dX10_operand_0 : decode cX10_operand 0 = .ok (.aload_n 0, 1) := by decide +kernel
theorem dX10_operand_1 : decode cX10_operand 1 = .ok (.iload_n 1, 1) := by decide +kernel
theorem dX10_operand_2 : decode cX10_operand 2 = .ok (.invokevirtual 155, 3) := by decide +kernel
theorem dX10_operand_5 : decode cX10_operand 5 = .ok (.aload_n 0, 1) := by decide +kernel
theorem dX10_operand_6 : decode cX10_operand 6 = .ok (.getfield 35, 3) := by decide +kernel
theorem dX10_operand_9 : decode cX10_operand 9 = .ok (.getfield 117, 3) := by decide +kernel
theorem dX10_operand_12 : decode cX10_operand 12 = .ok (.astore_n 3, 1) := by decide +kernel
theorem dX10_operand_13 : decode cX10_operand 13 = .ok (.iload_n 2, 1) := by decide +kernel
theorem dX10_operand_14 : decode cX10_operand 14 = .ok (.ifCond .eq 12, 3) := by decide +kernel
theorem dX10_operand_17 : decode cX10_operand 17 = .ok (.aload_n 3, 1) := by decide +kernel
theorem dX10_operand_18 : decode cX10_operand 18 = .ok (.getfield 178, 3) := by decide +kernel
theorem dX10_operand_21 : decode cX10_operand 21 = .ok (.iload_n 1, 1) := by decide +kernel
theorem dX10_operand_22 : decode cX10_operand 22 = .ok (.iaload, 1) := by decide +kernel
theorem dX10_operand_23 : decode cX10_operand 23 = .ok (.goto 9, 3) := by decide +kernel
theorem dX10_operand_26 : decode cX10_operand 26 = .ok (.aload_n 3, 1) := by decide +kernel
theorem dX10_operand_27 : decode cX10_operand 27 = .ok (.getfield 181, 3) := by decide +kernel
theorem dX10_operand_30 : decode cX10_operand 30 = .ok (.iload_n 1, 1) := by decide +kernel
theorem dX10_operand_31 : decode cX10_operand 31 = .ok (.iaload, 1) := by decide +kernel
theorem dX10_operand_32 : decode cX10_operand 32 = .ok (.ireturn, 1) := by decide +kernel
theorem dX10_state_0 : decode cX10_state 0 = .ok (.aload_n 0, 1) := by decide +kernel
theorem dX10_state_1 : decode cX10_state 1 = .ok (.iload_n 1, 1) := by decide +kernel
theorem dX10_state_2 : decode cX10_state 2 = .ok (.invokevirtual 155, 3) := by decide +kernel
theorem dX10_state_5 : decode cX10_state 5 = .ok (.aload_n 0, 1) := by decide +kernel
theorem dX10_state_6 : decode cX10_state 6 = .ok (.invokevirtual 184, 3) := by decide +kernel
theorem dX10_state_9 : decode cX10_state 9 = .ok (.aload_n 0, 1) := by decide +kernel
theorem dX10_state_10 : decode cX10_state 10 = .ok (.getfield 56, 3) := by decide +kernel
theorem dX10_state_13 : decode cX10_state 13 = .ok (.getfield 187, 3) := by decide +kernel
theorem dX10_state_16 : decode cX10_state 16 = .ok (.iload_n 1, 1) := by decide +kernel
theorem dX10_state_17 : decode cX10_state 17 = .ok (.iaload, 1) := by decide +kernel
theorem dX10_state_18 : decode cX10_state 18 = .ok (.ireturn, 1) := by decide +kernel
theorem dX10_states_0 : decode cX10_states 0 = .ok (.iload_n 1, 1) := by decide +kernel
theorem dX10_states_1 : decode cX10_states 1 = .ok (.ifCond .lt 8, 3) := by decide +kernel
theorem dX10_states_4 : decode cX10_states 4 = .ok (.iload_n 1, 1) := by decide +kernel
theorem dX10_states_5 : decode cX10_states 5 = .ok (.iconst 4, 1) := by decide +kernel
theorem dX10_states_6 : decode cX10_states 6 = .ok (.if_icmp .le 13, 3) := by decide +kernel
theorem dX10_states_9 : decode cX10_states 9 = .ok (.new 90, 3) := by decide +kernel
theorem dX10_states_12 : decode cX10_states 12 = .ok (.dup, 1) := by decide +kernel
theorem dX10_states_13 : decode cX10_states 13 = .ok (.ldc 190, 2) := by decide +kernel
theorem dX10_states_15 : decode cX10_states 15 = .ok (.invokespecial 94, 3) := by decide +kernel
theorem dX10_states_18 : decode cX10_states 18 = .ok (.athrow, 1) := by decide +kernel
theorem dX10_states_19 : decode cX10_states 19 = .ok (.aload_n 0, 1) := by decide +kernel
theorem dX10_states_20 : decode cX10_states 20 = .ok (.invokevirtual 184, 3) := by decide +kernel
theorem dX10_states_23 : decode cX10_states 23 = .ok (.iconst 0, 1) := by decide +kernel
theorem dX10_states_24 : decode cX10_states 24 = .ok (.istore_n 2, 1) := by decide +kernel
theorem dX10_states_25 : decode cX10_states 25 = .ok (.iconst 0, 1) := by decide +kernel
theorem dX10_states_26 : decode cX10_states 26 = .ok (.istore_n 3, 1) := by decide +kernel
theorem dX10_states_27 : decode cX10_states 27 = .ok (.iload_n 3, 1) := by decide +kernel
theorem dX10_states_28 : decode cX10_states 28 = .ok (.aload_n 0, 1) := by decide +kernel
theorem dX10_states_29 : decode cX10_states 29 = .ok (.getfield 35, 3) := by decide +kernel
theorem dX10_states_32 : decode cX10_states 32 = .ok (.getfield 117, 3) := by decide +kernel
theorem dX10_states_35 : decode cX10_states 35 = .ok (.getfield 124, 3) := by decide +kernel
theorem dX10_states_38 : decode cX10_states 38 = .ok (.if_icmp .ge 25, 3) := by decide +kernel
theorem dX10_states_41 : decode cX10_states 41 = .ok (.aload_n 0, 1) := by decide +kernel
theorem dX10_states_42 : decode cX10_states 42 = .ok (.getfield 56, 3) := by decide +kernel
theorem dX10_states_45 : decode cX10_states 45 = .ok (.getfield 187, 3) := by decide +kernel
theorem dX10_states_48 : decode cX10_states 48 = .ok (.iload_n 3, 1) := by decide +kernel
theorem dX10_states_49 : decode cX10_states 49 = .ok (.iaload, 1) := by decide +kernel
theorem dX10_states_50 : decode cX10_states 50 = .ok (.iload_n 1, 1) := by decide +kernel
theorem dX10_states_51 : decode cX10_states 51 = .ok (.if_icmp .ne 6, 3) := by decide +kernel
theorem dX10_states_54 : decode cX10_states 54 = .ok (.iinc 2 1, 3) := by decide +kernel
theorem dX10_states_57 : decode cX10_states 57 = .ok (.iinc 3 1, 3) := by decide +kernel
theorem dX10_states_60 : decode cX10_states 60 = .ok (.goto (-33), 3) := by decide +kernel
theorem dX10_states_63 : decode cX10_states 63 = .ok (.iload_n 2, 1) := by decide +kernel
theorem dX10_states_64 : decode cX10_states 64 = .ok (.ireturn, 1) := by decide +kernel
theorem dX10_coveredBy_0 : decode cX10_coveredBy 0 = .ok (.aload_n 0, 1) := by decide +kernel
theorem dX10_coveredBy_1 : decode cX10_coveredBy 1 = .ok (.iload_n 1, 1) := by decide +kernel
theorem dX10_coveredBy_2 : decode cX10_coveredBy 2 = .ok (.invokevirtual 155, 3) := by decide +kernel
theorem dX10_coveredBy_5 : decode cX10_coveredBy 5 = .ok (.aload_n 0, 1) := by decide +kernel
theorem dX10_coveredBy_6 : decode cX10_coveredBy 6 = .ok (.invokevirtual 184, 3) := by decide +kernel
theorem dX10_coveredBy_9 : decode cX10_coveredBy 9 = .ok (.aload_n 0, 1) := by decide +kernel
theorem dX10_coveredBy_10 : decode cX10_coveredBy 10 = .ok (.getfield 56, 3) := by decide +kernel
theorem dX10_coveredBy_13 : decode cX10_coveredBy 13 = .ok (.getfield 192, 3) := by decide +kernel
theorem dX10_coveredBy_16 : decode cX10_coveredBy 16 = .ok (.iload_n 1, 1) := by decide +kernel
theorem dX10_coveredBy_17 : decode cX10_coveredBy 17 = .ok (.iaload, 1) := by decide +kernel
theorem dX10_coveredBy_18 : decode cX10_coveredBy 18 = .ok (.ireturn, 1) := by decide +kernel
theorem dX10_range_0 : decode cX10_range 0 = .ok (.aload_n 0, 1) := by decide +kernel
theorem dX10_range_1 : decode cX10_range 1 = .ok (.iload_n 1, 1) := by decide +kernel
theorem dX10_range_2 : decode cX10_range 2 = .ok (.invokevirtual 155, 3) := by decide +kernel
theorem dX10_range_5 : decode cX10_range 5 = .ok (.aload_n 0, 1) := by decide +kernel
theorem dX10_range_6 : decode cX10_range 6 = .ok (.iload_n 1, 1) := by decide +kernel
theorem dX10_range_7 : decode cX10_range 7 = .ok (.invokevirtual 158, 3) := by decide +kernel
theorem dX10_range_10 : decode cX10_range 10 = .ok (.aload_n 0, 1) := by decide +kernel
theorem dX10_range_11 : decode cX10_range 11 = .ok (.invokevirtual 184, 3) := by decide +kernel
theorem dX10_range_14 : decode cX10_range 14 = .ok (.iload_n 2, 1) := by decide +kernel
theorem dX10_range_15 : decode cX10_range 15 = .ok (.ifCond .eq 15, 3) := by decide +kernel
theorem dX10_range_18 : decode cX10_range 18 = .ok (.aload_n 0, 1) := by decide +kernel
theorem dX10_range_19 : decode cX10_range 19 = .ok (.getfield 49, 3) := by decide +kernel
theorem dX10_range_22 : decode cX10_range 22 = .ok (.getfield 195, 3) := by decide +kernel
theorem dX10_range_25 : decode cX10_range 25 = .ok (.iload_n 1, 1) := by decide +kernel
theorem dX10_range_26 : decode cX10_range 26 = .ok (.laload, 1) := by decide +kernel
theorem dX10_range_27 : decode cX10_range 27 = .ok (.goto 12, 3) := by decide +kernel
theorem dX10_range_30 : decode cX10_range 30 = .ok (.aload_n 0, 1) := by decide +kernel
theorem dX10_range_31 : decode cX10_range 31 = .ok (.getfield 49, 3) := by decide +kernel
theorem dX10_range_34 : decode cX10_range 34 = .ok (.getfield 199, 3) := by decide +kernel
theorem dX10_range_37 : decode cX10_range 37 = .ok (.iload_n 1, 1) := by decide +kernel
theorem dX10_range_38 : decode cX10_range 38 = .ok (.laload, 1) := by decide +kernel
theorem dX10_range_39 : decode cX10_range 39 = .ok (.lreturn, 1) := by decide +kernel
theorem dX10_finalRange_0 : decode cX10_finalRange 0 = .ok (.iload_n 1, 1) := by decide +kernel
theorem dX10_finalRange_1 : decode cX10_finalRange 1 = .ok (.invokestatic 127, 3) := by decide +kernel
theorem dX10_finalRange_4 : decode cX10_finalRange 4 = .ok (.aload_n 0, 1) := by decide +kernel
theorem dX10_finalRange_5 : decode cX10_finalRange 5 = .ok (.invokevirtual 184, 3) := by decide +kernel
theorem dX10_finalRange_8 : decode cX10_finalRange 8 = .ok (.iload_n 2, 1) := by decide +kernel
theorem dX10_finalRange_9 : decode cX10_finalRange 9 = .ok (.ifCond .eq 14, 3) := by decide +kernel
theorem dX10_finalRange_12 : decode cX10_finalRange 12 = .ok (.aload_n 0, 1) := by decide +kernel
theorem dX10_finalRange_13 : decode cX10_finalRange 13 = .ok (.getfield 49, 3) := by decide +kernel
theorem dX10_finalRange_16 : decode cX10_finalRange 16 = .ok (.iload_n 1, 1) := by decide +kernel
theorem dX10_finalRange_17 : decode cX10_finalRange 17 = .ok (.invokevirtual 202, 3) := by decide +kernel
theorem dX10_finalRange_20 : decode cX10_finalRange 20 = .ok (.goto 11, 3) := by decide +kernel
theorem dX10_finalRange_23 : decode cX10_finalRange 23 = .ok (.aload_n 0, 1) := by decide +kernel
theorem dX10_finalRange_24 : decode cX10_finalRange 24 = .ok (.getfield 49, 3) := by decide +kernel
theorem dX10_finalRange_27 : decode cX10_finalRange 27 = .ok (.iload_n 1, 1) := by decide +kernel
theorem dX10_finalRange_28 : decode cX10_finalRange 28 = .ok (.invokevirtual 206, 3) := by decide +kernel
theorem dX10_finalRange_31 : decode cX10_finalRange 31 = .ok (.ireturn, 1) := by decide +kernel
theorem dX10_completes_0 : decode cX10_completes 0 = .ok (.aload_n 0, 1) := by decide +kernel
theorem dX10_completes_1 : decode cX10_completes 1 = .ok (.invokevirtual 184, 3) := by decide +kernel
theorem dX10_completes_4 : decode cX10_completes 4 = .ok (.aload_n 0, 1) := by decide +kernel
theorem dX10_completes_5 : decode cX10_completes 5 = .ok (.getfield 49, 3) := by decide +kernel
theorem dX10_completes_8 : decode cX10_completes 8 = .ok (.getfield 209, 3) := by decide +kernel
theorem dX10_completes_11 : decode cX10_completes 11 = .ok (.ifCond .ne 7, 3) := by decide +kernel
theorem dX10_completes_14 : decode cX10_completes 14 = .ok (.iconst 1, 1) := by decide +kernel
theorem dX10_completes_15 : decode cX10_completes 15 = .ok (.goto 4, 3) := by decide +kernel
theorem dX10_completes_18 : decode cX10_completes 18 = .ok (.iconst 0, 1) := by decide +kernel
theorem dX10_completes_19 : decode cX10_completes 19 = .ok (.ireturn, 1) := by decide +kernel
theorem dX10_failure_0 : decode cX10_failure 0 = .ok (.aload_n 0, 1) := by decide +kernel
theorem dX10_failure_1 : decode cX10_failure 1 = .ok (.invokevirtual 212, 3) := by decide +kernel
theorem dX10_failure_4 : decode cX10_failure 4 = .ok (.aload_n 0, 1) := by decide +kernel
theorem dX10_failure_5 : decode cX10_failure 5 = .ok (.iload_n 1, 1) := by decide +kernel
theorem dX10_failure_6 : decode cX10_failure 6 = .ok (.invokevirtual 215, 3) := by decide +kernel
theorem dX10_failure_9 : decode cX10_failure 9 = .ok (.getfield 219, 3) := by decide +kernel
theorem dX10_failure_12 : decode cX10_failure 12 = .ok (.ireturn, 1) := by decide +kernel
theorem dX10_result_0 : decode cX10_result 0 = .ok (.iload_n 1, 1) := by decide +kernel
theorem dX10_result_1 : decode cX10_result 1 = .ok (.invokestatic 127, 3) := by decide +kernel
theorem dX10_result_4 : decode cX10_result 4 = .ok (.aload_n 0, 1) := by decide +kernel
theorem dX10_result_5 : decode cX10_result 5 = .ok (.invokevirtual 212, 3) := by decide +kernel
theorem dX10_result_8 : decode cX10_result 8 = .ok (.aload_n 0, 1) := by decide +kernel
theorem dX10_result_9 : decode cX10_result 9 = .ok (.iload_n 2, 1) := by decide +kernel
theorem dX10_result_10 : decode cX10_result 10 = .ok (.invokevirtual 215, 3) := by decide +kernel
theorem dX10_result_13 : decode cX10_result 13 = .ok (.getfield 222, 3) := by decide +kernel
theorem dX10_result_16 : decode cX10_result 16 = .ok (.iload_n 1, 1) := by decide +kernel
theorem dX10_result_17 : decode cX10_result 17 = .ok (.laload, 1) := by decide +kernel
theorem dX10_result_18 : decode cX10_result 18 = .ok (.l2i, 1) := by decide +kernel
theorem dX10_result_19 : decode cX10_result 19 = .ok (.ireturn, 1) := by decide +kernel
theorem dX10_checks_0 : decode cX10_checks 0 = .ok (.aload_n 0, 1) := by decide +kernel
theorem dX10_checks_1 : decode cX10_checks 1 = .ok (.invokevirtual 212, 3) := by decide +kernel
theorem dX10_checks_4 : decode cX10_checks 4 = .ok (.iload_n 1, 1) := by decide +kernel
theorem dX10_checks_5 : decode cX10_checks 5 = .ok (.ifCond .eq 13, 3) := by decide +kernel
theorem dX10_checks_8 : decode cX10_checks 8 = .ok (.aload_n 0, 1) := by decide +kernel
theorem dX10_checks_9 : decode cX10_checks 9 = .ok (.getfield 67, 3) := by decide +kernel
theorem dX10_checks_12 : decode cX10_checks 12 = .ok (.getfield 225, 3) := by decide +kernel
theorem dX10_checks_15 : decode cX10_checks 15 = .ok (.goto 10, 3) := by decide +kernel
theorem dX10_checks_18 : decode cX10_checks 18 = .ok (.aload_n 0, 1) := by decide +kernel
theorem dX10_checks_19 : decode cX10_checks 19 = .ok (.getfield 63, 3) := by decide +kernel
theorem dX10_checks_22 : decode cX10_checks 22 = .ok (.getfield 225, 3) := by decide +kernel
theorem dX10_checks_25 : decode cX10_checks 25 = .ok (.ireturn, 1) := by decide +kernel
theorem dX10_executed_0 : decode cX10_executed 0 = .ok (.aload_n 0, 1) := by decide +kernel
theorem dX10_executed_1 : decode cX10_executed 1 = .ok (.invokevirtual 212, 3) := by decide +kernel
theorem dX10_executed_4 : decode cX10_executed 4 = .ok (.aload_n 0, 1) := by decide +kernel
theorem dX10_executed_5 : decode cX10_executed 5 = .ok (.getfield 63, 3) := by decide +kernel
theorem dX10_executed_8 : decode cX10_executed 8 = .ok (.getfield 228, 3) := by decide +kernel
theorem dX10_executed_11 : decode cX10_executed 11 = .ok (.ireturn, 1) := by decide +kernel
theorem dX10_saving_0 : decode cX10_saving 0 = .ok (.aload_n 0, 1) := by decide +kernel
theorem dX10_saving_1 : decode cX10_saving 1 = .ok (.invokevirtual 212, 3) := by decide +kernel
theorem dX10_saving_4 : decode cX10_saving 4 = .ok (.aload_n 0, 1) := by decide +kernel
theorem dX10_saving_5 : decode cX10_saving 5 = .ok (.getfield 63, 3) := by decide +kernel
theorem dX10_saving_8 : decode cX10_saving 8 = .ok (.getfield 225, 3) := by decide +kernel
theorem dX10_saving_11 : decode cX10_saving 11 = .ok (.ifCond .ne 5, 3) := by decide +kernel
theorem dX10_saving_14 : decode cX10_saving 14 = .ok (.dconst 0, 1) := by decide +kernel
theorem dX10_saving_15 : decode cX10_saving 15 = .ok (.dreturn, 1) := by decide +kernel
theorem dX10_saving_16 : decode cX10_saving 16 = .ok (.dconst 1, 1) := by decide +kernel
theorem dX10_saving_17 : decode cX10_saving 17 = .ok (.aload_n 0, 1) := by decide +kernel
theorem dX10_saving_18 : decode cX10_saving 18 = .ok (.getfield 67, 3) := by decide +kernel
theorem dX10_saving_21 : decode cX10_saving 21 = .ok (.getfield 225, 3) := by decide +kernel
theorem dX10_saving_24 : decode cX10_saving 24 = .ok (.i2d, 1) := by decide +kernel
theorem dX10_saving_25 : decode cX10_saving 25 = .ok (.aload_n 0, 1) := by decide +kernel
theorem dX10_saving_26 : decode cX10_saving 26 = .ok (.getfield 63, 3) := by decide +kernel
theorem dX10_saving_29 : decode cX10_saving 29 = .ok (.getfield 225, 3) := by decide +kernel
theorem dX10_saving_32 : decode cX10_saving 32 = .ok (.i2d, 1) := by decide +kernel
theorem dX10_saving_33 : decode cX10_saving 33 = .ok (.ddiv, 1) := by decide +kernel
theorem dX10_saving_34 : decode cX10_saving 34 = .ok (.dsub, 1) := by decide +kernel
theorem dX10_saving_35 : decode cX10_saving 35 = .ok (.dreturn, 1) := by decide +kernel
theorem dX10_openWith_0 : decode cX10_openWith 0 = .ok (.iload_n 1, 1) := by decide +kernel
theorem dX10_openWith_1 : decode cX10_openWith 1 = .ok (.invokestatic 127, 3) := by decide +kernel
theorem dX10_openWith_4 : decode cX10_openWith 4 = .ok (.iload_n 2, 1) := by decide +kernel
theorem dX10_openWith_5 : decode cX10_openWith 5 = .ok (.iload_n 3, 1) := by decide +kernel
theorem dX10_openWith_6 : decode cX10_openWith 6 = .ok (.invokestatic 130, 3) := by decide +kernel
theorem dX10_openWith_9 : decode cX10_openWith 9 = .ok (.aload_n 0, 1) := by decide +kernel
theorem dX10_openWith_10 : decode cX10_openWith 10 = .ok (.iload_n 1, 1) := by decide +kernel
theorem dX10_openWith_11 : decode cX10_openWith 11 = .ok (.iload_n 2, 1) := by decide +kernel
theorem dX10_openWith_12 : decode cX10_openWith 12 = .ok (.iload_n 3, 1) := by decide +kernel
theorem dX10_openWith_13 : decode cX10_openWith 13 = .ok (.invokevirtual 231, 3) := by decide +kernel
theorem dX10_openWith_16 : decode cX10_openWith 16 = .ok (.ireturn, 1) := by decide +kernel
theorem dX10_safePower_0 : decode cX10_safePower 0 = .ok (.iload_n 1, 1) := by decide +kernel
theorem dX10_safePower_1 : decode cX10_safePower 1 = .ok (.invokestatic 127, 3) := by decide +kernel
theorem dX10_safePower_4 : decode cX10_safePower 4 = .ok (.aload_n 0, 1) := by decide +kernel
theorem dX10_safePower_5 : decode cX10_safePower 5 = .ok (.getfield 35, 3) := by decide +kernel
theorem dX10_safePower_8 : decode cX10_safePower 8 = .ok (.getfield 134, 3) := by decide +kernel
theorem dX10_safePower_11 : decode cX10_safePower 11 = .ok (.getfield 141, 3) := by decide +kernel
theorem dX10_safePower_14 : decode cX10_safePower 14 = .ok (.iload_n 1, 1) := by decide +kernel
theorem dX10_safePower_15 : decode cX10_safePower 15 = .ok (.iaload, 1) := by decide +kernel
theorem dX10_safePower_16 : decode cX10_safePower 16 = .ok (.istore_n 2, 1) := by decide +kernel
theorem dX10_safePower_17 : decode cX10_safePower 17 = .ok (.iconst 0, 1) := by decide +kernel
theorem dX10_safePower_18 : decode cX10_safePower 18 = .ok (.istore_n 3, 1) := by decide +kernel
theorem dX10_safePower_19 : decode cX10_safePower 19 = .ok (.iconst 0, 1) := by decide +kernel
theorem dX10_safePower_20 : decode cX10_safePower 20 = .ok (.istore 4, 2) := by decide +kernel
theorem dX10_safePower_22 : decode cX10_safePower 22 = .ok (.iload 4, 2) := by decide +kernel
theorem dX10_safePower_24 : decode cX10_safePower 24 = .ok (.bipush 30, 2) := by decide +kernel
theorem dX10_safePower_26 : decode cX10_safePower 26 = .ok (.if_icmp .gt 41, 3) := by decide +kernel
theorem dX10_safePower_29 : decode cX10_safePower 29 = .ok (.iconst 1, 1) := by decide +kernel
theorem dX10_safePower_30 : decode cX10_safePower 30 = .ok (.iload 4, 2) := by decide +kernel
theorem dX10_safePower_32 : decode cX10_safePower 32 = .ok (.ishl, 1) := by decide +kernel
theorem dX10_safePower_33 : decode cX10_safePower 33 = .ok (.istore 5, 2) := by decide +kernel
theorem dX10_safePower_35 : decode cX10_safePower 35 = .ok (.iload 5, 2) := by decide +kernel
theorem dX10_safePower_37 : decode cX10_safePower 37 = .ok (.iconst 1, 1) := by decide +kernel
theorem dX10_safePower_38 : decode cX10_safePower 38 = .ok (.isub, 1) := by decide +kernel
theorem dX10_safePower_39 : decode cX10_safePower 39 = .ok (.iload_n 2, 1) := by decide +kernel
theorem dX10_safePower_40 : decode cX10_safePower 40 = .ok (.if_icmp .lt 21, 3) := by decide +kernel
theorem dX10_safePower_43 : decode cX10_safePower 43 = .ok (.aload_n 0, 1) := by decide +kernel
theorem dX10_safePower_44 : decode cX10_safePower 44 = .ok (.iload_n 1, 1) := by decide +kernel
theorem dX10_safePower_45 : decode cX10_safePower 45 = .ok (.iload_n 2, 1) := by decide +kernel
theorem dX10_safePower_46 : decode cX10_safePower 46 = .ok (.iload 5, 2) := by decide +kernel
theorem dX10_safePower_48 : decode cX10_safePower 48 = .ok (.iconst 1, 1) := by decide +kernel
theorem dX10_safePower_49 : decode cX10_safePower 49 = .ok (.isub, 1) := by decide +kernel
theorem dX10_safePower_50 : decode cX10_safePower 50 = .ok (.invokevirtual 231, 3) := by decide +kernel
theorem dX10_safePower_53 : decode cX10_safePower 53 = .ok (.ifCond .le 5, 3) := by decide +kernel
theorem dX10_safePower_56 : decode cX10_safePower 56 = .ok (.iload_n 3, 1) := by decide +kernel
theorem dX10_safePower_57 : decode cX10_safePower 57 = .ok (.ireturn, 1) := by decide +kernel
theorem dX10_safePower_58 : decode cX10_safePower 58 = .ok (.iload 5, 2) := by decide +kernel
theorem dX10_safePower_60 : decode cX10_safePower 60 = .ok (.istore_n 3, 1) := by decide +kernel
theorem dX10_safePower_61 : decode cX10_safePower 61 = .ok (.iinc 4 1, 3) := by decide +kernel
theorem dX10_safePower_64 : decode cX10_safePower 64 = .ok (.goto (-42), 3) := by decide +kernel
theorem dX10_safePower_67 : decode cX10_safePower 67 = .ok (.iload_n 3, 1) := by decide +kernel
theorem dX10_safePower_68 : decode cX10_safePower 68 = .ok (.ireturn, 1) := by decide +kernel
theorem dX10_failingInput_0 : decode cX10_failingInput 0 = .ok (.iload_n 1, 1) := by decide +kernel
theorem dX10_failingInput_1 : decode cX10_failingInput 1 = .ok (.invokestatic 127, 3) := by decide +kernel
theorem dX10_failingInput_4 : decode cX10_failingInput 4 = .ok (.aload_n 0, 1) := by decide +kernel
theorem dX10_failingInput_5 : decode cX10_failingInput 5 = .ok (.getfield 80, 3) := by decide +kernel
theorem dX10_failingInput_8 : decode cX10_failingInput 8 = .ok (.aload_n 0, 1) := by decide +kernel
theorem dX10_failingInput_9 : decode cX10_failingInput 9 = .ok (.getfield 35, 3) := by decide +kernel
theorem dX10_failingInput_12 : decode cX10_failingInput 12 = .ok (.getfield 134, 3) := by decide +kernel
theorem dX10_failingInput_15 : decode cX10_failingInput 15 = .ok (.invokevirtual 234, 3) := by decide +kernel
theorem dX10_failingInput_18 : decode cX10_failingInput 18 = .ok (.aload_n 0, 1) := by decide +kernel
theorem dX10_failingInput_19 : decode cX10_failingInput 19 = .ok (.getfield 35, 3) := by decide +kernel
theorem dX10_failingInput_22 : decode cX10_failingInput 22 = .ok (.getfield 134, 3) := by decide +kernel
theorem dX10_failingInput_25 : decode cX10_failingInput 25 = .ok (.getfield 150, 3) := by decide +kernel
theorem dX10_failingInput_28 : decode cX10_failingInput 28 = .ok (.iload_n 1, 1) := by decide +kernel
theorem dX10_failingInput_29 : decode cX10_failingInput 29 = .ok (.iaload, 1) := by decide +kernel
theorem dX10_failingInput_30 : decode cX10_failingInput 30 = .ok (.i2l, 1) := by decide +kernel
theorem dX10_failingInput_31 : decode cX10_failingInput 31 = .ok (.lstore_n 2, 1) := by decide +kernel
theorem dX10_failingInput_32 : decode cX10_failingInput 32 = .ok (.lload_n 2, 1) := by decide +kernel
theorem dX10_failingInput_33 : decode cX10_failingInput 33 = .ok (.ldc2_w 238, 3) := by decide +kernel
theorem dX10_failingInput_36 : decode cX10_failingInput 36 = .ok (.ladd, 1) := by decide +kernel
theorem dX10_failingInput_37 : decode cX10_failingInput 37 = .ok (.aload_n 0, 1) := by decide +kernel
theorem dX10_failingInput_38 : decode cX10_failingInput 38 = .ok (.getfield 35, 3) := by decide +kernel
theorem dX10_failingInput_41 : decode cX10_failingInput 41 = .ok (.getfield 134, 3) := by decide +kernel
theorem dX10_failingInput_44 : decode cX10_failingInput 44 = .ok (.getfield 145, 3) := by decide +kernel
theorem dX10_failingInput_47 : decode cX10_failingInput 47 = .ok (.iload_n 1, 1) := by decide +kernel
theorem dX10_failingInput_48 : decode cX10_failingInput 48 = .ok (.iaload, 1) := by decide +kernel
theorem dX10_failingInput_49 : decode cX10_failingInput 49 = .ok (.i2l, 1) := by decide +kernel
theorem dX10_failingInput_50 : decode cX10_failingInput 50 = .ok (.invokestatic 240, 3) := by decide +kernel
theorem dX10_failingInput_53 : decode cX10_failingInput 53 = .ok (.lstore 4, 2) := by decide +kernel
theorem dX10_failingInput_55 : decode cX10_failingInput 55 = .ok (.sipush 255, 3) := by decide +kernel
theorem dX10_failingInput_58 : decode cX10_failingInput 58 = .ok (.istore 6, 2) := by decide +kernel
theorem dX10_failingInput_60 : decode cX10_failingInput 60 = .ok (.iconst 0, 1) := by decide +kernel
theorem dX10_failingInput_61 : decode cX10_failingInput 61 = .ok (.istore 7, 2) := by decide +kernel
theorem dX10_failingInput_63 : decode cX10_failingInput 63 = .ok (.iload 7, 2) := by decide +kernel
theorem dX10_failingInput_65 : decode cX10_failingInput 65 = .ok (.sipush 455, 3) := by decide +kernel
theorem dX10_failingInput_68 : decode cX10_failingInput 68 = .ok (.if_icmp .gt 82, 3) := by decide +kernel
theorem dX10_failingInput_71 : decode cX10_failingInput 71 = .ok (.lload_n 2, 1) := by decide +kernel
theorem dX10_failingInput_72 : decode cX10_failingInput 72 = .ok (.lload 4, 2) := by decide +kernel
theorem dX10_failingInput_74 : decode cX10_failingInput 74 = .ok (.lcmp, 1) := by decide +kernel
theorem dX10_failingInput_75 : decode cX10_failingInput 75 = .ok (.ifCond .gt 75, 3) := by decide +kernel
theorem dX10_failingInput_78 : decode cX10_failingInput 78 = .ok (.lload_n 2, 1) := by decide +kernel
theorem dX10_failingInput_79 : decode cX10_failingInput 79 = .ok (.iload 6, 2) := by decide +kernel
theorem dX10_failingInput_81 : decode cX10_failingInput 81 = .ok (.i2l, 1) := by decide +kernel
theorem dX10_failingInput_82 : decode cX10_failingInput 82 = .ok (.ladd, 1) := by decide +kernel
theorem dX10_failingInput_83 : decode cX10_failingInput 83 = .ok (.lload 4, 2) := by decide +kernel
theorem dX10_failingInput_85 : decode cX10_failingInput 85 = .ok (.invokestatic 240, 3) := by decide +kernel
theorem dX10_failingInput_88 : decode cX10_failingInput 88 = .ok (.lstore 8, 2) := by decide +kernel
theorem dX10_failingInput_90 : decode cX10_failingInput 90 = .ok (.lload_n 2, 1) := by decide +kernel
theorem dX10_failingInput_91 : decode cX10_failingInput 91 = .ok (.lload 8, 2) := by decide +kernel
theorem dX10_failingInput_93 : decode cX10_failingInput 93 = .ok (.lcmp, 1) := by decide +kernel
theorem dX10_failingInput_94 : decode cX10_failingInput 94 = .ok (.ifCond .ne 23, 3) := by decide +kernel
theorem dX10_failingInput_97 : decode cX10_failingInput 97 = .ok (.aload_n 0, 1) := by decide +kernel
theorem dX10_failingInput_98 : decode cX10_failingInput 98 = .ok (.iload_n 1, 1) := by decide +kernel
theorem dX10_failingInput_99 : decode cX10_failingInput 99 = .ok (.lload_n 2, 1) := by decide +kernel
theorem dX10_failingInput_100 : decode cX10_failingInput 100 = .ok (.l2i, 1) := by decide +kernel
theorem dX10_failingInput_101 : decode cX10_failingInput 101 = .ok (.invokevirtual 246, 3) := by decide +kernel
theorem dX10_failingInput_104 : decode cX10_failingInput 104 = .ok (.ifCond .eq 6, 3) := by decide +kernel
theorem dX10_failingInput_107 : decode cX10_failingInput 107 = .ok (.lload_n 2, 1) := by decide +kernel
theorem dX10_failingInput_108 : decode cX10_failingInput 108 = .ok (.l2i, 1) := by decide +kernel
theorem dX10_failingInput_109 : decode cX10_failingInput 109 = .ok (.ireturn, 1) := by decide +kernel
theorem dX10_failingInput_110 : decode cX10_failingInput 110 = .ok (.lload_n 2, 1) := by decide +kernel
theorem dX10_failingInput_111 : decode cX10_failingInput 111 = .ok (.lconst 1, 1) := by decide +kernel
theorem dX10_failingInput_112 : decode cX10_failingInput 112 = .ok (.ladd, 1) := by decide +kernel
theorem dX10_failingInput_113 : decode cX10_failingInput 113 = .ok (.lstore_n 2, 1) := by decide +kernel
theorem dX10_failingInput_114 : decode cX10_failingInput 114 = .ok (.goto 30, 3) := by decide +kernel
theorem dX10_failingInput_117 : decode cX10_failingInput 117 = .ok (.aload_n 0, 1) := by decide +kernel
theorem dX10_failingInput_118 : decode cX10_failingInput 118 = .ok (.iload_n 1, 1) := by decide +kernel
theorem dX10_failingInput_119 : decode cX10_failingInput 119 = .ok (.lload_n 2, 1) := by decide +kernel
theorem dX10_failingInput_120 : decode cX10_failingInput 120 = .ok (.l2i, 1) := by decide +kernel
theorem dX10_failingInput_121 : decode cX10_failingInput 121 = .ok (.lload 8, 2) := by decide +kernel
theorem dX10_failingInput_123 : decode cX10_failingInput 123 = .ok (.l2i, 1) := by decide +kernel
theorem dX10_failingInput_124 : decode cX10_failingInput 124 = .ok (.invokevirtual 250, 3) := by decide +kernel
theorem dX10_failingInput_127 : decode cX10_failingInput 127 = .ok (.ifCond .eq 12, 3) := by decide +kernel
theorem dX10_failingInput_130 : decode cX10_failingInput 130 = .ok (.iload 6, 2) := by decide +kernel
theorem dX10_failingInput_132 : decode cX10_failingInput 132 = .ok (.iconst 2, 1) := by decide +kernel
theorem dX10_failingInput_133 : decode cX10_failingInput 133 = .ok (.idiv, 1) := by decide +kernel
theorem dX10_failingInput_134 : decode cX10_failingInput 134 = .ok (.istore 6, 2) := by decide +kernel
theorem dX10_failingInput_136 : decode cX10_failingInput 136 = .ok (.goto 8, 3) := by decide +kernel
theorem dX10_failingInput_139 : decode cX10_failingInput 139 = .ok (.lload 8, 2) := by decide +kernel
theorem dX10_failingInput_141 : decode cX10_failingInput 141 = .ok (.lconst 1, 1) := by decide +kernel
theorem dX10_failingInput_142 : decode cX10_failingInput 142 = .ok (.ladd, 1) := by decide +kernel
theorem dX10_failingInput_143 : decode cX10_failingInput 143 = .ok (.lstore_n 2, 1) := by decide +kernel
theorem dX10_failingInput_144 : decode cX10_failingInput 144 = .ok (.iinc 7 1, 3) := by decide +kernel
theorem dX10_failingInput_147 : decode cX10_failingInput 147 = .ok (.goto (-84), 3) := by decide +kernel
theorem dX10_failingInput_150 : decode cX10_failingInput 150 = .ok (.ldc_w 256, 3) := by decide +kernel
theorem dX10_failingInput_153 : decode cX10_failingInput 153 = .ok (.ireturn, 1) := by decide +kernel
theorem dX10_undo_0 : decode cX10_undo 0 = .ok (.aload_n 0, 1) := by decide +kernel
theorem dX10_undo_1 : decode cX10_undo 1 = .ok (.getfield 42, 3) := by decide +kernel
theorem dX10_undo_4 : decode cX10_undo 4 = .ok (.getfield 257, 3) := by decide +kernel
theorem dX10_undo_7 : decode cX10_undo 7 = .ok (.ifCond .ne 14, 3) := by decide +kernel
theorem dX10_undo_10 : decode cX10_undo 10 = .ok (.new 101, 3) := by decide +kernel
theorem dX10_undo_13 : decode cX10_undo 13 = .ok (.dup, 1) := by decide +kernel
theorem dX10_undo_14 : decode cX10_undo 14 = .ok (.ldc_w 260, 3) := by decide +kernel
theorem dX10_undo_17 : decode cX10_undo 17 = .ok (.invokespecial 105, 3) := by decide +kernel
theorem dX10_undo_20 : decode cX10_undo 20 = .ok (.athrow, 1) := by decide +kernel
theorem dX10_undo_21 : decode cX10_undo 21 = .ok (.aload_n 0, 1) := by decide +kernel
theorem dX10_undo_22 : decode cX10_undo 22 = .ok (.getfield 42, 3) := by decide +kernel
theorem dX10_undo_25 : decode cX10_undo 25 = .ok (.aload_n 0, 1) := by decide +kernel
theorem dX10_undo_26 : decode cX10_undo 26 = .ok (.getfield 35, 3) := by decide +kernel
theorem dX10_undo_29 : decode cX10_undo 29 = .ok (.invokevirtual 262, 3) := by decide +kernel
theorem dX10_undo_32 : decode cX10_undo 32 = .ok (.aload_n 0, 1) := by decide +kernel
theorem dX10_undo_33 : decode cX10_undo 33 = .ok (.invokevirtual 266, 3) := by decide +kernel
theorem dX10_undo_36 : decode cX10_undo 36 = .ok (.aload_n 0, 1) := by decide +kernel
theorem dX10_undo_37 : decode cX10_undo 37 = .ok (.getfield 42, 3) := by decide +kernel
theorem dX10_undo_40 : decode cX10_undo 40 = .ok (.getfield 257, 3) := by decide +kernel
theorem dX10_undo_43 : decode cX10_undo 43 = .ok (.ireturn, 1) := by decide +kernel
theorem dX10_digest_0 : decode cX10_digest 0 = .ok (.aload_n 0, 1) := by decide +kernel
theorem dX10_digest_1 : decode cX10_digest 1 = .ok (.invokevirtual 212, 3) := by decide +kernel
theorem dX10_digest_4 : decode cX10_digest 4 = .ok (.ldc2_w 269, 3) := by decide +kernel
theorem dX10_digest_7 : decode cX10_digest 7 = .ok (.aload_n 0, 1) := by decide +kernel
theorem dX10_digest_8 : decode cX10_digest 8 = .ok (.getfield 10, 3) := by decide +kernel
theorem dX10_digest_11 : decode cX10_digest 11 = .ok (.getfield 97, 3) := by decide +kernel
theorem dX10_digest_14 : decode cX10_digest 14 = .ok (.i2l, 1) := by decide +kernel
theorem dX10_digest_15 : decode cX10_digest 15 = .ok (.invokestatic 271, 3) := by decide +kernel
theorem dX10_digest_18 : decode cX10_digest 18 = .ok (.lstore_n 1, 1) := by decide +kernel
theorem dX10_digest_19 : decode cX10_digest 19 = .ok (.lload_n 1, 1) := by decide +kernel
theorem dX10_digest_20 : decode cX10_digest 20 = .ok (.aload_n 0, 1) := by decide +kernel
theorem dX10_digest_21 : decode cX10_digest 21 = .ok (.getfield 35, 3) := by decide +kernel
theorem dX10_digest_24 : decode cX10_digest 24 = .ok (.getfield 117, 3) := by decide +kernel
theorem dX10_digest_27 : decode cX10_digest 27 = .ok (.getfield 124, 3) := by decide +kernel
theorem dX10_digest_30 : decode cX10_digest 30 = .ok (.i2l, 1) := by decide +kernel
theorem dX10_digest_31 : decode cX10_digest 31 = .ok (.invokestatic 271, 3) := by decide +kernel
theorem dX10_digest_34 : decode cX10_digest 34 = .ok (.lstore_n 1, 1) := by decide +kernel
theorem dX10_digest_35 : decode cX10_digest 35 = .ok (.iconst 0, 1) := by decide +kernel
theorem dX10_digest_36 : decode cX10_digest 36 = .ok (.istore_n 3, 1) := by decide +kernel
theorem dX10_digest_37 : decode cX10_digest 37 = .ok (.iload_n 3, 1) := by decide +kernel
theorem dX10_digest_38 : decode cX10_digest 38 = .ok (.aload_n 0, 1) := by decide +kernel
theorem dX10_digest_39 : decode cX10_digest 39 = .ok (.getfield 35, 3) := by decide +kernel
theorem dX10_digest_42 : decode cX10_digest 42 = .ok (.getfield 117, 3) := by decide +kernel
theorem dX10_digest_45 : decode cX10_digest 45 = .ok (.getfield 124, 3) := by decide +kernel
theorem dX10_digest_48 : decode cX10_digest 48 = .ok (.if_icmp .ge 16, 3) := by decide +kernel
theorem dX10_digest_51 : decode cX10_digest 51 = .ok (.aload_n 0, 1) := by decide +kernel
theorem dX10_digest_52 : decode cX10_digest 52 = .ok (.lload_n 1, 1) := by decide +kernel
theorem dX10_digest_53 : decode cX10_digest 53 = .ok (.iload_n 3, 1) := by decide +kernel
theorem dX10_digest_54 : decode cX10_digest 54 = .ok (.invokevirtual 274, 3) := by decide +kernel
theorem dX10_digest_57 : decode cX10_digest 57 = .ok (.lstore_n 1, 1) := by decide +kernel
theorem dX10_digest_58 : decode cX10_digest 58 = .ok (.iinc 3 1, 3) := by decide +kernel
theorem dX10_digest_61 : decode cX10_digest 61 = .ok (.goto (-24), 3) := by decide +kernel
theorem dX10_digest_64 : decode cX10_digest 64 = .ok (.iconst 0, 1) := by decide +kernel
theorem dX10_digest_65 : decode cX10_digest 65 = .ok (.istore_n 3, 1) := by decide +kernel
theorem dX10_digest_66 : decode cX10_digest 66 = .ok (.iload_n 3, 1) := by decide +kernel
theorem dX10_digest_67 : decode cX10_digest 67 = .ok (.bipush 8, 2) := by decide +kernel
theorem dX10_digest_69 : decode cX10_digest 69 = .ok (.if_icmp .ge 16, 3) := by decide +kernel
theorem dX10_digest_72 : decode cX10_digest 72 = .ok (.aload_n 0, 1) := by decide +kernel
theorem dX10_digest_73 : decode cX10_digest 73 = .ok (.lload_n 1, 1) := by decide +kernel
theorem dX10_digest_74 : decode cX10_digest 74 = .ok (.iload_n 3, 1) := by decide +kernel
theorem dX10_digest_75 : decode cX10_digest 75 = .ok (.invokevirtual 278, 3) := by decide +kernel
theorem dX10_digest_78 : decode cX10_digest 78 = .ok (.lstore_n 1, 1) := by decide +kernel
theorem dX10_digest_79 : decode cX10_digest 79 = .ok (.iinc 3 1, 3) := by decide +kernel
theorem dX10_digest_82 : decode cX10_digest 82 = .ok (.goto (-16), 3) := by decide +kernel
theorem dX10_digest_85 : decode cX10_digest 85 = .ok (.lload_n 1, 1) := by decide +kernel
theorem dX10_digest_86 : decode cX10_digest 86 = .ok (.aload_n 0, 1) := by decide +kernel
theorem dX10_digest_87 : decode cX10_digest 87 = .ok (.getfield 63, 3) := by decide +kernel
theorem dX10_digest_90 : decode cX10_digest 90 = .ok (.aload_n 0, 1) := by decide +kernel
theorem dX10_digest_91 : decode cX10_digest 91 = .ok (.getfield 63, 3) := by decide +kernel
theorem dX10_digest_94 : decode cX10_digest 94 = .ok (.getfield 225, 3) := by decide +kernel
theorem dX10_digest_97 : decode cX10_digest 97 = .ok (.invokestatic 281, 3) := by decide +kernel
theorem dX10_digest_100 : decode cX10_digest 100 = .ok (.lstore_n 1, 1) := by decide +kernel
theorem dX10_digest_101 : decode cX10_digest 101 = .ok (.lload_n 1, 1) := by decide +kernel
theorem dX10_digest_102 : decode cX10_digest 102 = .ok (.aload_n 0, 1) := by decide +kernel
theorem dX10_digest_103 : decode cX10_digest 103 = .ok (.iconst 1, 1) := by decide +kernel
theorem dX10_digest_104 : decode cX10_digest 104 = .ok (.invokevirtual 215, 3) := by decide +kernel
theorem dX10_digest_107 : decode cX10_digest 107 = .ok (.aload_n 0, 1) := by decide +kernel
theorem dX10_digest_108 : decode cX10_digest 108 = .ok (.getfield 67, 3) := by decide +kernel
theorem dX10_digest_111 : decode cX10_digest 111 = .ok (.getfield 225, 3) := by decide +kernel
theorem dX10_digest_114 : decode cX10_digest 114 = .ok (.invokestatic 281, 3) := by decide +kernel
theorem dX10_digest_117 : decode cX10_digest 117 = .ok (.lstore_n 1, 1) := by decide +kernel
theorem dX10_digest_118 : decode cX10_digest 118 = .ok (.lload_n 1, 1) := by decide +kernel
theorem dX10_digest_119 : decode cX10_digest 119 = .ok (.aload_n 0, 1) := by decide +kernel
theorem dX10_digest_120 : decode cX10_digest 120 = .ok (.getfield 63, 3) := by decide +kernel
theorem dX10_digest_123 : decode cX10_digest 123 = .ok (.getfield 228, 3) := by decide +kernel
theorem dX10_digest_126 : decode cX10_digest 126 = .ok (.i2l, 1) := by decide +kernel
theorem dX10_digest_127 : decode cX10_digest 127 = .ok (.invokestatic 271, 3) := by decide +kernel
theorem dX10_digest_130 : decode cX10_digest 130 = .ok (.lstore_n 1, 1) := by decide +kernel
theorem dX10_digest_131 : decode cX10_digest 131 = .ok (.lload_n 1, 1) := by decide +kernel
theorem dX10_digest_132 : decode cX10_digest 132 = .ok (.aload_n 0, 1) := by decide +kernel
theorem dX10_digest_133 : decode cX10_digest 133 = .ok (.getfield 42, 3) := by decide +kernel
theorem dX10_digest_136 : decode cX10_digest 136 = .ok (.getfield 257, 3) := by decide +kernel
theorem dX10_digest_139 : decode cX10_digest 139 = .ok (.i2l, 1) := by decide +kernel
theorem dX10_digest_140 : decode cX10_digest 140 = .ok (.invokestatic 271, 3) := by decide +kernel
theorem dX10_digest_143 : decode cX10_digest 143 = .ok (.lreturn, 1) := by decide +kernel
theorem dX10_mixedInstruction_0 : decode cX10_mixedInstruction 0 = .ok (.aload_n 0, 1) := by decide +kernel
theorem dX10_mixedInstruction_1 : decode cX10_mixedInstruction 1 = .ok (.getfield 35, 3) := by decide +kernel
theorem dX10_mixedInstruction_4 : decode cX10_mixedInstruction 4 = .ok (.getfield 117, 3) := by decide +kernel
theorem dX10_mixedInstruction_7 : decode cX10_mixedInstruction 7 = .ok (.astore 4, 2) := by decide +kernel
theorem dX10_mixedInstruction_9 : decode cX10_mixedInstruction 9 = .ok (.lload_n 1, 1) := by decide +kernel
theorem dX10_mixedInstruction_10 : decode cX10_mixedInstruction 10 = .ok (.aload 4, 2) := by decide +kernel
theorem dX10_mixedInstruction_12 : decode cX10_mixedInstruction 12 = .ok (.getfield 164, 3) := by decide +kernel
theorem dX10_mixedInstruction_15 : decode cX10_mixedInstruction 15 = .ok (.iload_n 3, 1) := by decide +kernel
theorem dX10_mixedInstruction_16 : decode cX10_mixedInstruction 16 = .ok (.iaload, 1) := by decide +kernel
theorem dX10_mixedInstruction_17 : decode cX10_mixedInstruction 17 = .ok (.i2l, 1) := by decide +kernel
theorem dX10_mixedInstruction_18 : decode cX10_mixedInstruction 18 = .ok (.invokestatic 271, 3) := by decide +kernel
theorem dX10_mixedInstruction_21 : decode cX10_mixedInstruction 21 = .ok (.lstore 5, 2) := by decide +kernel
theorem dX10_mixedInstruction_23 : decode cX10_mixedInstruction 23 = .ok (.lload 5, 2) := by decide +kernel
theorem dX10_mixedInstruction_25 : decode cX10_mixedInstruction 25 = .ok (.aload 4, 2) := by decide +kernel
theorem dX10_mixedInstruction_27 : decode cX10_mixedInstruction 27 = .ok (.getfield 167, 3) := by decide +kernel
theorem dX10_mixedInstruction_30 : decode cX10_mixedInstruction 30 = .ok (.iload_n 3, 1) := by decide +kernel
theorem dX10_mixedInstruction_31 : decode cX10_mixedInstruction 31 = .ok (.iaload, 1) := by decide +kernel
theorem dX10_mixedInstruction_32 : decode cX10_mixedInstruction 32 = .ok (.i2l, 1) := by decide +kernel
theorem dX10_mixedInstruction_33 : decode cX10_mixedInstruction 33 = .ok (.invokestatic 271, 3) := by decide +kernel
theorem dX10_mixedInstruction_36 : decode cX10_mixedInstruction 36 = .ok (.lstore 5, 2) := by decide +kernel
theorem dX10_mixedInstruction_38 : decode cX10_mixedInstruction 38 = .ok (.lload 5, 2) := by decide +kernel
theorem dX10_mixedInstruction_40 : decode cX10_mixedInstruction 40 = .ok (.aload 4, 2) := by decide +kernel
theorem dX10_mixedInstruction_42 : decode cX10_mixedInstruction 42 = .ok (.getfield 170, 3) := by decide +kernel
theorem dX10_mixedInstruction_45 : decode cX10_mixedInstruction 45 = .ok (.iload_n 3, 1) := by decide +kernel
theorem dX10_mixedInstruction_46 : decode cX10_mixedInstruction 46 = .ok (.iaload, 1) := by decide +kernel
theorem dX10_mixedInstruction_47 : decode cX10_mixedInstruction 47 = .ok (.i2l, 1) := by decide +kernel
theorem dX10_mixedInstruction_48 : decode cX10_mixedInstruction 48 = .ok (.invokestatic 271, 3) := by decide +kernel
theorem dX10_mixedInstruction_51 : decode cX10_mixedInstruction 51 = .ok (.lstore 5, 2) := by decide +kernel
theorem dX10_mixedInstruction_53 : decode cX10_mixedInstruction 53 = .ok (.lload 5, 2) := by decide +kernel
theorem dX10_mixedInstruction_55 : decode cX10_mixedInstruction 55 = .ok (.aload 4, 2) := by decide +kernel
theorem dX10_mixedInstruction_57 : decode cX10_mixedInstruction 57 = .ok (.getfield 173, 3) := by decide +kernel
theorem dX10_mixedInstruction_60 : decode cX10_mixedInstruction 60 = .ok (.iload_n 3, 1) := by decide +kernel
theorem dX10_mixedInstruction_61 : decode cX10_mixedInstruction 61 = .ok (.iaload, 1) := by decide +kernel
theorem dX10_mixedInstruction_62 : decode cX10_mixedInstruction 62 = .ok (.i2l, 1) := by decide +kernel
theorem dX10_mixedInstruction_63 : decode cX10_mixedInstruction 63 = .ok (.invokestatic 271, 3) := by decide +kernel
theorem dX10_mixedInstruction_66 : decode cX10_mixedInstruction 66 = .ok (.lstore 5, 2) := by decide +kernel
theorem dX10_mixedInstruction_68 : decode cX10_mixedInstruction 68 = .ok (.lload 5, 2) := by decide +kernel
theorem dX10_mixedInstruction_70 : decode cX10_mixedInstruction 70 = .ok (.aload 4, 2) := by decide +kernel
theorem dX10_mixedInstruction_72 : decode cX10_mixedInstruction 72 = .ok (.getfield 181, 3) := by decide +kernel
theorem dX10_mixedInstruction_75 : decode cX10_mixedInstruction 75 = .ok (.iload_n 3, 1) := by decide +kernel
theorem dX10_mixedInstruction_76 : decode cX10_mixedInstruction 76 = .ok (.iaload, 1) := by decide +kernel
theorem dX10_mixedInstruction_77 : decode cX10_mixedInstruction 77 = .ok (.i2l, 1) := by decide +kernel
theorem dX10_mixedInstruction_78 : decode cX10_mixedInstruction 78 = .ok (.invokestatic 271, 3) := by decide +kernel
theorem dX10_mixedInstruction_81 : decode cX10_mixedInstruction 81 = .ok (.lstore 5, 2) := by decide +kernel
theorem dX10_mixedInstruction_83 : decode cX10_mixedInstruction 83 = .ok (.lload 5, 2) := by decide +kernel
theorem dX10_mixedInstruction_85 : decode cX10_mixedInstruction 85 = .ok (.aload 4, 2) := by decide +kernel
theorem dX10_mixedInstruction_87 : decode cX10_mixedInstruction 87 = .ok (.getfield 178, 3) := by decide +kernel
theorem dX10_mixedInstruction_90 : decode cX10_mixedInstruction 90 = .ok (.iload_n 3, 1) := by decide +kernel
theorem dX10_mixedInstruction_91 : decode cX10_mixedInstruction 91 = .ok (.iaload, 1) := by decide +kernel
theorem dX10_mixedInstruction_92 : decode cX10_mixedInstruction 92 = .ok (.i2l, 1) := by decide +kernel
theorem dX10_mixedInstruction_93 : decode cX10_mixedInstruction 93 = .ok (.invokestatic 271, 3) := by decide +kernel
theorem dX10_mixedInstruction_96 : decode cX10_mixedInstruction 96 = .ok (.lstore 5, 2) := by decide +kernel
theorem dX10_mixedInstruction_98 : decode cX10_mixedInstruction 98 = .ok (.lload 5, 2) := by decide +kernel
theorem dX10_mixedInstruction_100 : decode cX10_mixedInstruction 100 = .ok (.aload_n 0, 1) := by decide +kernel
theorem dX10_mixedInstruction_101 : decode cX10_mixedInstruction 101 = .ok (.getfield 56, 3) := by decide +kernel
theorem dX10_mixedInstruction_104 : decode cX10_mixedInstruction 104 = .ok (.getfield 187, 3) := by decide +kernel
theorem dX10_mixedInstruction_107 : decode cX10_mixedInstruction 107 = .ok (.iload_n 3, 1) := by decide +kernel
theorem dX10_mixedInstruction_108 : decode cX10_mixedInstruction 108 = .ok (.iaload, 1) := by decide +kernel
theorem dX10_mixedInstruction_109 : decode cX10_mixedInstruction 109 = .ok (.i2l, 1) := by decide +kernel
theorem dX10_mixedInstruction_110 : decode cX10_mixedInstruction 110 = .ok (.invokestatic 271, 3) := by decide +kernel
theorem dX10_mixedInstruction_113 : decode cX10_mixedInstruction 113 = .ok (.lstore 5, 2) := by decide +kernel
theorem dX10_mixedInstruction_115 : decode cX10_mixedInstruction 115 = .ok (.lload 5, 2) := by decide +kernel
theorem dX10_mixedInstruction_117 : decode cX10_mixedInstruction 117 = .ok (.aload_n 0, 1) := by decide +kernel
theorem dX10_mixedInstruction_118 : decode cX10_mixedInstruction 118 = .ok (.getfield 56, 3) := by decide +kernel
theorem dX10_mixedInstruction_121 : decode cX10_mixedInstruction 121 = .ok (.getfield 192, 3) := by decide +kernel
theorem dX10_mixedInstruction_124 : decode cX10_mixedInstruction 124 = .ok (.iload_n 3, 1) := by decide +kernel
theorem dX10_mixedInstruction_125 : decode cX10_mixedInstruction 125 = .ok (.iaload, 1) := by decide +kernel
theorem dX10_mixedInstruction_126 : decode cX10_mixedInstruction 126 = .ok (.i2l, 1) := by decide +kernel
theorem dX10_mixedInstruction_127 : decode cX10_mixedInstruction 127 = .ok (.invokestatic 271, 3) := by decide +kernel
theorem dX10_mixedInstruction_130 : decode cX10_mixedInstruction 130 = .ok (.lreturn, 1) := by decide +kernel
theorem dX10_mixedVariable_0 : decode cX10_mixedVariable 0 = .ok (.aload_n 0, 1) := by decide +kernel
theorem dX10_mixedVariable_1 : decode cX10_mixedVariable 1 = .ok (.getfield 35, 3) := by decide +kernel
theorem dX10_mixedVariable_4 : decode cX10_mixedVariable 4 = .ok (.getfield 134, 3) := by decide +kernel
theorem dX10_mixedVariable_7 : decode cX10_mixedVariable 7 = .ok (.astore 4, 2) := by decide +kernel
theorem dX10_mixedVariable_9 : decode cX10_mixedVariable 9 = .ok (.lload_n 1, 1) := by decide +kernel
theorem dX10_mixedVariable_10 : decode cX10_mixedVariable 10 = .ok (.aload 4, 2) := by decide +kernel
theorem dX10_mixedVariable_12 : decode cX10_mixedVariable 12 = .ok (.getfield 141, 3) := by decide +kernel
theorem dX10_mixedVariable_15 : decode cX10_mixedVariable 15 = .ok (.iload_n 3, 1) := by decide +kernel
theorem dX10_mixedVariable_16 : decode cX10_mixedVariable 16 = .ok (.iaload, 1) := by decide +kernel
theorem dX10_mixedVariable_17 : decode cX10_mixedVariable 17 = .ok (.i2l, 1) := by decide +kernel
theorem dX10_mixedVariable_18 : decode cX10_mixedVariable 18 = .ok (.invokestatic 271, 3) := by decide +kernel
theorem dX10_mixedVariable_21 : decode cX10_mixedVariable 21 = .ok (.lstore 5, 2) := by decide +kernel
theorem dX10_mixedVariable_23 : decode cX10_mixedVariable 23 = .ok (.lload 5, 2) := by decide +kernel
theorem dX10_mixedVariable_25 : decode cX10_mixedVariable 25 = .ok (.aload 4, 2) := by decide +kernel
theorem dX10_mixedVariable_27 : decode cX10_mixedVariable 27 = .ok (.getfield 145, 3) := by decide +kernel
theorem dX10_mixedVariable_30 : decode cX10_mixedVariable 30 = .ok (.iload_n 3, 1) := by decide +kernel
theorem dX10_mixedVariable_31 : decode cX10_mixedVariable 31 = .ok (.iaload, 1) := by decide +kernel
theorem dX10_mixedVariable_32 : decode cX10_mixedVariable 32 = .ok (.i2l, 1) := by decide +kernel
theorem dX10_mixedVariable_33 : decode cX10_mixedVariable 33 = .ok (.invokestatic 271, 3) := by decide +kernel
theorem dX10_mixedVariable_36 : decode cX10_mixedVariable 36 = .ok (.lstore 5, 2) := by decide +kernel
theorem dX10_mixedVariable_38 : decode cX10_mixedVariable 38 = .ok (.lload 5, 2) := by decide +kernel
theorem dX10_mixedVariable_40 : decode cX10_mixedVariable 40 = .ok (.aload 4, 2) := by decide +kernel
theorem dX10_mixedVariable_42 : decode cX10_mixedVariable 42 = .ok (.getfield 150, 3) := by decide +kernel
theorem dX10_mixedVariable_45 : decode cX10_mixedVariable 45 = .ok (.iload_n 3, 1) := by decide +kernel
theorem dX10_mixedVariable_46 : decode cX10_mixedVariable 46 = .ok (.iaload, 1) := by decide +kernel
theorem dX10_mixedVariable_47 : decode cX10_mixedVariable 47 = .ok (.i2l, 1) := by decide +kernel
theorem dX10_mixedVariable_48 : decode cX10_mixedVariable 48 = .ok (.invokestatic 271, 3) := by decide +kernel
theorem dX10_mixedVariable_51 : decode cX10_mixedVariable 51 = .ok (.lstore 5, 2) := by decide +kernel
theorem dX10_mixedVariable_53 : decode cX10_mixedVariable 53 = .ok (.lload 5, 2) := by decide +kernel
theorem dX10_mixedVariable_55 : decode cX10_mixedVariable 55 = .ok (.aload_n 0, 1) := by decide +kernel
theorem dX10_mixedVariable_56 : decode cX10_mixedVariable 56 = .ok (.getfield 49, 3) := by decide +kernel
theorem dX10_mixedVariable_59 : decode cX10_mixedVariable 59 = .ok (.iload_n 3, 1) := by decide +kernel
theorem dX10_mixedVariable_60 : decode cX10_mixedVariable 60 = .ok (.invokevirtual 206, 3) := by decide +kernel
theorem dX10_mixedVariable_63 : decode cX10_mixedVariable 63 = .ok (.i2l, 1) := by decide +kernel
theorem dX10_mixedVariable_64 : decode cX10_mixedVariable 64 = .ok (.invokestatic 271, 3) := by decide +kernel
theorem dX10_mixedVariable_67 : decode cX10_mixedVariable 67 = .ok (.lstore 5, 2) := by decide +kernel
theorem dX10_mixedVariable_69 : decode cX10_mixedVariable 69 = .ok (.lload 5, 2) := by decide +kernel
theorem dX10_mixedVariable_71 : decode cX10_mixedVariable 71 = .ok (.aload_n 0, 1) := by decide +kernel
theorem dX10_mixedVariable_72 : decode cX10_mixedVariable 72 = .ok (.getfield 49, 3) := by decide +kernel
theorem dX10_mixedVariable_75 : decode cX10_mixedVariable 75 = .ok (.iload_n 3, 1) := by decide +kernel
theorem dX10_mixedVariable_76 : decode cX10_mixedVariable 76 = .ok (.invokevirtual 202, 3) := by decide +kernel
theorem dX10_mixedVariable_79 : decode cX10_mixedVariable 79 = .ok (.i2l, 1) := by decide +kernel
theorem dX10_mixedVariable_80 : decode cX10_mixedVariable 80 = .ok (.invokestatic 271, 3) := by decide +kernel
theorem dX10_mixedVariable_83 : decode cX10_mixedVariable 83 = .ok (.lreturn, 1) := by decide +kernel
theorem dX10_mixedRun_0 : decode cX10_mixedRun 0 = .ok (.lload_n 0, 1) := by decide +kernel
theorem dX10_mixedRun_1 : decode cX10_mixedRun 1 = .ok (.aload_n 2, 1) := by decide +kernel
theorem dX10_mixedRun_2 : decode cX10_mixedRun 2 = .ok (.getfield 219, 3) := by decide +kernel
theorem dX10_mixedRun_5 : decode cX10_mixedRun 5 = .ok (.i2l, 1) := by decide +kernel
theorem dX10_mixedRun_6 : decode cX10_mixedRun 6 = .ok (.invokestatic 271, 3) := by decide +kernel
theorem dX10_mixedRun_9 : decode cX10_mixedRun 9 = .ok (.lstore 4, 2) := by decide +kernel
theorem dX10_mixedRun_11 : decode cX10_mixedRun 11 = .ok (.iconst 0, 1) := by decide +kernel
theorem dX10_mixedRun_12 : decode cX10_mixedRun 12 = .ok (.istore 6, 2) := by decide +kernel
theorem dX10_mixedRun_14 : decode cX10_mixedRun 14 = .ok (.iload 6, 2) := by decide +kernel
theorem dX10_mixedRun_16 : decode cX10_mixedRun 16 = .ok (.bipush 8, 2) := by decide +kernel
theorem dX10_mixedRun_18 : decode cX10_mixedRun 18 = .ok (.if_icmp .ge 25, 3) := by decide +kernel
theorem dX10_mixedRun_21 : decode cX10_mixedRun 21 = .ok (.lload 4, 2) := by decide +kernel
theorem dX10_mixedRun_23 : decode cX10_mixedRun 23 = .ok (.aload_n 2, 1) := by decide +kernel
theorem dX10_mixedRun_24 : decode cX10_mixedRun 24 = .ok (.getfield 222, 3) := by decide +kernel
theorem dX10_mixedRun_27 : decode cX10_mixedRun 27 = .ok (.iload 6, 2) := by decide +kernel
theorem dX10_mixedRun_29 : decode cX10_mixedRun 29 = .ok (.laload, 1) := by decide +kernel
theorem dX10_mixedRun_30 : decode cX10_mixedRun 30 = .ok (.l2i, 1) := by decide +kernel
theorem dX10_mixedRun_31 : decode cX10_mixedRun 31 = .ok (.i2l, 1) := by decide +kernel
theorem dX10_mixedRun_32 : decode cX10_mixedRun 32 = .ok (.invokestatic 271, 3) := by decide +kernel
theorem dX10_mixedRun_35 : decode cX10_mixedRun 35 = .ok (.lstore 4, 2) := by decide +kernel
theorem dX10_mixedRun_37 : decode cX10_mixedRun 37 = .ok (.iinc 6 1, 3) := by decide +kernel
theorem dX10_mixedRun_40 : decode cX10_mixedRun 40 = .ok (.goto (-26), 3) := by decide +kernel
theorem dX10_mixedRun_43 : decode cX10_mixedRun 43 = .ok (.lload 4, 2) := by decide +kernel
theorem dX10_mixedRun_45 : decode cX10_mixedRun 45 = .ok (.iload_n 3, 1) := by decide +kernel
theorem dX10_mixedRun_46 : decode cX10_mixedRun 46 = .ok (.i2l, 1) := by decide +kernel
theorem dX10_mixedRun_47 : decode cX10_mixedRun 47 = .ok (.invokestatic 271, 3) := by decide +kernel
theorem dX10_mixedRun_50 : decode cX10_mixedRun 50 = .ok (.lreturn, 1) := by decide +kernel
theorem dX10_mixed_0 : decode cX10_mixed 0 = .ok (.ldc2_w 285, 3) := by decide +kernel
theorem dX10_mixed_3 : decode cX10_mixed 3 = .ok (.lload_n 0, 1) := by decide +kernel
theorem dX10_mixed_4 : decode cX10_mixed 4 = .ok (.lmul, 1) := by decide +kernel
theorem dX10_mixed_5 : decode cX10_mixed 5 = .ok (.lload_n 2, 1) := by decide +kernel
theorem dX10_mixed_6 : decode cX10_mixed 6 = .ok (.ladd, 1) := by decide +kernel
theorem dX10_mixed_7 : decode cX10_mixed 7 = .ok (.lreturn, 1) := by decide +kernel
theorem dX10_requireVariable_0 : decode cX10_requireVariable 0 = .ok (.iload_n 0, 1) := by decide +kernel
theorem dX10_requireVariable_1 : decode cX10_requireVariable 1 = .ok (.ifCond .lt 9, 3) := by decide +kernel
theorem dX10_requireVariable_4 : decode cX10_requireVariable 4 = .ok (.iload_n 0, 1) := by decide +kernel
theorem dX10_requireVariable_5 : decode cX10_requireVariable 5 = .ok (.bipush 8, 2) := by decide +kernel
theorem dX10_requireVariable_7 : decode cX10_requireVariable 7 = .ok (.if_icmp .lt 14, 3) := by decide +kernel
theorem dX10_requireVariable_10 : decode cX10_requireVariable 10 = .ok (.new 287, 3) := by decide +kernel
theorem dX10_requireVariable_13 : decode cX10_requireVariable 13 = .ok (.dup, 1) := by decide +kernel
theorem dX10_requireVariable_14 : decode cX10_requireVariable 14 = .ok (.ldc_w 289, 3) := by decide +kernel
theorem dX10_requireVariable_17 : decode cX10_requireVariable 17 = .ok (.invokespecial 291, 3) := by decide +kernel
theorem dX10_requireVariable_20 : decode cX10_requireVariable 20 = .ok (.athrow, 1) := by decide +kernel
theorem dX10_requireVariable_21 : decode cX10_requireVariable 21 = .ok (.return_, 1) := by decide +kernel
theorem dX10_requireOrder_0 : decode cX10_requireOrder 0 = .ok (.iload_n 0, 1) := by decide +kernel
theorem dX10_requireOrder_1 : decode cX10_requireOrder 1 = .ok (.iload_n 1, 1) := by decide +kernel
theorem dX10_requireOrder_2 : decode cX10_requireOrder 2 = .ok (.if_icmp .le 14, 3) := by decide +kernel
theorem dX10_requireOrder_5 : decode cX10_requireOrder 5 = .ok (.new 90, 3) := by decide +kernel
theorem dX10_requireOrder_8 : decode cX10_requireOrder 8 = .ok (.dup, 1) := by decide +kernel
theorem dX10_requireOrder_9 : decode cX10_requireOrder 9 = .ok (.ldc_w 292, 3) := by decide +kernel
theorem dX10_requireOrder_12 : decode cX10_requireOrder 12 = .ok (.invokespecial 94, 3) := by decide +kernel
theorem dX10_requireOrder_15 : decode cX10_requireOrder 15 = .ok (.athrow, 1) := by decide +kernel
theorem dX10_requireOrder_16 : decode cX10_requireOrder 16 = .ok (.return_, 1) := by decide +kernel
theorem dX10_requireInstruction_0 : decode cX10_requireInstruction 0 = .ok (.iload_n 1, 1) := by decide +kernel
theorem dX10_requireInstruction_1 : decode cX10_requireInstruction 1 = .ok (.ifCond .lt 17, 3) := by decide +kernel
theorem dX10_requireInstruction_4 : decode cX10_requireInstruction 4 = .ok (.iload_n 1, 1) := by decide +kernel
theorem dX10_requireInstruction_5 : decode cX10_requireInstruction 5 = .ok (.aload_n 0, 1) := by decide +kernel
theorem dX10_requireInstruction_6 : decode cX10_requireInstruction 6 = .ok (.getfield 35, 3) := by decide +kernel
theorem dX10_requireInstruction_9 : decode cX10_requireInstruction 9 = .ok (.getfield 117, 3) := by decide +kernel
theorem dX10_requireInstruction_12 : decode cX10_requireInstruction 12 = .ok (.getfield 124, 3) := by decide +kernel
theorem dX10_requireInstruction_15 : decode cX10_requireInstruction 15 = .ok (.if_icmp .lt 14, 3) := by decide +kernel
theorem dX10_requireInstruction_18 : decode cX10_requireInstruction 18 = .ok (.new 287, 3) := by decide +kernel
theorem dX10_requireInstruction_21 : decode cX10_requireInstruction 21 = .ok (.dup, 1) := by decide +kernel
theorem dX10_requireInstruction_22 : decode cX10_requireInstruction 22 = .ok (.ldc_w 294, 3) := by decide +kernel
theorem dX10_requireInstruction_25 : decode cX10_requireInstruction 25 = .ok (.invokespecial 291, 3) := by decide +kernel
theorem dX10_requireInstruction_28 : decode cX10_requireInstruction 28 = .ok (.athrow, 1) := by decide +kernel
theorem dX10_requireInstruction_29 : decode cX10_requireInstruction 29 = .ok (.return_, 1) := by decide +kernel
theorem dX10_requireNoLoopEdge_0 : decode cX10_requireNoLoopEdge 0 = .ok (.aload_n 0, 1) := by decide +kernel
theorem dX10_requireNoLoopEdge_1 : decode cX10_requireNoLoopEdge 1 = .ok (.getfield 35, 3) := by decide +kernel
theorem dX10_requireNoLoopEdge_4 : decode cX10_requireNoLoopEdge 4 = .ok (.getfield 117, 3) := by decide +kernel
theorem dX10_requireNoLoopEdge_7 : decode cX10_requireNoLoopEdge 7 = .ok (.iload_n 1, 1) := by decide +kernel
theorem dX10_requireNoLoopEdge_8 : decode cX10_requireNoLoopEdge 8 = .ok (.invokevirtual 296, 3) := by decide +kernel
theorem dX10_requireNoLoopEdge_11 : decode cX10_requireNoLoopEdge 11 = .ok (.ifCond .eq 14, 3) := by decide +kernel
theorem dX10_requireNoLoopEdge_14 : decode cX10_requireNoLoopEdge 14 = .ok (.new 101, 3) := by decide +kernel
theorem dX10_requireNoLoopEdge_17 : decode cX10_requireNoLoopEdge 17 = .ok (.dup, 1) := by decide +kernel
theorem dX10_requireNoLoopEdge_18 : decode cX10_requireNoLoopEdge 18 = .ok (.ldc_w 300, 3) := by decide +kernel
theorem dX10_requireNoLoopEdge_21 : decode cX10_requireNoLoopEdge 21 = .ok (.invokespecial 105, 3) := by decide +kernel
theorem dX10_requireNoLoopEdge_24 : decode cX10_requireNoLoopEdge 24 = .ok (.athrow, 1) := by decide +kernel
theorem dX10_requireNoLoopEdge_25 : decode cX10_requireNoLoopEdge 25 = .ok (.return_, 1) := by decide +kernel
theorem dX10_saveForUndo_0 : decode cX10_saveForUndo 0 = .ok (.aload_n 0, 1) := by decide +kernel
theorem dX10_saveForUndo_1 : decode cX10_saveForUndo 1 = .ok (.getfield 42, 3) := by decide +kernel
theorem dX10_saveForUndo_4 : decode cX10_saveForUndo 4 = .ok (.aload_n 0, 1) := by decide +kernel
theorem dX10_saveForUndo_5 : decode cX10_saveForUndo 5 = .ok (.getfield 35, 3) := by decide +kernel
theorem dX10_saveForUndo_8 : decode cX10_saveForUndo 8 = .ok (.invokevirtual 302, 3) := by decide +kernel
theorem dX10_saveForUndo_11 : decode cX10_saveForUndo 11 = .ok (.aload_n 0, 1) := by decide +kernel
theorem dX10_saveForUndo_12 : decode cX10_saveForUndo 12 = .ok (.invokevirtual 266, 3) := by decide +kernel
theorem dX10_saveForUndo_15 : decode cX10_saveForUndo 15 = .ok (.return_, 1) := by decide +kernel
theorem dX10_forgetAnswers_0 : decode cX10_forgetAnswers 0 = .ok (.aload_n 0, 1) := by decide +kernel
theorem dX10_forgetAnswers_1 : decode cX10_forgetAnswers 1 = .ok (.iconst 0, 1) := by decide +kernel
theorem dX10_forgetAnswers_2 : decode cX10_forgetAnswers 2 = .ok (.putfield 70, 3) := by decide +kernel
theorem dX10_forgetAnswers_5 : decode cX10_forgetAnswers 5 = .ok (.aload_n 0, 1) := by decide +kernel
theorem dX10_forgetAnswers_6 : decode cX10_forgetAnswers 6 = .ok (.iconst 0, 1) := by decide +kernel
theorem dX10_forgetAnswers_7 : decode cX10_forgetAnswers 7 = .ok (.putfield 74, 3) := by decide +kernel
theorem dX10_forgetAnswers_10 : decode cX10_forgetAnswers 10 = .ok (.return_, 1) := by decide +kernel
theorem dX10_freshenAnalysis_0 : decode cX10_freshenAnalysis 0 = .ok (.aload_n 0, 1) := by decide +kernel
theorem dX10_freshenAnalysis_1 : decode cX10_freshenAnalysis 1 = .ok (.getfield 70, 3) := by decide +kernel
theorem dX10_freshenAnalysis_4 : decode cX10_freshenAnalysis 4 = .ok (.ifCond .ne 47, 3) := by decide +kernel
theorem dX10_freshenAnalysis_7 : decode cX10_freshenAnalysis 7 = .ok (.aload_n 0, 1) := by decide +kernel
theorem dX10_freshenAnalysis_8 : decode cX10_freshenAnalysis 8 = .ok (.getfield 49, 3) := by decide +kernel
theorem dX10_freshenAnalysis_11 : decode cX10_freshenAnalysis 11 = .ok (.aload_n 0, 1) := by decide +kernel
theorem dX10_freshenAnalysis_12 : decode cX10_freshenAnalysis 12 = .ok (.getfield 35, 3) := by decide +kernel
theorem dX10_freshenAnalysis_15 : decode cX10_freshenAnalysis 15 = .ok (.getfield 117, 3) := by decide +kernel
theorem dX10_freshenAnalysis_18 : decode cX10_freshenAnalysis 18 = .ok (.aload_n 0, 1) := by decide +kernel
theorem dX10_freshenAnalysis_19 : decode cX10_freshenAnalysis 19 = .ok (.getfield 35, 3) := by decide +kernel
theorem dX10_freshenAnalysis_22 : decode cX10_freshenAnalysis 22 = .ok (.getfield 134, 3) := by decide +kernel
theorem dX10_freshenAnalysis_25 : decode cX10_freshenAnalysis 25 = .ok (.invokevirtual 305, 3) := by decide +kernel
theorem dX10_freshenAnalysis_28 : decode cX10_freshenAnalysis 28 = .ok (.aload_n 0, 1) := by decide +kernel
theorem dX10_freshenAnalysis_29 : decode cX10_freshenAnalysis 29 = .ok (.getfield 56, 3) := by decide +kernel
theorem dX10_freshenAnalysis_32 : decode cX10_freshenAnalysis 32 = .ok (.aload_n 0, 1) := by decide +kernel
theorem dX10_freshenAnalysis_33 : decode cX10_freshenAnalysis 33 = .ok (.getfield 35, 3) := by decide +kernel
theorem dX10_freshenAnalysis_36 : decode cX10_freshenAnalysis 36 = .ok (.getfield 117, 3) := by decide +kernel
theorem dX10_freshenAnalysis_39 : decode cX10_freshenAnalysis 39 = .ok (.aload_n 0, 1) := by decide +kernel
theorem dX10_freshenAnalysis_40 : decode cX10_freshenAnalysis 40 = .ok (.getfield 49, 3) := by decide +kernel
theorem dX10_freshenAnalysis_43 : decode cX10_freshenAnalysis 43 = .ok (.invokevirtual 309, 3) := by decide +kernel
theorem dX10_freshenAnalysis_46 : decode cX10_freshenAnalysis 46 = .ok (.aload_n 0, 1) := by decide +kernel
theorem dX10_freshenAnalysis_47 : decode cX10_freshenAnalysis 47 = .ok (.iconst 1, 1) := by decide +kernel
theorem dX10_freshenAnalysis_48 : decode cX10_freshenAnalysis 48 = .ok (.putfield 70, 3) := by decide +kernel
theorem dX10_freshenAnalysis_51 : decode cX10_freshenAnalysis 51 = .ok (.return_, 1) := by decide +kernel
theorem dX10_freshenRuns_0 : decode cX10_freshenRuns 0 = .ok (.aload_n 0, 1) := by decide +kernel
theorem dX10_freshenRuns_1 : decode cX10_freshenRuns 1 = .ok (.getfield 74, 3) := by decide +kernel
theorem dX10_freshenRuns_4 : decode cX10_freshenRuns 4 = .ok (.ifCond .ne 58, 3) := by decide +kernel
theorem dX10_freshenRuns_7 : decode cX10_freshenRuns 7 = .ok (.aload_n 0, 1) := by decide +kernel
theorem dX10_freshenRuns_8 : decode cX10_freshenRuns 8 = .ok (.invokevirtual 184, 3) := by decide +kernel
theorem dX10_freshenRuns_11 : decode cX10_freshenRuns 11 = .ok (.aload_n 0, 1) := by decide +kernel
theorem dX10_freshenRuns_12 : decode cX10_freshenRuns 12 = .ok (.getfield 63, 3) := by decide +kernel
theorem dX10_freshenRuns_15 : decode cX10_freshenRuns 15 = .ok (.aload_n 0, 1) := by decide +kernel
theorem dX10_freshenRuns_16 : decode cX10_freshenRuns 16 = .ok (.getfield 35, 3) := by decide +kernel
theorem dX10_freshenRuns_19 : decode cX10_freshenRuns 19 = .ok (.getfield 117, 3) := by decide +kernel
theorem dX10_freshenRuns_22 : decode cX10_freshenRuns 22 = .ok (.aload_n 0, 1) := by decide +kernel
theorem dX10_freshenRuns_23 : decode cX10_freshenRuns 23 = .ok (.getfield 35, 3) := by decide +kernel
theorem dX10_freshenRuns_26 : decode cX10_freshenRuns 26 = .ok (.getfield 134, 3) := by decide +kernel
theorem dX10_freshenRuns_29 : decode cX10_freshenRuns 29 = .ok (.invokevirtual 313, 3) := by decide +kernel
theorem dX10_freshenRuns_32 : decode cX10_freshenRuns 32 = .ok (.aload_n 0, 1) := by decide +kernel
theorem dX10_freshenRuns_33 : decode cX10_freshenRuns 33 = .ok (.getfield 67, 3) := by decide +kernel
theorem dX10_freshenRuns_36 : decode cX10_freshenRuns 36 = .ok (.aload_n 0, 1) := by decide +kernel
theorem dX10_freshenRuns_37 : decode cX10_freshenRuns 37 = .ok (.getfield 35, 3) := by decide +kernel
theorem dX10_freshenRuns_40 : decode cX10_freshenRuns 40 = .ok (.getfield 117, 3) := by decide +kernel
theorem dX10_freshenRuns_43 : decode cX10_freshenRuns 43 = .ok (.aload_n 0, 1) := by decide +kernel
theorem dX10_freshenRuns_44 : decode cX10_freshenRuns 44 = .ok (.getfield 35, 3) := by decide +kernel
theorem dX10_freshenRuns_47 : decode cX10_freshenRuns 47 = .ok (.getfield 134, 3) := by decide +kernel
theorem dX10_freshenRuns_50 : decode cX10_freshenRuns 50 = .ok (.aload_n 0, 1) := by decide +kernel
theorem dX10_freshenRuns_51 : decode cX10_freshenRuns 51 = .ok (.getfield 56, 3) := by decide +kernel
theorem dX10_freshenRuns_54 : decode cX10_freshenRuns 54 = .ok (.invokevirtual 316, 3) := by decide +kernel
theorem dX10_freshenRuns_57 : decode cX10_freshenRuns 57 = .ok (.aload_n 0, 1) := by decide +kernel
theorem dX10_freshenRuns_58 : decode cX10_freshenRuns 58 = .ok (.iconst 1, 1) := by decide +kernel
theorem dX10_freshenRuns_59 : decode cX10_freshenRuns 59 = .ok (.putfield 74, 3) := by decide +kernel
theorem dX10_freshenRuns_62 : decode cX10_freshenRuns 62 = .ok (.return_, 1) := by decide +kernel
theorem dX10_outcomeOf_0 : decode cX10_outcomeOf 0 = .ok (.iload_n 1, 1) := by decide +kernel
theorem dX10_outcomeOf_1 : decode cX10_outcomeOf 1 = .ok (.ifCond .eq 21, 3) := by decide +kernel
theorem dX10_outcomeOf_4 : decode cX10_outcomeOf 4 = .ok (.aload_n 0, 1) := by decide +kernel
theorem dX10_outcomeOf_5 : decode cX10_outcomeOf 5 = .ok (.getfield 67, 3) := by decide +kernel
theorem dX10_outcomeOf_8 : decode cX10_outcomeOf 8 = .ok (.getfield 219, 3) := by decide +kernel
theorem dX10_outcomeOf_11 : decode cX10_outcomeOf 11 = .ok (.iconst (-1), 1) := by decide +kernel
theorem dX10_outcomeOf_12 : decode cX10_outcomeOf 12 = .ok (.if_icmp .ne 10, 3) := by decide +kernel
theorem dX10_outcomeOf_15 : decode cX10_outcomeOf 15 = .ok (.aload_n 0, 1) := by decide +kernel
theorem dX10_outcomeOf_16 : decode cX10_outcomeOf 16 = .ok (.getfield 67, 3) := by decide +kernel
theorem dX10_outcomeOf_19 : decode cX10_outcomeOf 19 = .ok (.goto 7, 3) := by decide +kernel
theorem dX10_outcomeOf_22 : decode cX10_outcomeOf 22 = .ok (.aload_n 0, 1) := by decide +kernel
theorem dX10_outcomeOf_23 : decode cX10_outcomeOf 23 = .ok (.getfield 63, 3) := by decide +kernel
theorem dX10_outcomeOf_26 : decode cX10_outcomeOf 26 = .ok (.areturn, 1) := by decide +kernel
theorem dX10_openChecksWith_0 : decode cX10_openChecksWith 0 = .ok (.aload_n 0, 1) := by decide +kernel
theorem dX10_openChecksWith_1 : decode cX10_openChecksWith 1 = .ok (.getfield 80, 3) := by decide +kernel
theorem dX10_openChecksWith_4 : decode cX10_openChecksWith 4 = .ok (.aload_n 0, 1) := by decide +kernel
theorem dX10_openChecksWith_5 : decode cX10_openChecksWith 5 = .ok (.getfield 35, 3) := by decide +kernel
theorem dX10_openChecksWith_8 : decode cX10_openChecksWith 8 = .ok (.getfield 134, 3) := by decide +kernel
theorem dX10_openChecksWith_11 : decode cX10_openChecksWith 11 = .ok (.invokevirtual 320, 3) := by decide +kernel
theorem dX10_openChecksWith_14 : decode cX10_openChecksWith 14 = .ok (.aload_n 0, 1) := by decide +kernel
theorem dX10_openChecksWith_15 : decode cX10_openChecksWith 15 = .ok (.getfield 80, 3) := by decide +kernel
theorem dX10_openChecksWith_18 : decode cX10_openChecksWith 18 = .ok (.getfield 141, 3) := by decide +kernel
theorem dX10_openChecksWith_21 : decode cX10_openChecksWith 21 = .ok (.iload_n 1, 1) := by decide +kernel
theorem dX10_openChecksWith_22 : decode cX10_openChecksWith 22 = .ok (.iload_n 2, 1) := by decide +kernel
theorem dX10_openChecksWith_23 : decode cX10_openChecksWith 23 = .ok (.iastore, 1) := by decide +kernel
theorem dX10_openChecksWith_24 : decode cX10_openChecksWith 24 = .ok (.aload_n 0, 1) := by decide +kernel
theorem dX10_openChecksWith_25 : decode cX10_openChecksWith 25 = .ok (.getfield 80, 3) := by decide +kernel
theorem dX10_openChecksWith_28 : decode cX10_openChecksWith 28 = .ok (.getfield 145, 3) := by decide +kernel
theorem dX10_openChecksWith_31 : decode cX10_openChecksWith 31 = .ok (.iload_n 1, 1) := by decide +kernel
theorem dX10_openChecksWith_32 : decode cX10_openChecksWith 32 = .ok (.iload_n 3, 1) := by decide +kernel
theorem dX10_openChecksWith_33 : decode cX10_openChecksWith 33 = .ok (.iastore, 1) := by decide +kernel
theorem dX10_openChecksWith_34 : decode cX10_openChecksWith 34 = .ok (.aload_n 0, 1) := by decide +kernel
theorem dX10_openChecksWith_35 : decode cX10_openChecksWith 35 = .ok (.getfield 84, 3) := by decide +kernel
theorem dX10_openChecksWith_38 : decode cX10_openChecksWith 38 = .ok (.aload_n 0, 1) := by decide +kernel
theorem dX10_openChecksWith_39 : decode cX10_openChecksWith 39 = .ok (.getfield 35, 3) := by decide +kernel
theorem dX10_openChecksWith_42 : decode cX10_openChecksWith 42 = .ok (.getfield 117, 3) := by decide +kernel
theorem dX10_openChecksWith_45 : decode cX10_openChecksWith 45 = .ok (.aload_n 0, 1) := by decide +kernel
theorem dX10_openChecksWith_46 : decode cX10_openChecksWith 46 = .ok (.getfield 80, 3) := by decide +kernel
theorem dX10_openChecksWith_49 : decode cX10_openChecksWith 49 = .ok (.invokevirtual 305, 3) := by decide +kernel
theorem dX10_openChecksWith_52 : decode cX10_openChecksWith 52 = .ok (.aload_n 0, 1) := by decide +kernel
theorem dX10_openChecksWith_53 : decode cX10_openChecksWith 53 = .ok (.getfield 84, 3) := by decide +kernel
theorem dX10_openChecksWith_56 : decode cX10_openChecksWith 56 = .ok (.getfield 322, 3) := by decide +kernel
theorem dX10_openChecksWith_59 : decode cX10_openChecksWith 59 = .ok (.ireturn, 1) := by decide +kernel
theorem dX10_canFailBetween_0 : decode cX10_canFailBetween 0 = .ok (.aload_n 0, 1) := by decide +kernel
theorem dX10_canFailBetween_1 : decode cX10_canFailBetween 1 = .ok (.getfield 80, 3) := by decide +kernel
theorem dX10_canFailBetween_4 : decode cX10_canFailBetween 4 = .ok (.getfield 141, 3) := by decide +kernel
theorem dX10_canFailBetween_7 : decode cX10_canFailBetween 7 = .ok (.iload_n 1, 1) := by decide +kernel
theorem dX10_canFailBetween_8 : decode cX10_canFailBetween 8 = .ok (.iload_n 2, 1) := by decide +kernel
theorem dX10_canFailBetween_9 : decode cX10_canFailBetween 9 = .ok (.iastore, 1) := by decide +kernel
theorem dX10_canFailBetween_10 : decode cX10_canFailBetween 10 = .ok (.aload_n 0, 1) := by decide +kernel
theorem dX10_canFailBetween_11 : decode cX10_canFailBetween 11 = .ok (.getfield 80, 3) := by decide +kernel
theorem dX10_canFailBetween_14 : decode cX10_canFailBetween 14 = .ok (.getfield 145, 3) := by decide +kernel
theorem dX10_canFailBetween_17 : decode cX10_canFailBetween 17 = .ok (.iload_n 1, 1) := by decide +kernel
theorem dX10_canFailBetween_18 : decode cX10_canFailBetween 18 = .ok (.iload_n 3, 1) := by decide +kernel
theorem dX10_canFailBetween_19 : decode cX10_canFailBetween 19 = .ok (.iastore, 1) := by decide +kernel
theorem dX10_canFailBetween_20 : decode cX10_canFailBetween 20 = .ok (.aload_n 0, 1) := by decide +kernel
theorem dX10_canFailBetween_21 : decode cX10_canFailBetween 21 = .ok (.getfield 84, 3) := by decide +kernel
theorem dX10_canFailBetween_24 : decode cX10_canFailBetween 24 = .ok (.aload_n 0, 1) := by decide +kernel
theorem dX10_canFailBetween_25 : decode cX10_canFailBetween 25 = .ok (.getfield 35, 3) := by decide +kernel
theorem dX10_canFailBetween_28 : decode cX10_canFailBetween 28 = .ok (.getfield 117, 3) := by decide +kernel
theorem dX10_canFailBetween_31 : decode cX10_canFailBetween 31 = .ok (.aload_n 0, 1) := by decide +kernel
theorem dX10_canFailBetween_32 : decode cX10_canFailBetween 32 = .ok (.getfield 80, 3) := by decide +kernel
theorem dX10_canFailBetween_35 : decode cX10_canFailBetween 35 = .ok (.invokevirtual 305, 3) := by decide +kernel
theorem dX10_canFailBetween_38 : decode cX10_canFailBetween 38 = .ok (.aload_n 0, 1) := by decide +kernel
theorem dX10_canFailBetween_39 : decode cX10_canFailBetween 39 = .ok (.getfield 84, 3) := by decide +kernel
theorem dX10_canFailBetween_42 : decode cX10_canFailBetween 42 = .ok (.getfield 322, 3) := by decide +kernel
theorem dX10_canFailBetween_45 : decode cX10_canFailBetween 45 = .ok (.ifCond .le 7, 3) := by decide +kernel
theorem dX10_canFailBetween_48 : decode cX10_canFailBetween 48 = .ok (.iconst 1, 1) := by decide +kernel
theorem dX10_canFailBetween_49 : decode cX10_canFailBetween 49 = .ok (.goto 4, 3) := by decide +kernel
theorem dX10_canFailBetween_52 : decode cX10_canFailBetween 52 = .ok (.iconst 0, 1) := by decide +kernel
theorem dX10_canFailBetween_53 : decode cX10_canFailBetween 53 = .ok (.ireturn, 1) := by decide +kernel
theorem dX10_failsWith_0 : decode cX10_failsWith 0 = .ok (.aload_n 0, 1) := by decide +kernel
theorem dX10_failsWith_1 : decode cX10_failsWith 1 = .ok (.getfield 80, 3) := by decide +kernel
theorem dX10_failsWith_4 : decode cX10_failsWith 4 = .ok (.getfield 150, 3) := by decide +kernel
theorem dX10_failsWith_7 : decode cX10_failsWith 7 = .ok (.iload_n 1, 1) := by decide +kernel
theorem dX10_failsWith_8 : decode cX10_failsWith 8 = .ok (.iload_n 2, 1) := by decide +kernel
theorem dX10_failsWith_9 : decode cX10_failsWith 9 = .ok (.iastore, 1) := by decide +kernel
theorem dX10_failsWith_10 : decode cX10_failsWith 10 = .ok (.aload_n 0, 1) := by decide +kernel
theorem dX10_failsWith_11 : decode cX10_failsWith 11 = .ok (.getfield 87, 3) := by decide +kernel
theorem dX10_failsWith_14 : decode cX10_failsWith 14 = .ok (.aload_n 0, 1) := by decide +kernel
theorem dX10_failsWith_15 : decode cX10_failsWith 15 = .ok (.getfield 35, 3) := by decide +kernel
theorem dX10_failsWith_18 : decode cX10_failsWith 18 = .ok (.getfield 117, 3) := by decide +kernel
theorem dX10_failsWith_21 : decode cX10_failsWith 21 = .ok (.aload_n 0, 1) := by decide +kernel
theorem dX10_failsWith_22 : decode cX10_failsWith 22 = .ok (.getfield 80, 3) := by decide +kernel
theorem dX10_failsWith_25 : decode cX10_failsWith 25 = .ok (.invokevirtual 313, 3) := by decide +kernel
theorem dX10_failsWith_28 : decode cX10_failsWith 28 = .ok (.aload_n 0, 1) := by decide +kernel
theorem dX10_failsWith_29 : decode cX10_failsWith 29 = .ok (.getfield 87, 3) := by decide +kernel
theorem dX10_failsWith_32 : decode cX10_failsWith 32 = .ok (.getfield 219, 3) := by decide +kernel
theorem dX10_failsWith_35 : decode cX10_failsWith 35 = .ok (.iconst (-1), 1) := by decide +kernel
theorem dX10_failsWith_36 : decode cX10_failsWith 36 = .ok (.if_icmp .eq 7, 3) := by decide +kernel
theorem dX10_failsWith_39 : decode cX10_failsWith 39 = .ok (.iconst 1, 1) := by decide +kernel
theorem dX10_failsWith_40 : decode cX10_failsWith 40 = .ok (.goto 4, 3) := by decide +kernel
theorem dX10_failsWith_43 : decode cX10_failsWith 43 = .ok (.iconst 0, 1) := by decide +kernel
theorem dX10_failsWith_44 : decode cX10_failsWith 44 = .ok (.ireturn, 1) := by decide +kernel
theorem dX10_isInt_0 : decode cX10_isInt 0 = .ok (.lload_n 0, 1) := by decide +kernel
theorem dX10_isInt_1 : decode cX10_isInt 1 = .ok (.ldc2_w 325, 3) := by decide +kernel
theorem dX10_isInt_4 : decode cX10_isInt 4 = .ok (.lcmp, 1) := by decide +kernel
theorem dX10_isInt_5 : decode cX10_isInt 5 = .ok (.ifCond .lt 15, 3) := by decide +kernel
theorem dX10_isInt_8 : decode cX10_isInt 8 = .ok (.lload_n 0, 1) := by decide +kernel
theorem dX10_isInt_9 : decode cX10_isInt 9 = .ok (.ldc2_w 327, 3) := by decide +kernel
theorem dX10_isInt_12 : decode cX10_isInt 12 = .ok (.lcmp, 1) := by decide +kernel
theorem dX10_isInt_13 : decode cX10_isInt 13 = .ok (.ifCond .gt 7, 3) := by decide +kernel
theorem dX10_isInt_16 : decode cX10_isInt 16 = .ok (.iconst 1, 1) := by decide +kernel
theorem dX10_isInt_17 : decode cX10_isInt 17 = .ok (.goto 4, 3) := by decide +kernel
theorem dX10_isInt_20 : decode cX10_isInt 20 = .ok (.iconst 0, 1) := by decide +kernel
theorem dX10_isInt_21 : decode cX10_isInt 21 = .ok (.ireturn, 1) := by decide +kernel
theorem dX10_isVariable_0 : decode cX10_isVariable 0 = .ok (.iload_n 0, 1) := by decide +kernel
theorem dX10_isVariable_1 : decode cX10_isVariable 1 = .ok (.ifCond .lt 13, 3) := by decide +kernel
theorem dX10_isVariable_4 : decode cX10_isVariable 4 = .ok (.iload_n 0, 1) := by decide +kernel
theorem dX10_isVariable_5 : decode cX10_isVariable 5 = .ok (.bipush 8, 2) := by decide +kernel
theorem dX10_isVariable_7 : decode cX10_isVariable 7 = .ok (.if_icmp .ge 7, 3) := by decide +kernel
theorem dX10_isVariable_10 : decode cX10_isVariable 10 = .ok (.iconst 1, 1) := by decide +kernel
theorem dX10_isVariable_11 : decode cX10_isVariable 11 = .ok (.goto 4, 3) := by decide +kernel
theorem dX10_isVariable_14 : decode cX10_isVariable 14 = .ok (.iconst 0, 1) := by decide +kernel
theorem dX10_isVariable_15 : decode cX10_isVariable 15 = .ok (.ireturn, 1) := by decide +kernel
theorem dX11_init_0 : decode cX11_init 0 = .ok (.aload_n 0, 1) := by decide +kernel
theorem dX11_init_1 : decode cX11_init 1 = .ok (.invokespecial 1, 3) := by decide +kernel
theorem dX11_init_4 : decode cX11_init 4 = .ok (.aload_n 0, 1) := by decide +kernel
theorem dX11_init_5 : decode cX11_init 5 = .ok (.sipush 145, 3) := by decide +kernel
theorem dX11_init_8 : decode cX11_init 8 = .ok (.newarray .int, 2) := by decide +kernel
theorem dX11_init_10 : decode cX11_init 10 = .ok (.putfield 7, 3) := by decide +kernel
theorem dX11_init_13 : decode cX11_init 13 = .ok (.aload_n 0, 1) := by decide +kernel
theorem dX11_init_14 : decode cX11_init 14 = .ok (.sipush 580, 3) := by decide +kernel
theorem dX11_init_17 : decode cX11_init 17 = .ok (.newarray .int, 2) := by decide +kernel
theorem dX11_init_19 : decode cX11_init 19 = .ok (.putfield 13, 3) := by decide +kernel
theorem dX11_init_22 : decode cX11_init 22 = .ok (.aload_n 0, 1) := by decide +kernel
theorem dX11_init_23 : decode cX11_init 23 = .ok (.sipush 200, 3) := by decide +kernel
theorem dX11_init_26 : decode cX11_init 26 = .ok (.newarray .int, 2) := by decide +kernel
theorem dX11_init_28 : decode cX11_init 28 = .ok (.putfield 16, 3) := by decide +kernel
theorem dX11_init_31 : decode cX11_init 31 = .ok (.aload_n 0, 1) := by decide +kernel
theorem dX11_init_32 : decode cX11_init 32 = .ok (.bipush 120, 2) := by decide +kernel
theorem dX11_init_34 : decode cX11_init 34 = .ok (.newarray .int, 2) := by decide +kernel
theorem dX11_init_36 : decode cX11_init 36 = .ok (.putfield 19, 3) := by decide +kernel
theorem dX11_init_39 : decode cX11_init 39 = .ok (.aload_n 0, 1) := by decide +kernel
theorem dX11_init_40 : decode cX11_init 40 = .ok (.bipush 30, 2) := by decide +kernel
theorem dX11_init_42 : decode cX11_init 42 = .ok (.newarray .int, 2) := by decide +kernel
theorem dX11_init_44 : decode cX11_init 44 = .ok (.putfield 22, 3) := by decide +kernel
theorem dX11_init_47 : decode cX11_init 47 = .ok (.aload_n 0, 1) := by decide +kernel
theorem dX11_init_48 : decode cX11_init 48 = .ok (.bipush 30, 2) := by decide +kernel
theorem dX11_init_50 : decode cX11_init 50 = .ok (.newarray .int, 2) := by decide +kernel
theorem dX11_init_52 : decode cX11_init 52 = .ok (.putfield 25, 3) := by decide +kernel
theorem dX11_init_55 : decode cX11_init 55 = .ok (.aload_n 0, 1) := by decide +kernel
theorem dX11_init_56 : decode cX11_init 56 = .ok (.bipush 30, 2) := by decide +kernel
theorem dX11_init_58 : decode cX11_init 58 = .ok (.newarray .int, 2) := by decide +kernel
theorem dX11_init_60 : decode cX11_init 60 = .ok (.putfield 28, 3) := by decide +kernel
theorem dX11_init_63 : decode cX11_init 63 = .ok (.aload_n 0, 1) := by decide +kernel
theorem dX11_init_64 : decode cX11_init 64 = .ok (.iconst 2, 1) := by decide +kernel
theorem dX11_init_65 : decode cX11_init 65 = .ok (.newarray .int, 2) := by decide +kernel
theorem dX11_init_67 : decode cX11_init 67 = .ok (.putfield 31, 3) := by decide +kernel
theorem dX11_init_70 : decode cX11_init 70 = .ok (.aload_n 0, 1) := by decide +kernel
theorem dX11_init_71 : decode cX11_init 71 = .ok (.bipush 8, 2) := by decide +kernel
theorem dX11_init_73 : decode cX11_init 73 = .ok (.newarray .long, 2) := by decide +kernel
theorem dX11_init_75 : decode cX11_init 75 = .ok (.putfield 34, 3) := by decide +kernel
theorem dX11_init_78 : decode cX11_init 78 = .ok (.aload_n 0, 1) := by decide +kernel
theorem dX11_init_79 : decode cX11_init 79 = .ok (.bipush 8, 2) := by decide +kernel
theorem dX11_init_81 : decode cX11_init 81 = .ok (.newarray .long, 2) := by decide +kernel
theorem dX11_init_83 : decode cX11_init 83 = .ok (.putfield 38, 3) := by decide +kernel
theorem dX11_init_86 : decode cX11_init 86 = .ok (.aload_n 0, 1) := by decide +kernel
theorem dX11_init_87 : decode cX11_init 87 = .ok (.bipush 30, 2) := by decide +kernel
theorem dX11_init_89 : decode cX11_init 89 = .ok (.newarray .boolean, 2) := by decide +kernel
theorem dX11_init_91 : decode cX11_init 91 = .ok (.putfield 41, 3) := by decide +kernel
theorem dX11_init_94 : decode cX11_init 94 = .ok (.aload_n 0, 1) := by decide +kernel
theorem dX11_init_95 : decode cX11_init 95 = .ok (.bipush 30, 2) := by decide +kernel
theorem dX11_init_97 : decode cX11_init 97 = .ok (.newarray .boolean, 2) := by decide +kernel
theorem dX11_init_99 : decode cX11_init 99 = .ok (.putfield 45, 3) := by decide +kernel
theorem dX11_init_102 : decode cX11_init 102 = .ok (.aload_n 0, 1) := by decide +kernel
theorem dX11_init_103 : decode cX11_init 103 = .ok (.bipush 30, 2) := by decide +kernel
theorem dX11_init_105 : decode cX11_init 105 = .ok (.newarray .boolean, 2) := by decide +kernel
theorem dX11_init_107 : decode cX11_init 107 = .ok (.putfield 48, 3) := by decide +kernel
theorem dX11_init_110 : decode cX11_init 110 = .ok (.aload_n 0, 1) := by decide +kernel
theorem dX11_init_111 : decode cX11_init 111 = .ok (.bipush 30, 2) := by decide +kernel
theorem dX11_init_113 : decode cX11_init 113 = .ok (.newarray .boolean, 2) := by decide +kernel
theorem dX11_init_115 : decode cX11_init 115 = .ok (.putfield 51, 3) := by decide +kernel
theorem dX11_init_118 : decode cX11_init 118 = .ok (.aload_n 0, 1) := by decide +kernel
theorem dX11_init_119 : decode cX11_init 119 = .ok (.bipush 30, 2) := by decide +kernel
theorem dX11_init_121 : decode cX11_init 121 = .ok (.newarray .long, 2) := by decide +kernel
theorem dX11_init_123 : decode cX11_init 123 = .ok (.putfield 54, 3) := by decide +kernel
theorem dX11_init_126 : decode cX11_init 126 = .ok (.aload_n 0, 1) := by decide +kernel
theorem dX11_init_127 : decode cX11_init 127 = .ok (.bipush 30, 2) := by decide +kernel
theorem dX11_init_129 : decode cX11_init 129 = .ok (.newarray .long, 2) := by decide +kernel
theorem dX11_init_131 : decode cX11_init 131 = .ok (.putfield 57, 3) := by decide +kernel
theorem dX11_init_134 : decode cX11_init 134 = .ok (.aload_n 0, 1) := by decide +kernel
theorem dX11_init_135 : decode cX11_init 135 = .ok (.bipush 30, 2) := by decide +kernel
theorem dX11_init_137 : decode cX11_init 137 = .ok (.newarray .int, 2) := by decide +kernel
theorem dX11_init_139 : decode cX11_init 139 = .ok (.putfield 60, 3) := by decide +kernel
theorem dX11_init_142 : decode cX11_init 142 = .ok (.aload_n 0, 1) := by decide +kernel
theorem dX11_init_143 : decode cX11_init 143 = .ok (.bipush 30, 2) := by decide +kernel
theorem dX11_init_145 : decode cX11_init 145 = .ok (.newarray .boolean, 2) := by decide +kernel
theorem dX11_init_147 : decode cX11_init 147 = .ok (.putfield 63, 3) := by decide +kernel
theorem dX11_init_150 : decode cX11_init 150 = .ok (.aload_n 0, 1) := by decide +kernel
theorem dX11_init_151 : decode cX11_init 151 = .ok (.bipush 30, 2) := by decide +kernel
theorem dX11_init_153 : decode cX11_init 153 = .ok (.newarray .int, 2) := by decide +kernel
theorem dX11_init_155 : decode cX11_init 155 = .ok (.putfield 66, 3) := by decide +kernel
theorem dX11_init_158 : decode cX11_init 158 = .ok (.aload_n 0, 1) := by decide +kernel
theorem dX11_init_159 : decode cX11_init 159 = .ok (.bipush 8, 2) := by decide +kernel
theorem dX11_init_161 : decode cX11_init 161 = .ok (.newarray .long, 2) := by decide +kernel
theorem dX11_init_163 : decode cX11_init 163 = .ok (.putfield 69, 3) := by decide +kernel
theorem dX11_init_166 : decode cX11_init 166 = .ok (.aload_n 0, 1) := by decide +kernel
theorem dX11_init_167 : decode cX11_init 167 = .ok (.bipush 30, 2) := by decide +kernel
theorem dX11_init_169 : decode cX11_init 169 = .ok (.newarray .boolean, 2) := by decide +kernel
theorem dX11_init_171 : decode cX11_init 171 = .ok (.putfield 72, 3) := by decide +kernel
theorem dX11_init_174 : decode cX11_init 174 = .ok (.iconst 0, 1) := by decide +kernel
theorem dX11_init_175 : decode cX11_init 175 = .ok (.istore_n 1, 1) := by decide +kernel
theorem dX11_init_176 : decode cX11_init 176 = .ok (.iload_n 1, 1) := by decide +kernel
theorem dX11_init_177 : decode cX11_init 177 = .ok (.bipush 8, 2) := by decide +kernel
theorem dX11_init_179 : decode cX11_init 179 = .ok (.if_icmp .ge 24, 3) := by decide +kernel
theorem dX11_init_182 : decode cX11_init 182 = .ok (.aload_n 0, 1) := by decide +kernel
theorem dX11_init_183 : decode cX11_init 183 = .ok (.getfield 7, 3) := by decide +kernel
theorem dX11_init_186 : decode cX11_init 186 = .ok (.bipush 121, 2) := by decide +kernel
theorem dX11_init_188 : decode cX11_init 188 = .ok (.iconst 3, 1) := by decide +kernel
theorem dX11_init_189 : decode cX11_init 189 = .ok (.iload_n 1, 1) := by decide +kernel
theorem dX11_init_190 : decode cX11_init 190 = .ok (.imul, 1) := by decide +kernel
theorem dX11_init_191 : decode cX11_init 191 = .ok (.iadd, 1) := by decide +kernel
theorem dX11_init_192 : decode cX11_init 192 = .ok (.iconst 1, 1) := by decide +kernel
theorem dX11_init_193 : decode cX11_init 193 = .ok (.iadd, 1) := by decide +kernel
theorem dX11_init_194 : decode cX11_init 194 = .ok (.bipush 100, 2) := by decide +kernel
theorem dX11_init_196 : decode cX11_init 196 = .ok (.iastore, 1) := by decide +kernel
theorem dX11_init_197 : decode cX11_init 197 = .ok (.iinc 1 1, 3) := by decide +kernel
theorem dX11_init_200 : decode cX11_init 200 = .ok (.goto (-24), 3) := by decide +kernel
theorem dX11_init_203 : decode cX11_init 203 = .ok (.return_, 1) := by decide +kernel
theorem dX11_in_0 : decode cX11_in 0 = .ok (.lload_n 0, 1) := by decide +kernel
theorem dX11_in_1 : decode cX11_in 1 = .ok (.lload_n 2, 1) := by decide +kernel
theorem dX11_in_2 : decode cX11_in 2 = .ok (.lcmp, 1) := by decide +kernel
theorem dX11_in_3 : decode cX11_in 3 = .ok (.ifCond .lt 14, 3) := by decide +kernel
theorem dX11_in_6 : decode cX11_in 6 = .ok (.lload_n 0, 1) := by decide +kernel
theorem dX11_in_7 : decode cX11_in 7 = .ok (.lload 4, 2) := by decide +kernel
theorem dX11_in_9 : decode cX11_in 9 = .ok (.lcmp, 1) := by decide +kernel
theorem dX11_in_10 : decode cX11_in 10 = .ok (.ifCond .gt 7, 3) := by decide +kernel
theorem dX11_in_13 : decode cX11_in 13 = .ok (.iconst 1, 1) := by decide +kernel
theorem dX11_in_14 : decode cX11_in 14 = .ok (.goto 4, 3) := by decide +kernel
theorem dX11_in_17 : decode cX11_in 17 = .ok (.iconst 0, 1) := by decide +kernel
theorem dX11_in_18 : decode cX11_in 18 = .ok (.ireturn, 1) := by decide +kernel
theorem dX11_goes_0 : decode cX11_goes 0 = .ok (.aload_n 0, 1) := by decide +kernel
theorem dX11_goes_1 : decode cX11_goes 1 = .ok (.iload_n 1, 1) := by decide +kernel
theorem dX11_goes_2 : decode cX11_goes 2 = .ok (.ifCond .ne 7, 3) := by decide +kernel
theorem dX11_goes_5 : decode cX11_goes 5 = .ok (.iconst 1, 1) := by decide +kernel
theorem dX11_goes_6 : decode cX11_goes 6 = .ok (.goto 12, 3) := by decide +kernel
theorem dX11_goes_9 : decode cX11_goes 9 = .ok (.iload_n 2, 1) := by decide +kernel
theorem dX11_goes_10 : decode cX11_goes 10 = .ok (.ifCond .ne 7, 3) := by decide +kernel
theorem dX11_goes_13 : decode cX11_goes 13 = .ok (.iconst 2, 1) := by decide +kernel
theorem dX11_goes_14 : decode cX11_goes 14 = .ok (.goto 4, 3) := by decide +kernel
theorem dX11_goes_17 : decode cX11_goes 17 = .ok (.iconst 0, 1) := by decide +kernel
theorem dX11_goes_18 : decode cX11_goes 18 = .ok (.putfield 75, 3) := by decide +kernel
theorem dX11_goes_21 : decode cX11_goes 21 = .ok (.aload_n 0, 1) := by decide +kernel
theorem dX11_goes_22 : decode cX11_goes 22 = .ok (.getfield 75, 3) := by decide +kernel
theorem dX11_goes_25 : decode cX11_goes 25 = .ok (.ifCond .ne 7, 3) := by decide +kernel
theorem dX11_goes_28 : decode cX11_goes 28 = .ok (.iconst 1, 1) := by decide +kernel
theorem dX11_goes_29 : decode cX11_goes 29 = .ok (.goto 4, 3) := by decide +kernel
theorem dX11_goes_32 : decode cX11_goes 32 = .ok (.iconst 0, 1) := by decide +kernel
theorem dX11_goes_33 : decode cX11_goes 33 = .ok (.ireturn, 1) := by decide +kernel
theorem dX11_save_0 : decode cX11_save 0 = .ok (.aload_n 0, 1) := by decide +kernel
theorem dX11_save_1 : decode cX11_save 1 = .ok (.getfield 79, 3) := by decide +kernel
theorem dX11_save_4 : decode cX11_save 4 = .ok (.iconst 4, 1) := by decide +kernel
theorem dX11_save_5 : decode cX11_save 5 = .ok (.if_icmp .ne 44, 3) := by decide +kernel
theorem dX11_save_8 : decode cX11_save 8 = .ok (.iconst 0, 1) := by decide +kernel
theorem dX11_save_9 : decode cX11_save 9 = .ok (.istore_n 1, 1) := by decide +kernel
theorem dX11_save_10 : decode cX11_save 10 = .ok (.iload_n 1, 1) := by decide +kernel
theorem dX11_save_11 : decode cX11_save 11 = .ok (.sipush 435, 3) := by decide +kernel
theorem dX11_save_14 : decode cX11_save 14 = .ok (.if_icmp .ge 25, 3) := by decide +kernel
theorem dX11_save_17 : decode cX11_save 17 = .ok (.aload_n 0, 1) := by decide +kernel
theorem dX11_save_18 : decode cX11_save 18 = .ok (.getfield 13, 3) := by decide +kernel
theorem dX11_save_21 : decode cX11_save 21 = .ok (.iload_n 1, 1) := by decide +kernel
theorem dX11_save_22 : decode cX11_save 22 = .ok (.aload_n 0, 1) := by decide +kernel
theorem dX11_save_23 : decode cX11_save 23 = .ok (.getfield 13, 3) := by decide +kernel
theorem dX11_save_26 : decode cX11_save 26 = .ok (.iload_n 1, 1) := by decide +kernel
theorem dX11_save_27 : decode cX11_save 27 = .ok (.sipush 145, 3) := by decide +kernel
theorem dX11_save_30 : decode cX11_save 30 = .ok (.iadd, 1) := by decide +kernel
theorem dX11_save_31 : decode cX11_save 31 = .ok (.iaload, 1) := by decide +kernel
theorem dX11_save_32 : decode cX11_save 32 = .ok (.iastore, 1) := by decide +kernel
theorem dX11_save_33 : decode cX11_save 33 = .ok (.iinc 1 1, 3) := by decide +kernel
theorem dX11_save_36 : decode cX11_save 36 = .ok (.goto (-26), 3) := by decide +kernel
theorem dX11_save_39 : decode cX11_save 39 = .ok (.aload_n 0, 1) := by decide +kernel
theorem dX11_save_40 : decode cX11_save 40 = .ok (.dup, 1) := by decide +kernel
theorem dX11_save_41 : decode cX11_save 41 = .ok (.getfield 79, 3) := by decide +kernel
theorem dX11_save_44 : decode cX11_save 44 = .ok (.iconst 1, 1) := by decide +kernel
theorem dX11_save_45 : decode cX11_save 45 = .ok (.isub, 1) := by decide +kernel
theorem dX11_save_46 : decode cX11_save 46 = .ok (.putfield 79, 3) := by decide +kernel
theorem dX11_save_49 : decode cX11_save 49 = .ok (.iconst 0, 1) := by decide +kernel
theorem dX11_save_50 : decode cX11_save 50 = .ok (.istore_n 1, 1) := by decide +kernel
theorem dX11_save_51 : decode cX11_save 51 = .ok (.iload_n 1, 1) := by decide +kernel
theorem dX11_save_52 : decode cX11_save 52 = .ok (.sipush 145, 3) := by decide +kernel
theorem dX11_save_55 : decode cX11_save 55 = .ok (.if_icmp .ge 30, 3) := by decide +kernel
theorem dX11_save_58 : decode cX11_save 58 = .ok (.aload_n 0, 1) := by decide +kernel
theorem dX11_save_59 : decode cX11_save 59 = .ok (.getfield 13, 3) := by decide +kernel
theorem dX11_save_62 : decode cX11_save 62 = .ok (.sipush 145, 3) := by decide +kernel
theorem dX11_save_65 : decode cX11_save 65 = .ok (.aload_n 0, 1) := by decide +kernel
theorem dX11_save_66 : decode cX11_save 66 = .ok (.getfield 79, 3) := by decide +kernel
theorem dX11_save_69 : decode cX11_save 69 = .ok (.imul, 1) := by decide +kernel
theorem dX11_save_70 : decode cX11_save 70 = .ok (.iload_n 1, 1) := by decide +kernel
theorem dX11_save_71 : decode cX11_save 71 = .ok (.iadd, 1) := by decide +kernel
theorem dX11_save_72 : decode cX11_save 72 = .ok (.aload_n 0, 1) := by decide +kernel
theorem dX11_save_73 : decode cX11_save 73 = .ok (.getfield 7, 3) := by decide +kernel
theorem dX11_save_76 : decode cX11_save 76 = .ok (.iload_n 1, 1) := by decide +kernel
theorem dX11_save_77 : decode cX11_save 77 = .ok (.iaload, 1) := by decide +kernel
theorem dX11_save_78 : decode cX11_save 78 = .ok (.iastore, 1) := by decide +kernel
theorem dX11_save_79 : decode cX11_save 79 = .ok (.iinc 1 1, 3) := by decide +kernel
theorem dX11_save_82 : decode cX11_save 82 = .ok (.goto (-31), 3) := by decide +kernel
theorem dX11_save_85 : decode cX11_save 85 = .ok (.aload_n 0, 1) := by decide +kernel
theorem dX11_save_86 : decode cX11_save 86 = .ok (.dup, 1) := by decide +kernel
theorem dX11_save_87 : decode cX11_save 87 = .ok (.getfield 79, 3) := by decide +kernel
theorem dX11_save_90 : decode cX11_save 90 = .ok (.iconst 1, 1) := by decide +kernel
theorem dX11_save_91 : decode cX11_save 91 = .ok (.iadd, 1) := by decide +kernel
theorem dX11_save_92 : decode cX11_save 92 = .ok (.putfield 79, 3) := by decide +kernel
theorem dX11_save_95 : decode cX11_save 95 = .ok (.return_, 1) := by decide +kernel
theorem dX11_of_0 : decode cX11_of 0 = .ok (.aload_n 0, 1) := by decide +kernel
theorem dX11_of_1 : decode cX11_of 1 = .ok (.getfield 7, 3) := by decide +kernel
theorem dX11_of_4 : decode cX11_of 4 = .ok (.iconst 1, 1) := by decide +kernel
theorem dX11_of_5 : decode cX11_of 5 = .ok (.iconst 4, 1) := by decide +kernel
theorem dX11_of_6 : decode cX11_of 6 = .ok (.iload_n 1, 1) := by decide +kernel
theorem dX11_of_7 : decode cX11_of 7 = .ok (.imul, 1) := by decide +kernel
theorem dX11_of_8 : decode cX11_of 8 = .ok (.iadd, 1) := by decide +kernel
theorem dX11_of_9 : decode cX11_of 9 = .ok (.iload_n 2, 1) := by decide +kernel
theorem dX11_of_10 : decode cX11_of 10 = .ok (.iadd, 1) := by decide +kernel
theorem dX11_of_11 : decode cX11_of 11 = .ok (.iaload, 1) := by decide +kernel
theorem dX11_of_12 : decode cX11_of 12 = .ok (.ireturn, 1) := by decide +kernel
theorem dX11_kind_0 : decode cX11_kind 0 = .ok (.aload_n 0, 1) := by decide +kernel
theorem dX11_kind_1 : decode cX11_kind 1 = .ok (.iload_n 1, 1) := by decide +kernel
theorem dX11_kind_2 : decode cX11_kind 2 = .ok (.iconst 0, 1) := by decide +kernel
theorem dX11_kind_3 : decode cX11_kind 3 = .ok (.invokevirtual 82, 3) := by decide +kernel
theorem dX11_kind_6 : decode cX11_kind 6 = .ok (.ireturn, 1) := by decide +kernel
theorem dX11_isLoop_0 : decode cX11_isLoop 0 = .ok (.aload_n 0, 1) := by decide +kernel
theorem dX11_isLoop_1 : decode cX11_isLoop 1 = .ok (.iload_n 1, 1) := by decide +kernel
theorem dX11_isLoop_2 : decode cX11_isLoop 2 = .ok (.invokevirtual 86, 3) := by decide +kernel
theorem dX11_isLoop_5 : decode cX11_isLoop 5 = .ok (.iconst 4, 1) := by decide +kernel
theorem dX11_isLoop_6 : decode cX11_isLoop 6 = .ok (.if_icmp .lt 7, 3) := by decide +kernel
theorem dX11_isLoop_9 : decode cX11_isLoop 9 = .ok (.iconst 1, 1) := by decide +kernel
theorem dX11_isLoop_10 : decode cX11_isLoop 10 = .ok (.goto 4, 3) := by decide +kernel
theorem dX11_isLoop_13 : decode cX11_isLoop 13 = .ok (.iconst 0, 1) := by decide +kernel
theorem dX11_isLoop_14 : decode cX11_isLoop 14 = .ok (.ireturn, 1) := by decide +kernel
theorem dX11_isOne_0 : decode cX11_isOne 0 = .ok (.iload_n 1, 1) := by decide +kernel
theorem dX11_isOne_1 : decode cX11_isOne 1 = .ok (.i2l, 1) := by decide +kernel
theorem dX11_isOne_2 : decode cX11_isOne 2 = .ok (.lconst 0, 1) := by decide +kernel
theorem dX11_isOne_3 : decode cX11_isOne 3 = .ok (.aload_n 0, 1) := by decide +kernel
theorem dX11_isOne_4 : decode cX11_isOne 4 = .ok (.getfield 7, 3) := by decide +kernel
theorem dX11_isOne_7 : decode cX11_isOne 7 = .ok (.iconst 0, 1) := by decide +kernel
theorem dX11_isOne_8 : decode cX11_isOne 8 = .ok (.iaload, 1) := by decide +kernel
theorem dX11_isOne_9 : decode cX11_isOne 9 = .ok (.iconst 1, 1) := by decide +kernel
theorem dX11_isOne_10 : decode cX11_isOne 10 = .ok (.isub, 1) := by decide +kernel
theorem dX11_isOne_11 : decode cX11_isOne 11 = .ok (.i2l, 1) := by decide +kernel
theorem dX11_isOne_12 : decode cX11_isOne 12 = .ok (.invokestatic 90, 3) := by decide +kernel
theorem dX11_isOne_15 : decode cX11_isOne 15 = .ok (.ireturn, 1) := by decide +kernel
theorem dX11_isName_0 : decode cX11_isName 0 = .ok (.iload_n 0, 1) := by decide +kernel
theorem dX11_isName_1 : decode cX11_isName 1 = .ok (.i2l, 1) := by decide +kernel
theorem dX11_isName_2 : decode cX11_isName 2 = .ok (.lconst 0, 1) := by decide +kernel
theorem dX11_isName_3 : decode cX11_isName 3 = .ok (.ldc2_w 94, 3) := by decide +kernel
theorem dX11_isName_6 : decode cX11_isName 6 = .ok (.invokestatic 90, 3) := by decide +kernel
theorem dX11_isName_9 : decode cX11_isName 9 = .ok (.ireturn, 1) := by decide +kernel
theorem dX11_append_0 : decode cX11_append 0 = .ok (.aload_n 0, 1) := by decide +kernel
theorem dX11_append_1 : decode cX11_append 1 = .ok (.iload_n 1, 1) := by decide +kernel
theorem dX11_append_2 : decode cX11_append 2 = .ok (.i2l, 1) := by decide +kernel
theorem dX11_append_3 : decode cX11_append 3 = .ok (.lconst 0, 1) := by decide +kernel
theorem dX11_append_4 : decode cX11_append 4 = .ok (.ldc2_w 96, 3) := by decide +kernel
theorem dX11_append_7 : decode cX11_append 7 = .ok (.invokestatic 90, 3) := by decide +kernel
theorem dX11_append_10 : decode cX11_append 10 = .ok (.aload_n 0, 1) := by decide +kernel
theorem dX11_append_11 : decode cX11_append 11 = .ok (.getfield 98, 3) := by decide +kernel
theorem dX11_append_14 : decode cX11_append 14 = .ok (.sipush 200, 3) := by decide +kernel
theorem dX11_append_17 : decode cX11_append 17 = .ok (.if_icmp .ge 7, 3) := by decide +kernel
theorem dX11_append_20 : decode cX11_append 20 = .ok (.iconst 1, 1) := by decide +kernel
theorem dX11_append_21 : decode cX11_append 21 = .ok (.goto 4, 3) := by decide +kernel
theorem dX11_append_24 : decode cX11_append 24 = .ok (.iconst 0, 1) := by decide +kernel
theorem dX11_append_25 : decode cX11_append 25 = .ok (.invokevirtual 101, 3) := by decide +kernel
theorem dX11_append_28 : decode cX11_append 28 = .ok (.ifCond .ne 5, 3) := by decide +kernel
theorem dX11_append_31 : decode cX11_append 31 = .ok (.iconst 0, 1) := by decide +kernel
theorem dX11_append_32 : decode cX11_append 32 = .ok (.ireturn, 1) := by decide +kernel
theorem dX11_append_33 : decode cX11_append 33 = .ok (.aload_n 0, 1) := by decide +kernel
theorem dX11_append_34 : decode cX11_append 34 = .ok (.getfield 16, 3) := by decide +kernel
theorem dX11_append_37 : decode cX11_append 37 = .ok (.aload_n 0, 1) := by decide +kernel
theorem dX11_append_38 : decode cX11_append 38 = .ok (.getfield 98, 3) := by decide +kernel
theorem dX11_append_41 : decode cX11_append 41 = .ok (.iload_n 1, 1) := by decide +kernel
theorem dX11_append_42 : decode cX11_append 42 = .ok (.iastore, 1) := by decide +kernel
theorem dX11_append_43 : decode cX11_append 43 = .ok (.aload_n 0, 1) := by decide +kernel
theorem dX11_append_44 : decode cX11_append 44 = .ok (.dup, 1) := by decide +kernel
theorem dX11_append_45 : decode cX11_append 45 = .ok (.getfield 98, 3) := by decide +kernel
theorem dX11_append_48 : decode cX11_append 48 = .ok (.iconst 1, 1) := by decide +kernel
theorem dX11_append_49 : decode cX11_append 49 = .ok (.iadd, 1) := by decide +kernel
theorem dX11_append_50 : decode cX11_append 50 = .ok (.putfield 98, 3) := by decide +kernel
theorem dX11_append_53 : decode cX11_append 53 = .ok (.aload_n 0, 1) := by decide +kernel
theorem dX11_append_54 : decode cX11_append 54 = .ok (.getfield 98, 3) := by decide +kernel
theorem dX11_append_57 : decode cX11_append 57 = .ok (.ireturn, 1) := by decide +kernel
theorem dX11_clearText_0 : decode cX11_clearText 0 = .ok (.aload_n 0, 1) := by decide +kernel
theorem dX11_clearText_1 : decode cX11_clearText 1 = .ok (.iconst 0, 1) := by decide +kernel
theorem dX11_clearText_2 : decode cX11_clearText 2 = .ok (.putfield 75, 3) := by decide +kernel
theorem dX11_clearText_5 : decode cX11_clearText 5 = .ok (.aload_n 0, 1) := by decide +kernel
theorem dX11_clearText_6 : decode cX11_clearText 6 = .ok (.getfield 98, 3) := by decide +kernel
theorem dX11_clearText_9 : decode cX11_clearText 9 = .ok (.istore_n 1, 1) := by decide +kernel
theorem dX11_clearText_10 : decode cX11_clearText 10 = .ok (.aload_n 0, 1) := by decide +kernel
theorem dX11_clearText_11 : decode cX11_clearText 11 = .ok (.iconst 0, 1) := by decide +kernel
theorem dX11_clearText_12 : decode cX11_clearText 12 = .ok (.putfield 98, 3) := by decide +kernel
theorem dX11_clearText_15 : decode cX11_clearText 15 = .ok (.iload_n 1, 1) := by decide +kernel
theorem dX11_clearText_16 : decode cX11_clearText 16 = .ok (.ireturn, 1) := by decide +kernel
theorem dX11_here_0 : decode cX11_here 0 = .ok (.aload_n 0, 1) := by decide +kernel
theorem dX11_here_1 : decode cX11_here 1 = .ok (.getfield 105, 3) := by decide +kernel
theorem dX11_here_4 : decode cX11_here 4 = .ok (.aload_n 0, 1) := by decide +kernel
theorem dX11_here_5 : decode cX11_here 5 = .ok (.getfield 98, 3) := by decide +kernel
theorem dX11_here_8 : decode cX11_here 8 = .ok (.if_icmp .ge 15, 3) := by decide +kernel
theorem dX11_here_11 : decode cX11_here 11 = .ok (.aload_n 0, 1) := by decide +kernel
theorem dX11_here_12 : decode cX11_here 12 = .ok (.getfield 16, 3) := by decide +kernel
theorem dX11_here_15 : decode cX11_here 15 = .ok (.aload_n 0, 1) := by decide +kernel
theorem dX11_here_16 : decode cX11_here 16 = .ok (.getfield 105, 3) := by decide +kernel
theorem dX11_here_19 : decode cX11_here 19 = .ok (.iaload, 1) := by decide +kernel
theorem dX11_here_20 : decode cX11_here 20 = .ok (.goto 4, 3) := by decide +kernel
theorem dX11_here_23 : decode cX11_here 23 = .ok (.iconst (-1), 1) := by decide +kernel
theorem dX11_here_24 : decode cX11_here 24 = .ok (.ireturn, 1) := by decide +kernel
theorem dX11_isFigure_0 : decode cX11_isFigure 0 = .ok (.aload_n 0, 1) := by decide +kernel
theorem dX11_isFigure_1 : decode cX11_isFigure 1 = .ok (.invokevirtual 108, 3) := by decide +kernel
theorem dX11_isFigure_4 : decode cX11_isFigure 4 = .ok (.i2l, 1) := by decide +kernel
theorem dX11_isFigure_5 : decode cX11_isFigure 5 = .ok (.ldc2_w 112, 3) := by decide +kernel
theorem dX11_isFigure_8 : decode cX11_isFigure 8 = .ok (.ldc2_w 114, 3) := by decide +kernel
theorem dX11_isFigure_11 : decode cX11_isFigure 11 = .ok (.invokestatic 90, 3) := by decide +kernel
theorem dX11_isFigure_14 : decode cX11_isFigure 14 = .ok (.ireturn, 1) := by decide +kernel
theorem dX11_isLetter_0 : decode cX11_isLetter 0 = .ok (.aload_n 0, 1) := by decide +kernel
theorem dX11_isLetter_1 : decode cX11_isLetter 1 = .ok (.invokevirtual 108, 3) := by decide +kernel
theorem dX11_isLetter_4 : decode cX11_isLetter 4 = .ok (.i2l, 1) := by decide +kernel
theorem dX11_isLetter_5 : decode cX11_isLetter 5 = .ok (.ldc2_w 116, 3) := by decide +kernel
theorem dX11_isLetter_8 : decode cX11_isLetter 8 = .ok (.ldc2_w 118, 3) := by decide +kernel
theorem dX11_isLetter_11 : decode cX11_isLetter 11 = .ok (.invokestatic 90, 3) := by decide +kernel
theorem dX11_isLetter_14 : decode cX11_isLetter 14 = .ok (.ireturn, 1) := by decide +kernel
theorem dX11_takes_0 : decode cX11_takes 0 = .ok (.aload_n 0, 1) := by decide +kernel
theorem dX11_takes_1 : decode cX11_takes 1 = .ok (.getfield 19, 3) := by decide +kernel
theorem dX11_takes_4 : decode cX11_takes 4 = .ok (.iconst 4, 1) := by decide +kernel
theorem dX11_takes_5 : decode cX11_takes 5 = .ok (.aload_n 0, 1) := by decide +kernel
theorem dX11_takes_6 : decode cX11_takes 6 = .ok (.getfield 120, 3) := by decide +kernel
theorem dX11_takes_9 : decode cX11_takes 9 = .ok (.imul, 1) := by decide +kernel
theorem dX11_takes_10 : decode cX11_takes 10 = .ok (.iload_n 1, 1) := by decide +kernel
theorem dX11_takes_11 : decode cX11_takes 11 = .ok (.iastore, 1) := by decide +kernel
theorem dX11_takes_12 : decode cX11_takes 12 = .ok (.aload_n 0, 1) := by decide +kernel
theorem dX11_takes_13 : decode cX11_takes 13 = .ok (.getfield 19, 3) := by decide +kernel
theorem dX11_takes_16 : decode cX11_takes 16 = .ok (.iconst 4, 1) := by decide +kernel
theorem dX11_takes_17 : decode cX11_takes 17 = .ok (.aload_n 0, 1) := by decide +kernel
theorem dX11_takes_18 : decode cX11_takes 18 = .ok (.getfield 120, 3) := by decide +kernel
theorem dX11_takes_21 : decode cX11_takes 21 = .ok (.imul, 1) := by decide +kernel
theorem dX11_takes_22 : decode cX11_takes 22 = .ok (.iconst 1, 1) := by decide +kernel
theorem dX11_takes_23 : decode cX11_takes 23 = .ok (.iadd, 1) := by decide +kernel
theorem dX11_takes_24 : decode cX11_takes 24 = .ok (.iload_n 2, 1) := by decide +kernel
theorem dX11_takes_25 : decode cX11_takes 25 = .ok (.iastore, 1) := by decide +kernel
theorem dX11_takes_26 : decode cX11_takes 26 = .ok (.aload_n 0, 1) := by decide +kernel
theorem dX11_takes_27 : decode cX11_takes 27 = .ok (.getfield 19, 3) := by decide +kernel
theorem dX11_takes_30 : decode cX11_takes 30 = .ok (.iconst 4, 1) := by decide +kernel
theorem dX11_takes_31 : decode cX11_takes 31 = .ok (.aload_n 0, 1) := by decide +kernel
theorem dX11_takes_32 : decode cX11_takes 32 = .ok (.getfield 120, 3) := by decide +kernel
theorem dX11_takes_35 : decode cX11_takes 35 = .ok (.imul, 1) := by decide +kernel
theorem dX11_takes_36 : decode cX11_takes 36 = .ok (.iconst 2, 1) := by decide +kernel
theorem dX11_takes_37 : decode cX11_takes 37 = .ok (.iadd, 1) := by decide +kernel
theorem dX11_takes_38 : decode cX11_takes 38 = .ok (.iload_n 3, 1) := by decide +kernel
theorem dX11_takes_39 : decode cX11_takes 39 = .ok (.iastore, 1) := by decide +kernel
theorem dX11_takes_40 : decode cX11_takes 40 = .ok (.aload_n 0, 1) := by decide +kernel
theorem dX11_takes_41 : decode cX11_takes 41 = .ok (.getfield 19, 3) := by decide +kernel
theorem dX11_takes_44 : decode cX11_takes 44 = .ok (.iconst 4, 1) := by decide +kernel
theorem dX11_takes_45 : decode cX11_takes 45 = .ok (.aload_n 0, 1) := by decide +kernel
theorem dX11_takes_46 : decode cX11_takes 46 = .ok (.getfield 120, 3) := by decide +kernel
theorem dX11_takes_49 : decode cX11_takes 49 = .ok (.imul, 1) := by decide +kernel
theorem dX11_takes_50 : decode cX11_takes 50 = .ok (.iconst 3, 1) := by decide +kernel
theorem dX11_takes_51 : decode cX11_takes 51 = .ok (.iadd, 1) := by decide +kernel
theorem dX11_takes_52 : decode cX11_takes 52 = .ok (.iload 4, 2) := by decide +kernel
theorem dX11_takes_54 : decode cX11_takes 54 = .ok (.iastore, 1) := by decide +kernel
theorem dX11_takes_55 : decode cX11_takes 55 = .ok (.aload_n 0, 1) := by decide +kernel
theorem dX11_takes_56 : decode cX11_takes 56 = .ok (.dup, 1) := by decide +kernel
theorem dX11_takes_57 : decode cX11_takes 57 = .ok (.getfield 120, 3) := by decide +kernel
theorem dX11_takes_60 : decode cX11_takes 60 = .ok (.iconst 1, 1) := by decide +kernel
theorem dX11_takes_61 : decode cX11_takes 61 = .ok (.iadd, 1) := by decide +kernel
theorem dX11_takes_62 : decode cX11_takes 62 = .ok (.putfield 120, 3) := by decide +kernel
theorem dX11_takes_65 : decode cX11_takes 65 = .ok (.return_, 1) := by decide +kernel
theorem dX11_operandRead_0 : decode cX11_operandRead 0 = .ok (.aload_n 0, 1) := by decide +kernel
theorem dX11_operandRead_1 : decode cX11_operandRead 1 = .ok (.invokevirtual 123, 3) := by decide +kernel
theorem dX11_operandRead_4 : decode cX11_operandRead 4 = .ok (.ifCond .eq 28, 3) := by decide +kernel
theorem dX11_operandRead_7 : decode cX11_operandRead 7 = .ok (.aload_n 0, 1) := by decide +kernel
theorem dX11_operandRead_8 : decode cX11_operandRead 8 = .ok (.dup, 1) := by decide +kernel
theorem dX11_operandRead_9 : decode cX11_operandRead 9 = .ok (.getfield 105, 3) := by decide +kernel
theorem dX11_operandRead_12 : decode cX11_operandRead 12 = .ok (.iconst 1, 1) := by decide +kernel
theorem dX11_operandRead_13 : decode cX11_operandRead 13 = .ok (.iadd, 1) := by decide +kernel
theorem dX11_operandRead_14 : decode cX11_operandRead 14 = .ok (.putfield 105, 3) := by decide +kernel
theorem dX11_operandRead_17 : decode cX11_operandRead 17 = .ok (.aload_n 0, 1) := by decide +kernel
theorem dX11_operandRead_18 : decode cX11_operandRead 18 = .ok (.getfield 16, 3) := by decide +kernel
theorem dX11_operandRead_21 : decode cX11_operandRead 21 = .ok (.aload_n 0, 1) := by decide +kernel
theorem dX11_operandRead_22 : decode cX11_operandRead 22 = .ok (.getfield 105, 3) := by decide +kernel
theorem dX11_operandRead_25 : decode cX11_operandRead 25 = .ok (.iconst 1, 1) := by decide +kernel
theorem dX11_operandRead_26 : decode cX11_operandRead 26 = .ok (.isub, 1) := by decide +kernel
theorem dX11_operandRead_27 : decode cX11_operandRead 27 = .ok (.iaload, 1) := by decide +kernel
theorem dX11_operandRead_28 : decode cX11_operandRead 28 = .ok (.bipush 97, 2) := by decide +kernel
theorem dX11_operandRead_30 : decode cX11_operandRead 30 = .ok (.isub, 1) := by decide +kernel
theorem dX11_operandRead_31 : decode cX11_operandRead 31 = .ok (.ireturn, 1) := by decide +kernel
theorem dX11_operandRead_32 : decode cX11_operandRead 32 = .ok (.aload_n 0, 1) := by decide +kernel
theorem dX11_operandRead_33 : decode cX11_operandRead 33 = .ok (.invokevirtual 108, 3) := by decide +kernel
theorem dX11_operandRead_36 : decode cX11_operandRead 36 = .ok (.bipush 95, 2) := by decide +kernel
theorem dX11_operandRead_38 : decode cX11_operandRead 38 = .ok (.if_icmp .ne 7, 3) := by decide +kernel
theorem dX11_operandRead_41 : decode cX11_operandRead 41 = .ok (.iconst 1, 1) := by decide +kernel
theorem dX11_operandRead_42 : decode cX11_operandRead 42 = .ok (.goto 4, 3) := by decide +kernel
theorem dX11_operandRead_45 : decode cX11_operandRead 45 = .ok (.iconst 0, 1) := by decide +kernel
theorem dX11_operandRead_46 : decode cX11_operandRead 46 = .ok (.istore_n 1, 1) := by decide +kernel
theorem dX11_operandRead_47 : decode cX11_operandRead 47 = .ok (.aload_n 0, 1) := by decide +kernel
theorem dX11_operandRead_48 : decode cX11_operandRead 48 = .ok (.dup, 1) := by decide +kernel
theorem dX11_operandRead_49 : decode cX11_operandRead 49 = .ok (.getfield 105, 3) := by decide +kernel
theorem dX11_operandRead_52 : decode cX11_operandRead 52 = .ok (.iload_n 1, 1) := by decide +kernel
theorem dX11_operandRead_53 : decode cX11_operandRead 53 = .ok (.ifCond .eq 7, 3) := by decide +kernel
theorem dX11_operandRead_56 : decode cX11_operandRead 56 = .ok (.iconst 1, 1) := by decide +kernel
theorem dX11_operandRead_57 : decode cX11_operandRead 57 = .ok (.goto 4, 3) := by decide +kernel
theorem dX11_operandRead_60 : decode cX11_operandRead 60 = .ok (.iconst 0, 1) := by decide +kernel
theorem dX11_operandRead_61 : decode cX11_operandRead 61 = .ok (.iadd, 1) := by decide +kernel
theorem dX11_operandRead_62 : decode cX11_operandRead 62 = .ok (.putfield 105, 3) := by decide +kernel
theorem dX11_operandRead_65 : decode cX11_operandRead 65 = .ok (.iconst 0, 1) := by decide +kernel
theorem dX11_operandRead_66 : decode cX11_operandRead 66 = .ok (.istore_n 2, 1) := by decide +kernel
theorem dX11_operandRead_67 : decode cX11_operandRead 67 = .ok (.iconst 0, 1) := by decide +kernel
theorem dX11_operandRead_68 : decode cX11_operandRead 68 = .ok (.istore_n 3, 1) := by decide +kernel
theorem dX11_operandRead_69 : decode cX11_operandRead 69 = .ok (.aload_n 0, 1) := by decide +kernel
theorem dX11_operandRead_70 : decode cX11_operandRead 70 = .ok (.invokevirtual 127, 3) := by decide +kernel
theorem dX11_operandRead_73 : decode cX11_operandRead 73 = .ok (.ifCond .eq 42, 3) := by decide +kernel
theorem dX11_operandRead_76 : decode cX11_operandRead 76 = .ok (.iload_n 2, 1) := by decide +kernel
theorem dX11_operandRead_77 : decode cX11_operandRead 77 = .ok (.iconst 4, 1) := by decide +kernel
theorem dX11_operandRead_78 : decode cX11_operandRead 78 = .ok (.if_icmp .ge 37, 3) := by decide +kernel
theorem dX11_operandRead_81 : decode cX11_operandRead 81 = .ok (.bipush 10, 2) := by decide +kernel
theorem dX11_operandRead_83 : decode cX11_operandRead 83 = .ok (.iload_n 3, 1) := by decide +kernel
theorem dX11_operandRead_84 : decode cX11_operandRead 84 = .ok (.imul, 1) := by decide +kernel
theorem dX11_operandRead_85 : decode cX11_operandRead 85 = .ok (.aload_n 0, 1) := by decide +kernel
theorem dX11_operandRead_86 : decode cX11_operandRead 86 = .ok (.getfield 16, 3) := by decide +kernel
theorem dX11_operandRead_89 : decode cX11_operandRead 89 = .ok (.aload_n 0, 1) := by decide +kernel
theorem dX11_operandRead_90 : decode cX11_operandRead 90 = .ok (.getfield 105, 3) := by decide +kernel
theorem dX11_operandRead_93 : decode cX11_operandRead 93 = .ok (.iaload, 1) := by decide +kernel
theorem dX11_operandRead_94 : decode cX11_operandRead 94 = .ok (.iadd, 1) := by decide +kernel
theorem dX11_operandRead_95 : decode cX11_operandRead 95 = .ok (.bipush 48, 2) := by decide +kernel
theorem dX11_operandRead_97 : decode cX11_operandRead 97 = .ok (.isub, 1) := by decide +kernel
theorem dX11_operandRead_98 : decode cX11_operandRead 98 = .ok (.istore_n 3, 1) := by decide +kernel
theorem dX11_operandRead_99 : decode cX11_operandRead 99 = .ok (.aload_n 0, 1) := by decide +kernel
theorem dX11_operandRead_100 : decode cX11_operandRead 100 = .ok (.dup, 1) := by decide +kernel
theorem dX11_operandRead_101 : decode cX11_operandRead 101 = .ok (.getfield 105, 3) := by decide +kernel
theorem dX11_operandRead_104 : decode cX11_operandRead 104 = .ok (.iconst 1, 1) := by decide +kernel
theorem dX11_operandRead_105 : decode cX11_operandRead 105 = .ok (.iadd, 1) := by decide +kernel
theorem dX11_operandRead_106 : decode cX11_operandRead 106 = .ok (.putfield 105, 3) := by decide +kernel
theorem dX11_operandRead_109 : decode cX11_operandRead 109 = .ok (.iinc 2 1, 3) := by decide +kernel
theorem dX11_operandRead_112 : decode cX11_operandRead 112 = .ok (.goto (-43), 3) := by decide +kernel
theorem dX11_operandRead_115 : decode cX11_operandRead 115 = .ok (.iload_n 2, 1) := by decide +kernel
theorem dX11_operandRead_116 : decode cX11_operandRead 116 = .ok (.ifCond .eq 10, 3) := by decide +kernel
theorem dX11_operandRead_119 : decode cX11_operandRead 119 = .ok (.aload_n 0, 1) := by decide +kernel
theorem dX11_operandRead_120 : decode cX11_operandRead 120 = .ok (.invokevirtual 127, 3) := by decide +kernel
theorem dX11_operandRead_123 : decode cX11_operandRead 123 = .ok (.ifCond .eq 7, 3) := by decide +kernel
theorem dX11_operandRead_126 : decode cX11_operandRead 126 = .ok (.iconst (-1), 1) := by decide +kernel
theorem dX11_operandRead_127 : decode cX11_operandRead 127 = .ok (.goto 17, 3) := by decide +kernel
theorem dX11_operandRead_130 : decode cX11_operandRead 130 = .ok (.sipush 20000, 3) := by decide +kernel
theorem dX11_operandRead_133 : decode cX11_operandRead 133 = .ok (.iload_n 1, 1) := by decide +kernel
theorem dX11_operandRead_134 : decode cX11_operandRead 134 = .ok (.ifCond .eq 8, 3) := by decide +kernel
theorem dX11_operandRead_137 : decode cX11_operandRead 137 = .ok (.iload_n 3, 1) := by decide +kernel
theorem dX11_operandRead_138 : decode cX11_operandRead 138 = .ok (.ineg, 1) := by decide +kernel
theorem dX11_operandRead_139 : decode cX11_operandRead 139 = .ok (.goto 4, 3) := by decide +kernel
theorem dX11_operandRead_142 : decode cX11_operandRead 142 = .ok (.iload_n 3, 1) := by decide +kernel
theorem dX11_operandRead_143 : decode cX11_operandRead 143 = .ok (.iadd, 1) := by decide +kernel
theorem dX11_operandRead_144 : decode cX11_operandRead 144 = .ok (.ireturn, 1) := by decide +kernel
theorem dX11_readsAssignment_0 : decode cX11_readsAssignment 0 = .ok (.aload_n 0, 1) := by decide +kernel
theorem dX11_readsAssignment_1 : decode cX11_readsAssignment 1 = .ok (.invokevirtual 108, 3) := by decide +kernel
theorem dX11_readsAssignment_4 : decode cX11_readsAssignment 4 = .ok (.bipush 97, 2) := by decide +kernel
theorem dX11_readsAssignment_6 : decode cX11_readsAssignment 6 = .ok (.isub, 1) := by decide +kernel
theorem dX11_readsAssignment_7 : decode cX11_readsAssignment 7 = .ok (.istore_n 1, 1) := by decide +kernel
theorem dX11_readsAssignment_8 : decode cX11_readsAssignment 8 = .ok (.aload_n 0, 1) := by decide +kernel
theorem dX11_readsAssignment_9 : decode cX11_readsAssignment 9 = .ok (.dup, 1) := by decide +kernel
theorem dX11_readsAssignment_10 : decode cX11_readsAssignment 10 = .ok (.getfield 105, 3) := by decide +kernel
theorem dX11_readsAssignment_13 : decode cX11_readsAssignment 13 = .ok (.iconst 1, 1) := by decide +kernel
theorem dX11_readsAssignment_14 : decode cX11_readsAssignment 14 = .ok (.iadd, 1) := by decide +kernel
theorem dX11_readsAssignment_15 : decode cX11_readsAssignment 15 = .ok (.putfield 105, 3) := by decide +kernel
theorem dX11_readsAssignment_18 : decode cX11_readsAssignment 18 = .ok (.aload_n 0, 1) := by decide +kernel
theorem dX11_readsAssignment_19 : decode cX11_readsAssignment 19 = .ok (.invokevirtual 108, 3) := by decide +kernel
theorem dX11_readsAssignment_22 : decode cX11_readsAssignment 22 = .ok (.bipush 61, 2) := by decide +kernel
theorem dX11_readsAssignment_24 : decode cX11_readsAssignment 24 = .ok (.if_icmp .eq 5, 3) := by decide +kernel
theorem dX11_readsAssignment_27 : decode cX11_readsAssignment 27 = .ok (.iconst 0, 1) := by decide +kernel
theorem dX11_readsAssignment_28 : decode cX11_readsAssignment 28 = .ok (.ireturn, 1) := by decide +kernel
theorem dX11_readsAssignment_29 : decode cX11_readsAssignment 29 = .ok (.aload_n 0, 1) := by decide +kernel
theorem dX11_readsAssignment_30 : decode cX11_readsAssignment 30 = .ok (.dup, 1) := by decide +kernel
theorem dX11_readsAssignment_31 : decode cX11_readsAssignment 31 = .ok (.getfield 105, 3) := by decide +kernel
theorem dX11_readsAssignment_34 : decode cX11_readsAssignment 34 = .ok (.iconst 1, 1) := by decide +kernel
theorem dX11_readsAssignment_35 : decode cX11_readsAssignment 35 = .ok (.iadd, 1) := by decide +kernel
theorem dX11_readsAssignment_36 : decode cX11_readsAssignment 36 = .ok (.putfield 105, 3) := by decide +kernel
theorem dX11_readsAssignment_39 : decode cX11_readsAssignment 39 = .ok (.aload_n 0, 1) := by decide +kernel
theorem dX11_readsAssignment_40 : decode cX11_readsAssignment 40 = .ok (.invokevirtual 130, 3) := by decide +kernel
theorem dX11_readsAssignment_43 : decode cX11_readsAssignment 43 = .ok (.istore_n 2, 1) := by decide +kernel
theorem dX11_readsAssignment_44 : decode cX11_readsAssignment 44 = .ok (.iload_n 2, 1) := by decide +kernel
theorem dX11_readsAssignment_45 : decode cX11_readsAssignment 45 = .ok (.iconst (-1), 1) := by decide +kernel
theorem dX11_readsAssignment_46 : decode cX11_readsAssignment 46 = .ok (.if_icmp .ne 5, 3) := by decide +kernel
theorem dX11_readsAssignment_49 : decode cX11_readsAssignment 49 = .ok (.iconst 0, 1) := by decide +kernel
theorem dX11_readsAssignment_50 : decode cX11_readsAssignment 50 = .ok (.ireturn, 1) := by decide +kernel
theorem dX11_readsAssignment_51 : decode cX11_readsAssignment 51 = .ok (.aload_n 0, 1) := by decide +kernel
theorem dX11_readsAssignment_52 : decode cX11_readsAssignment 52 = .ok (.invokevirtual 108, 3) := by decide +kernel
theorem dX11_readsAssignment_55 : decode cX11_readsAssignment 55 = .ok (.istore_n 3, 1) := by decide +kernel
theorem dX11_readsAssignment_56 : decode cX11_readsAssignment 56 = .ok (.iload_n 3, 1) := by decide +kernel
theorem dX11_readsAssignment_57 : decode cX11_readsAssignment 57 = .ok (.bipush 43, 2) := by decide +kernel
theorem dX11_readsAssignment_59 : decode cX11_readsAssignment 59 = .ok (.if_icmp .ne 7, 3) := by decide +kernel
theorem dX11_readsAssignment_62 : decode cX11_readsAssignment 62 = .ok (.iconst 1, 1) := by decide +kernel
theorem dX11_readsAssignment_63 : decode cX11_readsAssignment 63 = .ok (.goto 24, 3) := by decide +kernel
theorem dX11_readsAssignment_66 : decode cX11_readsAssignment 66 = .ok (.iload_n 3, 1) := by decide +kernel
theorem dX11_readsAssignment_67 : decode cX11_readsAssignment 67 = .ok (.bipush 45, 2) := by decide +kernel
theorem dX11_readsAssignment_69 : decode cX11_readsAssignment 69 = .ok (.if_icmp .ne 7, 3) := by decide +kernel
theorem dX11_readsAssignment_72 : decode cX11_readsAssignment 72 = .ok (.iconst 2, 1) := by decide +kernel
theorem dX11_readsAssignment_73 : decode cX11_readsAssignment 73 = .ok (.goto 14, 3) := by decide +kernel
theorem dX11_readsAssignment_76 : decode cX11_readsAssignment 76 = .ok (.iload_n 3, 1) := by decide +kernel
theorem dX11_readsAssignment_77 : decode cX11_readsAssignment 77 = .ok (.bipush 42, 2) := by decide +kernel
theorem dX11_readsAssignment_79 : decode cX11_readsAssignment 79 = .ok (.if_icmp .ne 7, 3) := by decide +kernel
theorem dX11_readsAssignment_82 : decode cX11_readsAssignment 82 = .ok (.iconst 3, 1) := by decide +kernel
theorem dX11_readsAssignment_83 : decode cX11_readsAssignment 83 = .ok (.goto 4, 3) := by decide +kernel
theorem dX11_readsAssignment_86 : decode cX11_readsAssignment 86 = .ok (.iconst 0, 1) := by decide +kernel
theorem dX11_readsAssignment_87 : decode cX11_readsAssignment 87 = .ok (.istore 4, 2) := by decide +kernel
theorem dX11_readsAssignment_89 : decode cX11_readsAssignment 89 = .ok (.iconst (-1), 1) := by decide +kernel
theorem dX11_readsAssignment_90 : decode cX11_readsAssignment 90 = .ok (.istore 5, 2) := by decide +kernel
theorem dX11_readsAssignment_92 : decode cX11_readsAssignment 92 = .ok (.iload 4, 2) := by decide +kernel
theorem dX11_readsAssignment_94 : decode cX11_readsAssignment 94 = .ok (.ifCond .eq 27, 3) := by decide +kernel
theorem dX11_readsAssignment_97 : decode cX11_readsAssignment 97 = .ok (.aload_n 0, 1) := by decide +kernel
theorem dX11_readsAssignment_98 : decode cX11_readsAssignment 98 = .ok (.dup, 1) := by decide +kernel
theorem dX11_readsAssignment_99 : decode cX11_readsAssignment 99 = .ok (.getfield 105, 3) := by decide +kernel
theorem dX11_readsAssignment_102 : decode cX11_readsAssignment 102 = .ok (.iconst 1, 1) := by decide +kernel
theorem dX11_readsAssignment_103 : decode cX11_readsAssignment 103 = .ok (.iadd, 1) := by decide +kernel
theorem dX11_readsAssignment_104 : decode cX11_readsAssignment 104 = .ok (.putfield 105, 3) := by decide +kernel
theorem dX11_readsAssignment_107 : decode cX11_readsAssignment 107 = .ok (.aload_n 0, 1) := by decide +kernel
theorem dX11_readsAssignment_108 : decode cX11_readsAssignment 108 = .ok (.invokevirtual 130, 3) := by decide +kernel
theorem dX11_readsAssignment_111 : decode cX11_readsAssignment 111 = .ok (.istore 5, 2) := by decide +kernel
theorem dX11_readsAssignment_113 : decode cX11_readsAssignment 113 = .ok (.iload 5, 2) := by decide +kernel
theorem dX11_readsAssignment_115 : decode cX11_readsAssignment 115 = .ok (.iconst (-1), 1) := by decide +kernel
theorem dX11_readsAssignment_116 : decode cX11_readsAssignment 116 = .ok (.if_icmp .ne 5, 3) := by decide +kernel
theorem dX11_readsAssignment_119 : decode cX11_readsAssignment 119 = .ok (.iconst 0, 1) := by decide +kernel
theorem dX11_readsAssignment_120 : decode cX11_readsAssignment 120 = .ok (.ireturn, 1) := by decide +kernel
theorem dX11_readsAssignment_121 : decode cX11_readsAssignment 121 = .ok (.aload_n 0, 1) := by decide +kernel
theorem dX11_readsAssignment_122 : decode cX11_readsAssignment 122 = .ok (.invokevirtual 108, 3) := by decide +kernel
theorem dX11_readsAssignment_125 : decode cX11_readsAssignment 125 = .ok (.bipush 59, 2) := by decide +kernel
theorem dX11_readsAssignment_127 : decode cX11_readsAssignment 127 = .ok (.if_icmp .eq 5, 3) := by decide +kernel
theorem dX11_readsAssignment_130 : decode cX11_readsAssignment 130 = .ok (.iconst 0, 1) := by decide +kernel
theorem dX11_readsAssignment_131 : decode cX11_readsAssignment 131 = .ok (.ireturn, 1) := by decide +kernel
theorem dX11_readsAssignment_132 : decode cX11_readsAssignment 132 = .ok (.aload_n 0, 1) := by decide +kernel
theorem dX11_readsAssignment_133 : decode cX11_readsAssignment 133 = .ok (.dup, 1) := by decide +kernel
theorem dX11_readsAssignment_134 : decode cX11_readsAssignment 134 = .ok (.getfield 105, 3) := by decide +kernel
theorem dX11_readsAssignment_137 : decode cX11_readsAssignment 137 = .ok (.iconst 1, 1) := by decide +kernel
theorem dX11_readsAssignment_138 : decode cX11_readsAssignment 138 = .ok (.iadd, 1) := by decide +kernel
theorem dX11_readsAssignment_139 : decode cX11_readsAssignment 139 = .ok (.putfield 105, 3) := by decide +kernel
theorem dX11_readsAssignment_142 : decode cX11_readsAssignment 142 = .ok (.aload_n 0, 1) := by decide +kernel
theorem dX11_readsAssignment_143 : decode cX11_readsAssignment 143 = .ok (.iload 4, 2) := by decide +kernel
theorem dX11_readsAssignment_145 : decode cX11_readsAssignment 145 = .ok (.iload_n 1, 1) := by decide +kernel
theorem dX11_readsAssignment_146 : decode cX11_readsAssignment 146 = .ok (.iload_n 2, 1) := by decide +kernel
theorem dX11_readsAssignment_147 : decode cX11_readsAssignment 147 = .ok (.iload 5, 2) := by decide +kernel
theorem dX11_readsAssignment_149 : decode cX11_readsAssignment 149 = .ok (.invokevirtual 133, 3) := by decide +kernel
theorem dX11_readsAssignment_152 : decode cX11_readsAssignment 152 = .ok (.iconst 1, 1) := by decide +kernel
theorem dX11_readsAssignment_153 : decode cX11_readsAssignment 153 = .ok (.ireturn, 1) := by decide +kernel
theorem dX11_readsCount_0 : decode cX11_readsCount 0 = .ok (.aload_n 0, 1) := by decide +kernel
theorem dX11_readsCount_1 : decode cX11_readsCount 1 = .ok (.getfield 105, 3) := by decide +kernel
theorem dX11_readsCount_4 : decode cX11_readsCount 4 = .ok (.istore_n 1, 1) := by decide +kernel
theorem dX11_readsCount_5 : decode cX11_readsCount 5 = .ok (.iconst 0, 1) := by decide +kernel
theorem dX11_readsCount_6 : decode cX11_readsCount 6 = .ok (.istore_n 2, 1) := by decide +kernel
theorem dX11_readsCount_7 : decode cX11_readsCount 7 = .ok (.aload_n 0, 1) := by decide +kernel
theorem dX11_readsCount_8 : decode cX11_readsCount 8 = .ok (.invokevirtual 127, 3) := by decide +kernel
theorem dX11_readsCount_11 : decode cX11_readsCount 11 = .ok (.ifCond .eq 44, 3) := by decide +kernel
theorem dX11_readsCount_14 : decode cX11_readsCount 14 = .ok (.aload_n 0, 1) := by decide +kernel
theorem dX11_readsCount_15 : decode cX11_readsCount 15 = .ok (.getfield 105, 3) := by decide +kernel
theorem dX11_readsCount_18 : decode cX11_readsCount 18 = .ok (.iload_n 1, 1) := by decide +kernel
theorem dX11_readsCount_19 : decode cX11_readsCount 19 = .ok (.iconst 2, 1) := by decide +kernel
theorem dX11_readsCount_20 : decode cX11_readsCount 20 = .ok (.iadd, 1) := by decide +kernel
theorem dX11_readsCount_21 : decode cX11_readsCount 21 = .ok (.if_icmp .ge 34, 3) := by decide +kernel
theorem dX11_readsCount_24 : decode cX11_readsCount 24 = .ok (.bipush 10, 2) := by decide +kernel
theorem dX11_readsCount_26 : decode cX11_readsCount 26 = .ok (.iload_n 2, 1) := by decide +kernel
theorem dX11_readsCount_27 : decode cX11_readsCount 27 = .ok (.imul, 1) := by decide +kernel
theorem dX11_readsCount_28 : decode cX11_readsCount 28 = .ok (.aload_n 0, 1) := by decide +kernel
theorem dX11_readsCount_29 : decode cX11_readsCount 29 = .ok (.getfield 16, 3) := by decide +kernel
theorem dX11_readsCount_32 : decode cX11_readsCount 32 = .ok (.aload_n 0, 1) := by decide +kernel
theorem dX11_readsCount_33 : decode cX11_readsCount 33 = .ok (.getfield 105, 3) := by decide +kernel
theorem dX11_readsCount_36 : decode cX11_readsCount 36 = .ok (.iaload, 1) := by decide +kernel
theorem dX11_readsCount_37 : decode cX11_readsCount 37 = .ok (.iadd, 1) := by decide +kernel
theorem dX11_readsCount_38 : decode cX11_readsCount 38 = .ok (.bipush 48, 2) := by decide +kernel
theorem dX11_readsCount_40 : decode cX11_readsCount 40 = .ok (.isub, 1) := by decide +kernel
theorem dX11_readsCount_41 : decode cX11_readsCount 41 = .ok (.istore_n 2, 1) := by decide +kernel
theorem dX11_readsCount_42 : decode cX11_readsCount 42 = .ok (.aload_n 0, 1) := by decide +kernel
theorem dX11_readsCount_43 : decode cX11_readsCount 43 = .ok (.dup, 1) := by decide +kernel
theorem dX11_readsCount_44 : decode cX11_readsCount 44 = .ok (.getfield 105, 3) := by decide +kernel
theorem dX11_readsCount_47 : decode cX11_readsCount 47 = .ok (.iconst 1, 1) := by decide +kernel
theorem dX11_readsCount_48 : decode cX11_readsCount 48 = .ok (.iadd, 1) := by decide +kernel
theorem dX11_readsCount_49 : decode cX11_readsCount 49 = .ok (.putfield 105, 3) := by decide +kernel
theorem dX11_readsCount_52 : decode cX11_readsCount 52 = .ok (.goto (-45), 3) := by decide +kernel
theorem dX11_readsCount_55 : decode cX11_readsCount 55 = .ok (.aload_n 0, 1) := by decide +kernel
theorem dX11_readsCount_56 : decode cX11_readsCount 56 = .ok (.invokevirtual 127, 3) := by decide +kernel
theorem dX11_readsCount_59 : decode cX11_readsCount 59 = .ok (.ifCond .eq 5, 3) := by decide +kernel
theorem dX11_readsCount_62 : decode cX11_readsCount 62 = .ok (.iconst 0, 1) := by decide +kernel
theorem dX11_readsCount_63 : decode cX11_readsCount 63 = .ok (.ireturn, 1) := by decide +kernel
theorem dX11_readsCount_64 : decode cX11_readsCount 64 = .ok (.iload_n 2, 1) := by decide +kernel
theorem dX11_readsCount_65 : decode cX11_readsCount 65 = .ok (.i2l, 1) := by decide +kernel
theorem dX11_readsCount_66 : decode cX11_readsCount 66 = .ok (.lconst 1, 1) := by decide +kernel
theorem dX11_readsCount_67 : decode cX11_readsCount 67 = .ok (.ldc2_w 137, 3) := by decide +kernel
theorem dX11_readsCount_70 : decode cX11_readsCount 70 = .ok (.invokestatic 90, 3) := by decide +kernel
theorem dX11_readsCount_73 : decode cX11_readsCount 73 = .ok (.ifCond .ne 10, 3) := by decide +kernel
theorem dX11_readsCount_76 : decode cX11_readsCount 76 = .ok (.aload_n 0, 1) := by decide +kernel
theorem dX11_readsCount_77 : decode cX11_readsCount 77 = .ok (.iload_n 1, 1) := by decide +kernel
theorem dX11_readsCount_78 : decode cX11_readsCount 78 = .ok (.putfield 105, 3) := by decide +kernel
theorem dX11_readsCount_81 : decode cX11_readsCount 81 = .ok (.iconst 0, 1) := by decide +kernel
theorem dX11_readsCount_82 : decode cX11_readsCount 82 = .ok (.ireturn, 1) := by decide +kernel
theorem dX11_readsCount_83 : decode cX11_readsCount 83 = .ok (.aload_n 0, 1) := by decide +kernel
theorem dX11_readsCount_84 : decode cX11_readsCount 84 = .ok (.invokevirtual 108, 3) := by decide +kernel
theorem dX11_readsCount_87 : decode cX11_readsCount 87 = .ok (.bipush 123, 2) := by decide +kernel
theorem dX11_readsCount_89 : decode cX11_readsCount 89 = .ok (.if_icmp .eq 5, 3) := by decide +kernel
theorem dX11_readsCount_92 : decode cX11_readsCount 92 = .ok (.iconst 0, 1) := by decide +kernel
theorem dX11_readsCount_93 : decode cX11_readsCount 93 = .ok (.ireturn, 1) := by decide +kernel
theorem dX11_readsCount_94 : decode cX11_readsCount 94 = .ok (.aload_n 0, 1) := by decide +kernel
theorem dX11_readsCount_95 : decode cX11_readsCount 95 = .ok (.dup, 1) := by decide +kernel
theorem dX11_readsCount_96 : decode cX11_readsCount 96 = .ok (.getfield 105, 3) := by decide +kernel
theorem dX11_readsCount_99 : decode cX11_readsCount 99 = .ok (.iconst 1, 1) := by decide +kernel
theorem dX11_readsCount_100 : decode cX11_readsCount 100 = .ok (.iadd, 1) := by decide +kernel
theorem dX11_readsCount_101 : decode cX11_readsCount 101 = .ok (.putfield 105, 3) := by decide +kernel
theorem dX11_readsCount_104 : decode cX11_readsCount 104 = .ok (.aload_n 0, 1) := by decide +kernel
theorem dX11_readsCount_105 : decode cX11_readsCount 105 = .ok (.iconst 4, 1) := by decide +kernel
theorem dX11_readsCount_106 : decode cX11_readsCount 106 = .ok (.iload_n 2, 1) := by decide +kernel
theorem dX11_readsCount_107 : decode cX11_readsCount 107 = .ok (.iconst (-1), 1) := by decide +kernel
theorem dX11_readsCount_108 : decode cX11_readsCount 108 = .ok (.iconst (-1), 1) := by decide +kernel
theorem dX11_readsCount_109 : decode cX11_readsCount 109 = .ok (.invokevirtual 133, 3) := by decide +kernel
theorem dX11_readsCount_112 : decode cX11_readsCount 112 = .ok (.aload_n 0, 1) := by decide +kernel
theorem dX11_readsCount_113 : decode cX11_readsCount 113 = .ok (.dup, 1) := by decide +kernel
theorem dX11_readsCount_114 : decode cX11_readsCount 114 = .ok (.getfield 139, 3) := by decide +kernel
theorem dX11_readsCount_117 : decode cX11_readsCount 117 = .ok (.iconst 1, 1) := by decide +kernel
theorem dX11_readsCount_118 : decode cX11_readsCount 118 = .ok (.iadd, 1) := by decide +kernel
theorem dX11_readsCount_119 : decode cX11_readsCount 119 = .ok (.putfield 139, 3) := by decide +kernel
theorem dX11_readsCount_122 : decode cX11_readsCount 122 = .ok (.iconst 1, 1) := by decide +kernel
theorem dX11_readsCount_123 : decode cX11_readsCount 123 = .ok (.ireturn, 1) := by decide +kernel
theorem dX11_readsNext_0 : decode cX11_readsNext 0 = .ok (.aload_n 0, 1) := by decide +kernel
theorem dX11_readsNext_1 : decode cX11_readsNext 1 = .ok (.getfield 120, 3) := by decide +kernel
theorem dX11_readsNext_4 : decode cX11_readsNext 4 = .ok (.bipush 30, 2) := by decide +kernel
theorem dX11_readsNext_6 : decode cX11_readsNext 6 = .ok (.if_icmp .ne 5, 3) := by decide +kernel
theorem dX11_readsNext_9 : decode cX11_readsNext 9 = .ok (.iconst 0, 1) := by decide +kernel
theorem dX11_readsNext_10 : decode cX11_readsNext 10 = .ok (.ireturn, 1) := by decide +kernel
theorem dX11_readsNext_11 : decode cX11_readsNext 11 = .ok (.aload_n 0, 1) := by decide +kernel
theorem dX11_readsNext_12 : decode cX11_readsNext 12 = .ok (.invokevirtual 123, 3) := by decide +kernel
theorem dX11_readsNext_15 : decode cX11_readsNext 15 = .ok (.ifCond .eq 8, 3) := by decide +kernel
theorem dX11_readsNext_18 : decode cX11_readsNext 18 = .ok (.aload_n 0, 1) := by decide +kernel
theorem dX11_readsNext_19 : decode cX11_readsNext 19 = .ok (.invokevirtual 142, 3) := by decide +kernel
theorem dX11_readsNext_22 : decode cX11_readsNext 22 = .ok (.ireturn, 1) := by decide +kernel
theorem dX11_readsNext_23 : decode cX11_readsNext 23 = .ok (.aload_n 0, 1) := by decide +kernel
theorem dX11_readsNext_24 : decode cX11_readsNext 24 = .ok (.invokevirtual 127, 3) := by decide +kernel
theorem dX11_readsNext_27 : decode cX11_readsNext 27 = .ok (.ifCond .eq 24, 3) := by decide +kernel
theorem dX11_readsNext_30 : decode cX11_readsNext 30 = .ok (.aload_n 0, 1) := by decide +kernel
theorem dX11_readsNext_31 : decode cX11_readsNext 31 = .ok (.getfield 139, 3) := by decide +kernel
theorem dX11_readsNext_34 : decode cX11_readsNext 34 = .ok (.iconst 2, 1) := by decide +kernel
theorem dX11_readsNext_35 : decode cX11_readsNext 35 = .ok (.if_icmp .ge 14, 3) := by decide +kernel
theorem dX11_readsNext_38 : decode cX11_readsNext 38 = .ok (.aload_n 0, 1) := by decide +kernel
theorem dX11_readsNext_39 : decode cX11_readsNext 39 = .ok (.invokevirtual 145, 3) := by decide +kernel
theorem dX11_readsNext_42 : decode cX11_readsNext 42 = .ok (.ifCond .eq 7, 3) := by decide +kernel
theorem dX11_readsNext_45 : decode cX11_readsNext 45 = .ok (.iconst 1, 1) := by decide +kernel
theorem dX11_readsNext_46 : decode cX11_readsNext 46 = .ok (.goto 4, 3) := by decide +kernel
theorem dX11_readsNext_49 : decode cX11_readsNext 49 = .ok (.iconst 0, 1) := by decide +kernel
theorem dX11_readsNext_50 : decode cX11_readsNext 50 = .ok (.ireturn, 1) := by decide +kernel
theorem dX11_readsNext_51 : decode cX11_readsNext 51 = .ok (.aload_n 0, 1) := by decide +kernel
theorem dX11_readsNext_52 : decode cX11_readsNext 52 = .ok (.invokevirtual 108, 3) := by decide +kernel
theorem dX11_readsNext_55 : decode cX11_readsNext 55 = .ok (.bipush 125, 2) := by decide +kernel
theorem dX11_readsNext_57 : decode cX11_readsNext 57 = .ok (.if_icmp .ne 10, 3) := by decide +kernel
theorem dX11_readsNext_60 : decode cX11_readsNext 60 = .ok (.aload_n 0, 1) := by decide +kernel
theorem dX11_readsNext_61 : decode cX11_readsNext 61 = .ok (.getfield 139, 3) := by decide +kernel
theorem dX11_readsNext_64 : decode cX11_readsNext 64 = .ok (.ifCond .ne 5, 3) := by decide +kernel
theorem dX11_readsNext_67 : decode cX11_readsNext 67 = .ok (.iconst 0, 1) := by decide +kernel
theorem dX11_readsNext_68 : decode cX11_readsNext 68 = .ok (.ireturn, 1) := by decide +kernel
theorem dX11_readsNext_69 : decode cX11_readsNext 69 = .ok (.aload_n 0, 1) := by decide +kernel
theorem dX11_readsNext_70 : decode cX11_readsNext 70 = .ok (.dup, 1) := by decide +kernel
theorem dX11_readsNext_71 : decode cX11_readsNext 71 = .ok (.getfield 105, 3) := by decide +kernel
theorem dX11_readsNext_74 : decode cX11_readsNext 74 = .ok (.iconst 1, 1) := by decide +kernel
theorem dX11_readsNext_75 : decode cX11_readsNext 75 = .ok (.iadd, 1) := by decide +kernel
theorem dX11_readsNext_76 : decode cX11_readsNext 76 = .ok (.putfield 105, 3) := by decide +kernel
theorem dX11_readsNext_79 : decode cX11_readsNext 79 = .ok (.aload_n 0, 1) := by decide +kernel
theorem dX11_readsNext_80 : decode cX11_readsNext 80 = .ok (.dup, 1) := by decide +kernel
theorem dX11_readsNext_81 : decode cX11_readsNext 81 = .ok (.getfield 139, 3) := by decide +kernel
theorem dX11_readsNext_84 : decode cX11_readsNext 84 = .ok (.iconst 1, 1) := by decide +kernel
theorem dX11_readsNext_85 : decode cX11_readsNext 85 = .ok (.isub, 1) := by decide +kernel
theorem dX11_readsNext_86 : decode cX11_readsNext 86 = .ok (.putfield 139, 3) := by decide +kernel
theorem dX11_readsNext_89 : decode cX11_readsNext 89 = .ok (.aload_n 0, 1) := by decide +kernel
theorem dX11_readsNext_90 : decode cX11_readsNext 90 = .ok (.iconst 5, 1) := by decide +kernel
theorem dX11_readsNext_91 : decode cX11_readsNext 91 = .ok (.iconst (-1), 1) := by decide +kernel
theorem dX11_readsNext_92 : decode cX11_readsNext 92 = .ok (.iconst (-1), 1) := by decide +kernel
theorem dX11_readsNext_93 : decode cX11_readsNext 93 = .ok (.iconst (-1), 1) := by decide +kernel
theorem dX11_readsNext_94 : decode cX11_readsNext 94 = .ok (.invokevirtual 133, 3) := by decide +kernel
theorem dX11_readsNext_97 : decode cX11_readsNext 97 = .ok (.iconst 1, 1) := by decide +kernel
theorem dX11_readsNext_98 : decode cX11_readsNext 98 = .ok (.ireturn, 1) := by decide +kernel
theorem dX11_parse_0 : decode cX11_parse 0 = .ok (.aload_n 0, 1) := by decide +kernel
theorem dX11_parse_1 : decode cX11_parse 1 = .ok (.iconst 0, 1) := by decide +kernel
theorem dX11_parse_2 : decode cX11_parse 2 = .ok (.putfield 75, 3) := by decide +kernel
theorem dX11_parse_5 : decode cX11_parse 5 = .ok (.aload_n 0, 1) := by decide +kernel
theorem dX11_parse_6 : decode cX11_parse 6 = .ok (.iconst 0, 1) := by decide +kernel
theorem dX11_parse_7 : decode cX11_parse 7 = .ok (.putfield 105, 3) := by decide +kernel
theorem dX11_parse_10 : decode cX11_parse 10 = .ok (.aload_n 0, 1) := by decide +kernel
theorem dX11_parse_11 : decode cX11_parse 11 = .ok (.iconst 0, 1) := by decide +kernel
theorem dX11_parse_12 : decode cX11_parse 12 = .ok (.putfield 120, 3) := by decide +kernel
theorem dX11_parse_15 : decode cX11_parse 15 = .ok (.aload_n 0, 1) := by decide +kernel
theorem dX11_parse_16 : decode cX11_parse 16 = .ok (.iconst 0, 1) := by decide +kernel
theorem dX11_parse_17 : decode cX11_parse 17 = .ok (.putfield 139, 3) := by decide +kernel
theorem dX11_parse_20 : decode cX11_parse 20 = .ok (.aload_n 0, 1) := by decide +kernel
theorem dX11_parse_21 : decode cX11_parse 21 = .ok (.getfield 105, 3) := by decide +kernel
theorem dX11_parse_24 : decode cX11_parse 24 = .ok (.aload_n 0, 1) := by decide +kernel
theorem dX11_parse_25 : decode cX11_parse 25 = .ok (.getfield 98, 3) := by decide +kernel
theorem dX11_parse_28 : decode cX11_parse 28 = .ok (.if_icmp .ge 18, 3) := by decide +kernel
theorem dX11_parse_31 : decode cX11_parse 31 = .ok (.aload_n 0, 1) := by decide +kernel
theorem dX11_parse_32 : decode cX11_parse 32 = .ok (.invokevirtual 148, 3) := by decide +kernel
theorem dX11_parse_35 : decode cX11_parse 35 = .ok (.ifCond .ne (-15), 3) := by decide +kernel
theorem dX11_parse_38 : decode cX11_parse 38 = .ok (.bipush (-10), 2) := by decide +kernel
theorem dX11_parse_40 : decode cX11_parse 40 = .ok (.aload_n 0, 1) := by decide +kernel
theorem dX11_parse_41 : decode cX11_parse 41 = .ok (.getfield 105, 3) := by decide +kernel
theorem dX11_parse_44 : decode cX11_parse 44 = .ok (.isub, 1) := by decide +kernel
theorem dX11_parse_45 : decode cX11_parse 45 = .ok (.ireturn, 1) := by decide +kernel
theorem dX11_parse_46 : decode cX11_parse 46 = .ok (.aload_n 0, 1) := by decide +kernel
theorem dX11_parse_47 : decode cX11_parse 47 = .ok (.getfield 139, 3) := by decide +kernel
theorem dX11_parse_50 : decode cX11_parse 50 = .ok (.ifCond .le 11, 3) := by decide +kernel
theorem dX11_parse_53 : decode cX11_parse 53 = .ok (.bipush (-10), 2) := by decide +kernel
theorem dX11_parse_55 : decode cX11_parse 55 = .ok (.aload_n 0, 1) := by decide +kernel
theorem dX11_parse_56 : decode cX11_parse 56 = .ok (.getfield 98, 3) := by decide +kernel
theorem dX11_parse_59 : decode cX11_parse 59 = .ok (.isub, 1) := by decide +kernel
theorem dX11_parse_60 : decode cX11_parse 60 = .ok (.ireturn, 1) := by decide +kernel
theorem dX11_parse_61 : decode cX11_parse 61 = .ok (.aload_n 0, 1) := by decide +kernel
theorem dX11_parse_62 : decode cX11_parse 62 = .ok (.invokevirtual 151, 3) := by decide +kernel
theorem dX11_parse_65 : decode cX11_parse 65 = .ok (.aload_n 0, 1) := by decide +kernel
theorem dX11_parse_66 : decode cX11_parse 66 = .ok (.getfield 7, 3) := by decide +kernel
theorem dX11_parse_69 : decode cX11_parse 69 = .ok (.iconst 0, 1) := by decide +kernel
theorem dX11_parse_70 : decode cX11_parse 70 = .ok (.aload_n 0, 1) := by decide +kernel
theorem dX11_parse_71 : decode cX11_parse 71 = .ok (.getfield 120, 3) := by decide +kernel
theorem dX11_parse_74 : decode cX11_parse 74 = .ok (.iastore, 1) := by decide +kernel
theorem dX11_parse_75 : decode cX11_parse 75 = .ok (.iconst 0, 1) := by decide +kernel
theorem dX11_parse_76 : decode cX11_parse 76 = .ok (.istore_n 1, 1) := by decide +kernel
theorem dX11_parse_77 : decode cX11_parse 77 = .ok (.iload_n 1, 1) := by decide +kernel
theorem dX11_parse_78 : decode cX11_parse 78 = .ok (.iconst 4, 1) := by decide +kernel
theorem dX11_parse_79 : decode cX11_parse 79 = .ok (.aload_n 0, 1) := by decide +kernel
theorem dX11_parse_80 : decode cX11_parse 80 = .ok (.getfield 120, 3) := by decide +kernel
theorem dX11_parse_83 : decode cX11_parse 83 = .ok (.imul, 1) := by decide +kernel
theorem dX11_parse_84 : decode cX11_parse 84 = .ok (.if_icmp .ge 23, 3) := by decide +kernel
theorem dX11_parse_87 : decode cX11_parse 87 = .ok (.aload_n 0, 1) := by decide +kernel
theorem dX11_parse_88 : decode cX11_parse 88 = .ok (.getfield 7, 3) := by decide +kernel
theorem dX11_parse_91 : decode cX11_parse 91 = .ok (.iconst 1, 1) := by decide +kernel
theorem dX11_parse_92 : decode cX11_parse 92 = .ok (.iload_n 1, 1) := by decide +kernel
theorem dX11_parse_93 : decode cX11_parse 93 = .ok (.iadd, 1) := by decide +kernel
theorem dX11_parse_94 : decode cX11_parse 94 = .ok (.aload_n 0, 1) := by decide +kernel
theorem dX11_parse_95 : decode cX11_parse 95 = .ok (.getfield 19, 3) := by decide +kernel
theorem dX11_parse_98 : decode cX11_parse 98 = .ok (.iload_n 1, 1) := by decide +kernel
theorem dX11_parse_99 : decode cX11_parse 99 = .ok (.iaload, 1) := by decide +kernel
theorem dX11_parse_100 : decode cX11_parse 100 = .ok (.iastore, 1) := by decide +kernel
theorem dX11_parse_101 : decode cX11_parse 101 = .ok (.iinc 1 1, 3) := by decide +kernel
theorem dX11_parse_104 : decode cX11_parse 104 = .ok (.goto (-27), 3) := by decide +kernel
theorem dX11_parse_107 : decode cX11_parse 107 = .ok (.aload_n 0, 1) := by decide +kernel
theorem dX11_parse_108 : decode cX11_parse 108 = .ok (.getfield 120, 3) := by decide +kernel
theorem dX11_parse_111 : decode cX11_parse 111 = .ok (.ireturn, 1) := by decide +kernel
theorem dX11_setRange_0 : decode cX11_setRange 0 = .ok (.aload_n 0, 1) := by decide +kernel
theorem dX11_setRange_1 : decode cX11_setRange 1 = .ok (.iload_n 1, 1) := by decide +kernel
theorem dX11_setRange_2 : decode cX11_setRange 2 = .ok (.invokestatic 154, 3) := by decide +kernel
theorem dX11_setRange_5 : decode cX11_setRange 5 = .ok (.iload_n 2, 1) := by decide +kernel
theorem dX11_setRange_6 : decode cX11_setRange 6 = .ok (.iload_n 3, 1) := by decide +kernel
theorem dX11_setRange_7 : decode cX11_setRange 7 = .ok (.if_icmp .gt 7, 3) := by decide +kernel
theorem dX11_setRange_10 : decode cX11_setRange 10 = .ok (.iconst 1, 1) := by decide +kernel
theorem dX11_setRange_11 : decode cX11_setRange 11 = .ok (.goto 4, 3) := by decide +kernel
theorem dX11_setRange_14 : decode cX11_setRange 14 = .ok (.iconst 0, 1) := by decide +kernel
theorem dX11_setRange_15 : decode cX11_setRange 15 = .ok (.invokevirtual 101, 3) := by decide +kernel
theorem dX11_setRange_18 : decode cX11_setRange 18 = .ok (.ifCond .ne 5, 3) := by decide +kernel
theorem dX11_setRange_21 : decode cX11_setRange 21 = .ok (.iconst 0, 1) := by decide +kernel
theorem dX11_setRange_22 : decode cX11_setRange 22 = .ok (.ireturn, 1) := by decide +kernel
theorem dX11_setRange_23 : decode cX11_setRange 23 = .ok (.aload_n 0, 1) := by decide +kernel
theorem dX11_setRange_24 : decode cX11_setRange 24 = .ok (.invokevirtual 151, 3) := by decide +kernel
theorem dX11_setRange_27 : decode cX11_setRange 27 = .ok (.bipush 121, 2) := by decide +kernel
theorem dX11_setRange_29 : decode cX11_setRange 29 = .ok (.iconst 3, 1) := by decide +kernel
theorem dX11_setRange_30 : decode cX11_setRange 30 = .ok (.iload_n 1, 1) := by decide +kernel
theorem dX11_setRange_31 : decode cX11_setRange 31 = .ok (.imul, 1) := by decide +kernel
theorem dX11_setRange_32 : decode cX11_setRange 32 = .ok (.iadd, 1) := by decide +kernel
theorem dX11_setRange_33 : decode cX11_setRange 33 = .ok (.istore 4, 2) := by decide +kernel
theorem dX11_setRange_35 : decode cX11_setRange 35 = .ok (.aload_n 0, 1) := by decide +kernel
theorem dX11_setRange_36 : decode cX11_setRange 36 = .ok (.getfield 7, 3) := by decide +kernel
theorem dX11_setRange_39 : decode cX11_setRange 39 = .ok (.iload 4, 2) := by decide +kernel
theorem dX11_setRange_41 : decode cX11_setRange 41 = .ok (.iload_n 2, 1) := by decide +kernel
theorem dX11_setRange_42 : decode cX11_setRange 42 = .ok (.iastore, 1) := by decide +kernel
theorem dX11_setRange_43 : decode cX11_setRange 43 = .ok (.aload_n 0, 1) := by decide +kernel
theorem dX11_setRange_44 : decode cX11_setRange 44 = .ok (.getfield 7, 3) := by decide +kernel
theorem dX11_setRange_47 : decode cX11_setRange 47 = .ok (.iload 4, 2) := by decide +kernel
theorem dX11_setRange_49 : decode cX11_setRange 49 = .ok (.iconst 1, 1) := by decide +kernel
theorem dX11_setRange_50 : decode cX11_setRange 50 = .ok (.iadd, 1) := by decide +kernel
theorem dX11_setRange_51 : decode cX11_setRange 51 = .ok (.iload_n 3, 1) := by decide +kernel
theorem dX11_setRange_52 : decode cX11_setRange 52 = .ok (.iastore, 1) := by decide +kernel
theorem dX11_setRange_53 : decode cX11_setRange 53 = .ok (.aload_n 0, 1) := by decide +kernel
theorem dX11_setRange_54 : decode cX11_setRange 54 = .ok (.getfield 7, 3) := by decide +kernel
theorem dX11_setRange_57 : decode cX11_setRange 57 = .ok (.iload 4, 2) := by decide +kernel
theorem dX11_setRange_59 : decode cX11_setRange 59 = .ok (.iconst 2, 1) := by decide +kernel
theorem dX11_setRange_60 : decode cX11_setRange 60 = .ok (.iadd, 1) := by decide +kernel
theorem dX11_setRange_61 : decode cX11_setRange 61 = .ok (.aload_n 0, 1) := by decide +kernel
theorem dX11_setRange_62 : decode cX11_setRange 62 = .ok (.getfield 7, 3) := by decide +kernel
theorem dX11_setRange_65 : decode cX11_setRange 65 = .ok (.iload 4, 2) := by decide +kernel
theorem dX11_setRange_67 : decode cX11_setRange 67 = .ok (.iconst 2, 1) := by decide +kernel
theorem dX11_setRange_68 : decode cX11_setRange 68 = .ok (.iadd, 1) := by decide +kernel
theorem dX11_setRange_69 : decode cX11_setRange 69 = .ok (.iaload, 1) := by decide +kernel
theorem dX11_setRange_70 : decode cX11_setRange 70 = .ok (.i2l, 1) := by decide +kernel
theorem dX11_setRange_71 : decode cX11_setRange 71 = .ok (.iload_n 2, 1) := by decide +kernel
theorem dX11_setRange_72 : decode cX11_setRange 72 = .ok (.i2l, 1) := by decide +kernel
theorem dX11_setRange_73 : decode cX11_setRange 73 = .ok (.iload_n 3, 1) := by decide +kernel
theorem dX11_setRange_74 : decode cX11_setRange 74 = .ok (.i2l, 1) := by decide +kernel
theorem dX11_setRange_75 : decode cX11_setRange 75 = .ok (.invokestatic 90, 3) := by decide +kernel
theorem dX11_setRange_78 : decode cX11_setRange 78 = .ok (.ifCond .eq 15, 3) := by decide +kernel
theorem dX11_setRange_81 : decode cX11_setRange 81 = .ok (.aload_n 0, 1) := by decide +kernel
theorem dX11_setRange_82 : decode cX11_setRange 82 = .ok (.getfield 7, 3) := by decide +kernel
theorem dX11_setRange_85 : decode cX11_setRange 85 = .ok (.iload 4, 2) := by decide +kernel
theorem dX11_setRange_87 : decode cX11_setRange 87 = .ok (.iconst 2, 1) := by decide +kernel
theorem dX11_setRange_88 : decode cX11_setRange 88 = .ok (.iadd, 1) := by decide +kernel
theorem dX11_setRange_89 : decode cX11_setRange 89 = .ok (.iaload, 1) := by decide +kernel
theorem dX11_setRange_90 : decode cX11_setRange 90 = .ok (.goto 4, 3) := by decide +kernel
theorem dX11_setRange_93 : decode cX11_setRange 93 = .ok (.iload_n 2, 1) := by decide +kernel
theorem dX11_setRange_94 : decode cX11_setRange 94 = .ok (.iastore, 1) := by decide +kernel
theorem dX11_setRange_95 : decode cX11_setRange 95 = .ok (.aload_n 0, 1) := by decide +kernel
theorem dX11_setRange_96 : decode cX11_setRange 96 = .ok (.getfield 7, 3) := by decide +kernel
theorem dX11_setRange_99 : decode cX11_setRange 99 = .ok (.iload 4, 2) := by decide +kernel
theorem dX11_setRange_101 : decode cX11_setRange 101 = .ok (.iconst 2, 1) := by decide +kernel
theorem dX11_setRange_102 : decode cX11_setRange 102 = .ok (.iadd, 1) := by decide +kernel
theorem dX11_setRange_103 : decode cX11_setRange 103 = .ok (.iaload, 1) := by decide +kernel
theorem dX11_setRange_104 : decode cX11_setRange 104 = .ok (.ireturn, 1) := by decide +kernel
theorem dX11_setInput_0 : decode cX11_setInput 0 = .ok (.aload_n 0, 1) := by decide +kernel
theorem dX11_setInput_1 : decode cX11_setInput 1 = .ok (.iload_n 1, 1) := by decide +kernel
theorem dX11_setInput_2 : decode cX11_setInput 2 = .ok (.invokestatic 154, 3) := by decide +kernel
theorem dX11_setInput_5 : decode cX11_setInput 5 = .ok (.iload_n 1, 1) := by decide +kernel
theorem dX11_setInput_6 : decode cX11_setInput 6 = .ok (.invokestatic 154, 3) := by decide +kernel
theorem dX11_setInput_9 : decode cX11_setInput 9 = .ok (.ifCond .eq 41, 3) := by decide +kernel
theorem dX11_setInput_12 : decode cX11_setInput 12 = .ok (.iload_n 2, 1) := by decide +kernel
theorem dX11_setInput_13 : decode cX11_setInput 13 = .ok (.i2l, 1) := by decide +kernel
theorem dX11_setInput_14 : decode cX11_setInput 14 = .ok (.aload_n 0, 1) := by decide +kernel
theorem dX11_setInput_15 : decode cX11_setInput 15 = .ok (.getfield 7, 3) := by decide +kernel
theorem dX11_setInput_18 : decode cX11_setInput 18 = .ok (.bipush 121, 2) := by decide +kernel
theorem dX11_setInput_20 : decode cX11_setInput 20 = .ok (.iconst 3, 1) := by decide +kernel
theorem dX11_setInput_21 : decode cX11_setInput 21 = .ok (.iload_n 1, 1) := by decide +kernel
theorem dX11_setInput_22 : decode cX11_setInput 22 = .ok (.imul, 1) := by decide +kernel
theorem dX11_setInput_23 : decode cX11_setInput 23 = .ok (.iadd, 1) := by decide +kernel
theorem dX11_setInput_24 : decode cX11_setInput 24 = .ok (.iaload, 1) := by decide +kernel
theorem dX11_setInput_25 : decode cX11_setInput 25 = .ok (.i2l, 1) := by decide +kernel
theorem dX11_setInput_26 : decode cX11_setInput 26 = .ok (.aload_n 0, 1) := by decide +kernel
theorem dX11_setInput_27 : decode cX11_setInput 27 = .ok (.getfield 7, 3) := by decide +kernel
theorem dX11_setInput_30 : decode cX11_setInput 30 = .ok (.bipush 121, 2) := by decide +kernel
theorem dX11_setInput_32 : decode cX11_setInput 32 = .ok (.iconst 3, 1) := by decide +kernel
theorem dX11_setInput_33 : decode cX11_setInput 33 = .ok (.iload_n 1, 1) := by decide +kernel
theorem dX11_setInput_34 : decode cX11_setInput 34 = .ok (.imul, 1) := by decide +kernel
theorem dX11_setInput_35 : decode cX11_setInput 35 = .ok (.iadd, 1) := by decide +kernel
theorem dX11_setInput_36 : decode cX11_setInput 36 = .ok (.iconst 1, 1) := by decide +kernel
theorem dX11_setInput_37 : decode cX11_setInput 37 = .ok (.iadd, 1) := by decide +kernel
theorem dX11_setInput_38 : decode cX11_setInput 38 = .ok (.iaload, 1) := by decide +kernel
theorem dX11_setInput_39 : decode cX11_setInput 39 = .ok (.i2l, 1) := by decide +kernel
theorem dX11_setInput_40 : decode cX11_setInput 40 = .ok (.invokestatic 90, 3) := by decide +kernel
theorem dX11_setInput_43 : decode cX11_setInput 43 = .ok (.ifCond .eq 7, 3) := by decide +kernel
theorem dX11_setInput_46 : decode cX11_setInput 46 = .ok (.iconst 1, 1) := by decide +kernel
theorem dX11_setInput_47 : decode cX11_setInput 47 = .ok (.goto 4, 3) := by decide +kernel
theorem dX11_setInput_50 : decode cX11_setInput 50 = .ok (.iconst 0, 1) := by decide +kernel
theorem dX11_setInput_51 : decode cX11_setInput 51 = .ok (.invokevirtual 101, 3) := by decide +kernel
theorem dX11_setInput_54 : decode cX11_setInput 54 = .ok (.ifCond .ne 5, 3) := by decide +kernel
theorem dX11_setInput_57 : decode cX11_setInput 57 = .ok (.iconst 0, 1) := by decide +kernel
theorem dX11_setInput_58 : decode cX11_setInput 58 = .ok (.ireturn, 1) := by decide +kernel
theorem dX11_setInput_59 : decode cX11_setInput 59 = .ok (.aload_n 0, 1) := by decide +kernel
theorem dX11_setInput_60 : decode cX11_setInput 60 = .ok (.invokevirtual 151, 3) := by decide +kernel
theorem dX11_setInput_63 : decode cX11_setInput 63 = .ok (.aload_n 0, 1) := by decide +kernel
theorem dX11_setInput_64 : decode cX11_setInput 64 = .ok (.getfield 7, 3) := by decide +kernel
theorem dX11_setInput_67 : decode cX11_setInput 67 = .ok (.bipush 121, 2) := by decide +kernel
theorem dX11_setInput_69 : decode cX11_setInput 69 = .ok (.iconst 3, 1) := by decide +kernel
theorem dX11_setInput_70 : decode cX11_setInput 70 = .ok (.iload_n 1, 1) := by decide +kernel
theorem dX11_setInput_71 : decode cX11_setInput 71 = .ok (.imul, 1) := by decide +kernel
theorem dX11_setInput_72 : decode cX11_setInput 72 = .ok (.iadd, 1) := by decide +kernel
theorem dX11_setInput_73 : decode cX11_setInput 73 = .ok (.iconst 2, 1) := by decide +kernel
theorem dX11_setInput_74 : decode cX11_setInput 74 = .ok (.iadd, 1) := by decide +kernel
theorem dX11_setInput_75 : decode cX11_setInput 75 = .ok (.iaload, 1) := by decide +kernel
theorem dX11_setInput_76 : decode cX11_setInput 76 = .ok (.istore_n 3, 1) := by decide +kernel
theorem dX11_setInput_77 : decode cX11_setInput 77 = .ok (.aload_n 0, 1) := by decide +kernel
theorem dX11_setInput_78 : decode cX11_setInput 78 = .ok (.getfield 7, 3) := by decide +kernel
theorem dX11_setInput_81 : decode cX11_setInput 81 = .ok (.bipush 121, 2) := by decide +kernel
theorem dX11_setInput_83 : decode cX11_setInput 83 = .ok (.iconst 3, 1) := by decide +kernel
theorem dX11_setInput_84 : decode cX11_setInput 84 = .ok (.iload_n 1, 1) := by decide +kernel
theorem dX11_setInput_85 : decode cX11_setInput 85 = .ok (.imul, 1) := by decide +kernel
theorem dX11_setInput_86 : decode cX11_setInput 86 = .ok (.iadd, 1) := by decide +kernel
theorem dX11_setInput_87 : decode cX11_setInput 87 = .ok (.iconst 2, 1) := by decide +kernel
theorem dX11_setInput_88 : decode cX11_setInput 88 = .ok (.iadd, 1) := by decide +kernel
theorem dX11_setInput_89 : decode cX11_setInput 89 = .ok (.iload_n 2, 1) := by decide +kernel
theorem dX11_setInput_90 : decode cX11_setInput 90 = .ok (.iastore, 1) := by decide +kernel
theorem dX11_setInput_91 : decode cX11_setInput 91 = .ok (.iload_n 3, 1) := by decide +kernel
theorem dX11_setInput_92 : decode cX11_setInput 92 = .ok (.ireturn, 1) := by decide +kernel
theorem dX11_input_0 : decode cX11_input 0 = .ok (.aload_n 0, 1) := by decide +kernel
theorem dX11_input_1 : decode cX11_input 1 = .ok (.iload_n 1, 1) := by decide +kernel
theorem dX11_input_2 : decode cX11_input 2 = .ok (.invokestatic 154, 3) := by decide +kernel
theorem dX11_input_5 : decode cX11_input 5 = .ok (.iload_n 2, 1) := by decide +kernel
theorem dX11_input_6 : decode cX11_input 6 = .ok (.i2l, 1) := by decide +kernel
theorem dX11_input_7 : decode cX11_input 7 = .ok (.lconst 0, 1) := by decide +kernel
theorem dX11_input_8 : decode cX11_input 8 = .ok (.ldc2_w 158, 3) := by decide +kernel
theorem dX11_input_11 : decode cX11_input 11 = .ok (.invokestatic 90, 3) := by decide +kernel
theorem dX11_input_14 : decode cX11_input 14 = .ok (.invokevirtual 101, 3) := by decide +kernel
theorem dX11_input_17 : decode cX11_input 17 = .ok (.ifCond .eq 19, 3) := by decide +kernel
theorem dX11_input_20 : decode cX11_input 20 = .ok (.aload_n 0, 1) := by decide +kernel
theorem dX11_input_21 : decode cX11_input 21 = .ok (.getfield 7, 3) := by decide +kernel
theorem dX11_input_24 : decode cX11_input 24 = .ok (.bipush 121, 2) := by decide +kernel
theorem dX11_input_26 : decode cX11_input 26 = .ok (.iconst 3, 1) := by decide +kernel
theorem dX11_input_27 : decode cX11_input 27 = .ok (.iload_n 1, 1) := by decide +kernel
theorem dX11_input_28 : decode cX11_input 28 = .ok (.imul, 1) := by decide +kernel
theorem dX11_input_29 : decode cX11_input 29 = .ok (.iadd, 1) := by decide +kernel
theorem dX11_input_30 : decode cX11_input 30 = .ok (.iload_n 2, 1) := by decide +kernel
theorem dX11_input_31 : decode cX11_input 31 = .ok (.iadd, 1) := by decide +kernel
theorem dX11_input_32 : decode cX11_input 32 = .ok (.iaload, 1) := by decide +kernel
theorem dX11_input_33 : decode cX11_input 33 = .ok (.goto 4, 3) := by decide +kernel
theorem dX11_input_36 : decode cX11_input 36 = .ok (.iconst 0, 1) := by decide +kernel
theorem dX11_input_37 : decode cX11_input 37 = .ok (.ireturn, 1) := by decide +kernel
theorem dX11_remove_0 : decode cX11_remove 0 = .ok (.aload_n 0, 1) := by decide +kernel
theorem dX11_remove_1 : decode cX11_remove 1 = .ok (.aload_n 0, 1) := by decide +kernel
theorem dX11_remove_2 : decode cX11_remove 2 = .ok (.iload_n 1, 1) := by decide +kernel
theorem dX11_remove_3 : decode cX11_remove 3 = .ok (.invokevirtual 160, 3) := by decide +kernel
theorem dX11_remove_6 : decode cX11_remove 6 = .ok (.aload_n 0, 1) := by decide +kernel
theorem dX11_remove_7 : decode cX11_remove 7 = .ok (.iload_n 1, 1) := by decide +kernel
theorem dX11_remove_8 : decode cX11_remove 8 = .ok (.invokevirtual 160, 3) := by decide +kernel
theorem dX11_remove_11 : decode cX11_remove 11 = .ok (.ifCond .eq 15, 3) := by decide +kernel
theorem dX11_remove_14 : decode cX11_remove 14 = .ok (.aload_n 0, 1) := by decide +kernel
theorem dX11_remove_15 : decode cX11_remove 15 = .ok (.iload_n 1, 1) := by decide +kernel
theorem dX11_remove_16 : decode cX11_remove 16 = .ok (.invokevirtual 163, 3) := by decide +kernel
theorem dX11_remove_19 : decode cX11_remove 19 = .ok (.ifCond .ne 7, 3) := by decide +kernel
theorem dX11_remove_22 : decode cX11_remove 22 = .ok (.iconst 1, 1) := by decide +kernel
theorem dX11_remove_23 : decode cX11_remove 23 = .ok (.goto 4, 3) := by decide +kernel
theorem dX11_remove_26 : decode cX11_remove 26 = .ok (.iconst 0, 1) := by decide +kernel
theorem dX11_remove_27 : decode cX11_remove 27 = .ok (.invokevirtual 101, 3) := by decide +kernel
theorem dX11_remove_30 : decode cX11_remove 30 = .ok (.ifCond .ne 5, 3) := by decide +kernel
theorem dX11_remove_33 : decode cX11_remove 33 = .ok (.iconst 0, 1) := by decide +kernel
theorem dX11_remove_34 : decode cX11_remove 34 = .ok (.ireturn, 1) := by decide +kernel
theorem dX11_remove_35 : decode cX11_remove 35 = .ok (.aload_n 0, 1) := by decide +kernel
theorem dX11_remove_36 : decode cX11_remove 36 = .ok (.invokevirtual 151, 3) := by decide +kernel
theorem dX11_remove_39 : decode cX11_remove 39 = .ok (.iconst 1, 1) := by decide +kernel
theorem dX11_remove_40 : decode cX11_remove 40 = .ok (.iconst 4, 1) := by decide +kernel
theorem dX11_remove_41 : decode cX11_remove 41 = .ok (.iload_n 1, 1) := by decide +kernel
theorem dX11_remove_42 : decode cX11_remove 42 = .ok (.imul, 1) := by decide +kernel
theorem dX11_remove_43 : decode cX11_remove 43 = .ok (.iadd, 1) := by decide +kernel
theorem dX11_remove_44 : decode cX11_remove 44 = .ok (.istore_n 2, 1) := by decide +kernel
theorem dX11_remove_45 : decode cX11_remove 45 = .ok (.iload_n 2, 1) := by decide +kernel
theorem dX11_remove_46 : decode cX11_remove 46 = .ok (.bipush 117, 2) := by decide +kernel
theorem dX11_remove_48 : decode cX11_remove 48 = .ok (.if_icmp .ge 23, 3) := by decide +kernel
theorem dX11_remove_51 : decode cX11_remove 51 = .ok (.aload_n 0, 1) := by decide +kernel
theorem dX11_remove_52 : decode cX11_remove 52 = .ok (.getfield 7, 3) := by decide +kernel
theorem dX11_remove_55 : decode cX11_remove 55 = .ok (.iload_n 2, 1) := by decide +kernel
theorem dX11_remove_56 : decode cX11_remove 56 = .ok (.aload_n 0, 1) := by decide +kernel
theorem dX11_remove_57 : decode cX11_remove 57 = .ok (.getfield 7, 3) := by decide +kernel
theorem dX11_remove_60 : decode cX11_remove 60 = .ok (.iload_n 2, 1) := by decide +kernel
theorem dX11_remove_61 : decode cX11_remove 61 = .ok (.iconst 4, 1) := by decide +kernel
theorem dX11_remove_62 : decode cX11_remove 62 = .ok (.iadd, 1) := by decide +kernel
theorem dX11_remove_63 : decode cX11_remove 63 = .ok (.iaload, 1) := by decide +kernel
theorem dX11_remove_64 : decode cX11_remove 64 = .ok (.iastore, 1) := by decide +kernel
theorem dX11_remove_65 : decode cX11_remove 65 = .ok (.iinc 2 1, 3) := by decide +kernel
theorem dX11_remove_68 : decode cX11_remove 68 = .ok (.goto (-23), 3) := by decide +kernel
theorem dX11_remove_71 : decode cX11_remove 71 = .ok (.aload_n 0, 1) := by decide +kernel
theorem dX11_remove_72 : decode cX11_remove 72 = .ok (.getfield 7, 3) := by decide +kernel
theorem dX11_remove_75 : decode cX11_remove 75 = .ok (.iconst 0, 1) := by decide +kernel
theorem dX11_remove_76 : decode cX11_remove 76 = .ok (.dup2, 1) := by decide +kernel
theorem dX11_remove_77 : decode cX11_remove 77 = .ok (.iaload, 1) := by decide +kernel
theorem dX11_remove_78 : decode cX11_remove 78 = .ok (.iconst 1, 1) := by decide +kernel
theorem dX11_remove_79 : decode cX11_remove 79 = .ok (.isub, 1) := by decide +kernel
theorem dX11_remove_80 : decode cX11_remove 80 = .ok (.iastore, 1) := by decide +kernel
theorem dX11_remove_81 : decode cX11_remove 81 = .ok (.aload_n 0, 1) := by decide +kernel
theorem dX11_remove_82 : decode cX11_remove 82 = .ok (.getfield 7, 3) := by decide +kernel
theorem dX11_remove_85 : decode cX11_remove 85 = .ok (.iconst 0, 1) := by decide +kernel
theorem dX11_remove_86 : decode cX11_remove 86 = .ok (.iaload, 1) := by decide +kernel
theorem dX11_remove_87 : decode cX11_remove 87 = .ok (.ireturn, 1) := by decide +kernel
theorem dX11_instructions_0 : decode cX11_instructions 0 = .ok (.aload_n 0, 1) := by decide +kernel
theorem dX11_instructions_1 : decode cX11_instructions 1 = .ok (.iconst 0, 1) := by decide +kernel
theorem dX11_instructions_2 : decode cX11_instructions 2 = .ok (.putfield 75, 3) := by decide +kernel
theorem dX11_instructions_5 : decode cX11_instructions 5 = .ok (.aload_n 0, 1) := by decide +kernel
theorem dX11_instructions_6 : decode cX11_instructions 6 = .ok (.getfield 7, 3) := by decide +kernel
theorem dX11_instructions_9 : decode cX11_instructions 9 = .ok (.iconst 0, 1) := by decide +kernel
theorem dX11_instructions_10 : decode cX11_instructions 10 = .ok (.iaload, 1) := by decide +kernel
theorem dX11_instructions_11 : decode cX11_instructions 11 = .ok (.ireturn, 1) := by decide +kernel
theorem dX11_laysLoops_0 : decode cX11_laysLoops 0 = .ok (.iconst 0, 1) := by decide +kernel
theorem dX11_laysLoops_1 : decode cX11_laysLoops 1 = .ok (.istore_n 1, 1) := by decide +kernel
theorem dX11_laysLoops_2 : decode cX11_laysLoops 2 = .ok (.iconst (-1), 1) := by decide +kernel
theorem dX11_laysLoops_3 : decode cX11_laysLoops 3 = .ok (.istore_n 2, 1) := by decide +kernel
theorem dX11_laysLoops_4 : decode cX11_laysLoops 4 = .ok (.iconst (-1), 1) := by decide +kernel
theorem dX11_laysLoops_5 : decode cX11_laysLoops 5 = .ok (.istore_n 3, 1) := by decide +kernel
theorem dX11_laysLoops_6 : decode cX11_laysLoops 6 = .ok (.iconst 0, 1) := by decide +kernel
theorem dX11_laysLoops_7 : decode cX11_laysLoops 7 = .ok (.istore 4, 2) := by decide +kernel
theorem dX11_laysLoops_9 : decode cX11_laysLoops 9 = .ok (.iload 4, 2) := by decide +kernel
theorem dX11_laysLoops_11 : decode cX11_laysLoops 11 = .ok (.aload_n 0, 1) := by decide +kernel
theorem dX11_laysLoops_12 : decode cX11_laysLoops 12 = .ok (.getfield 7, 3) := by decide +kernel
theorem dX11_laysLoops_15 : decode cX11_laysLoops 15 = .ok (.iconst 0, 1) := by decide +kernel
theorem dX11_laysLoops_16 : decode cX11_laysLoops 16 = .ok (.iaload, 1) := by decide +kernel
theorem dX11_laysLoops_17 : decode cX11_laysLoops 17 = .ok (.if_icmp .ge 93, 3) := by decide +kernel
theorem dX11_laysLoops_20 : decode cX11_laysLoops 20 = .ok (.aload_n 0, 1) := by decide +kernel
theorem dX11_laysLoops_21 : decode cX11_laysLoops 21 = .ok (.getfield 22, 3) := by decide +kernel
theorem dX11_laysLoops_24 : decode cX11_laysLoops 24 = .ok (.iload 4, 2) := by decide +kernel
theorem dX11_laysLoops_26 : decode cX11_laysLoops 26 = .ok (.iconst (-1), 1) := by decide +kernel
theorem dX11_laysLoops_27 : decode cX11_laysLoops 27 = .ok (.iastore, 1) := by decide +kernel
theorem dX11_laysLoops_28 : decode cX11_laysLoops 28 = .ok (.aload_n 0, 1) := by decide +kernel
theorem dX11_laysLoops_29 : decode cX11_laysLoops 29 = .ok (.iload 4, 2) := by decide +kernel
theorem dX11_laysLoops_31 : decode cX11_laysLoops 31 = .ok (.invokevirtual 86, 3) := by decide +kernel
theorem dX11_laysLoops_34 : decode cX11_laysLoops 34 = .ok (.iconst 5, 1) := by decide +kernel
theorem dX11_laysLoops_35 : decode cX11_laysLoops 35 = .ok (.if_icmp .ne 35, 3) := by decide +kernel
theorem dX11_laysLoops_38 : decode cX11_laysLoops 38 = .ok (.aload_n 0, 1) := by decide +kernel
theorem dX11_laysLoops_39 : decode cX11_laysLoops 39 = .ok (.getfield 22, 3) := by decide +kernel
theorem dX11_laysLoops_42 : decode cX11_laysLoops 42 = .ok (.iload 4, 2) := by decide +kernel
theorem dX11_laysLoops_44 : decode cX11_laysLoops 44 = .ok (.iload_n 3, 1) := by decide +kernel
theorem dX11_laysLoops_45 : decode cX11_laysLoops 45 = .ok (.iastore, 1) := by decide +kernel
theorem dX11_laysLoops_46 : decode cX11_laysLoops 46 = .ok (.aload_n 0, 1) := by decide +kernel
theorem dX11_laysLoops_47 : decode cX11_laysLoops 47 = .ok (.getfield 22, 3) := by decide +kernel
theorem dX11_laysLoops_50 : decode cX11_laysLoops 50 = .ok (.iload_n 3, 1) := by decide +kernel
theorem dX11_laysLoops_51 : decode cX11_laysLoops 51 = .ok (.iload 4, 2) := by decide +kernel
theorem dX11_laysLoops_53 : decode cX11_laysLoops 53 = .ok (.iastore, 1) := by decide +kernel
theorem dX11_laysLoops_54 : decode cX11_laysLoops 54 = .ok (.iload_n 1, 1) := by decide +kernel
theorem dX11_laysLoops_55 : decode cX11_laysLoops 55 = .ok (.iconst 2, 1) := by decide +kernel
theorem dX11_laysLoops_56 : decode cX11_laysLoops 56 = .ok (.if_icmp .ne 7, 3) := by decide +kernel
theorem dX11_laysLoops_59 : decode cX11_laysLoops 59 = .ok (.iload_n 2, 1) := by decide +kernel
theorem dX11_laysLoops_60 : decode cX11_laysLoops 60 = .ok (.goto 4, 3) := by decide +kernel
theorem dX11_laysLoops_63 : decode cX11_laysLoops 63 = .ok (.iconst (-1), 1) := by decide +kernel
theorem dX11_laysLoops_64 : decode cX11_laysLoops 64 = .ok (.istore_n 3, 1) := by decide +kernel
theorem dX11_laysLoops_65 : decode cX11_laysLoops 65 = .ok (.iconst (-1), 1) := by decide +kernel
theorem dX11_laysLoops_66 : decode cX11_laysLoops 66 = .ok (.istore_n 2, 1) := by decide +kernel
theorem dX11_laysLoops_67 : decode cX11_laysLoops 67 = .ok (.iinc 1 (-1), 3) := by decide +kernel
theorem dX11_laysLoops_70 : decode cX11_laysLoops 70 = .ok (.aload_n 0, 1) := by decide +kernel
theorem dX11_laysLoops_71 : decode cX11_laysLoops 71 = .ok (.getfield 25, 3) := by decide +kernel
theorem dX11_laysLoops_74 : decode cX11_laysLoops 74 = .ok (.iload 4, 2) := by decide +kernel
theorem dX11_laysLoops_76 : decode cX11_laysLoops 76 = .ok (.iload_n 1, 1) := by decide +kernel
theorem dX11_laysLoops_77 : decode cX11_laysLoops 77 = .ok (.iastore, 1) := by decide +kernel
theorem dX11_laysLoops_78 : decode cX11_laysLoops 78 = .ok (.aload_n 0, 1) := by decide +kernel
theorem dX11_laysLoops_79 : decode cX11_laysLoops 79 = .ok (.getfield 28, 3) := by decide +kernel
theorem dX11_laysLoops_82 : decode cX11_laysLoops 82 = .ok (.iload 4, 2) := by decide +kernel
theorem dX11_laysLoops_84 : decode cX11_laysLoops 84 = .ok (.iload_n 3, 1) := by decide +kernel
theorem dX11_laysLoops_85 : decode cX11_laysLoops 85 = .ok (.iastore, 1) := by decide +kernel
theorem dX11_laysLoops_86 : decode cX11_laysLoops 86 = .ok (.aload_n 0, 1) := by decide +kernel
theorem dX11_laysLoops_87 : decode cX11_laysLoops 87 = .ok (.iload 4, 2) := by decide +kernel
theorem dX11_laysLoops_89 : decode cX11_laysLoops 89 = .ok (.invokevirtual 86, 3) := by decide +kernel
theorem dX11_laysLoops_92 : decode cX11_laysLoops 92 = .ok (.iconst 4, 1) := by decide +kernel
theorem dX11_laysLoops_93 : decode cX11_laysLoops 93 = .ok (.if_icmp .ne 11, 3) := by decide +kernel
theorem dX11_laysLoops_96 : decode cX11_laysLoops 96 = .ok (.iload_n 3, 1) := by decide +kernel
theorem dX11_laysLoops_97 : decode cX11_laysLoops 97 = .ok (.istore_n 2, 1) := by decide +kernel
theorem dX11_laysLoops_98 : decode cX11_laysLoops 98 = .ok (.iload 4, 2) := by decide +kernel
theorem dX11_laysLoops_100 : decode cX11_laysLoops 100 = .ok (.istore_n 3, 1) := by decide +kernel
theorem dX11_laysLoops_101 : decode cX11_laysLoops 101 = .ok (.iinc 1 1, 3) := by decide +kernel
theorem dX11_laysLoops_104 : decode cX11_laysLoops 104 = .ok (.iinc 4 1, 3) := by decide +kernel
theorem dX11_laysLoops_107 : decode cX11_laysLoops 107 = .ok (.goto (-98), 3) := by decide +kernel
theorem dX11_laysLoops_110 : decode cX11_laysLoops 110 = .ok (.return_, 1) := by decide +kernel
theorem dX11_told_0 : decode cX11_told 0 = .ok (.iload_n 2, 1) := by decide +kernel
theorem dX11_told_1 : decode cX11_told 1 = .ok (.tableswitch 47 0 2 #[27, 33, 40], 27) := by decide +kernel
theorem dX11_told_28 : decode cX11_told 28 = .ok (.aload_n 0, 1) := by decide +kernel
theorem dX11_told_29 : decode cX11_told 29 = .ok (.iload_n 1, 1) := by decide +kernel
theorem dX11_told_30 : decode cX11_told 30 = .ok (.invokevirtual 86, 3) := by decide +kernel
theorem dX11_told_33 : decode cX11_told 33 = .ok (.ireturn, 1) := by decide +kernel
theorem dX11_told_34 : decode cX11_told 34 = .ok (.aload_n 0, 1) := by decide +kernel
theorem dX11_told_35 : decode cX11_told 35 = .ok (.iload_n 1, 1) := by decide +kernel
theorem dX11_told_36 : decode cX11_told 36 = .ok (.iconst 1, 1) := by decide +kernel
theorem dX11_told_37 : decode cX11_told 37 = .ok (.invokevirtual 82, 3) := by decide +kernel
theorem dX11_told_40 : decode cX11_told 40 = .ok (.ireturn, 1) := by decide +kernel
theorem dX11_told_41 : decode cX11_told 41 = .ok (.aload_n 0, 1) := by decide +kernel
theorem dX11_told_42 : decode cX11_told 42 = .ok (.getfield 25, 3) := by decide +kernel
theorem dX11_told_45 : decode cX11_told 45 = .ok (.iload_n 1, 1) := by decide +kernel
theorem dX11_told_46 : decode cX11_told 46 = .ok (.iaload, 1) := by decide +kernel
theorem dX11_told_47 : decode cX11_told 47 = .ok (.ireturn, 1) := by decide +kernel
theorem dX11_told_48 : decode cX11_told 48 = .ok (.aload_n 0, 1) := by decide +kernel
theorem dX11_told_49 : decode cX11_told 49 = .ok (.getfield 22, 3) := by decide +kernel
theorem dX11_told_52 : decode cX11_told 52 = .ok (.iload_n 1, 1) := by decide +kernel
theorem dX11_told_53 : decode cX11_told 53 = .ok (.iaload, 1) := by decide +kernel
theorem dX11_told_54 : decode cX11_told 54 = .ok (.ireturn, 1) := by decide +kernel
theorem dX11_instruction_0 : decode cX11_instruction 0 = .ok (.aload_n 0, 1) := by decide +kernel
theorem dX11_instruction_1 : decode cX11_instruction 1 = .ok (.aload_n 0, 1) := by decide +kernel
theorem dX11_instruction_2 : decode cX11_instruction 2 = .ok (.iload_n 1, 1) := by decide +kernel
theorem dX11_instruction_3 : decode cX11_instruction 3 = .ok (.invokevirtual 160, 3) := by decide +kernel
theorem dX11_instruction_6 : decode cX11_instruction 6 = .ok (.iload_n 2, 1) := by decide +kernel
theorem dX11_instruction_7 : decode cX11_instruction 7 = .ok (.i2l, 1) := by decide +kernel
theorem dX11_instruction_8 : decode cX11_instruction 8 = .ok (.lconst 0, 1) := by decide +kernel
theorem dX11_instruction_9 : decode cX11_instruction 9 = .ok (.ldc2_w 166, 3) := by decide +kernel
theorem dX11_instruction_12 : decode cX11_instruction 12 = .ok (.invokestatic 90, 3) := by decide +kernel
theorem dX11_instruction_15 : decode cX11_instruction 15 = .ok (.invokevirtual 101, 3) := by decide +kernel
theorem dX11_instruction_18 : decode cX11_instruction 18 = .ok (.ifCond .ne 5, 3) := by decide +kernel
theorem dX11_instruction_21 : decode cX11_instruction 21 = .ok (.iconst 0, 1) := by decide +kernel
theorem dX11_instruction_22 : decode cX11_instruction 22 = .ok (.ireturn, 1) := by decide +kernel
theorem dX11_instruction_23 : decode cX11_instruction 23 = .ok (.aload_n 0, 1) := by decide +kernel
theorem dX11_instruction_24 : decode cX11_instruction 24 = .ok (.invokevirtual 168, 3) := by decide +kernel
theorem dX11_instruction_27 : decode cX11_instruction 27 = .ok (.aload_n 0, 1) := by decide +kernel
theorem dX11_instruction_28 : decode cX11_instruction 28 = .ok (.iload_n 1, 1) := by decide +kernel
theorem dX11_instruction_29 : decode cX11_instruction 29 = .ok (.iload_n 2, 1) := by decide +kernel
theorem dX11_instruction_30 : decode cX11_instruction 30 = .ok (.invokevirtual 171, 3) := by decide +kernel
theorem dX11_instruction_33 : decode cX11_instruction 33 = .ok (.ireturn, 1) := by decide +kernel
theorem dX11_operand_0 : decode cX11_operand 0 = .ok (.aload_n 0, 1) := by decide +kernel
theorem dX11_operand_1 : decode cX11_operand 1 = .ok (.aload_n 0, 1) := by decide +kernel
theorem dX11_operand_2 : decode cX11_operand 2 = .ok (.iload_n 1, 1) := by decide +kernel
theorem dX11_operand_3 : decode cX11_operand 3 = .ok (.invokevirtual 160, 3) := by decide +kernel
theorem dX11_operand_6 : decode cX11_operand 6 = .ok (.iconst 1, 1) := by decide +kernel
theorem dX11_operand_7 : decode cX11_operand 7 = .ok (.invokevirtual 101, 3) := by decide +kernel
theorem dX11_operand_10 : decode cX11_operand 10 = .ok (.ifCond .eq 20, 3) := by decide +kernel
theorem dX11_operand_13 : decode cX11_operand 13 = .ok (.aload_n 0, 1) := by decide +kernel
theorem dX11_operand_14 : decode cX11_operand 14 = .ok (.iload_n 1, 1) := by decide +kernel
theorem dX11_operand_15 : decode cX11_operand 15 = .ok (.iload_n 2, 1) := by decide +kernel
theorem dX11_operand_16 : decode cX11_operand 16 = .ok (.ifCond .eq 7, 3) := by decide +kernel
theorem dX11_operand_19 : decode cX11_operand 19 = .ok (.iconst 3, 1) := by decide +kernel
theorem dX11_operand_20 : decode cX11_operand 20 = .ok (.goto 4, 3) := by decide +kernel
theorem dX11_operand_23 : decode cX11_operand 23 = .ok (.iconst 2, 1) := by decide +kernel
theorem dX11_operand_24 : decode cX11_operand 24 = .ok (.invokevirtual 82, 3) := by decide +kernel
theorem dX11_operand_27 : decode cX11_operand 27 = .ok (.goto 4, 3) := by decide +kernel
theorem dX11_operand_30 : decode cX11_operand 30 = .ok (.iconst 0, 1) := by decide +kernel
theorem dX11_operand_31 : decode cX11_operand 31 = .ok (.ireturn, 1) := by decide +kernel
theorem dX11_startsWalk_0 : decode cX11_startsWalk 0 = .ok (.aload_n 0, 1) := by decide +kernel
theorem dX11_startsWalk_1 : decode cX11_startsWalk 1 = .ok (.invokevirtual 168, 3) := by decide +kernel
theorem dX11_startsWalk_4 : decode cX11_startsWalk 4 = .ok (.aload_n 0, 1) := by decide +kernel
theorem dX11_startsWalk_5 : decode cX11_startsWalk 5 = .ok (.iconst 0, 1) := by decide +kernel
theorem dX11_startsWalk_6 : decode cX11_startsWalk 6 = .ok (.putfield 174, 3) := by decide +kernel
theorem dX11_startsWalk_9 : decode cX11_startsWalk 9 = .ok (.aload_n 0, 1) := by decide +kernel
theorem dX11_startsWalk_10 : decode cX11_startsWalk 10 = .ok (.iconst 0, 1) := by decide +kernel
theorem dX11_startsWalk_11 : decode cX11_startsWalk 11 = .ok (.putfield 177, 3) := by decide +kernel
theorem dX11_startsWalk_14 : decode cX11_startsWalk 14 = .ok (.return_, 1) := by decide +kernel
theorem dX11_walks_0 : decode cX11_walks 0 = .ok (.aload_n 0, 1) := by decide +kernel
theorem dX11_walks_1 : decode cX11_walks 1 = .ok (.getfield 174, 3) := by decide +kernel
theorem dX11_walks_4 : decode cX11_walks 4 = .ok (.aload_n 0, 1) := by decide +kernel
theorem dX11_walks_5 : decode cX11_walks 5 = .ok (.getfield 7, 3) := by decide +kernel
theorem dX11_walks_8 : decode cX11_walks 8 = .ok (.iconst 0, 1) := by decide +kernel
theorem dX11_walks_9 : decode cX11_walks 9 = .ok (.iaload, 1) := by decide +kernel
theorem dX11_walks_10 : decode cX11_walks 10 = .ok (.if_icmp .ge 7, 3) := by decide +kernel
theorem dX11_walks_13 : decode cX11_walks 13 = .ok (.iconst 1, 1) := by decide +kernel
theorem dX11_walks_14 : decode cX11_walks 14 = .ok (.goto 4, 3) := by decide +kernel
theorem dX11_walks_17 : decode cX11_walks 17 = .ok (.iconst 0, 1) := by decide +kernel
theorem dX11_walks_18 : decode cX11_walks 18 = .ok (.ireturn, 1) := by decide +kernel
theorem dX11_goesOn_0 : decode cX11_goesOn 0 = .ok (.aload_n 0, 1) := by decide +kernel
theorem dX11_goesOn_1 : decode cX11_goesOn 1 = .ok (.aload_n 0, 1) := by decide +kernel
theorem dX11_goesOn_2 : decode cX11_goesOn 2 = .ok (.getfield 174, 3) := by decide +kernel
theorem dX11_goesOn_5 : decode cX11_goesOn 5 = .ok (.invokevirtual 86, 3) := by decide +kernel
theorem dX11_goesOn_8 : decode cX11_goesOn 8 = .ok (.iconst 4, 1) := by decide +kernel
theorem dX11_goesOn_9 : decode cX11_goesOn 9 = .ok (.if_icmp .ne 34, 3) := by decide +kernel
theorem dX11_goesOn_12 : decode cX11_goesOn 12 = .ok (.aload_n 0, 1) := by decide +kernel
theorem dX11_goesOn_13 : decode cX11_goesOn 13 = .ok (.getfield 31, 3) := by decide +kernel
theorem dX11_goesOn_16 : decode cX11_goesOn 16 = .ok (.aload_n 0, 1) := by decide +kernel
theorem dX11_goesOn_17 : decode cX11_goesOn 17 = .ok (.getfield 177, 3) := by decide +kernel
theorem dX11_goesOn_20 : decode cX11_goesOn 20 = .ok (.aload_n 0, 1) := by decide +kernel
theorem dX11_goesOn_21 : decode cX11_goesOn 21 = .ok (.aload_n 0, 1) := by decide +kernel
theorem dX11_goesOn_22 : decode cX11_goesOn 22 = .ok (.getfield 174, 3) := by decide +kernel
theorem dX11_goesOn_25 : decode cX11_goesOn 25 = .ok (.iconst 1, 1) := by decide +kernel
theorem dX11_goesOn_26 : decode cX11_goesOn 26 = .ok (.invokevirtual 82, 3) := by decide +kernel
theorem dX11_goesOn_29 : decode cX11_goesOn 29 = .ok (.iastore, 1) := by decide +kernel
theorem dX11_goesOn_30 : decode cX11_goesOn 30 = .ok (.aload_n 0, 1) := by decide +kernel
theorem dX11_goesOn_31 : decode cX11_goesOn 31 = .ok (.dup, 1) := by decide +kernel
theorem dX11_goesOn_32 : decode cX11_goesOn 32 = .ok (.getfield 177, 3) := by decide +kernel
theorem dX11_goesOn_35 : decode cX11_goesOn 35 = .ok (.iconst 1, 1) := by decide +kernel
theorem dX11_goesOn_36 : decode cX11_goesOn 36 = .ok (.iadd, 1) := by decide +kernel
theorem dX11_goesOn_37 : decode cX11_goesOn 37 = .ok (.putfield 177, 3) := by decide +kernel
theorem dX11_goesOn_40 : decode cX11_goesOn 40 = .ok (.goto 70, 3) := by decide +kernel
theorem dX11_goesOn_43 : decode cX11_goesOn 43 = .ok (.aload_n 0, 1) := by decide +kernel
theorem dX11_goesOn_44 : decode cX11_goesOn 44 = .ok (.aload_n 0, 1) := by decide +kernel
theorem dX11_goesOn_45 : decode cX11_goesOn 45 = .ok (.getfield 174, 3) := by decide +kernel
theorem dX11_goesOn_48 : decode cX11_goesOn 48 = .ok (.invokevirtual 86, 3) := by decide +kernel
theorem dX11_goesOn_51 : decode cX11_goesOn 51 = .ok (.iconst 5, 1) := by decide +kernel
theorem dX11_goesOn_52 : decode cX11_goesOn 52 = .ok (.if_icmp .ne 58, 3) := by decide +kernel
theorem dX11_goesOn_55 : decode cX11_goesOn 55 = .ok (.aload_n 0, 1) := by decide +kernel
theorem dX11_goesOn_56 : decode cX11_goesOn 56 = .ok (.getfield 31, 3) := by decide +kernel
theorem dX11_goesOn_59 : decode cX11_goesOn 59 = .ok (.aload_n 0, 1) := by decide +kernel
theorem dX11_goesOn_60 : decode cX11_goesOn 60 = .ok (.getfield 177, 3) := by decide +kernel
theorem dX11_goesOn_63 : decode cX11_goesOn 63 = .ok (.iconst 1, 1) := by decide +kernel
theorem dX11_goesOn_64 : decode cX11_goesOn 64 = .ok (.isub, 1) := by decide +kernel
theorem dX11_goesOn_65 : decode cX11_goesOn 65 = .ok (.dup2, 1) := by decide +kernel
theorem dX11_goesOn_66 : decode cX11_goesOn 66 = .ok (.iaload, 1) := by decide +kernel
theorem dX11_goesOn_67 : decode cX11_goesOn 67 = .ok (.iconst 1, 1) := by decide +kernel
theorem dX11_goesOn_68 : decode cX11_goesOn 68 = .ok (.isub, 1) := by decide +kernel
theorem dX11_goesOn_69 : decode cX11_goesOn 69 = .ok (.iastore, 1) := by decide +kernel
theorem dX11_goesOn_70 : decode cX11_goesOn 70 = .ok (.aload_n 0, 1) := by decide +kernel
theorem dX11_goesOn_71 : decode cX11_goesOn 71 = .ok (.getfield 31, 3) := by decide +kernel
theorem dX11_goesOn_74 : decode cX11_goesOn 74 = .ok (.aload_n 0, 1) := by decide +kernel
theorem dX11_goesOn_75 : decode cX11_goesOn 75 = .ok (.getfield 177, 3) := by decide +kernel
theorem dX11_goesOn_78 : decode cX11_goesOn 78 = .ok (.iconst 1, 1) := by decide +kernel
theorem dX11_goesOn_79 : decode cX11_goesOn 79 = .ok (.isub, 1) := by decide +kernel
theorem dX11_goesOn_80 : decode cX11_goesOn 80 = .ok (.iaload, 1) := by decide +kernel
theorem dX11_goesOn_81 : decode cX11_goesOn 81 = .ok (.ifCond .le 19, 3) := by decide +kernel
theorem dX11_goesOn_84 : decode cX11_goesOn 84 = .ok (.aload_n 0, 1) := by decide +kernel
theorem dX11_goesOn_85 : decode cX11_goesOn 85 = .ok (.aload_n 0, 1) := by decide +kernel
theorem dX11_goesOn_86 : decode cX11_goesOn 86 = .ok (.getfield 22, 3) := by decide +kernel
theorem dX11_goesOn_89 : decode cX11_goesOn 89 = .ok (.aload_n 0, 1) := by decide +kernel
theorem dX11_goesOn_90 : decode cX11_goesOn 90 = .ok (.getfield 174, 3) := by decide +kernel
theorem dX11_goesOn_93 : decode cX11_goesOn 93 = .ok (.iaload, 1) := by decide +kernel
theorem dX11_goesOn_94 : decode cX11_goesOn 94 = .ok (.putfield 174, 3) := by decide +kernel
theorem dX11_goesOn_97 : decode cX11_goesOn 97 = .ok (.goto 13, 3) := by decide +kernel
theorem dX11_goesOn_100 : decode cX11_goesOn 100 = .ok (.aload_n 0, 1) := by decide +kernel
theorem dX11_goesOn_101 : decode cX11_goesOn 101 = .ok (.dup, 1) := by decide +kernel
theorem dX11_goesOn_102 : decode cX11_goesOn 102 = .ok (.getfield 177, 3) := by decide +kernel
theorem dX11_goesOn_105 : decode cX11_goesOn 105 = .ok (.iconst 1, 1) := by decide +kernel
theorem dX11_goesOn_106 : decode cX11_goesOn 106 = .ok (.isub, 1) := by decide +kernel
theorem dX11_goesOn_107 : decode cX11_goesOn 107 = .ok (.putfield 177, 3) := by decide +kernel
theorem dX11_goesOn_110 : decode cX11_goesOn 110 = .ok (.aload_n 0, 1) := by decide +kernel
theorem dX11_goesOn_111 : decode cX11_goesOn 111 = .ok (.dup, 1) := by decide +kernel
theorem dX11_goesOn_112 : decode cX11_goesOn 112 = .ok (.getfield 174, 3) := by decide +kernel
theorem dX11_goesOn_115 : decode cX11_goesOn 115 = .ok (.iconst 1, 1) := by decide +kernel
theorem dX11_goesOn_116 : decode cX11_goesOn 116 = .ok (.iadd, 1) := by decide +kernel
theorem dX11_goesOn_117 : decode cX11_goesOn 117 = .ok (.putfield 174, 3) := by decide +kernel
theorem dX11_goesOn_120 : decode cX11_goesOn 120 = .ok (.return_, 1) := by decide +kernel
theorem dX11_lowOf_0 : decode cX11_lowOf 0 = .ok (.iload_n 1, 1) := by decide +kernel
theorem dX11_lowOf_1 : decode cX11_lowOf 1 = .ok (.bipush 8, 2) := by decide +kernel
theorem dX11_lowOf_3 : decode cX11_lowOf 3 = .ok (.if_icmp .ge 12, 3) := by decide +kernel
theorem dX11_lowOf_6 : decode cX11_lowOf 6 = .ok (.aload_n 0, 1) := by decide +kernel
theorem dX11_lowOf_7 : decode cX11_lowOf 7 = .ok (.getfield 34, 3) := by decide +kernel
theorem dX11_lowOf_10 : decode cX11_lowOf 10 = .ok (.iload_n 1, 1) := by decide +kernel
theorem dX11_lowOf_11 : decode cX11_lowOf 11 = .ok (.laload, 1) := by decide +kernel
theorem dX11_lowOf_12 : decode cX11_lowOf 12 = .ok (.goto 9, 3) := by decide +kernel
theorem dX11_lowOf_15 : decode cX11_lowOf 15 = .ok (.iload_n 1, 1) := by decide +kernel
theorem dX11_lowOf_16 : decode cX11_lowOf 16 = .ok (.sipush 20000, 3) := by decide +kernel
theorem dX11_lowOf_19 : decode cX11_lowOf 19 = .ok (.isub, 1) := by decide +kernel
theorem dX11_lowOf_20 : decode cX11_lowOf 20 = .ok (.i2l, 1) := by decide +kernel
theorem dX11_lowOf_21 : decode cX11_lowOf 21 = .ok (.lreturn, 1) := by decide +kernel
theorem dX11_highOf_0 : decode cX11_highOf 0 = .ok (.iload_n 1, 1) := by decide +kernel
theorem dX11_highOf_1 : decode cX11_highOf 1 = .ok (.bipush 8, 2) := by decide +kernel
theorem dX11_highOf_3 : decode cX11_highOf 3 = .ok (.if_icmp .ge 12, 3) := by decide +kernel
theorem dX11_highOf_6 : decode cX11_highOf 6 = .ok (.aload_n 0, 1) := by decide +kernel
theorem dX11_highOf_7 : decode cX11_highOf 7 = .ok (.getfield 38, 3) := by decide +kernel
theorem dX11_highOf_10 : decode cX11_highOf 10 = .ok (.iload_n 1, 1) := by decide +kernel
theorem dX11_highOf_11 : decode cX11_highOf 11 = .ok (.laload, 1) := by decide +kernel
theorem dX11_highOf_12 : decode cX11_highOf 12 = .ok (.goto 9, 3) := by decide +kernel
theorem dX11_highOf_15 : decode cX11_highOf 15 = .ok (.iload_n 1, 1) := by decide +kernel
theorem dX11_highOf_16 : decode cX11_highOf 16 = .ok (.sipush 20000, 3) := by decide +kernel
theorem dX11_highOf_19 : decode cX11_highOf 19 = .ok (.isub, 1) := by decide +kernel
theorem dX11_highOf_20 : decode cX11_highOf 20 = .ok (.i2l, 1) := by decide +kernel
theorem dX11_highOf_21 : decode cX11_highOf 21 = .ok (.lreturn, 1) := by decide +kernel
theorem dX11_lesser_0 : decode cX11_lesser 0 = .ok (.lload_n 0, 1) := by decide +kernel
theorem dX11_lesser_1 : decode cX11_lesser 1 = .ok (.lload_n 2, 1) := by decide +kernel
theorem dX11_lesser_2 : decode cX11_lesser 2 = .ok (.lcmp, 1) := by decide +kernel
theorem dX11_lesser_3 : decode cX11_lesser 3 = .ok (.ifCond .ge 7, 3) := by decide +kernel
theorem dX11_lesser_6 : decode cX11_lesser 6 = .ok (.lload_n 0, 1) := by decide +kernel
theorem dX11_lesser_7 : decode cX11_lesser 7 = .ok (.goto 4, 3) := by decide +kernel
theorem dX11_lesser_10 : decode cX11_lesser 10 = .ok (.lload_n 2, 1) := by decide +kernel
theorem dX11_lesser_11 : decode cX11_lesser 11 = .ok (.lreturn, 1) := by decide +kernel
theorem dX11_greater_0 : decode cX11_greater 0 = .ok (.lload_n 0, 1) := by decide +kernel
theorem dX11_greater_1 : decode cX11_greater 1 = .ok (.lload_n 2, 1) := by decide +kernel
theorem dX11_greater_2 : decode cX11_greater 2 = .ok (.lcmp, 1) := by decide +kernel
theorem dX11_greater_3 : decode cX11_greater 3 = .ok (.ifCond .le 7, 3) := by decide +kernel
theorem dX11_greater_6 : decode cX11_greater 6 = .ok (.lload_n 0, 1) := by decide +kernel
theorem dX11_greater_7 : decode cX11_greater 7 = .ok (.goto 4, 3) := by decide +kernel
theorem dX11_greater_10 : decode cX11_greater 10 = .ok (.lload_n 2, 1) := by decide +kernel
theorem dX11_greater_11 : decode cX11_greater 11 = .ok (.lreturn, 1) := by decide +kernel
theorem dX11_ranges_0 : decode cX11_ranges 0 = .ok (.aload_n 0, 1) := by decide +kernel
theorem dX11_ranges_1 : decode cX11_ranges 1 = .ok (.aload_n 0, 1) := by decide +kernel
theorem dX11_ranges_2 : decode cX11_ranges 2 = .ok (.iload_n 1, 1) := by decide +kernel
theorem dX11_ranges_3 : decode cX11_ranges 3 = .ok (.iconst 2, 1) := by decide +kernel
theorem dX11_ranges_4 : decode cX11_ranges 4 = .ok (.invokevirtual 82, 3) := by decide +kernel
theorem dX11_ranges_7 : decode cX11_ranges 7 = .ok (.invokevirtual 180, 3) := by decide +kernel
theorem dX11_ranges_10 : decode cX11_ranges 10 = .ok (.lstore_n 2, 1) := by decide +kernel
theorem dX11_ranges_11 : decode cX11_ranges 11 = .ok (.aload_n 0, 1) := by decide +kernel
theorem dX11_ranges_12 : decode cX11_ranges 12 = .ok (.aload_n 0, 1) := by decide +kernel
theorem dX11_ranges_13 : decode cX11_ranges 13 = .ok (.iload_n 1, 1) := by decide +kernel
theorem dX11_ranges_14 : decode cX11_ranges 14 = .ok (.iconst 2, 1) := by decide +kernel
theorem dX11_ranges_15 : decode cX11_ranges 15 = .ok (.invokevirtual 82, 3) := by decide +kernel
theorem dX11_ranges_18 : decode cX11_ranges 18 = .ok (.invokevirtual 184, 3) := by decide +kernel
theorem dX11_ranges_21 : decode cX11_ranges 21 = .ok (.lstore 4, 2) := by decide +kernel
theorem dX11_ranges_23 : decode cX11_ranges 23 = .ok (.aload_n 0, 1) := by decide +kernel
theorem dX11_ranges_24 : decode cX11_ranges 24 = .ok (.iload_n 1, 1) := by decide +kernel
theorem dX11_ranges_25 : decode cX11_ranges 25 = .ok (.invokevirtual 86, 3) := by decide +kernel
theorem dX11_ranges_28 : decode cX11_ranges 28 = .ok (.ifCond .ne 7, 3) := by decide +kernel
theorem dX11_ranges_31 : decode cX11_ranges 31 = .ok (.lconst 0, 1) := by decide +kernel
theorem dX11_ranges_32 : decode cX11_ranges 32 = .ok (.goto 13, 3) := by decide +kernel
theorem dX11_ranges_35 : decode cX11_ranges 35 = .ok (.aload_n 0, 1) := by decide +kernel
theorem dX11_ranges_36 : decode cX11_ranges 36 = .ok (.aload_n 0, 1) := by decide +kernel
theorem dX11_ranges_37 : decode cX11_ranges 37 = .ok (.iload_n 1, 1) := by decide +kernel
theorem dX11_ranges_38 : decode cX11_ranges 38 = .ok (.iconst 3, 1) := by decide +kernel
theorem dX11_ranges_39 : decode cX11_ranges 39 = .ok (.invokevirtual 82, 3) := by decide +kernel
theorem dX11_ranges_42 : decode cX11_ranges 42 = .ok (.invokevirtual 180, 3) := by decide +kernel
theorem dX11_ranges_45 : decode cX11_ranges 45 = .ok (.lstore 6, 2) := by decide +kernel
theorem dX11_ranges_47 : decode cX11_ranges 47 = .ok (.aload_n 0, 1) := by decide +kernel
theorem dX11_ranges_48 : decode cX11_ranges 48 = .ok (.iload_n 1, 1) := by decide +kernel
theorem dX11_ranges_49 : decode cX11_ranges 49 = .ok (.invokevirtual 86, 3) := by decide +kernel
theorem dX11_ranges_52 : decode cX11_ranges 52 = .ok (.ifCond .ne 7, 3) := by decide +kernel
theorem dX11_ranges_55 : decode cX11_ranges 55 = .ok (.lconst 0, 1) := by decide +kernel
theorem dX11_ranges_56 : decode cX11_ranges 56 = .ok (.goto 13, 3) := by decide +kernel
theorem dX11_ranges_59 : decode cX11_ranges 59 = .ok (.aload_n 0, 1) := by decide +kernel
theorem dX11_ranges_60 : decode cX11_ranges 60 = .ok (.aload_n 0, 1) := by decide +kernel
theorem dX11_ranges_61 : decode cX11_ranges 61 = .ok (.iload_n 1, 1) := by decide +kernel
theorem dX11_ranges_62 : decode cX11_ranges 62 = .ok (.iconst 3, 1) := by decide +kernel
theorem dX11_ranges_63 : decode cX11_ranges 63 = .ok (.invokevirtual 82, 3) := by decide +kernel
theorem dX11_ranges_66 : decode cX11_ranges 66 = .ok (.invokevirtual 184, 3) := by decide +kernel
theorem dX11_ranges_69 : decode cX11_ranges 69 = .ok (.lstore 8, 2) := by decide +kernel
theorem dX11_ranges_71 : decode cX11_ranges 71 = .ok (.aload_n 0, 1) := by decide +kernel
theorem dX11_ranges_72 : decode cX11_ranges 72 = .ok (.iload_n 1, 1) := by decide +kernel
theorem dX11_ranges_73 : decode cX11_ranges 73 = .ok (.invokevirtual 86, 3) := by decide +kernel
theorem dX11_ranges_76 : decode cX11_ranges 76 = .ok (.iconst 2, 1) := by decide +kernel
theorem dX11_ranges_77 : decode cX11_ranges 77 = .ok (.if_icmp .ne 10, 3) := by decide +kernel
theorem dX11_ranges_80 : decode cX11_ranges 80 = .ok (.lload_n 2, 1) := by decide +kernel
theorem dX11_ranges_81 : decode cX11_ranges 81 = .ok (.lload 8, 2) := by decide +kernel
theorem dX11_ranges_83 : decode cX11_ranges 83 = .ok (.lsub, 1) := by decide +kernel
theorem dX11_ranges_84 : decode cX11_ranges 84 = .ok (.goto 7, 3) := by decide +kernel
theorem dX11_ranges_87 : decode cX11_ranges 87 = .ok (.lload_n 2, 1) := by decide +kernel
theorem dX11_ranges_88 : decode cX11_ranges 88 = .ok (.lload 6, 2) := by decide +kernel
theorem dX11_ranges_90 : decode cX11_ranges 90 = .ok (.ladd, 1) := by decide +kernel
theorem dX11_ranges_91 : decode cX11_ranges 91 = .ok (.lstore 10, 2) := by decide +kernel
theorem dX11_ranges_93 : decode cX11_ranges 93 = .ok (.aload_n 0, 1) := by decide +kernel
theorem dX11_ranges_94 : decode cX11_ranges 94 = .ok (.iload_n 1, 1) := by decide +kernel
theorem dX11_ranges_95 : decode cX11_ranges 95 = .ok (.invokevirtual 86, 3) := by decide +kernel
theorem dX11_ranges_98 : decode cX11_ranges 98 = .ok (.iconst 2, 1) := by decide +kernel
theorem dX11_ranges_99 : decode cX11_ranges 99 = .ok (.if_icmp .ne 11, 3) := by decide +kernel
theorem dX11_ranges_102 : decode cX11_ranges 102 = .ok (.lload 4, 2) := by decide +kernel
theorem dX11_ranges_104 : decode cX11_ranges 104 = .ok (.lload 6, 2) := by decide +kernel
theorem dX11_ranges_106 : decode cX11_ranges 106 = .ok (.lsub, 1) := by decide +kernel
theorem dX11_ranges_107 : decode cX11_ranges 107 = .ok (.goto 8, 3) := by decide +kernel
theorem dX11_ranges_110 : decode cX11_ranges 110 = .ok (.lload 4, 2) := by decide +kernel
theorem dX11_ranges_112 : decode cX11_ranges 112 = .ok (.lload 8, 2) := by decide +kernel
theorem dX11_ranges_114 : decode cX11_ranges 114 = .ok (.ladd, 1) := by decide +kernel
theorem dX11_ranges_115 : decode cX11_ranges 115 = .ok (.lstore 12, 2) := by decide +kernel
theorem dX11_ranges_117 : decode cX11_ranges 117 = .ok (.aload_n 0, 1) := by decide +kernel
theorem dX11_ranges_118 : decode cX11_ranges 118 = .ok (.iload_n 1, 1) := by decide +kernel
theorem dX11_ranges_119 : decode cX11_ranges 119 = .ok (.invokevirtual 86, 3) := by decide +kernel
theorem dX11_ranges_122 : decode cX11_ranges 122 = .ok (.iconst 3, 1) := by decide +kernel
theorem dX11_ranges_123 : decode cX11_ranges 123 = .ok (.if_icmp .ne 61, 3) := by decide +kernel
theorem dX11_ranges_126 : decode cX11_ranges 126 = .ok (.lload_n 2, 1) := by decide +kernel
theorem dX11_ranges_127 : decode cX11_ranges 127 = .ok (.lload 6, 2) := by decide +kernel
theorem dX11_ranges_129 : decode cX11_ranges 129 = .ok (.lmul, 1) := by decide +kernel
theorem dX11_ranges_130 : decode cX11_ranges 130 = .ok (.lload_n 2, 1) := by decide +kernel
theorem dX11_ranges_131 : decode cX11_ranges 131 = .ok (.lload 8, 2) := by decide +kernel
theorem dX11_ranges_133 : decode cX11_ranges 133 = .ok (.lmul, 1) := by decide +kernel
theorem dX11_ranges_134 : decode cX11_ranges 134 = .ok (.invokestatic 187, 3) := by decide +kernel
theorem dX11_ranges_137 : decode cX11_ranges 137 = .ok (.lload 4, 2) := by decide +kernel
theorem dX11_ranges_139 : decode cX11_ranges 139 = .ok (.lload 6, 2) := by decide +kernel
theorem dX11_ranges_141 : decode cX11_ranges 141 = .ok (.lmul, 1) := by decide +kernel
theorem dX11_ranges_142 : decode cX11_ranges 142 = .ok (.lload 4, 2) := by decide +kernel
theorem dX11_ranges_144 : decode cX11_ranges 144 = .ok (.lload 8, 2) := by decide +kernel
theorem dX11_ranges_146 : decode cX11_ranges 146 = .ok (.lmul, 1) := by decide +kernel
theorem dX11_ranges_147 : decode cX11_ranges 147 = .ok (.invokestatic 187, 3) := by decide +kernel
theorem dX11_ranges_150 : decode cX11_ranges 150 = .ok (.invokestatic 187, 3) := by decide +kernel
theorem dX11_ranges_153 : decode cX11_ranges 153 = .ok (.lstore 10, 2) := by decide +kernel
theorem dX11_ranges_155 : decode cX11_ranges 155 = .ok (.lload_n 2, 1) := by decide +kernel
theorem dX11_ranges_156 : decode cX11_ranges 156 = .ok (.lload 6, 2) := by decide +kernel
theorem dX11_ranges_158 : decode cX11_ranges 158 = .ok (.lmul, 1) := by decide +kernel
theorem dX11_ranges_159 : decode cX11_ranges 159 = .ok (.lload_n 2, 1) := by decide +kernel
theorem dX11_ranges_160 : decode cX11_ranges 160 = .ok (.lload 8, 2) := by decide +kernel
theorem dX11_ranges_162 : decode cX11_ranges 162 = .ok (.lmul, 1) := by decide +kernel
theorem dX11_ranges_163 : decode cX11_ranges 163 = .ok (.invokestatic 191, 3) := by decide +kernel
theorem dX11_ranges_166 : decode cX11_ranges 166 = .ok (.lload 4, 2) := by decide +kernel
theorem dX11_ranges_168 : decode cX11_ranges 168 = .ok (.lload 6, 2) := by decide +kernel
theorem dX11_ranges_170 : decode cX11_ranges 170 = .ok (.lmul, 1) := by decide +kernel
theorem dX11_ranges_171 : decode cX11_ranges 171 = .ok (.lload 4, 2) := by decide +kernel
theorem dX11_ranges_173 : decode cX11_ranges 173 = .ok (.lload 8, 2) := by decide +kernel
theorem dX11_ranges_175 : decode cX11_ranges 175 = .ok (.lmul, 1) := by decide +kernel
theorem dX11_ranges_176 : decode cX11_ranges 176 = .ok (.invokestatic 191, 3) := by decide +kernel
theorem dX11_ranges_179 : decode cX11_ranges 179 = .ok (.invokestatic 191, 3) := by decide +kernel
theorem dX11_ranges_182 : decode cX11_ranges 182 = .ok (.lstore 12, 2) := by decide +kernel
theorem dX11_ranges_184 : decode cX11_ranges 184 = .ok (.aload_n 0, 1) := by decide +kernel
theorem dX11_ranges_185 : decode cX11_ranges 185 = .ok (.getfield 54, 3) := by decide +kernel
theorem dX11_ranges_188 : decode cX11_ranges 188 = .ok (.iload_n 1, 1) := by decide +kernel
theorem dX11_ranges_189 : decode cX11_ranges 189 = .ok (.aload_n 0, 1) := by decide +kernel
theorem dX11_ranges_190 : decode cX11_ranges 190 = .ok (.getfield 41, 3) := by decide +kernel
theorem dX11_ranges_193 : decode cX11_ranges 193 = .ok (.iload_n 1, 1) := by decide +kernel
theorem dX11_ranges_194 : decode cX11_ranges 194 = .ok (.baload, 1) := by decide +kernel
theorem dX11_ranges_195 : decode cX11_ranges 195 = .ok (.ifCond .eq 17, 3) := by decide +kernel
theorem dX11_ranges_198 : decode cX11_ranges 198 = .ok (.aload_n 0, 1) := by decide +kernel
theorem dX11_ranges_199 : decode cX11_ranges 199 = .ok (.getfield 54, 3) := by decide +kernel
theorem dX11_ranges_202 : decode cX11_ranges 202 = .ok (.iload_n 1, 1) := by decide +kernel
theorem dX11_ranges_203 : decode cX11_ranges 203 = .ok (.laload, 1) := by decide +kernel
theorem dX11_ranges_204 : decode cX11_ranges 204 = .ok (.lload 10, 2) := by decide +kernel
theorem dX11_ranges_206 : decode cX11_ranges 206 = .ok (.invokestatic 187, 3) := by decide +kernel
theorem dX11_ranges_209 : decode cX11_ranges 209 = .ok (.goto 5, 3) := by decide +kernel
theorem dX11_ranges_212 : decode cX11_ranges 212 = .ok (.lload 10, 2) := by decide +kernel
theorem dX11_ranges_214 : decode cX11_ranges 214 = .ok (.lastore, 1) := by decide +kernel
theorem dX11_ranges_215 : decode cX11_ranges 215 = .ok (.aload_n 0, 1) := by decide +kernel
theorem dX11_ranges_216 : decode cX11_ranges 216 = .ok (.getfield 57, 3) := by decide +kernel
theorem dX11_ranges_219 : decode cX11_ranges 219 = .ok (.iload_n 1, 1) := by decide +kernel
theorem dX11_ranges_220 : decode cX11_ranges 220 = .ok (.aload_n 0, 1) := by decide +kernel
theorem dX11_ranges_221 : decode cX11_ranges 221 = .ok (.getfield 41, 3) := by decide +kernel
theorem dX11_ranges_224 : decode cX11_ranges 224 = .ok (.iload_n 1, 1) := by decide +kernel
theorem dX11_ranges_225 : decode cX11_ranges 225 = .ok (.baload, 1) := by decide +kernel
theorem dX11_ranges_226 : decode cX11_ranges 226 = .ok (.ifCond .eq 17, 3) := by decide +kernel
theorem dX11_ranges_229 : decode cX11_ranges 229 = .ok (.aload_n 0, 1) := by decide +kernel
theorem dX11_ranges_230 : decode cX11_ranges 230 = .ok (.getfield 57, 3) := by decide +kernel
theorem dX11_ranges_233 : decode cX11_ranges 233 = .ok (.iload_n 1, 1) := by decide +kernel
theorem dX11_ranges_234 : decode cX11_ranges 234 = .ok (.laload, 1) := by decide +kernel
theorem dX11_ranges_235 : decode cX11_ranges 235 = .ok (.lload 12, 2) := by decide +kernel
theorem dX11_ranges_237 : decode cX11_ranges 237 = .ok (.invokestatic 191, 3) := by decide +kernel
theorem dX11_ranges_240 : decode cX11_ranges 240 = .ok (.goto 5, 3) := by decide +kernel
theorem dX11_ranges_243 : decode cX11_ranges 243 = .ok (.lload 12, 2) := by decide +kernel
theorem dX11_ranges_245 : decode cX11_ranges 245 = .ok (.lastore, 1) := by decide +kernel
theorem dX11_ranges_246 : decode cX11_ranges 246 = .ok (.aload_n 0, 1) := by decide +kernel
theorem dX11_ranges_247 : decode cX11_ranges 247 = .ok (.getfield 48, 3) := by decide +kernel
theorem dX11_ranges_250 : decode cX11_ranges 250 = .ok (.iload_n 1, 1) := by decide +kernel
theorem dX11_ranges_251 : decode cX11_ranges 251 = .ok (.aload_n 0, 1) := by decide +kernel
theorem dX11_ranges_252 : decode cX11_ranges 252 = .ok (.getfield 41, 3) := by decide +kernel
theorem dX11_ranges_255 : decode cX11_ranges 255 = .ok (.iload_n 1, 1) := by decide +kernel
theorem dX11_ranges_256 : decode cX11_ranges 256 = .ok (.baload, 1) := by decide +kernel
theorem dX11_ranges_257 : decode cX11_ranges 257 = .ok (.ifCond .eq 12, 3) := by decide +kernel
theorem dX11_ranges_260 : decode cX11_ranges 260 = .ok (.aload_n 0, 1) := by decide +kernel
theorem dX11_ranges_261 : decode cX11_ranges 261 = .ok (.getfield 48, 3) := by decide +kernel
theorem dX11_ranges_264 : decode cX11_ranges 264 = .ok (.iload_n 1, 1) := by decide +kernel
theorem dX11_ranges_265 : decode cX11_ranges 265 = .ok (.baload, 1) := by decide +kernel
theorem dX11_ranges_266 : decode cX11_ranges 266 = .ok (.ifCond .ne 9, 3) := by decide +kernel
theorem dX11_ranges_269 : decode cX11_ranges 269 = .ok (.lload_n 2, 1) := by decide +kernel
theorem dX11_ranges_270 : decode cX11_ranges 270 = .ok (.lconst 0, 1) := by decide +kernel
theorem dX11_ranges_271 : decode cX11_ranges 271 = .ok (.lcmp, 1) := by decide +kernel
theorem dX11_ranges_272 : decode cX11_ranges 272 = .ok (.ifCond .ge 7, 3) := by decide +kernel
theorem dX11_ranges_275 : decode cX11_ranges 275 = .ok (.iconst 1, 1) := by decide +kernel
theorem dX11_ranges_276 : decode cX11_ranges 276 = .ok (.goto 4, 3) := by decide +kernel
theorem dX11_ranges_279 : decode cX11_ranges 279 = .ok (.iconst 0, 1) := by decide +kernel
theorem dX11_ranges_280 : decode cX11_ranges 280 = .ok (.bastore, 1) := by decide +kernel
theorem dX11_ranges_281 : decode cX11_ranges 281 = .ok (.aload_n 0, 1) := by decide +kernel
theorem dX11_ranges_282 : decode cX11_ranges 282 = .ok (.getfield 51, 3) := by decide +kernel
theorem dX11_ranges_285 : decode cX11_ranges 285 = .ok (.iload_n 1, 1) := by decide +kernel
theorem dX11_ranges_286 : decode cX11_ranges 286 = .ok (.aload_n 0, 1) := by decide +kernel
theorem dX11_ranges_287 : decode cX11_ranges 287 = .ok (.getfield 41, 3) := by decide +kernel
theorem dX11_ranges_290 : decode cX11_ranges 290 = .ok (.iload_n 1, 1) := by decide +kernel
theorem dX11_ranges_291 : decode cX11_ranges 291 = .ok (.baload, 1) := by decide +kernel
theorem dX11_ranges_292 : decode cX11_ranges 292 = .ok (.ifCond .eq 12, 3) := by decide +kernel
theorem dX11_ranges_295 : decode cX11_ranges 295 = .ok (.aload_n 0, 1) := by decide +kernel
theorem dX11_ranges_296 : decode cX11_ranges 296 = .ok (.getfield 51, 3) := by decide +kernel
theorem dX11_ranges_299 : decode cX11_ranges 299 = .ok (.iload_n 1, 1) := by decide +kernel
theorem dX11_ranges_300 : decode cX11_ranges 300 = .ok (.baload, 1) := by decide +kernel
theorem dX11_ranges_301 : decode cX11_ranges 301 = .ok (.ifCond .ne 10, 3) := by decide +kernel
theorem dX11_ranges_304 : decode cX11_ranges 304 = .ok (.lload 6, 2) := by decide +kernel
theorem dX11_ranges_306 : decode cX11_ranges 306 = .ok (.lconst 0, 1) := by decide +kernel
theorem dX11_ranges_307 : decode cX11_ranges 307 = .ok (.lcmp, 1) := by decide +kernel
theorem dX11_ranges_308 : decode cX11_ranges 308 = .ok (.ifCond .ge 7, 3) := by decide +kernel
theorem dX11_ranges_311 : decode cX11_ranges 311 = .ok (.iconst 1, 1) := by decide +kernel
theorem dX11_ranges_312 : decode cX11_ranges 312 = .ok (.goto 4, 3) := by decide +kernel
theorem dX11_ranges_315 : decode cX11_ranges 315 = .ok (.iconst 0, 1) := by decide +kernel
theorem dX11_ranges_316 : decode cX11_ranges 316 = .ok (.bastore, 1) := by decide +kernel
theorem dX11_ranges_317 : decode cX11_ranges 317 = .ok (.aload_n 0, 1) := by decide +kernel
theorem dX11_ranges_318 : decode cX11_ranges 318 = .ok (.getfield 45, 3) := by decide +kernel
theorem dX11_ranges_321 : decode cX11_ranges 321 = .ok (.iload_n 1, 1) := by decide +kernel
theorem dX11_ranges_322 : decode cX11_ranges 322 = .ok (.aload_n 0, 1) := by decide +kernel
theorem dX11_ranges_323 : decode cX11_ranges 323 = .ok (.getfield 41, 3) := by decide +kernel
theorem dX11_ranges_326 : decode cX11_ranges 326 = .ok (.iload_n 1, 1) := by decide +kernel
theorem dX11_ranges_327 : decode cX11_ranges 327 = .ok (.baload, 1) := by decide +kernel
theorem dX11_ranges_328 : decode cX11_ranges 328 = .ok (.ifCond .eq 12, 3) := by decide +kernel
theorem dX11_ranges_331 : decode cX11_ranges 331 = .ok (.aload_n 0, 1) := by decide +kernel
theorem dX11_ranges_332 : decode cX11_ranges 332 = .ok (.getfield 45, 3) := by decide +kernel
theorem dX11_ranges_335 : decode cX11_ranges 335 = .ok (.iload_n 1, 1) := by decide +kernel
theorem dX11_ranges_336 : decode cX11_ranges 336 = .ok (.baload, 1) := by decide +kernel
theorem dX11_ranges_337 : decode cX11_ranges 337 = .ok (.ifCond .ne 21, 3) := by decide +kernel
theorem dX11_ranges_340 : decode cX11_ranges 340 = .ok (.lload 10, 2) := by decide +kernel
theorem dX11_ranges_342 : decode cX11_ranges 342 = .ok (.ldc2_w 194, 3) := by decide +kernel
theorem dX11_ranges_345 : decode cX11_ranges 345 = .ok (.lcmp, 1) := by decide +kernel
theorem dX11_ranges_346 : decode cX11_ranges 346 = .ok (.ifCond .lt 12, 3) := by decide +kernel
theorem dX11_ranges_349 : decode cX11_ranges 349 = .ok (.lload 12, 2) := by decide +kernel
theorem dX11_ranges_351 : decode cX11_ranges 351 = .ok (.ldc2_w 196, 3) := by decide +kernel
theorem dX11_ranges_354 : decode cX11_ranges 354 = .ok (.lcmp, 1) := by decide +kernel
theorem dX11_ranges_355 : decode cX11_ranges 355 = .ok (.ifCond .le 7, 3) := by decide +kernel
theorem dX11_ranges_358 : decode cX11_ranges 358 = .ok (.iconst 1, 1) := by decide +kernel
theorem dX11_ranges_359 : decode cX11_ranges 359 = .ok (.goto 4, 3) := by decide +kernel
theorem dX11_ranges_362 : decode cX11_ranges 362 = .ok (.iconst 0, 1) := by decide +kernel
theorem dX11_ranges_363 : decode cX11_ranges 363 = .ok (.bastore, 1) := by decide +kernel
theorem dX11_ranges_364 : decode cX11_ranges 364 = .ok (.aload_n 0, 1) := by decide +kernel
theorem dX11_ranges_365 : decode cX11_ranges 365 = .ok (.getfield 41, 3) := by decide +kernel
theorem dX11_ranges_368 : decode cX11_ranges 368 = .ok (.iload_n 1, 1) := by decide +kernel
theorem dX11_ranges_369 : decode cX11_ranges 369 = .ok (.iconst 1, 1) := by decide +kernel
theorem dX11_ranges_370 : decode cX11_ranges 370 = .ok (.bastore, 1) := by decide +kernel
theorem dX11_ranges_371 : decode cX11_ranges 371 = .ok (.lload 10, 2) := by decide +kernel
theorem dX11_ranges_373 : decode cX11_ranges 373 = .ok (.ldc2_w 194, 3) := by decide +kernel
theorem dX11_ranges_376 : decode cX11_ranges 376 = .ok (.invokestatic 191, 3) := by decide +kernel
theorem dX11_ranges_379 : decode cX11_ranges 379 = .ok (.lstore 10, 2) := by decide +kernel
theorem dX11_ranges_381 : decode cX11_ranges 381 = .ok (.lload 12, 2) := by decide +kernel
theorem dX11_ranges_383 : decode cX11_ranges 383 = .ok (.ldc2_w 196, 3) := by decide +kernel
theorem dX11_ranges_386 : decode cX11_ranges 386 = .ok (.invokestatic 187, 3) := by decide +kernel
theorem dX11_ranges_389 : decode cX11_ranges 389 = .ok (.lstore 12, 2) := by decide +kernel
theorem dX11_ranges_391 : decode cX11_ranges 391 = .ok (.lload 10, 2) := by decide +kernel
theorem dX11_ranges_393 : decode cX11_ranges 393 = .ok (.lload 12, 2) := by decide +kernel
theorem dX11_ranges_395 : decode cX11_ranges 395 = .ok (.lcmp, 1) := by decide +kernel
theorem dX11_ranges_396 : decode cX11_ranges 396 = .ok (.ifCond .le 5, 3) := by decide +kernel
theorem dX11_ranges_399 : decode cX11_ranges 399 = .ok (.iconst 0, 1) := by decide +kernel
theorem dX11_ranges_400 : decode cX11_ranges 400 = .ok (.ireturn, 1) := by decide +kernel
theorem dX11_ranges_401 : decode cX11_ranges 401 = .ok (.aload_n 0, 1) := by decide +kernel
theorem dX11_ranges_402 : decode cX11_ranges 402 = .ok (.getfield 34, 3) := by decide +kernel
theorem dX11_ranges_405 : decode cX11_ranges 405 = .ok (.aload_n 0, 1) := by decide +kernel
theorem dX11_ranges_406 : decode cX11_ranges 406 = .ok (.iload_n 1, 1) := by decide +kernel
theorem dX11_ranges_407 : decode cX11_ranges 407 = .ok (.iconst 1, 1) := by decide +kernel
theorem dX11_ranges_408 : decode cX11_ranges 408 = .ok (.invokevirtual 82, 3) := by decide +kernel
theorem dX11_ranges_411 : decode cX11_ranges 411 = .ok (.lload 10, 2) := by decide +kernel
theorem dX11_ranges_413 : decode cX11_ranges 413 = .ok (.lastore, 1) := by decide +kernel
theorem dX11_ranges_414 : decode cX11_ranges 414 = .ok (.aload_n 0, 1) := by decide +kernel
theorem dX11_ranges_415 : decode cX11_ranges 415 = .ok (.getfield 38, 3) := by decide +kernel
theorem dX11_ranges_418 : decode cX11_ranges 418 = .ok (.aload_n 0, 1) := by decide +kernel
theorem dX11_ranges_419 : decode cX11_ranges 419 = .ok (.iload_n 1, 1) := by decide +kernel
theorem dX11_ranges_420 : decode cX11_ranges 420 = .ok (.iconst 1, 1) := by decide +kernel
theorem dX11_ranges_421 : decode cX11_ranges 421 = .ok (.invokevirtual 82, 3) := by decide +kernel
theorem dX11_ranges_424 : decode cX11_ranges 424 = .ok (.lload 12, 2) := by decide +kernel
theorem dX11_ranges_426 : decode cX11_ranges 426 = .ok (.lastore, 1) := by decide +kernel
theorem dX11_ranges_427 : decode cX11_ranges 427 = .ok (.iconst 1, 1) := by decide +kernel
theorem dX11_ranges_428 : decode cX11_ranges 428 = .ok (.ireturn, 1) := by decide +kernel
theorem dX11_analyses_0 : decode cX11_analyses 0 = .ok (.aload_n 0, 1) := by decide +kernel
theorem dX11_analyses_1 : decode cX11_analyses 1 = .ok (.invokevirtual 198, 3) := by decide +kernel
theorem dX11_analyses_4 : decode cX11_analyses 4 = .ok (.iconst 0, 1) := by decide +kernel
theorem dX11_analyses_5 : decode cX11_analyses 5 = .ok (.istore_n 1, 1) := by decide +kernel
theorem dX11_analyses_6 : decode cX11_analyses 6 = .ok (.iload_n 1, 1) := by decide +kernel
theorem dX11_analyses_7 : decode cX11_analyses 7 = .ok (.bipush 8, 2) := by decide +kernel
theorem dX11_analyses_9 : decode cX11_analyses 9 = .ok (.if_icmp .ge 47, 3) := by decide +kernel
theorem dX11_analyses_12 : decode cX11_analyses 12 = .ok (.aload_n 0, 1) := by decide +kernel
theorem dX11_analyses_13 : decode cX11_analyses 13 = .ok (.getfield 34, 3) := by decide +kernel
theorem dX11_analyses_16 : decode cX11_analyses 16 = .ok (.iload_n 1, 1) := by decide +kernel
theorem dX11_analyses_17 : decode cX11_analyses 17 = .ok (.aload_n 0, 1) := by decide +kernel
theorem dX11_analyses_18 : decode cX11_analyses 18 = .ok (.getfield 7, 3) := by decide +kernel
theorem dX11_analyses_21 : decode cX11_analyses 21 = .ok (.bipush 121, 2) := by decide +kernel
theorem dX11_analyses_23 : decode cX11_analyses 23 = .ok (.iconst 3, 1) := by decide +kernel
theorem dX11_analyses_24 : decode cX11_analyses 24 = .ok (.iload_n 1, 1) := by decide +kernel
theorem dX11_analyses_25 : decode cX11_analyses 25 = .ok (.imul, 1) := by decide +kernel
theorem dX11_analyses_26 : decode cX11_analyses 26 = .ok (.iadd, 1) := by decide +kernel
theorem dX11_analyses_27 : decode cX11_analyses 27 = .ok (.iaload, 1) := by decide +kernel
theorem dX11_analyses_28 : decode cX11_analyses 28 = .ok (.i2l, 1) := by decide +kernel
theorem dX11_analyses_29 : decode cX11_analyses 29 = .ok (.lastore, 1) := by decide +kernel
theorem dX11_analyses_30 : decode cX11_analyses 30 = .ok (.aload_n 0, 1) := by decide +kernel
theorem dX11_analyses_31 : decode cX11_analyses 31 = .ok (.getfield 38, 3) := by decide +kernel
theorem dX11_analyses_34 : decode cX11_analyses 34 = .ok (.iload_n 1, 1) := by decide +kernel
theorem dX11_analyses_35 : decode cX11_analyses 35 = .ok (.aload_n 0, 1) := by decide +kernel
theorem dX11_analyses_36 : decode cX11_analyses 36 = .ok (.getfield 7, 3) := by decide +kernel
theorem dX11_analyses_39 : decode cX11_analyses 39 = .ok (.bipush 121, 2) := by decide +kernel
theorem dX11_analyses_41 : decode cX11_analyses 41 = .ok (.iconst 3, 1) := by decide +kernel
theorem dX11_analyses_42 : decode cX11_analyses 42 = .ok (.iload_n 1, 1) := by decide +kernel
theorem dX11_analyses_43 : decode cX11_analyses 43 = .ok (.imul, 1) := by decide +kernel
theorem dX11_analyses_44 : decode cX11_analyses 44 = .ok (.iadd, 1) := by decide +kernel
theorem dX11_analyses_45 : decode cX11_analyses 45 = .ok (.iconst 1, 1) := by decide +kernel
theorem dX11_analyses_46 : decode cX11_analyses 46 = .ok (.iadd, 1) := by decide +kernel
theorem dX11_analyses_47 : decode cX11_analyses 47 = .ok (.iaload, 1) := by decide +kernel
theorem dX11_analyses_48 : decode cX11_analyses 48 = .ok (.i2l, 1) := by decide +kernel
theorem dX11_analyses_49 : decode cX11_analyses 49 = .ok (.lastore, 1) := by decide +kernel
theorem dX11_analyses_50 : decode cX11_analyses 50 = .ok (.iinc 1 1, 3) := by decide +kernel
theorem dX11_analyses_53 : decode cX11_analyses 53 = .ok (.goto (-47), 3) := by decide +kernel
theorem dX11_analyses_56 : decode cX11_analyses 56 = .ok (.iconst 0, 1) := by decide +kernel
theorem dX11_analyses_57 : decode cX11_analyses 57 = .ok (.istore_n 1, 1) := by decide +kernel
theorem dX11_analyses_58 : decode cX11_analyses 58 = .ok (.iload_n 1, 1) := by decide +kernel
theorem dX11_analyses_59 : decode cX11_analyses 59 = .ok (.bipush 30, 2) := by decide +kernel
theorem dX11_analyses_61 : decode cX11_analyses 61 = .ok (.if_icmp .ge 23, 3) := by decide +kernel
theorem dX11_analyses_64 : decode cX11_analyses 64 = .ok (.aload_n 0, 1) := by decide +kernel
theorem dX11_analyses_65 : decode cX11_analyses 65 = .ok (.getfield 41, 3) := by decide +kernel
theorem dX11_analyses_68 : decode cX11_analyses 68 = .ok (.iload_n 1, 1) := by decide +kernel
theorem dX11_analyses_69 : decode cX11_analyses 69 = .ok (.iconst 0, 1) := by decide +kernel
theorem dX11_analyses_70 : decode cX11_analyses 70 = .ok (.bastore, 1) := by decide +kernel
theorem dX11_analyses_71 : decode cX11_analyses 71 = .ok (.aload_n 0, 1) := by decide +kernel
theorem dX11_analyses_72 : decode cX11_analyses 72 = .ok (.getfield 45, 3) := by decide +kernel
theorem dX11_analyses_75 : decode cX11_analyses 75 = .ok (.iload_n 1, 1) := by decide +kernel
theorem dX11_analyses_76 : decode cX11_analyses 76 = .ok (.iconst 0, 1) := by decide +kernel
theorem dX11_analyses_77 : decode cX11_analyses 77 = .ok (.bastore, 1) := by decide +kernel
theorem dX11_analyses_78 : decode cX11_analyses 78 = .ok (.iinc 1 1, 3) := by decide +kernel
theorem dX11_analyses_81 : decode cX11_analyses 81 = .ok (.goto (-23), 3) := by decide +kernel
theorem dX11_analyses_84 : decode cX11_analyses 84 = .ok (.aload_n 0, 1) := by decide +kernel
theorem dX11_analyses_85 : decode cX11_analyses 85 = .ok (.iconst 1, 1) := by decide +kernel
theorem dX11_analyses_86 : decode cX11_analyses 86 = .ok (.putfield 201, 3) := by decide +kernel
theorem dX11_analyses_89 : decode cX11_analyses 89 = .ok (.aload_n 0, 1) := by decide +kernel
theorem dX11_analyses_90 : decode cX11_analyses 90 = .ok (.invokevirtual 205, 3) := by decide +kernel
theorem dX11_analyses_93 : decode cX11_analyses 93 = .ok (.ifCond .eq 48, 3) := by decide +kernel
theorem dX11_analyses_96 : decode cX11_analyses 96 = .ok (.aload_n 0, 1) := by decide +kernel
theorem dX11_analyses_97 : decode cX11_analyses 97 = .ok (.getfield 201, 3) := by decide +kernel
theorem dX11_analyses_100 : decode cX11_analyses 100 = .ok (.ifCond .eq 41, 3) := by decide +kernel
theorem dX11_analyses_103 : decode cX11_analyses 103 = .ok (.aload_n 0, 1) := by decide +kernel
theorem dX11_analyses_104 : decode cX11_analyses 104 = .ok (.aload_n 0, 1) := by decide +kernel
theorem dX11_analyses_105 : decode cX11_analyses 105 = .ok (.aload_n 0, 1) := by decide +kernel
theorem dX11_analyses_106 : decode cX11_analyses 106 = .ok (.getfield 174, 3) := by decide +kernel
theorem dX11_analyses_109 : decode cX11_analyses 109 = .ok (.invokevirtual 163, 3) := by decide +kernel
theorem dX11_analyses_112 : decode cX11_analyses 112 = .ok (.ifCond .ne 14, 3) := by decide +kernel
theorem dX11_analyses_115 : decode cX11_analyses 115 = .ok (.aload_n 0, 1) := by decide +kernel
theorem dX11_analyses_116 : decode cX11_analyses 116 = .ok (.aload_n 0, 1) := by decide +kernel
theorem dX11_analyses_117 : decode cX11_analyses 117 = .ok (.getfield 174, 3) := by decide +kernel
theorem dX11_analyses_120 : decode cX11_analyses 120 = .ok (.invokevirtual 208, 3) := by decide +kernel
theorem dX11_analyses_123 : decode cX11_analyses 123 = .ok (.ifCond .eq 7, 3) := by decide +kernel
theorem dX11_analyses_126 : decode cX11_analyses 126 = .ok (.iconst 1, 1) := by decide +kernel
theorem dX11_analyses_127 : decode cX11_analyses 127 = .ok (.goto 4, 3) := by decide +kernel
theorem dX11_analyses_130 : decode cX11_analyses 130 = .ok (.iconst 0, 1) := by decide +kernel
theorem dX11_analyses_131 : decode cX11_analyses 131 = .ok (.putfield 201, 3) := by decide +kernel
theorem dX11_analyses_134 : decode cX11_analyses 134 = .ok (.aload_n 0, 1) := by decide +kernel
theorem dX11_analyses_135 : decode cX11_analyses 135 = .ok (.invokevirtual 211, 3) := by decide +kernel
theorem dX11_analyses_138 : decode cX11_analyses 138 = .ok (.goto (-49), 3) := by decide +kernel
theorem dX11_analyses_141 : decode cX11_analyses 141 = .ok (.iconst 0, 1) := by decide +kernel
theorem dX11_analyses_142 : decode cX11_analyses 142 = .ok (.istore_n 1, 1) := by decide +kernel
theorem dX11_analyses_143 : decode cX11_analyses 143 = .ok (.iload_n 1, 1) := by decide +kernel
theorem dX11_analyses_144 : decode cX11_analyses 144 = .ok (.bipush 30, 2) := by decide +kernel
theorem dX11_analyses_146 : decode cX11_analyses 146 = .ok (.if_icmp .ge 16, 3) := by decide +kernel
theorem dX11_analyses_149 : decode cX11_analyses 149 = .ok (.aload_n 0, 1) := by decide +kernel
theorem dX11_analyses_150 : decode cX11_analyses 150 = .ok (.getfield 63, 3) := by decide +kernel
theorem dX11_analyses_153 : decode cX11_analyses 153 = .ok (.iload_n 1, 1) := by decide +kernel
theorem dX11_analyses_154 : decode cX11_analyses 154 = .ok (.iconst 0, 1) := by decide +kernel
theorem dX11_analyses_155 : decode cX11_analyses 155 = .ok (.bastore, 1) := by decide +kernel
theorem dX11_analyses_156 : decode cX11_analyses 156 = .ok (.iinc 1 1, 3) := by decide +kernel
theorem dX11_analyses_159 : decode cX11_analyses 159 = .ok (.goto (-16), 3) := by decide +kernel
theorem dX11_analyses_162 : decode cX11_analyses 162 = .ok (.iconst 0, 1) := by decide +kernel
theorem dX11_analyses_163 : decode cX11_analyses 163 = .ok (.istore_n 1, 1) := by decide +kernel
theorem dX11_analyses_164 : decode cX11_analyses 164 = .ok (.iload_n 1, 1) := by decide +kernel
theorem dX11_analyses_165 : decode cX11_analyses 165 = .ok (.aload_n 0, 1) := by decide +kernel
theorem dX11_analyses_166 : decode cX11_analyses 166 = .ok (.getfield 7, 3) := by decide +kernel
theorem dX11_analyses_169 : decode cX11_analyses 169 = .ok (.iconst 0, 1) := by decide +kernel
theorem dX11_analyses_170 : decode cX11_analyses 170 = .ok (.iaload, 1) := by decide +kernel
theorem dX11_analyses_171 : decode cX11_analyses 171 = .ok (.if_icmp .ge 42, 3) := by decide +kernel
theorem dX11_analyses_174 : decode cX11_analyses 174 = .ok (.aload_n 0, 1) := by decide +kernel
theorem dX11_analyses_175 : decode cX11_analyses 175 = .ok (.getfield 60, 3) := by decide +kernel
theorem dX11_analyses_178 : decode cX11_analyses 178 = .ok (.iload_n 1, 1) := by decide +kernel
theorem dX11_analyses_179 : decode cX11_analyses 179 = .ok (.aload_n 0, 1) := by decide +kernel
theorem dX11_analyses_180 : decode cX11_analyses 180 = .ok (.iload_n 1, 1) := by decide +kernel
theorem dX11_analyses_181 : decode cX11_analyses 181 = .ok (.invokevirtual 214, 3) := by decide +kernel
theorem dX11_analyses_184 : decode cX11_analyses 184 = .ok (.iastore, 1) := by decide +kernel
theorem dX11_analyses_185 : decode cX11_analyses 185 = .ok (.aload_n 0, 1) := by decide +kernel
theorem dX11_analyses_186 : decode cX11_analyses 186 = .ok (.getfield 60, 3) := by decide +kernel
theorem dX11_analyses_189 : decode cX11_analyses 189 = .ok (.iload_n 1, 1) := by decide +kernel
theorem dX11_analyses_190 : decode cX11_analyses 190 = .ok (.iaload, 1) := by decide +kernel
theorem dX11_analyses_191 : decode cX11_analyses 191 = .ok (.iconst (-1), 1) := by decide +kernel
theorem dX11_analyses_192 : decode cX11_analyses 192 = .ok (.if_icmp .eq 15, 3) := by decide +kernel
theorem dX11_analyses_195 : decode cX11_analyses 195 = .ok (.aload_n 0, 1) := by decide +kernel
theorem dX11_analyses_196 : decode cX11_analyses 196 = .ok (.getfield 63, 3) := by decide +kernel
theorem dX11_analyses_199 : decode cX11_analyses 199 = .ok (.aload_n 0, 1) := by decide +kernel
theorem dX11_analyses_200 : decode cX11_analyses 200 = .ok (.getfield 60, 3) := by decide +kernel
theorem dX11_analyses_203 : decode cX11_analyses 203 = .ok (.iload_n 1, 1) := by decide +kernel
theorem dX11_analyses_204 : decode cX11_analyses 204 = .ok (.iaload, 1) := by decide +kernel
theorem dX11_analyses_205 : decode cX11_analyses 205 = .ok (.iconst 1, 1) := by decide +kernel
theorem dX11_analyses_206 : decode cX11_analyses 206 = .ok (.bastore, 1) := by decide +kernel
theorem dX11_analyses_207 : decode cX11_analyses 207 = .ok (.iinc 1 1, 3) := by decide +kernel
theorem dX11_analyses_210 : decode cX11_analyses 210 = .ok (.goto (-46), 3) := by decide +kernel
theorem dX11_analyses_213 : decode cX11_analyses 213 = .ok (.iconst 0, 1) := by decide +kernel
theorem dX11_analyses_214 : decode cX11_analyses 214 = .ok (.istore_n 1, 1) := by decide +kernel
theorem dX11_analyses_215 : decode cX11_analyses 215 = .ok (.iload_n 1, 1) := by decide +kernel
theorem dX11_analyses_216 : decode cX11_analyses 216 = .ok (.aload_n 0, 1) := by decide +kernel
theorem dX11_analyses_217 : decode cX11_analyses 217 = .ok (.getfield 7, 3) := by decide +kernel
theorem dX11_analyses_220 : decode cX11_analyses 220 = .ok (.iconst 0, 1) := by decide +kernel
theorem dX11_analyses_221 : decode cX11_analyses 221 = .ok (.iaload, 1) := by decide +kernel
theorem dX11_analyses_222 : decode cX11_analyses 222 = .ok (.if_icmp .ge 88, 3) := by decide +kernel
theorem dX11_analyses_225 : decode cX11_analyses 225 = .ok (.aload_n 0, 1) := by decide +kernel
theorem dX11_analyses_226 : decode cX11_analyses 226 = .ok (.getfield 66, 3) := by decide +kernel
theorem dX11_analyses_229 : decode cX11_analyses 229 = .ok (.iload_n 1, 1) := by decide +kernel
theorem dX11_analyses_230 : decode cX11_analyses 230 = .ok (.aload_n 0, 1) := by decide +kernel
theorem dX11_analyses_231 : decode cX11_analyses 231 = .ok (.iload_n 1, 1) := by decide +kernel
theorem dX11_analyses_232 : decode cX11_analyses 232 = .ok (.invokevirtual 163, 3) := by decide +kernel
theorem dX11_analyses_235 : decode cX11_analyses 235 = .ok (.ifCond .ne 11, 3) := by decide +kernel
theorem dX11_analyses_238 : decode cX11_analyses 238 = .ok (.aload_n 0, 1) := by decide +kernel
theorem dX11_analyses_239 : decode cX11_analyses 239 = .ok (.iload_n 1, 1) := by decide +kernel
theorem dX11_analyses_240 : decode cX11_analyses 240 = .ok (.invokevirtual 86, 3) := by decide +kernel
theorem dX11_analyses_243 : decode cX11_analyses 243 = .ok (.ifCond .ne 7, 3) := by decide +kernel
theorem dX11_analyses_246 : decode cX11_analyses 246 = .ok (.iconst (-1), 1) := by decide +kernel
theorem dX11_analyses_247 : decode cX11_analyses 247 = .ok (.goto 56, 3) := by decide +kernel
theorem dX11_analyses_250 : decode cX11_analyses 250 = .ok (.aload_n 0, 1) := by decide +kernel
theorem dX11_analyses_251 : decode cX11_analyses 251 = .ok (.getfield 41, 3) := by decide +kernel
theorem dX11_analyses_254 : decode cX11_analyses 254 = .ok (.iload_n 1, 1) := by decide +kernel
theorem dX11_analyses_255 : decode cX11_analyses 255 = .ok (.baload, 1) := by decide +kernel
theorem dX11_analyses_256 : decode cX11_analyses 256 = .ok (.ifCond .ne 7, 3) := by decide +kernel
theorem dX11_analyses_259 : decode cX11_analyses 259 = .ok (.iconst 0, 1) := by decide +kernel
theorem dX11_analyses_260 : decode cX11_analyses 260 = .ok (.goto 43, 3) := by decide +kernel
theorem dX11_analyses_263 : decode cX11_analyses 263 = .ok (.aload_n 0, 1) := by decide +kernel
theorem dX11_analyses_264 : decode cX11_analyses 264 = .ok (.getfield 45, 3) := by decide +kernel
theorem dX11_analyses_267 : decode cX11_analyses 267 = .ok (.iload_n 1, 1) := by decide +kernel
theorem dX11_analyses_268 : decode cX11_analyses 268 = .ok (.baload, 1) := by decide +kernel
theorem dX11_analyses_269 : decode cX11_analyses 269 = .ok (.ifCond .ne 7, 3) := by decide +kernel
theorem dX11_analyses_272 : decode cX11_analyses 272 = .ok (.iconst 1, 1) := by decide +kernel
theorem dX11_analyses_273 : decode cX11_analyses 273 = .ok (.goto 30, 3) := by decide +kernel
theorem dX11_analyses_276 : decode cX11_analyses 276 = .ok (.aload_n 0, 1) := by decide +kernel
theorem dX11_analyses_277 : decode cX11_analyses 277 = .ok (.getfield 60, 3) := by decide +kernel
theorem dX11_analyses_280 : decode cX11_analyses 280 = .ok (.iload_n 1, 1) := by decide +kernel
theorem dX11_analyses_281 : decode cX11_analyses 281 = .ok (.iaload, 1) := by decide +kernel
theorem dX11_analyses_282 : decode cX11_analyses 282 = .ok (.iconst (-1), 1) := by decide +kernel
theorem dX11_analyses_283 : decode cX11_analyses 283 = .ok (.if_icmp .eq 7, 3) := by decide +kernel
theorem dX11_analyses_286 : decode cX11_analyses 286 = .ok (.iconst 2, 1) := by decide +kernel
theorem dX11_analyses_287 : decode cX11_analyses 287 = .ok (.goto 16, 3) := by decide +kernel
theorem dX11_analyses_290 : decode cX11_analyses 290 = .ok (.aload_n 0, 1) := by decide +kernel
theorem dX11_analyses_291 : decode cX11_analyses 291 = .ok (.iload_n 1, 1) := by decide +kernel
theorem dX11_analyses_292 : decode cX11_analyses 292 = .ok (.invokevirtual 217, 3) := by decide +kernel
theorem dX11_analyses_295 : decode cX11_analyses 295 = .ok (.ifCond .eq 7, 3) := by decide +kernel
theorem dX11_analyses_298 : decode cX11_analyses 298 = .ok (.iconst 3, 1) := by decide +kernel
theorem dX11_analyses_299 : decode cX11_analyses 299 = .ok (.goto 4, 3) := by decide +kernel
theorem dX11_analyses_302 : decode cX11_analyses 302 = .ok (.iconst 4, 1) := by decide +kernel
theorem dX11_analyses_303 : decode cX11_analyses 303 = .ok (.iastore, 1) := by decide +kernel
theorem dX11_analyses_304 : decode cX11_analyses 304 = .ok (.iinc 1 1, 3) := by decide +kernel
theorem dX11_analyses_307 : decode cX11_analyses 307 = .ok (.goto (-92), 3) := by decide +kernel
theorem dX11_analyses_310 : decode cX11_analyses 310 = .ok (.return_, 1) := by decide +kernel
theorem dX11_has_0 : decode cX11_has 0 = .ok (.iload_n 1, 1) := by decide +kernel
theorem dX11_has_1 : decode cX11_has 1 = .ok (.i2l, 1) := by decide +kernel
theorem dX11_has_2 : decode cX11_has 2 = .ok (.lconst 0, 1) := by decide +kernel
theorem dX11_has_3 : decode cX11_has 3 = .ok (.ldc2_w 94, 3) := by decide +kernel
theorem dX11_has_6 : decode cX11_has 6 = .ok (.invokestatic 90, 3) := by decide +kernel
theorem dX11_has_9 : decode cX11_has 9 = .ok (.ifCond .eq 16, 3) := by decide +kernel
theorem dX11_has_12 : decode cX11_has 12 = .ok (.iload_n 0, 1) := by decide +kernel
theorem dX11_has_13 : decode cX11_has 13 = .ok (.iload_n 1, 1) := by decide +kernel
theorem dX11_has_14 : decode cX11_has 14 = .ok (.ishr, 1) := by decide +kernel
theorem dX11_has_15 : decode cX11_has 15 = .ok (.iconst 1, 1) := by decide +kernel
theorem dX11_has_16 : decode cX11_has 16 = .ok (.iand, 1) := by decide +kernel
theorem dX11_has_17 : decode cX11_has 17 = .ok (.iconst 1, 1) := by decide +kernel
theorem dX11_has_18 : decode cX11_has 18 = .ok (.if_icmp .ne 7, 3) := by decide +kernel
theorem dX11_has_21 : decode cX11_has 21 = .ok (.iconst 1, 1) := by decide +kernel
theorem dX11_has_22 : decode cX11_has 22 = .ok (.goto 4, 3) := by decide +kernel
theorem dX11_has_25 : decode cX11_has 25 = .ok (.iconst 0, 1) := by decide +kernel
theorem dX11_has_26 : decode cX11_has 26 = .ok (.ireturn, 1) := by decide +kernel
theorem dX11_coverOf_0 : decode cX11_coverOf 0 = .ok (.aload_n 0, 1) := by decide +kernel
theorem dX11_coverOf_1 : decode cX11_coverOf 1 = .ok (.iload_n 1, 1) := by decide +kernel
theorem dX11_coverOf_2 : decode cX11_coverOf 2 = .ok (.invokevirtual 86, 3) := by decide +kernel
theorem dX11_coverOf_5 : decode cX11_coverOf 5 = .ok (.iconst 1, 1) := by decide +kernel
theorem dX11_coverOf_6 : decode cX11_coverOf 6 = .ok (.if_icmp .ne 30, 3) := by decide +kernel
theorem dX11_coverOf_9 : decode cX11_coverOf 9 = .ok (.aload_n 0, 1) := by decide +kernel
theorem dX11_coverOf_10 : decode cX11_coverOf 10 = .ok (.getfield 45, 3) := by decide +kernel
theorem dX11_coverOf_13 : decode cX11_coverOf 13 = .ok (.iload_n 1, 1) := by decide +kernel
theorem dX11_coverOf_14 : decode cX11_coverOf 14 = .ok (.baload, 1) := by decide +kernel
theorem dX11_coverOf_15 : decode cX11_coverOf 15 = .ok (.ifCond .eq 21, 3) := by decide +kernel
theorem dX11_coverOf_18 : decode cX11_coverOf 18 = .ok (.aload_n 0, 1) := by decide +kernel
theorem dX11_coverOf_19 : decode cX11_coverOf 19 = .ok (.getfield 48, 3) := by decide +kernel
theorem dX11_coverOf_22 : decode cX11_coverOf 22 = .ok (.iload_n 1, 1) := by decide +kernel
theorem dX11_coverOf_23 : decode cX11_coverOf 23 = .ok (.baload, 1) := by decide +kernel
theorem dX11_coverOf_24 : decode cX11_coverOf 24 = .ok (.ifCond .ne 12, 3) := by decide +kernel
theorem dX11_coverOf_27 : decode cX11_coverOf 27 = .ok (.aload_n 0, 1) := by decide +kernel
theorem dX11_coverOf_28 : decode cX11_coverOf 28 = .ok (.getfield 51, 3) := by decide +kernel
theorem dX11_coverOf_31 : decode cX11_coverOf 31 = .ok (.iload_n 1, 1) := by decide +kernel
theorem dX11_coverOf_32 : decode cX11_coverOf 32 = .ok (.baload, 1) := by decide +kernel
theorem dX11_coverOf_33 : decode cX11_coverOf 33 = .ok (.ifCond .eq 5, 3) := by decide +kernel
theorem dX11_coverOf_36 : decode cX11_coverOf 36 = .ok (.iconst (-1), 1) := by decide +kernel
theorem dX11_coverOf_37 : decode cX11_coverOf 37 = .ok (.ireturn, 1) := by decide +kernel
theorem dX11_coverOf_38 : decode cX11_coverOf 38 = .ok (.aload_n 0, 1) := by decide +kernel
theorem dX11_coverOf_39 : decode cX11_coverOf 39 = .ok (.iload_n 1, 1) := by decide +kernel
theorem dX11_coverOf_40 : decode cX11_coverOf 40 = .ok (.iconst 1, 1) := by decide +kernel
theorem dX11_coverOf_41 : decode cX11_coverOf 41 = .ok (.invokevirtual 82, 3) := by decide +kernel
theorem dX11_coverOf_44 : decode cX11_coverOf 44 = .ok (.istore_n 2, 1) := by decide +kernel
theorem dX11_coverOf_45 : decode cX11_coverOf 45 = .ok (.iconst 0, 1) := by decide +kernel
theorem dX11_coverOf_46 : decode cX11_coverOf 46 = .ok (.istore_n 3, 1) := by decide +kernel
theorem dX11_coverOf_47 : decode cX11_coverOf 47 = .ok (.iload_n 1, 1) := by decide +kernel
theorem dX11_coverOf_48 : decode cX11_coverOf 48 = .ok (.iconst 1, 1) := by decide +kernel
theorem dX11_coverOf_49 : decode cX11_coverOf 49 = .ok (.iadd, 1) := by decide +kernel
theorem dX11_coverOf_50 : decode cX11_coverOf 50 = .ok (.istore 4, 2) := by decide +kernel
theorem dX11_coverOf_52 : decode cX11_coverOf 52 = .ok (.iload 4, 2) := by decide +kernel
theorem dX11_coverOf_54 : decode cX11_coverOf 54 = .ok (.aload_n 0, 1) := by decide +kernel
theorem dX11_coverOf_55 : decode cX11_coverOf 55 = .ok (.getfield 7, 3) := by decide +kernel
theorem dX11_coverOf_58 : decode cX11_coverOf 58 = .ok (.iconst 0, 1) := by decide +kernel
theorem dX11_coverOf_59 : decode cX11_coverOf 59 = .ok (.iaload, 1) := by decide +kernel
theorem dX11_coverOf_60 : decode cX11_coverOf 60 = .ok (.if_icmp .ge 214, 3) := by decide +kernel
theorem dX11_coverOf_63 : decode cX11_coverOf 63 = .ok (.aload_n 0, 1) := by decide +kernel
theorem dX11_coverOf_64 : decode cX11_coverOf 64 = .ok (.iload 4, 2) := by decide +kernel
theorem dX11_coverOf_66 : decode cX11_coverOf 66 = .ok (.invokevirtual 163, 3) := by decide +kernel
theorem dX11_coverOf_69 : decode cX11_coverOf 69 = .ok (.ifCond .ne 205, 3) := by decide +kernel
theorem dX11_coverOf_72 : decode cX11_coverOf 72 = .ok (.aload_n 0, 1) := by decide +kernel
theorem dX11_coverOf_73 : decode cX11_coverOf 73 = .ok (.iload 4, 2) := by decide +kernel
theorem dX11_coverOf_75 : decode cX11_coverOf 75 = .ok (.iconst 2, 1) := by decide +kernel
theorem dX11_coverOf_76 : decode cX11_coverOf 76 = .ok (.invokevirtual 82, 3) := by decide +kernel
theorem dX11_coverOf_79 : decode cX11_coverOf 79 = .ok (.iload_n 2, 1) := by decide +kernel
theorem dX11_coverOf_80 : decode cX11_coverOf 80 = .ok (.if_icmp .ne 7, 3) := by decide +kernel
theorem dX11_coverOf_83 : decode cX11_coverOf 83 = .ok (.iconst 1, 1) := by decide +kernel
theorem dX11_coverOf_84 : decode cX11_coverOf 84 = .ok (.goto 4, 3) := by decide +kernel
theorem dX11_coverOf_87 : decode cX11_coverOf 87 = .ok (.iconst 0, 1) := by decide +kernel
theorem dX11_coverOf_88 : decode cX11_coverOf 88 = .ok (.istore 5, 2) := by decide +kernel
theorem dX11_coverOf_90 : decode cX11_coverOf 90 = .ok (.aload_n 0, 1) := by decide +kernel
theorem dX11_coverOf_91 : decode cX11_coverOf 91 = .ok (.iload 4, 2) := by decide +kernel
theorem dX11_coverOf_93 : decode cX11_coverOf 93 = .ok (.iconst 3, 1) := by decide +kernel
theorem dX11_coverOf_94 : decode cX11_coverOf 94 = .ok (.invokevirtual 82, 3) := by decide +kernel
theorem dX11_coverOf_97 : decode cX11_coverOf 97 = .ok (.iload_n 2, 1) := by decide +kernel
theorem dX11_coverOf_98 : decode cX11_coverOf 98 = .ok (.if_icmp .ne 7, 3) := by decide +kernel
theorem dX11_coverOf_101 : decode cX11_coverOf 101 = .ok (.iconst 1, 1) := by decide +kernel
theorem dX11_coverOf_102 : decode cX11_coverOf 102 = .ok (.goto 4, 3) := by decide +kernel
theorem dX11_coverOf_105 : decode cX11_coverOf 105 = .ok (.iconst 0, 1) := by decide +kernel
theorem dX11_coverOf_106 : decode cX11_coverOf 106 = .ok (.istore 6, 2) := by decide +kernel
theorem dX11_coverOf_108 : decode cX11_coverOf 108 = .ok (.aload_n 0, 1) := by decide +kernel
theorem dX11_coverOf_109 : decode cX11_coverOf 109 = .ok (.getfield 45, 3) := by decide +kernel
theorem dX11_coverOf_112 : decode cX11_coverOf 112 = .ok (.iload 4, 2) := by decide +kernel
theorem dX11_coverOf_114 : decode cX11_coverOf 114 = .ok (.baload, 1) := by decide +kernel
theorem dX11_coverOf_115 : decode cX11_coverOf 115 = .ok (.ifCond .eq 97, 3) := by decide +kernel
theorem dX11_coverOf_118 : decode cX11_coverOf 118 = .ok (.iload 5, 2) := by decide +kernel
theorem dX11_coverOf_120 : decode cX11_coverOf 120 = .ok (.ifCond .eq 13, 3) := by decide +kernel
theorem dX11_coverOf_123 : decode cX11_coverOf 123 = .ok (.aload_n 0, 1) := by decide +kernel
theorem dX11_coverOf_124 : decode cX11_coverOf 124 = .ok (.getfield 51, 3) := by decide +kernel
theorem dX11_coverOf_127 : decode cX11_coverOf 127 = .ok (.iload 4, 2) := by decide +kernel
theorem dX11_coverOf_129 : decode cX11_coverOf 129 = .ok (.baload, 1) := by decide +kernel
theorem dX11_coverOf_130 : decode cX11_coverOf 130 = .ok (.goto 10, 3) := by decide +kernel
theorem dX11_coverOf_133 : decode cX11_coverOf 133 = .ok (.aload_n 0, 1) := by decide +kernel
theorem dX11_coverOf_134 : decode cX11_coverOf 134 = .ok (.getfield 48, 3) := by decide +kernel
theorem dX11_coverOf_137 : decode cX11_coverOf 137 = .ok (.iload 4, 2) := by decide +kernel
theorem dX11_coverOf_139 : decode cX11_coverOf 139 = .ok (.baload, 1) := by decide +kernel
theorem dX11_coverOf_140 : decode cX11_coverOf 140 = .ok (.istore 7, 2) := by decide +kernel
theorem dX11_coverOf_142 : decode cX11_coverOf 142 = .ok (.aload_n 0, 1) := by decide +kernel
theorem dX11_coverOf_143 : decode cX11_coverOf 143 = .ok (.iload 4, 2) := by decide +kernel
theorem dX11_coverOf_145 : decode cX11_coverOf 145 = .ok (.invokevirtual 86, 3) := by decide +kernel
theorem dX11_coverOf_148 : decode cX11_coverOf 148 = .ok (.iconst 1, 1) := by decide +kernel
theorem dX11_coverOf_149 : decode cX11_coverOf 149 = .ok (.if_icmp .ne 48, 3) := by decide +kernel
theorem dX11_coverOf_152 : decode cX11_coverOf 152 = .ok (.iload 5, 2) := by decide +kernel
theorem dX11_coverOf_154 : decode cX11_coverOf 154 = .ok (.iload 6, 2) := by decide +kernel
theorem dX11_coverOf_156 : decode cX11_coverOf 156 = .ok (.if_icmp .eq 41, 3) := by decide +kernel
theorem dX11_coverOf_159 : decode cX11_coverOf 159 = .ok (.iload 7, 2) := by decide +kernel
theorem dX11_coverOf_161 : decode cX11_coverOf 161 = .ok (.ifCond .ne 36, 3) := by decide +kernel
theorem dX11_coverOf_164 : decode cX11_coverOf 164 = .ok (.iload_n 3, 1) := by decide +kernel
theorem dX11_coverOf_165 : decode cX11_coverOf 165 = .ok (.iload 5, 2) := by decide +kernel
theorem dX11_coverOf_167 : decode cX11_coverOf 167 = .ok (.ifCond .eq 13, 3) := by decide +kernel
theorem dX11_coverOf_170 : decode cX11_coverOf 170 = .ok (.aload_n 0, 1) := by decide +kernel
theorem dX11_coverOf_171 : decode cX11_coverOf 171 = .ok (.iload 4, 2) := by decide +kernel
theorem dX11_coverOf_173 : decode cX11_coverOf 173 = .ok (.iconst 3, 1) := by decide +kernel
theorem dX11_coverOf_174 : decode cX11_coverOf 174 = .ok (.invokevirtual 82, 3) := by decide +kernel
theorem dX11_coverOf_177 : decode cX11_coverOf 177 = .ok (.goto 10, 3) := by decide +kernel
theorem dX11_coverOf_180 : decode cX11_coverOf 180 = .ok (.aload_n 0, 1) := by decide +kernel
theorem dX11_coverOf_181 : decode cX11_coverOf 181 = .ok (.iload 4, 2) := by decide +kernel
theorem dX11_coverOf_183 : decode cX11_coverOf 183 = .ok (.iconst 2, 1) := by decide +kernel
theorem dX11_coverOf_184 : decode cX11_coverOf 184 = .ok (.invokevirtual 82, 3) := by decide +kernel
theorem dX11_coverOf_187 : decode cX11_coverOf 187 = .ok (.invokestatic 220, 3) := by decide +kernel
theorem dX11_coverOf_190 : decode cX11_coverOf 190 = .ok (.ifCond .ne 7, 3) := by decide +kernel
theorem dX11_coverOf_193 : decode cX11_coverOf 193 = .ok (.iconst 1, 1) := by decide +kernel
theorem dX11_coverOf_194 : decode cX11_coverOf 194 = .ok (.goto 4, 3) := by decide +kernel
theorem dX11_coverOf_197 : decode cX11_coverOf 197 = .ok (.iconst 0, 1) := by decide +kernel
theorem dX11_coverOf_198 : decode cX11_coverOf 198 = .ok (.istore 8, 2) := by decide +kernel
theorem dX11_coverOf_200 : decode cX11_coverOf 200 = .ok (.iload 8, 2) := by decide +kernel
theorem dX11_coverOf_202 : decode cX11_coverOf 202 = .ok (.ifCond .eq 8, 3) := by decide +kernel
theorem dX11_coverOf_205 : decode cX11_coverOf 205 = .ok (.iload 4, 2) := by decide +kernel
theorem dX11_coverOf_207 : decode cX11_coverOf 207 = .ok (.goto 4, 3) := by decide +kernel
theorem dX11_coverOf_210 : decode cX11_coverOf 210 = .ok (.iconst (-1), 1) := by decide +kernel
theorem dX11_coverOf_211 : decode cX11_coverOf 211 = .ok (.ireturn, 1) := by decide +kernel
theorem dX11_coverOf_212 : decode cX11_coverOf 212 = .ok (.aload_n 0, 1) := by decide +kernel
theorem dX11_coverOf_213 : decode cX11_coverOf 213 = .ok (.iload 4, 2) := by decide +kernel
theorem dX11_coverOf_215 : decode cX11_coverOf 215 = .ok (.iconst 1, 1) := by decide +kernel
theorem dX11_coverOf_216 : decode cX11_coverOf 216 = .ok (.invokevirtual 82, 3) := by decide +kernel
theorem dX11_coverOf_219 : decode cX11_coverOf 219 = .ok (.istore 7, 2) := by decide +kernel
theorem dX11_coverOf_221 : decode cX11_coverOf 221 = .ok (.iload 5, 2) := by decide +kernel
theorem dX11_coverOf_223 : decode cX11_coverOf 223 = .ok (.ifCond .ne 36, 3) := by decide +kernel
theorem dX11_coverOf_226 : decode cX11_coverOf 226 = .ok (.iload 6, 2) := by decide +kernel
theorem dX11_coverOf_228 : decode cX11_coverOf 228 = .ok (.ifCond .ne 31, 3) := by decide +kernel
theorem dX11_coverOf_231 : decode cX11_coverOf 231 = .ok (.iload 7, 2) := by decide +kernel
theorem dX11_coverOf_233 : decode cX11_coverOf 233 = .ok (.iload_n 2, 1) := by decide +kernel
theorem dX11_coverOf_234 : decode cX11_coverOf 234 = .ok (.if_icmp .eq 25, 3) := by decide +kernel
theorem dX11_coverOf_237 : decode cX11_coverOf 237 = .ok (.iload 7, 2) := by decide +kernel
theorem dX11_coverOf_239 : decode cX11_coverOf 239 = .ok (.aload_n 0, 1) := by decide +kernel
theorem dX11_coverOf_240 : decode cX11_coverOf 240 = .ok (.iload_n 1, 1) := by decide +kernel
theorem dX11_coverOf_241 : decode cX11_coverOf 241 = .ok (.iconst 2, 1) := by decide +kernel
theorem dX11_coverOf_242 : decode cX11_coverOf 242 = .ok (.invokevirtual 82, 3) := by decide +kernel
theorem dX11_coverOf_245 : decode cX11_coverOf 245 = .ok (.if_icmp .eq 14, 3) := by decide +kernel
theorem dX11_coverOf_248 : decode cX11_coverOf 248 = .ok (.iload 7, 2) := by decide +kernel
theorem dX11_coverOf_250 : decode cX11_coverOf 250 = .ok (.aload_n 0, 1) := by decide +kernel
theorem dX11_coverOf_251 : decode cX11_coverOf 251 = .ok (.iload_n 1, 1) := by decide +kernel
theorem dX11_coverOf_252 : decode cX11_coverOf 252 = .ok (.iconst 3, 1) := by decide +kernel
theorem dX11_coverOf_253 : decode cX11_coverOf 253 = .ok (.invokevirtual 82, 3) := by decide +kernel
theorem dX11_coverOf_256 : decode cX11_coverOf 256 = .ok (.if_icmp .ne 5, 3) := by decide +kernel
theorem dX11_coverOf_259 : decode cX11_coverOf 259 = .ok (.iconst (-1), 1) := by decide +kernel
theorem dX11_coverOf_260 : decode cX11_coverOf 260 = .ok (.ireturn, 1) := by decide +kernel
theorem dX11_coverOf_261 : decode cX11_coverOf 261 = .ok (.iload_n 3, 1) := by decide +kernel
theorem dX11_coverOf_262 : decode cX11_coverOf 262 = .ok (.iconst 1, 1) := by decide +kernel
theorem dX11_coverOf_263 : decode cX11_coverOf 263 = .ok (.iload 7, 2) := by decide +kernel
theorem dX11_coverOf_265 : decode cX11_coverOf 265 = .ok (.ishl, 1) := by decide +kernel
theorem dX11_coverOf_266 : decode cX11_coverOf 266 = .ok (.ior, 1) := by decide +kernel
theorem dX11_coverOf_267 : decode cX11_coverOf 267 = .ok (.istore_n 3, 1) := by decide +kernel
theorem dX11_coverOf_268 : decode cX11_coverOf 268 = .ok (.iinc 4 1, 3) := by decide +kernel
theorem dX11_coverOf_271 : decode cX11_coverOf 271 = .ok (.goto (-219), 3) := by decide +kernel
theorem dX11_coverOf_274 : decode cX11_coverOf 274 = .ok (.iconst (-1), 1) := by decide +kernel
theorem dX11_coverOf_275 : decode cX11_coverOf 275 = .ok (.ireturn, 1) := by decide +kernel
theorem dX11_stepOf_0 : decode cX11_stepOf 0 = .ok (.aload_n 0, 1) := by decide +kernel
theorem dX11_stepOf_1 : decode cX11_stepOf 1 = .ok (.iload_n 1, 1) := by decide +kernel
theorem dX11_stepOf_2 : decode cX11_stepOf 2 = .ok (.iconst 1, 1) := by decide +kernel
theorem dX11_stepOf_3 : decode cX11_stepOf 3 = .ok (.invokevirtual 82, 3) := by decide +kernel
theorem dX11_stepOf_6 : decode cX11_stepOf 6 = .ok (.istore_n 2, 1) := by decide +kernel
theorem dX11_stepOf_7 : decode cX11_stepOf 7 = .ok (.aload_n 0, 1) := by decide +kernel
theorem dX11_stepOf_8 : decode cX11_stepOf 8 = .ok (.iload_n 1, 1) := by decide +kernel
theorem dX11_stepOf_9 : decode cX11_stepOf 9 = .ok (.iconst 2, 1) := by decide +kernel
theorem dX11_stepOf_10 : decode cX11_stepOf 10 = .ok (.invokevirtual 82, 3) := by decide +kernel
theorem dX11_stepOf_13 : decode cX11_stepOf 13 = .ok (.iload_n 2, 1) := by decide +kernel
theorem dX11_stepOf_14 : decode cX11_stepOf 14 = .ok (.if_icmp .ne 7, 3) := by decide +kernel
theorem dX11_stepOf_17 : decode cX11_stepOf 17 = .ok (.iconst 1, 1) := by decide +kernel
theorem dX11_stepOf_18 : decode cX11_stepOf 18 = .ok (.goto 4, 3) := by decide +kernel
theorem dX11_stepOf_21 : decode cX11_stepOf 21 = .ok (.iconst 0, 1) := by decide +kernel
theorem dX11_stepOf_22 : decode cX11_stepOf 22 = .ok (.istore_n 3, 1) := by decide +kernel
theorem dX11_stepOf_23 : decode cX11_stepOf 23 = .ok (.aload_n 0, 1) := by decide +kernel
theorem dX11_stepOf_24 : decode cX11_stepOf 24 = .ok (.iload_n 1, 1) := by decide +kernel
theorem dX11_stepOf_25 : decode cX11_stepOf 25 = .ok (.iconst 3, 1) := by decide +kernel
theorem dX11_stepOf_26 : decode cX11_stepOf 26 = .ok (.invokevirtual 82, 3) := by decide +kernel
theorem dX11_stepOf_29 : decode cX11_stepOf 29 = .ok (.iload_n 2, 1) := by decide +kernel
theorem dX11_stepOf_30 : decode cX11_stepOf 30 = .ok (.if_icmp .ne 7, 3) := by decide +kernel
theorem dX11_stepOf_33 : decode cX11_stepOf 33 = .ok (.iconst 1, 1) := by decide +kernel
theorem dX11_stepOf_34 : decode cX11_stepOf 34 = .ok (.goto 4, 3) := by decide +kernel
theorem dX11_stepOf_37 : decode cX11_stepOf 37 = .ok (.iconst 0, 1) := by decide +kernel
theorem dX11_stepOf_38 : decode cX11_stepOf 38 = .ok (.istore 4, 2) := by decide +kernel
theorem dX11_stepOf_40 : decode cX11_stepOf 40 = .ok (.iload_n 3, 1) := by decide +kernel
theorem dX11_stepOf_41 : decode cX11_stepOf 41 = .ok (.iload 4, 2) := by decide +kernel
theorem dX11_stepOf_43 : decode cX11_stepOf 43 = .ok (.if_icmp .ne 7, 3) := by decide +kernel
theorem dX11_stepOf_46 : decode cX11_stepOf 46 = .ok (.iconst (-1), 1) := by decide +kernel
theorem dX11_stepOf_47 : decode cX11_stepOf 47 = .ok (.goto 22, 3) := by decide +kernel
theorem dX11_stepOf_50 : decode cX11_stepOf 50 = .ok (.iload_n 3, 1) := by decide +kernel
theorem dX11_stepOf_51 : decode cX11_stepOf 51 = .ok (.ifCond .eq 12, 3) := by decide +kernel
theorem dX11_stepOf_54 : decode cX11_stepOf 54 = .ok (.aload_n 0, 1) := by decide +kernel
theorem dX11_stepOf_55 : decode cX11_stepOf 55 = .ok (.iload_n 1, 1) := by decide +kernel
theorem dX11_stepOf_56 : decode cX11_stepOf 56 = .ok (.iconst 3, 1) := by decide +kernel
theorem dX11_stepOf_57 : decode cX11_stepOf 57 = .ok (.invokevirtual 82, 3) := by decide +kernel
theorem dX11_stepOf_60 : decode cX11_stepOf 60 = .ok (.goto 9, 3) := by decide +kernel
theorem dX11_stepOf_63 : decode cX11_stepOf 63 = .ok (.aload_n 0, 1) := by decide +kernel
theorem dX11_stepOf_64 : decode cX11_stepOf 64 = .ok (.iload_n 1, 1) := by decide +kernel
theorem dX11_stepOf_65 : decode cX11_stepOf 65 = .ok (.iconst 2, 1) := by decide +kernel
theorem dX11_stepOf_66 : decode cX11_stepOf 66 = .ok (.invokevirtual 82, 3) := by decide +kernel
theorem dX11_stepOf_69 : decode cX11_stepOf 69 = .ok (.ireturn, 1) := by decide +kernel
theorem dX11_isHoisted_0 : decode cX11_isHoisted 0 = .ok (.aload_n 0, 1) := by decide +kernel
theorem dX11_isHoisted_1 : decode cX11_isHoisted 1 = .ok (.iload_n 1, 1) := by decide +kernel
theorem dX11_isHoisted_2 : decode cX11_isHoisted 2 = .ok (.invokevirtual 86, 3) := by decide +kernel
theorem dX11_isHoisted_5 : decode cX11_isHoisted 5 = .ok (.iconst 1, 1) := by decide +kernel
theorem dX11_isHoisted_6 : decode cX11_isHoisted 6 = .ok (.if_icmp .ne 31, 3) := by decide +kernel
theorem dX11_isHoisted_9 : decode cX11_isHoisted 9 = .ok (.aload_n 0, 1) := by decide +kernel
theorem dX11_isHoisted_10 : decode cX11_isHoisted 10 = .ok (.getfield 63, 3) := by decide +kernel
theorem dX11_isHoisted_13 : decode cX11_isHoisted 13 = .ok (.iload_n 1, 1) := by decide +kernel
theorem dX11_isHoisted_14 : decode cX11_isHoisted 14 = .ok (.baload, 1) := by decide +kernel
theorem dX11_isHoisted_15 : decode cX11_isHoisted 15 = .ok (.ifCond .ne 22, 3) := by decide +kernel
theorem dX11_isHoisted_18 : decode cX11_isHoisted 18 = .ok (.aload_n 0, 1) := by decide +kernel
theorem dX11_isHoisted_19 : decode cX11_isHoisted 19 = .ok (.getfield 28, 3) := by decide +kernel
theorem dX11_isHoisted_22 : decode cX11_isHoisted 22 = .ok (.iload_n 1, 1) := by decide +kernel
theorem dX11_isHoisted_23 : decode cX11_isHoisted 23 = .ok (.iaload, 1) := by decide +kernel
theorem dX11_isHoisted_24 : decode cX11_isHoisted 24 = .ok (.iconst (-1), 1) := by decide +kernel
theorem dX11_isHoisted_25 : decode cX11_isHoisted 25 = .ok (.if_icmp .eq 12, 3) := by decide +kernel
theorem dX11_isHoisted_28 : decode cX11_isHoisted 28 = .ok (.aload_n 0, 1) := by decide +kernel
theorem dX11_isHoisted_29 : decode cX11_isHoisted 29 = .ok (.iload_n 1, 1) := by decide +kernel
theorem dX11_isHoisted_30 : decode cX11_isHoisted 30 = .ok (.invokevirtual 224, 3) := by decide +kernel
theorem dX11_isHoisted_33 : decode cX11_isHoisted 33 = .ok (.iconst (-1), 1) := by decide +kernel
theorem dX11_isHoisted_34 : decode cX11_isHoisted 34 = .ok (.if_icmp .ne 5, 3) := by decide +kernel
theorem dX11_isHoisted_37 : decode cX11_isHoisted 37 = .ok (.iconst 0, 1) := by decide +kernel
theorem dX11_isHoisted_38 : decode cX11_isHoisted 38 = .ok (.ireturn, 1) := by decide +kernel
theorem dX11_isHoisted_39 : decode cX11_isHoisted 39 = .ok (.iconst 1, 1) := by decide +kernel
theorem dX11_isHoisted_40 : decode cX11_isHoisted 40 = .ok (.istore_n 2, 1) := by decide +kernel
theorem dX11_isHoisted_41 : decode cX11_isHoisted 41 = .ok (.aload_n 0, 1) := by decide +kernel
theorem dX11_isHoisted_42 : decode cX11_isHoisted 42 = .ok (.getfield 28, 3) := by decide +kernel
theorem dX11_isHoisted_45 : decode cX11_isHoisted 45 = .ok (.iload_n 1, 1) := by decide +kernel
theorem dX11_isHoisted_46 : decode cX11_isHoisted 46 = .ok (.iaload, 1) := by decide +kernel
theorem dX11_isHoisted_47 : decode cX11_isHoisted 47 = .ok (.iconst 1, 1) := by decide +kernel
theorem dX11_isHoisted_48 : decode cX11_isHoisted 48 = .ok (.iadd, 1) := by decide +kernel
theorem dX11_isHoisted_49 : decode cX11_isHoisted 49 = .ok (.istore_n 3, 1) := by decide +kernel
theorem dX11_isHoisted_50 : decode cX11_isHoisted 50 = .ok (.iload_n 3, 1) := by decide +kernel
theorem dX11_isHoisted_51 : decode cX11_isHoisted 51 = .ok (.aload_n 0, 1) := by decide +kernel
theorem dX11_isHoisted_52 : decode cX11_isHoisted 52 = .ok (.getfield 22, 3) := by decide +kernel
theorem dX11_isHoisted_55 : decode cX11_isHoisted 55 = .ok (.aload_n 0, 1) := by decide +kernel
theorem dX11_isHoisted_56 : decode cX11_isHoisted 56 = .ok (.getfield 28, 3) := by decide +kernel
theorem dX11_isHoisted_59 : decode cX11_isHoisted 59 = .ok (.iload_n 1, 1) := by decide +kernel
theorem dX11_isHoisted_60 : decode cX11_isHoisted 60 = .ok (.iaload, 1) := by decide +kernel
theorem dX11_isHoisted_61 : decode cX11_isHoisted 61 = .ok (.iaload, 1) := by decide +kernel
theorem dX11_isHoisted_62 : decode cX11_isHoisted 62 = .ok (.if_icmp .ge 73, 3) := by decide +kernel
theorem dX11_isHoisted_65 : decode cX11_isHoisted 65 = .ok (.iload_n 3, 1) := by decide +kernel
theorem dX11_isHoisted_66 : decode cX11_isHoisted 66 = .ok (.iload_n 1, 1) := by decide +kernel
theorem dX11_isHoisted_67 : decode cX11_isHoisted 67 = .ok (.if_icmp .eq 44, 3) := by decide +kernel
theorem dX11_isHoisted_70 : decode cX11_isHoisted 70 = .ok (.aload_n 0, 1) := by decide +kernel
theorem dX11_isHoisted_71 : decode cX11_isHoisted 71 = .ok (.iload_n 3, 1) := by decide +kernel
theorem dX11_isHoisted_72 : decode cX11_isHoisted 72 = .ok (.invokevirtual 163, 3) := by decide +kernel
theorem dX11_isHoisted_75 : decode cX11_isHoisted 75 = .ok (.ifCond .ne 36, 3) := by decide +kernel
theorem dX11_isHoisted_78 : decode cX11_isHoisted 78 = .ok (.aload_n 0, 1) := by decide +kernel
theorem dX11_isHoisted_79 : decode cX11_isHoisted 79 = .ok (.iload_n 3, 1) := by decide +kernel
theorem dX11_isHoisted_80 : decode cX11_isHoisted 80 = .ok (.iconst 1, 1) := by decide +kernel
theorem dX11_isHoisted_81 : decode cX11_isHoisted 81 = .ok (.invokevirtual 82, 3) := by decide +kernel
theorem dX11_isHoisted_84 : decode cX11_isHoisted 84 = .ok (.aload_n 0, 1) := by decide +kernel
theorem dX11_isHoisted_85 : decode cX11_isHoisted 85 = .ok (.iload_n 1, 1) := by decide +kernel
theorem dX11_isHoisted_86 : decode cX11_isHoisted 86 = .ok (.iconst 1, 1) := by decide +kernel
theorem dX11_isHoisted_87 : decode cX11_isHoisted 87 = .ok (.invokevirtual 82, 3) := by decide +kernel
theorem dX11_isHoisted_90 : decode cX11_isHoisted 90 = .ok (.if_icmp .eq 17, 3) := by decide +kernel
theorem dX11_isHoisted_93 : decode cX11_isHoisted 93 = .ok (.aload_n 0, 1) := by decide +kernel
theorem dX11_isHoisted_94 : decode cX11_isHoisted 94 = .ok (.iload_n 3, 1) := by decide +kernel
theorem dX11_isHoisted_95 : decode cX11_isHoisted 95 = .ok (.iconst 1, 1) := by decide +kernel
theorem dX11_isHoisted_96 : decode cX11_isHoisted 96 = .ok (.invokevirtual 82, 3) := by decide +kernel
theorem dX11_isHoisted_99 : decode cX11_isHoisted 99 = .ok (.aload_n 0, 1) := by decide +kernel
theorem dX11_isHoisted_100 : decode cX11_isHoisted 100 = .ok (.iload_n 1, 1) := by decide +kernel
theorem dX11_isHoisted_101 : decode cX11_isHoisted 101 = .ok (.invokevirtual 224, 3) := by decide +kernel
theorem dX11_isHoisted_104 : decode cX11_isHoisted 104 = .ok (.if_icmp .ne 7, 3) := by decide +kernel
theorem dX11_isHoisted_107 : decode cX11_isHoisted 107 = .ok (.iconst 1, 1) := by decide +kernel
theorem dX11_isHoisted_108 : decode cX11_isHoisted 108 = .ok (.goto 4, 3) := by decide +kernel
theorem dX11_isHoisted_111 : decode cX11_isHoisted 111 = .ok (.iconst 0, 1) := by decide +kernel
theorem dX11_isHoisted_112 : decode cX11_isHoisted 112 = .ok (.istore 4, 2) := by decide +kernel
theorem dX11_isHoisted_114 : decode cX11_isHoisted 114 = .ok (.iload_n 2, 1) := by decide +kernel
theorem dX11_isHoisted_115 : decode cX11_isHoisted 115 = .ok (.ifCond .eq 12, 3) := by decide +kernel
theorem dX11_isHoisted_118 : decode cX11_isHoisted 118 = .ok (.iload 4, 2) := by decide +kernel
theorem dX11_isHoisted_120 : decode cX11_isHoisted 120 = .ok (.ifCond .ne 7, 3) := by decide +kernel
theorem dX11_isHoisted_123 : decode cX11_isHoisted 123 = .ok (.iconst 1, 1) := by decide +kernel
theorem dX11_isHoisted_124 : decode cX11_isHoisted 124 = .ok (.goto 4, 3) := by decide +kernel
theorem dX11_isHoisted_127 : decode cX11_isHoisted 127 = .ok (.iconst 0, 1) := by decide +kernel
theorem dX11_isHoisted_128 : decode cX11_isHoisted 128 = .ok (.istore_n 2, 1) := by decide +kernel
theorem dX11_isHoisted_129 : decode cX11_isHoisted 129 = .ok (.iinc 3 1, 3) := by decide +kernel
theorem dX11_isHoisted_132 : decode cX11_isHoisted 132 = .ok (.goto (-82), 3) := by decide +kernel
theorem dX11_isHoisted_135 : decode cX11_isHoisted 135 = .ok (.iload_n 2, 1) := by decide +kernel
theorem dX11_isHoisted_136 : decode cX11_isHoisted 136 = .ok (.ireturn, 1) := by decide +kernel
theorem dX11_state_0 : decode cX11_state 0 = .ok (.aload_n 0, 1) := by decide +kernel
theorem dX11_state_1 : decode cX11_state 1 = .ok (.aload_n 0, 1) := by decide +kernel
theorem dX11_state_2 : decode cX11_state 2 = .ok (.iload_n 1, 1) := by decide +kernel
theorem dX11_state_3 : decode cX11_state 3 = .ok (.invokevirtual 160, 3) := by decide +kernel
theorem dX11_state_6 : decode cX11_state 6 = .ok (.iconst 1, 1) := by decide +kernel
theorem dX11_state_7 : decode cX11_state 7 = .ok (.invokevirtual 101, 3) := by decide +kernel
theorem dX11_state_10 : decode cX11_state 10 = .ok (.ifCond .ne 5, 3) := by decide +kernel
theorem dX11_state_13 : decode cX11_state 13 = .ok (.iconst 0, 1) := by decide +kernel
theorem dX11_state_14 : decode cX11_state 14 = .ok (.ireturn, 1) := by decide +kernel
theorem dX11_state_15 : decode cX11_state 15 = .ok (.aload_n 0, 1) := by decide +kernel
theorem dX11_state_16 : decode cX11_state 16 = .ok (.invokevirtual 227, 3) := by decide +kernel
theorem dX11_state_19 : decode cX11_state 19 = .ok (.aload_n 0, 1) := by decide +kernel
theorem dX11_state_20 : decode cX11_state 20 = .ok (.getfield 66, 3) := by decide +kernel
theorem dX11_state_23 : decode cX11_state 23 = .ok (.iload_n 1, 1) := by decide +kernel
theorem dX11_state_24 : decode cX11_state 24 = .ok (.iaload, 1) := by decide +kernel
theorem dX11_state_25 : decode cX11_state 25 = .ok (.ireturn, 1) := by decide +kernel
theorem dX11_statesFrom_0 : decode cX11_statesFrom 0 = .ok (.iconst 0, 1) := by decide +kernel
theorem dX11_statesFrom_1 : decode cX11_statesFrom 1 = .ok (.istore_n 3, 1) := by decide +kernel
theorem dX11_statesFrom_2 : decode cX11_statesFrom 2 = .ok (.iconst 0, 1) := by decide +kernel
theorem dX11_statesFrom_3 : decode cX11_statesFrom 3 = .ok (.istore 4, 2) := by decide +kernel
theorem dX11_statesFrom_5 : decode cX11_statesFrom 5 = .ok (.iload 4, 2) := by decide +kernel
theorem dX11_statesFrom_7 : decode cX11_statesFrom 7 = .ok (.aload_n 0, 1) := by decide +kernel
theorem dX11_statesFrom_8 : decode cX11_statesFrom 8 = .ok (.getfield 7, 3) := by decide +kernel
theorem dX11_statesFrom_11 : decode cX11_statesFrom 11 = .ok (.iconst 0, 1) := by decide +kernel
theorem dX11_statesFrom_12 : decode cX11_statesFrom 12 = .ok (.iaload, 1) := by decide +kernel
theorem dX11_statesFrom_13 : decode cX11_statesFrom 13 = .ok (.if_icmp .ge 35, 3) := by decide +kernel
theorem dX11_statesFrom_16 : decode cX11_statesFrom 16 = .ok (.iload_n 3, 1) := by decide +kernel
theorem dX11_statesFrom_17 : decode cX11_statesFrom 17 = .ok (.aload_n 0, 1) := by decide +kernel
theorem dX11_statesFrom_18 : decode cX11_statesFrom 18 = .ok (.getfield 66, 3) := by decide +kernel
theorem dX11_statesFrom_21 : decode cX11_statesFrom 21 = .ok (.iload 4, 2) := by decide +kernel
theorem dX11_statesFrom_23 : decode cX11_statesFrom 23 = .ok (.iaload, 1) := by decide +kernel
theorem dX11_statesFrom_24 : decode cX11_statesFrom 24 = .ok (.i2l, 1) := by decide +kernel
theorem dX11_statesFrom_25 : decode cX11_statesFrom 25 = .ok (.iload_n 1, 1) := by decide +kernel
theorem dX11_statesFrom_26 : decode cX11_statesFrom 26 = .ok (.i2l, 1) := by decide +kernel
theorem dX11_statesFrom_27 : decode cX11_statesFrom 27 = .ok (.iload_n 2, 1) := by decide +kernel
theorem dX11_statesFrom_28 : decode cX11_statesFrom 28 = .ok (.i2l, 1) := by decide +kernel
theorem dX11_statesFrom_29 : decode cX11_statesFrom 29 = .ok (.invokestatic 90, 3) := by decide +kernel
theorem dX11_statesFrom_32 : decode cX11_statesFrom 32 = .ok (.ifCond .eq 7, 3) := by decide +kernel
theorem dX11_statesFrom_35 : decode cX11_statesFrom 35 = .ok (.iconst 1, 1) := by decide +kernel
theorem dX11_statesFrom_36 : decode cX11_statesFrom 36 = .ok (.goto 4, 3) := by decide +kernel
theorem dX11_statesFrom_39 : decode cX11_statesFrom 39 = .ok (.iconst 0, 1) := by decide +kernel
theorem dX11_statesFrom_40 : decode cX11_statesFrom 40 = .ok (.iadd, 1) := by decide +kernel
theorem dX11_statesFrom_41 : decode cX11_statesFrom 41 = .ok (.istore_n 3, 1) := by decide +kernel
theorem dX11_statesFrom_42 : decode cX11_statesFrom 42 = .ok (.iinc 4 1, 3) := by decide +kernel
theorem dX11_statesFrom_45 : decode cX11_statesFrom 45 = .ok (.goto (-40), 3) := by decide +kernel
theorem dX11_statesFrom_48 : decode cX11_statesFrom 48 = .ok (.iload_n 3, 1) := by decide +kernel
theorem dX11_statesFrom_49 : decode cX11_statesFrom 49 = .ok (.ireturn, 1) := by decide +kernel
theorem dX11_states_0 : decode cX11_states 0 = .ok (.aload_n 0, 1) := by decide +kernel
theorem dX11_states_1 : decode cX11_states 1 = .ok (.iload_n 1, 1) := by decide +kernel
theorem dX11_states_2 : decode cX11_states 2 = .ok (.i2l, 1) := by decide +kernel
theorem dX11_states_3 : decode cX11_states 3 = .ok (.lconst 0, 1) := by decide +kernel
theorem dX11_states_4 : decode cX11_states 4 = .ok (.ldc2_w 230, 3) := by decide +kernel
theorem dX11_states_7 : decode cX11_states 7 = .ok (.invokestatic 90, 3) := by decide +kernel
theorem dX11_states_10 : decode cX11_states 10 = .ok (.iconst 1, 1) := by decide +kernel
theorem dX11_states_11 : decode cX11_states 11 = .ok (.invokevirtual 101, 3) := by decide +kernel
theorem dX11_states_14 : decode cX11_states 14 = .ok (.ifCond .ne 5, 3) := by decide +kernel
theorem dX11_states_17 : decode cX11_states 17 = .ok (.iconst 0, 1) := by decide +kernel
theorem dX11_states_18 : decode cX11_states 18 = .ok (.ireturn, 1) := by decide +kernel
theorem dX11_states_19 : decode cX11_states 19 = .ok (.aload_n 0, 1) := by decide +kernel
theorem dX11_states_20 : decode cX11_states 20 = .ok (.invokevirtual 227, 3) := by decide +kernel
theorem dX11_states_23 : decode cX11_states 23 = .ok (.aload_n 0, 1) := by decide +kernel
theorem dX11_states_24 : decode cX11_states 24 = .ok (.iload_n 1, 1) := by decide +kernel
theorem dX11_states_25 : decode cX11_states 25 = .ok (.iload_n 1, 1) := by decide +kernel
theorem dX11_states_26 : decode cX11_states 26 = .ok (.invokevirtual 232, 3) := by decide +kernel
theorem dX11_states_29 : decode cX11_states 29 = .ok (.ireturn, 1) := by decide +kernel
theorem dX11_coveredBy_0 : decode cX11_coveredBy 0 = .ok (.aload_n 0, 1) := by decide +kernel
theorem dX11_coveredBy_1 : decode cX11_coveredBy 1 = .ok (.aload_n 0, 1) := by decide +kernel
theorem dX11_coveredBy_2 : decode cX11_coveredBy 2 = .ok (.iload_n 1, 1) := by decide +kernel
theorem dX11_coveredBy_3 : decode cX11_coveredBy 3 = .ok (.invokevirtual 160, 3) := by decide +kernel
theorem dX11_coveredBy_6 : decode cX11_coveredBy 6 = .ok (.iconst 1, 1) := by decide +kernel
theorem dX11_coveredBy_7 : decode cX11_coveredBy 7 = .ok (.invokevirtual 101, 3) := by decide +kernel
theorem dX11_coveredBy_10 : decode cX11_coveredBy 10 = .ok (.ifCond .ne 5, 3) := by decide +kernel
theorem dX11_coveredBy_13 : decode cX11_coveredBy 13 = .ok (.iconst 0, 1) := by decide +kernel
theorem dX11_coveredBy_14 : decode cX11_coveredBy 14 = .ok (.ireturn, 1) := by decide +kernel
theorem dX11_coveredBy_15 : decode cX11_coveredBy 15 = .ok (.aload_n 0, 1) := by decide +kernel
theorem dX11_coveredBy_16 : decode cX11_coveredBy 16 = .ok (.invokevirtual 227, 3) := by decide +kernel
theorem dX11_coveredBy_19 : decode cX11_coveredBy 19 = .ok (.aload_n 0, 1) := by decide +kernel
theorem dX11_coveredBy_20 : decode cX11_coveredBy 20 = .ok (.getfield 60, 3) := by decide +kernel
theorem dX11_coveredBy_23 : decode cX11_coveredBy 23 = .ok (.iload_n 1, 1) := by decide +kernel
theorem dX11_coveredBy_24 : decode cX11_coveredBy 24 = .ok (.iaload, 1) := by decide +kernel
theorem dX11_coveredBy_25 : decode cX11_coveredBy 25 = .ok (.ireturn, 1) := by decide +kernel
theorem dX11_range_0 : decode cX11_range 0 = .ok (.aload_n 0, 1) := by decide +kernel
theorem dX11_range_1 : decode cX11_range 1 = .ok (.aload_n 0, 1) := by decide +kernel
theorem dX11_range_2 : decode cX11_range 2 = .ok (.iload_n 1, 1) := by decide +kernel
theorem dX11_range_3 : decode cX11_range 3 = .ok (.invokevirtual 160, 3) := by decide +kernel
theorem dX11_range_6 : decode cX11_range 6 = .ok (.aload_n 0, 1) := by decide +kernel
theorem dX11_range_7 : decode cX11_range 7 = .ok (.iload_n 1, 1) := by decide +kernel
theorem dX11_range_8 : decode cX11_range 8 = .ok (.invokevirtual 160, 3) := by decide +kernel
theorem dX11_range_11 : decode cX11_range 11 = .ok (.ifCond .eq 15, 3) := by decide +kernel
theorem dX11_range_14 : decode cX11_range 14 = .ok (.aload_n 0, 1) := by decide +kernel
theorem dX11_range_15 : decode cX11_range 15 = .ok (.iload_n 1, 1) := by decide +kernel
theorem dX11_range_16 : decode cX11_range 16 = .ok (.invokevirtual 163, 3) := by decide +kernel
theorem dX11_range_19 : decode cX11_range 19 = .ok (.ifCond .ne 7, 3) := by decide +kernel
theorem dX11_range_22 : decode cX11_range 22 = .ok (.iconst 1, 1) := by decide +kernel
theorem dX11_range_23 : decode cX11_range 23 = .ok (.goto 4, 3) := by decide +kernel
theorem dX11_range_26 : decode cX11_range 26 = .ok (.iconst 0, 1) := by decide +kernel
theorem dX11_range_27 : decode cX11_range 27 = .ok (.invokevirtual 101, 3) := by decide +kernel
theorem dX11_range_30 : decode cX11_range 30 = .ok (.ifCond .ne 5, 3) := by decide +kernel
theorem dX11_range_33 : decode cX11_range 33 = .ok (.lconst 0, 1) := by decide +kernel
theorem dX11_range_34 : decode cX11_range 34 = .ok (.lreturn, 1) := by decide +kernel
theorem dX11_range_35 : decode cX11_range 35 = .ok (.aload_n 0, 1) := by decide +kernel
theorem dX11_range_36 : decode cX11_range 36 = .ok (.invokevirtual 227, 3) := by decide +kernel
theorem dX11_range_39 : decode cX11_range 39 = .ok (.aload_n 0, 1) := by decide +kernel
theorem dX11_range_40 : decode cX11_range 40 = .ok (.getfield 41, 3) := by decide +kernel
theorem dX11_range_43 : decode cX11_range 43 = .ok (.iload_n 1, 1) := by decide +kernel
theorem dX11_range_44 : decode cX11_range 44 = .ok (.baload, 1) := by decide +kernel
theorem dX11_range_45 : decode cX11_range 45 = .ok (.ifCond .ne 7, 3) := by decide +kernel
theorem dX11_range_48 : decode cX11_range 48 = .ok (.lconst 0, 1) := by decide +kernel
theorem dX11_range_49 : decode cX11_range 49 = .ok (.goto 22, 3) := by decide +kernel
theorem dX11_range_52 : decode cX11_range 52 = .ok (.iload_n 2, 1) := by decide +kernel
theorem dX11_range_53 : decode cX11_range 53 = .ok (.ifCond .eq 12, 3) := by decide +kernel
theorem dX11_range_56 : decode cX11_range 56 = .ok (.aload_n 0, 1) := by decide +kernel
theorem dX11_range_57 : decode cX11_range 57 = .ok (.getfield 57, 3) := by decide +kernel
theorem dX11_range_60 : decode cX11_range 60 = .ok (.iload_n 1, 1) := by decide +kernel
theorem dX11_range_61 : decode cX11_range 61 = .ok (.laload, 1) := by decide +kernel
theorem dX11_range_62 : decode cX11_range 62 = .ok (.goto 9, 3) := by decide +kernel
theorem dX11_range_65 : decode cX11_range 65 = .ok (.aload_n 0, 1) := by decide +kernel
theorem dX11_range_66 : decode cX11_range 66 = .ok (.getfield 54, 3) := by decide +kernel
theorem dX11_range_69 : decode cX11_range 69 = .ok (.iload_n 1, 1) := by decide +kernel
theorem dX11_range_70 : decode cX11_range 70 = .ok (.laload, 1) := by decide +kernel
theorem dX11_range_71 : decode cX11_range 71 = .ok (.lreturn, 1) := by decide +kernel
theorem dX11_finalOf_0 : decode cX11_finalOf 0 = .ok (.aload_n 0, 1) := by decide +kernel
theorem dX11_finalOf_1 : decode cX11_finalOf 1 = .ok (.getfield 201, 3) := by decide +kernel
theorem dX11_finalOf_4 : decode cX11_finalOf 4 = .ok (.ifCond .ne 7, 3) := by decide +kernel
theorem dX11_finalOf_7 : decode cX11_finalOf 7 = .ok (.iconst 0, 1) := by decide +kernel
theorem dX11_finalOf_8 : decode cX11_finalOf 8 = .ok (.goto 23, 3) := by decide +kernel
theorem dX11_finalOf_11 : decode cX11_finalOf 11 = .ok (.iload_n 2, 1) := by decide +kernel
theorem dX11_finalOf_12 : decode cX11_finalOf 12 = .ok (.ifCond .eq 12, 3) := by decide +kernel
theorem dX11_finalOf_15 : decode cX11_finalOf 15 = .ok (.aload_n 0, 1) := by decide +kernel
theorem dX11_finalOf_16 : decode cX11_finalOf 16 = .ok (.getfield 38, 3) := by decide +kernel
theorem dX11_finalOf_19 : decode cX11_finalOf 19 = .ok (.iload_n 1, 1) := by decide +kernel
theorem dX11_finalOf_20 : decode cX11_finalOf 20 = .ok (.laload, 1) := by decide +kernel
theorem dX11_finalOf_21 : decode cX11_finalOf 21 = .ok (.goto 9, 3) := by decide +kernel
theorem dX11_finalOf_24 : decode cX11_finalOf 24 = .ok (.aload_n 0, 1) := by decide +kernel
theorem dX11_finalOf_25 : decode cX11_finalOf 25 = .ok (.getfield 34, 3) := by decide +kernel
theorem dX11_finalOf_28 : decode cX11_finalOf 28 = .ok (.iload_n 1, 1) := by decide +kernel
theorem dX11_finalOf_29 : decode cX11_finalOf 29 = .ok (.laload, 1) := by decide +kernel
theorem dX11_finalOf_30 : decode cX11_finalOf 30 = .ok (.l2i, 1) := by decide +kernel
theorem dX11_finalOf_31 : decode cX11_finalOf 31 = .ok (.ireturn, 1) := by decide +kernel
theorem dX11_finalRange_0 : decode cX11_finalRange 0 = .ok (.aload_n 0, 1) := by decide +kernel
theorem dX11_finalRange_1 : decode cX11_finalRange 1 = .ok (.iload_n 1, 1) := by decide +kernel
theorem dX11_finalRange_2 : decode cX11_finalRange 2 = .ok (.invokestatic 154, 3) := by decide +kernel
theorem dX11_finalRange_5 : decode cX11_finalRange 5 = .ok (.iconst 1, 1) := by decide +kernel
theorem dX11_finalRange_6 : decode cX11_finalRange 6 = .ok (.invokevirtual 101, 3) := by decide +kernel
theorem dX11_finalRange_9 : decode cX11_finalRange 9 = .ok (.ifCond .ne 5, 3) := by decide +kernel
theorem dX11_finalRange_12 : decode cX11_finalRange 12 = .ok (.iconst 0, 1) := by decide +kernel
theorem dX11_finalRange_13 : decode cX11_finalRange 13 = .ok (.ireturn, 1) := by decide +kernel
theorem dX11_finalRange_14 : decode cX11_finalRange 14 = .ok (.aload_n 0, 1) := by decide +kernel
theorem dX11_finalRange_15 : decode cX11_finalRange 15 = .ok (.invokevirtual 227, 3) := by decide +kernel
theorem dX11_finalRange_18 : decode cX11_finalRange 18 = .ok (.aload_n 0, 1) := by decide +kernel
theorem dX11_finalRange_19 : decode cX11_finalRange 19 = .ok (.iload_n 1, 1) := by decide +kernel
theorem dX11_finalRange_20 : decode cX11_finalRange 20 = .ok (.iload_n 2, 1) := by decide +kernel
theorem dX11_finalRange_21 : decode cX11_finalRange 21 = .ok (.invokevirtual 235, 3) := by decide +kernel
theorem dX11_finalRange_24 : decode cX11_finalRange 24 = .ok (.ireturn, 1) := by decide +kernel
theorem dX11_completes_0 : decode cX11_completes 0 = .ok (.aload_n 0, 1) := by decide +kernel
theorem dX11_completes_1 : decode cX11_completes 1 = .ok (.iconst 0, 1) := by decide +kernel
theorem dX11_completes_2 : decode cX11_completes 2 = .ok (.putfield 75, 3) := by decide +kernel
theorem dX11_completes_5 : decode cX11_completes 5 = .ok (.aload_n 0, 1) := by decide +kernel
theorem dX11_completes_6 : decode cX11_completes 6 = .ok (.invokevirtual 227, 3) := by decide +kernel
theorem dX11_completes_9 : decode cX11_completes 9 = .ok (.aload_n 0, 1) := by decide +kernel
theorem dX11_completes_10 : decode cX11_completes 10 = .ok (.getfield 201, 3) := by decide +kernel
theorem dX11_completes_13 : decode cX11_completes 13 = .ok (.ireturn, 1) := by decide +kernel
theorem dX11_valueOf_0 : decode cX11_valueOf 0 = .ok (.iload_n 1, 1) := by decide +kernel
theorem dX11_valueOf_1 : decode cX11_valueOf 1 = .ok (.bipush 8, 2) := by decide +kernel
theorem dX11_valueOf_3 : decode cX11_valueOf 3 = .ok (.if_icmp .ge 12, 3) := by decide +kernel
theorem dX11_valueOf_6 : decode cX11_valueOf 6 = .ok (.aload_n 0, 1) := by decide +kernel
theorem dX11_valueOf_7 : decode cX11_valueOf 7 = .ok (.getfield 69, 3) := by decide +kernel
theorem dX11_valueOf_10 : decode cX11_valueOf 10 = .ok (.iload_n 1, 1) := by decide +kernel
theorem dX11_valueOf_11 : decode cX11_valueOf 11 = .ok (.laload, 1) := by decide +kernel
theorem dX11_valueOf_12 : decode cX11_valueOf 12 = .ok (.goto 9, 3) := by decide +kernel
theorem dX11_valueOf_15 : decode cX11_valueOf 15 = .ok (.iload_n 1, 1) := by decide +kernel
theorem dX11_valueOf_16 : decode cX11_valueOf 16 = .ok (.sipush 20000, 3) := by decide +kernel
theorem dX11_valueOf_19 : decode cX11_valueOf 19 = .ok (.isub, 1) := by decide +kernel
theorem dX11_valueOf_20 : decode cX11_valueOf 20 = .ok (.i2l, 1) := by decide +kernel
theorem dX11_valueOf_21 : decode cX11_valueOf 21 = .ok (.lreturn, 1) := by decide +kernel
theorem dX11_exact_0 : decode cX11_exact 0 = .ok (.aload_n 0, 1) := by decide +kernel
theorem dX11_exact_1 : decode cX11_exact 1 = .ok (.aload_n 0, 1) := by decide +kernel
theorem dX11_exact_2 : decode cX11_exact 2 = .ok (.iload_n 1, 1) := by decide +kernel
theorem dX11_exact_3 : decode cX11_exact 3 = .ok (.iconst 2, 1) := by decide +kernel
theorem dX11_exact_4 : decode cX11_exact 4 = .ok (.invokevirtual 82, 3) := by decide +kernel
theorem dX11_exact_7 : decode cX11_exact 7 = .ok (.invokevirtual 239, 3) := by decide +kernel
theorem dX11_exact_10 : decode cX11_exact 10 = .ok (.lstore_n 2, 1) := by decide +kernel
theorem dX11_exact_11 : decode cX11_exact 11 = .ok (.aload_n 0, 1) := by decide +kernel
theorem dX11_exact_12 : decode cX11_exact 12 = .ok (.iload_n 1, 1) := by decide +kernel
theorem dX11_exact_13 : decode cX11_exact 13 = .ok (.invokevirtual 86, 3) := by decide +kernel
theorem dX11_exact_16 : decode cX11_exact 16 = .ok (.ifCond .ne 7, 3) := by decide +kernel
theorem dX11_exact_19 : decode cX11_exact 19 = .ok (.lconst 0, 1) := by decide +kernel
theorem dX11_exact_20 : decode cX11_exact 20 = .ok (.goto 13, 3) := by decide +kernel
theorem dX11_exact_23 : decode cX11_exact 23 = .ok (.aload_n 0, 1) := by decide +kernel
theorem dX11_exact_24 : decode cX11_exact 24 = .ok (.aload_n 0, 1) := by decide +kernel
theorem dX11_exact_25 : decode cX11_exact 25 = .ok (.iload_n 1, 1) := by decide +kernel
theorem dX11_exact_26 : decode cX11_exact 26 = .ok (.iconst 3, 1) := by decide +kernel
theorem dX11_exact_27 : decode cX11_exact 27 = .ok (.invokevirtual 82, 3) := by decide +kernel
theorem dX11_exact_30 : decode cX11_exact 30 = .ok (.invokevirtual 239, 3) := by decide +kernel
theorem dX11_exact_33 : decode cX11_exact 33 = .ok (.lstore 4, 2) := by decide +kernel
theorem dX11_exact_35 : decode cX11_exact 35 = .ok (.aload_n 0, 1) := by decide +kernel
theorem dX11_exact_36 : decode cX11_exact 36 = .ok (.iload_n 1, 1) := by decide +kernel
theorem dX11_exact_37 : decode cX11_exact 37 = .ok (.invokevirtual 86, 3) := by decide +kernel
theorem dX11_exact_40 : decode cX11_exact 40 = .ok (.iconst 2, 1) := by decide +kernel
theorem dX11_exact_41 : decode cX11_exact 41 = .ok (.if_icmp .ne 10, 3) := by decide +kernel
theorem dX11_exact_44 : decode cX11_exact 44 = .ok (.lload_n 2, 1) := by decide +kernel
theorem dX11_exact_45 : decode cX11_exact 45 = .ok (.lload 4, 2) := by decide +kernel
theorem dX11_exact_47 : decode cX11_exact 47 = .ok (.lsub, 1) := by decide +kernel
theorem dX11_exact_48 : decode cX11_exact 48 = .ok (.goto 23, 3) := by decide +kernel
theorem dX11_exact_51 : decode cX11_exact 51 = .ok (.aload_n 0, 1) := by decide +kernel
theorem dX11_exact_52 : decode cX11_exact 52 = .ok (.iload_n 1, 1) := by decide +kernel
theorem dX11_exact_53 : decode cX11_exact 53 = .ok (.invokevirtual 86, 3) := by decide +kernel
theorem dX11_exact_56 : decode cX11_exact 56 = .ok (.iconst 3, 1) := by decide +kernel
theorem dX11_exact_57 : decode cX11_exact 57 = .ok (.if_icmp .ne 10, 3) := by decide +kernel
theorem dX11_exact_60 : decode cX11_exact 60 = .ok (.lload_n 2, 1) := by decide +kernel
theorem dX11_exact_61 : decode cX11_exact 61 = .ok (.lload 4, 2) := by decide +kernel
theorem dX11_exact_63 : decode cX11_exact 63 = .ok (.lmul, 1) := by decide +kernel
theorem dX11_exact_64 : decode cX11_exact 64 = .ok (.goto 7, 3) := by decide +kernel
theorem dX11_exact_67 : decode cX11_exact 67 = .ok (.lload_n 2, 1) := by decide +kernel
theorem dX11_exact_68 : decode cX11_exact 68 = .ok (.lload 4, 2) := by decide +kernel
theorem dX11_exact_70 : decode cX11_exact 70 = .ok (.ladd, 1) := by decide +kernel
theorem dX11_exact_71 : decode cX11_exact 71 = .ok (.lreturn, 1) := by decide +kernel
theorem dX11_isInt_0 : decode cX11_isInt 0 = .ok (.lload_n 0, 1) := by decide +kernel
theorem dX11_isInt_1 : decode cX11_isInt 1 = .ok (.ldc2_w 194, 3) := by decide +kernel
theorem dX11_isInt_4 : decode cX11_isInt 4 = .ok (.ldc2_w 196, 3) := by decide +kernel
theorem dX11_isInt_7 : decode cX11_isInt 7 = .ok (.invokestatic 90, 3) := by decide +kernel
theorem dX11_isInt_10 : decode cX11_isInt 10 = .ok (.ireturn, 1) := by decide +kernel
theorem dX11_checksLoop_0 : decode cX11_checksLoop 0 = .ok (.iload_n 1, 1) := by decide +kernel
theorem dX11_checksLoop_1 : decode cX11_checksLoop 1 = .ok (.iconst 1, 1) := by decide +kernel
theorem dX11_checksLoop_2 : decode cX11_checksLoop 2 = .ok (.iadd, 1) := by decide +kernel
theorem dX11_checksLoop_3 : decode cX11_checksLoop 3 = .ok (.istore_n 2, 1) := by decide +kernel
theorem dX11_checksLoop_4 : decode cX11_checksLoop 4 = .ok (.iload_n 2, 1) := by decide +kernel
theorem dX11_checksLoop_5 : decode cX11_checksLoop 5 = .ok (.aload_n 0, 1) := by decide +kernel
theorem dX11_checksLoop_6 : decode cX11_checksLoop 6 = .ok (.getfield 22, 3) := by decide +kernel
theorem dX11_checksLoop_9 : decode cX11_checksLoop 9 = .ok (.iload_n 1, 1) := by decide +kernel
theorem dX11_checksLoop_10 : decode cX11_checksLoop 10 = .ok (.iaload, 1) := by decide +kernel
theorem dX11_checksLoop_11 : decode cX11_checksLoop 11 = .ok (.if_icmp .ge 77, 3) := by decide +kernel
theorem dX11_checksLoop_14 : decode cX11_checksLoop 14 = .ok (.aload_n 0, 1) := by decide +kernel
theorem dX11_checksLoop_15 : decode cX11_checksLoop 15 = .ok (.getfield 28, 3) := by decide +kernel
theorem dX11_checksLoop_18 : decode cX11_checksLoop 18 = .ok (.iload_n 2, 1) := by decide +kernel
theorem dX11_checksLoop_19 : decode cX11_checksLoop 19 = .ok (.iaload, 1) := by decide +kernel
theorem dX11_checksLoop_20 : decode cX11_checksLoop 20 = .ok (.iload_n 1, 1) := by decide +kernel
theorem dX11_checksLoop_21 : decode cX11_checksLoop 21 = .ok (.if_icmp .ne 61, 3) := by decide +kernel
theorem dX11_checksLoop_24 : decode cX11_checksLoop 24 = .ok (.aload_n 0, 1) := by decide +kernel
theorem dX11_checksLoop_25 : decode cX11_checksLoop 25 = .ok (.getfield 66, 3) := by decide +kernel
theorem dX11_checksLoop_28 : decode cX11_checksLoop 28 = .ok (.iload_n 2, 1) := by decide +kernel
theorem dX11_checksLoop_29 : decode cX11_checksLoop 29 = .ok (.iaload, 1) := by decide +kernel
theorem dX11_checksLoop_30 : decode cX11_checksLoop 30 = .ok (.iconst 3, 1) := by decide +kernel
theorem dX11_checksLoop_31 : decode cX11_checksLoop 31 = .ok (.if_icmp .ne 51, 3) := by decide +kernel
theorem dX11_checksLoop_34 : decode cX11_checksLoop 34 = .ok (.aload_n 0, 1) := by decide +kernel
theorem dX11_checksLoop_35 : decode cX11_checksLoop 35 = .ok (.dup, 1) := by decide +kernel
theorem dX11_checksLoop_36 : decode cX11_checksLoop 36 = .ok (.getfield 242, 3) := by decide +kernel
theorem dX11_checksLoop_39 : decode cX11_checksLoop 39 = .ok (.iconst 1, 1) := by decide +kernel
theorem dX11_checksLoop_40 : decode cX11_checksLoop 40 = .ok (.iadd, 1) := by decide +kernel
theorem dX11_checksLoop_41 : decode cX11_checksLoop 41 = .ok (.putfield 242, 3) := by decide +kernel
theorem dX11_checksLoop_44 : decode cX11_checksLoop 44 = .ok (.aload_n 0, 1) := by decide +kernel
theorem dX11_checksLoop_45 : decode cX11_checksLoop 45 = .ok (.getfield 72, 3) := by decide +kernel
theorem dX11_checksLoop_48 : decode cX11_checksLoop 48 = .ok (.iload_n 2, 1) := by decide +kernel
theorem dX11_checksLoop_49 : decode cX11_checksLoop 49 = .ok (.aload_n 0, 1) := by decide +kernel
theorem dX11_checksLoop_50 : decode cX11_checksLoop 50 = .ok (.getfield 69, 3) := by decide +kernel
theorem dX11_checksLoop_53 : decode cX11_checksLoop 53 = .ok (.aload_n 0, 1) := by decide +kernel
theorem dX11_checksLoop_54 : decode cX11_checksLoop 54 = .ok (.iload_n 2, 1) := by decide +kernel
theorem dX11_checksLoop_55 : decode cX11_checksLoop 55 = .ok (.iconst 1, 1) := by decide +kernel
theorem dX11_checksLoop_56 : decode cX11_checksLoop 56 = .ok (.invokevirtual 82, 3) := by decide +kernel
theorem dX11_checksLoop_59 : decode cX11_checksLoop 59 = .ok (.laload, 1) := by decide +kernel
theorem dX11_checksLoop_60 : decode cX11_checksLoop 60 = .ok (.aload_n 0, 1) := by decide +kernel
theorem dX11_checksLoop_61 : decode cX11_checksLoop 61 = .ok (.iload_n 1, 1) := by decide +kernel
theorem dX11_checksLoop_62 : decode cX11_checksLoop 62 = .ok (.iconst 1, 1) := by decide +kernel
theorem dX11_checksLoop_63 : decode cX11_checksLoop 63 = .ok (.invokevirtual 82, 3) := by decide +kernel
theorem dX11_checksLoop_66 : decode cX11_checksLoop 66 = .ok (.i2l, 1) := by decide +kernel
theorem dX11_checksLoop_67 : decode cX11_checksLoop 67 = .ok (.aload_n 0, 1) := by decide +kernel
theorem dX11_checksLoop_68 : decode cX11_checksLoop 68 = .ok (.aload_n 0, 1) := by decide +kernel
theorem dX11_checksLoop_69 : decode cX11_checksLoop 69 = .ok (.iload_n 2, 1) := by decide +kernel
theorem dX11_checksLoop_70 : decode cX11_checksLoop 70 = .ok (.invokevirtual 224, 3) := by decide +kernel
theorem dX11_checksLoop_73 : decode cX11_checksLoop 73 = .ok (.invokevirtual 239, 3) := by decide +kernel
theorem dX11_checksLoop_76 : decode cX11_checksLoop 76 = .ok (.lmul, 1) := by decide +kernel
theorem dX11_checksLoop_77 : decode cX11_checksLoop 77 = .ok (.ladd, 1) := by decide +kernel
theorem dX11_checksLoop_78 : decode cX11_checksLoop 78 = .ok (.invokestatic 245, 3) := by decide +kernel
theorem dX11_checksLoop_81 : decode cX11_checksLoop 81 = .ok (.bastore, 1) := by decide +kernel
theorem dX11_checksLoop_82 : decode cX11_checksLoop 82 = .ok (.iinc 2 1, 3) := by decide +kernel
theorem dX11_checksLoop_85 : decode cX11_checksLoop 85 = .ok (.goto (-81), 3) := by decide +kernel
theorem dX11_checksLoop_88 : decode cX11_checksLoop 88 = .ok (.return_, 1) := by decide +kernel
theorem dX11_isChecked_0 : decode cX11_isChecked 0 = .ok (.aload_n 0, 1) := by decide +kernel
theorem dX11_isChecked_1 : decode cX11_isChecked 1 = .ok (.iload_n 1, 1) := by decide +kernel
theorem dX11_isChecked_2 : decode cX11_isChecked 2 = .ok (.invokevirtual 86, 3) := by decide +kernel
theorem dX11_isChecked_5 : decode cX11_isChecked 5 = .ok (.ifCond .eq 40, 3) := by decide +kernel
theorem dX11_isChecked_8 : decode cX11_isChecked 8 = .ok (.iload_n 2, 1) := by decide +kernel
theorem dX11_isChecked_9 : decode cX11_isChecked 9 = .ok (.ifCond .eq 32, 3) := by decide +kernel
theorem dX11_isChecked_12 : decode cX11_isChecked 12 = .ok (.aload_n 0, 1) := by decide +kernel
theorem dX11_isChecked_13 : decode cX11_isChecked 13 = .ok (.getfield 66, 3) := by decide +kernel
theorem dX11_isChecked_16 : decode cX11_isChecked 16 = .ok (.iload_n 1, 1) := by decide +kernel
theorem dX11_isChecked_17 : decode cX11_isChecked 17 = .ok (.iaload, 1) := by decide +kernel
theorem dX11_isChecked_18 : decode cX11_isChecked 18 = .ok (.iconst 4, 1) := by decide +kernel
theorem dX11_isChecked_19 : decode cX11_isChecked 19 = .ok (.if_icmp .eq 22, 3) := by decide +kernel
theorem dX11_isChecked_22 : decode cX11_isChecked 22 = .ok (.aload_n 0, 1) := by decide +kernel
theorem dX11_isChecked_23 : decode cX11_isChecked 23 = .ok (.getfield 66, 3) := by decide +kernel
theorem dX11_isChecked_26 : decode cX11_isChecked 26 = .ok (.iload_n 1, 1) := by decide +kernel
theorem dX11_isChecked_27 : decode cX11_isChecked 27 = .ok (.iaload, 1) := by decide +kernel
theorem dX11_isChecked_28 : decode cX11_isChecked 28 = .ok (.iconst 3, 1) := by decide +kernel
theorem dX11_isChecked_29 : decode cX11_isChecked 29 = .ok (.if_icmp .ne 16, 3) := by decide +kernel
theorem dX11_isChecked_32 : decode cX11_isChecked 32 = .ok (.aload_n 0, 1) := by decide +kernel
theorem dX11_isChecked_33 : decode cX11_isChecked 33 = .ok (.getfield 72, 3) := by decide +kernel
theorem dX11_isChecked_36 : decode cX11_isChecked 36 = .ok (.iload_n 1, 1) := by decide +kernel
theorem dX11_isChecked_37 : decode cX11_isChecked 37 = .ok (.baload, 1) := by decide +kernel
theorem dX11_isChecked_38 : decode cX11_isChecked 38 = .ok (.ifCond .ne 7, 3) := by decide +kernel
theorem dX11_isChecked_41 : decode cX11_isChecked 41 = .ok (.iconst 1, 1) := by decide +kernel
theorem dX11_isChecked_42 : decode cX11_isChecked 42 = .ok (.goto 4, 3) := by decide +kernel
theorem dX11_isChecked_45 : decode cX11_isChecked 45 = .ok (.iconst 0, 1) := by decide +kernel
theorem dX11_isChecked_46 : decode cX11_isChecked 46 = .ok (.ireturn, 1) := by decide +kernel
theorem dX11_runs_0 : decode cX11_runs 0 = .ok (.aload_n 0, 1) := by decide +kernel
theorem dX11_runs_1 : decode cX11_runs 1 = .ok (.invokevirtual 198, 3) := by decide +kernel
theorem dX11_runs_4 : decode cX11_runs 4 = .ok (.iconst 0, 1) := by decide +kernel
theorem dX11_runs_5 : decode cX11_runs 5 = .ok (.istore_n 2, 1) := by decide +kernel
theorem dX11_runs_6 : decode cX11_runs 6 = .ok (.iload_n 2, 1) := by decide +kernel
theorem dX11_runs_7 : decode cX11_runs 7 = .ok (.bipush 8, 2) := by decide +kernel
theorem dX11_runs_9 : decode cX11_runs 9 = .ok (.if_icmp .ge 29, 3) := by decide +kernel
theorem dX11_runs_12 : decode cX11_runs 12 = .ok (.aload_n 0, 1) := by decide +kernel
theorem dX11_runs_13 : decode cX11_runs 13 = .ok (.getfield 69, 3) := by decide +kernel
theorem dX11_runs_16 : decode cX11_runs 16 = .ok (.iload_n 2, 1) := by decide +kernel
theorem dX11_runs_17 : decode cX11_runs 17 = .ok (.aload_n 0, 1) := by decide +kernel
theorem dX11_runs_18 : decode cX11_runs 18 = .ok (.getfield 7, 3) := by decide +kernel
theorem dX11_runs_21 : decode cX11_runs 21 = .ok (.bipush 121, 2) := by decide +kernel
theorem dX11_runs_23 : decode cX11_runs 23 = .ok (.iconst 3, 1) := by decide +kernel
theorem dX11_runs_24 : decode cX11_runs 24 = .ok (.iload_n 2, 1) := by decide +kernel
theorem dX11_runs_25 : decode cX11_runs 25 = .ok (.imul, 1) := by decide +kernel
theorem dX11_runs_26 : decode cX11_runs 26 = .ok (.iadd, 1) := by decide +kernel
theorem dX11_runs_27 : decode cX11_runs 27 = .ok (.iconst 2, 1) := by decide +kernel
theorem dX11_runs_28 : decode cX11_runs 28 = .ok (.iadd, 1) := by decide +kernel
theorem dX11_runs_29 : decode cX11_runs 29 = .ok (.iaload, 1) := by decide +kernel
theorem dX11_runs_30 : decode cX11_runs 30 = .ok (.i2l, 1) := by decide +kernel
theorem dX11_runs_31 : decode cX11_runs 31 = .ok (.lastore, 1) := by decide +kernel
theorem dX11_runs_32 : decode cX11_runs 32 = .ok (.iinc 2 1, 3) := by decide +kernel
theorem dX11_runs_35 : decode cX11_runs 35 = .ok (.goto (-29), 3) := by decide +kernel
theorem dX11_runs_38 : decode cX11_runs 38 = .ok (.aload_n 0, 1) := by decide +kernel
theorem dX11_runs_39 : decode cX11_runs 39 = .ok (.iconst (-1), 1) := by decide +kernel
theorem dX11_runs_40 : decode cX11_runs 40 = .ok (.putfield 249, 3) := by decide +kernel
theorem dX11_runs_43 : decode cX11_runs 43 = .ok (.aload_n 0, 1) := by decide +kernel
theorem dX11_runs_44 : decode cX11_runs 44 = .ok (.iconst 0, 1) := by decide +kernel
theorem dX11_runs_45 : decode cX11_runs 45 = .ok (.putfield 242, 3) := by decide +kernel
theorem dX11_runs_48 : decode cX11_runs 48 = .ok (.aload_n 0, 1) := by decide +kernel
theorem dX11_runs_49 : decode cX11_runs 49 = .ok (.iconst 0, 1) := by decide +kernel
theorem dX11_runs_50 : decode cX11_runs 50 = .ok (.putfield 252, 3) := by decide +kernel
theorem dX11_runs_53 : decode cX11_runs 53 = .ok (.aload_n 0, 1) := by decide +kernel
theorem dX11_runs_54 : decode cX11_runs 54 = .ok (.invokevirtual 205, 3) := by decide +kernel
theorem dX11_runs_57 : decode cX11_runs 57 = .ok (.ifCond .eq 140, 3) := by decide +kernel
theorem dX11_runs_60 : decode cX11_runs 60 = .ok (.aload_n 0, 1) := by decide +kernel
theorem dX11_runs_61 : decode cX11_runs 61 = .ok (.getfield 249, 3) := by decide +kernel
theorem dX11_runs_64 : decode cX11_runs 64 = .ok (.iconst (-1), 1) := by decide +kernel
theorem dX11_runs_65 : decode cX11_runs 65 = .ok (.if_icmp .ne 132, 3) := by decide +kernel
theorem dX11_runs_68 : decode cX11_runs 68 = .ok (.aload_n 0, 1) := by decide +kernel
theorem dX11_runs_69 : decode cX11_runs 69 = .ok (.aload_n 0, 1) := by decide +kernel
theorem dX11_runs_70 : decode cX11_runs 70 = .ok (.getfield 174, 3) := by decide +kernel
theorem dX11_runs_73 : decode cX11_runs 73 = .ok (.invokevirtual 86, 3) := by decide +kernel
theorem dX11_runs_76 : decode cX11_runs 76 = .ok (.iconst 4, 1) := by decide +kernel
theorem dX11_runs_77 : decode cX11_runs 77 = .ok (.if_icmp .ne 15, 3) := by decide +kernel
theorem dX11_runs_80 : decode cX11_runs 80 = .ok (.iload_n 1, 1) := by decide +kernel
theorem dX11_runs_81 : decode cX11_runs 81 = .ok (.ifCond .eq 11, 3) := by decide +kernel
theorem dX11_runs_84 : decode cX11_runs 84 = .ok (.aload_n 0, 1) := by decide +kernel
theorem dX11_runs_85 : decode cX11_runs 85 = .ok (.aload_n 0, 1) := by decide +kernel
theorem dX11_runs_86 : decode cX11_runs 86 = .ok (.getfield 174, 3) := by decide +kernel
theorem dX11_runs_89 : decode cX11_runs 89 = .ok (.invokevirtual 255, 3) := by decide +kernel
theorem dX11_runs_92 : decode cX11_runs 92 = .ok (.aload_n 0, 1) := by decide +kernel
theorem dX11_runs_93 : decode cX11_runs 93 = .ok (.aload_n 0, 1) := by decide +kernel
theorem dX11_runs_94 : decode cX11_runs 94 = .ok (.getfield 174, 3) := by decide +kernel
theorem dX11_runs_97 : decode cX11_runs 97 = .ok (.invokevirtual 163, 3) := by decide +kernel
theorem dX11_runs_100 : decode cX11_runs 100 = .ok (.ifCond .ne 90, 3) := by decide +kernel
theorem dX11_runs_103 : decode cX11_runs 103 = .ok (.aload_n 0, 1) := by decide +kernel
theorem dX11_runs_104 : decode cX11_runs 104 = .ok (.aload_n 0, 1) := by decide +kernel
theorem dX11_runs_105 : decode cX11_runs 105 = .ok (.getfield 174, 3) := by decide +kernel
theorem dX11_runs_108 : decode cX11_runs 108 = .ok (.invokevirtual 259, 3) := by decide +kernel
theorem dX11_runs_111 : decode cX11_runs 111 = .ok (.lstore_n 2, 1) := by decide +kernel
theorem dX11_runs_112 : decode cX11_runs 112 = .ok (.aload_n 0, 1) := by decide +kernel
theorem dX11_runs_113 : decode cX11_runs 113 = .ok (.aload_n 0, 1) := by decide +kernel
theorem dX11_runs_114 : decode cX11_runs 114 = .ok (.getfield 174, 3) := by decide +kernel
theorem dX11_runs_117 : decode cX11_runs 117 = .ok (.iload_n 1, 1) := by decide +kernel
theorem dX11_runs_118 : decode cX11_runs 118 = .ok (.invokevirtual 262, 3) := by decide +kernel
theorem dX11_runs_121 : decode cX11_runs 121 = .ok (.istore 4, 2) := by decide +kernel
theorem dX11_runs_123 : decode cX11_runs 123 = .ok (.aload_n 0, 1) := by decide +kernel
theorem dX11_runs_124 : decode cX11_runs 124 = .ok (.dup, 1) := by decide +kernel
theorem dX11_runs_125 : decode cX11_runs 125 = .ok (.getfield 242, 3) := by decide +kernel
theorem dX11_runs_128 : decode cX11_runs 128 = .ok (.iload 4, 2) := by decide +kernel
theorem dX11_runs_130 : decode cX11_runs 130 = .ok (.ifCond .eq 7, 3) := by decide +kernel
theorem dX11_runs_133 : decode cX11_runs 133 = .ok (.iconst 1, 1) := by decide +kernel
theorem dX11_runs_134 : decode cX11_runs 134 = .ok (.goto 4, 3) := by decide +kernel
theorem dX11_runs_137 : decode cX11_runs 137 = .ok (.iconst 0, 1) := by decide +kernel
theorem dX11_runs_138 : decode cX11_runs 138 = .ok (.iadd, 1) := by decide +kernel
theorem dX11_runs_139 : decode cX11_runs 139 = .ok (.putfield 242, 3) := by decide +kernel
theorem dX11_runs_142 : decode cX11_runs 142 = .ok (.iload 4, 2) := by decide +kernel
theorem dX11_runs_144 : decode cX11_runs 144 = .ok (.ifCond .eq 21, 3) := by decide +kernel
theorem dX11_runs_147 : decode cX11_runs 147 = .ok (.lload_n 2, 1) := by decide +kernel
theorem dX11_runs_148 : decode cX11_runs 148 = .ok (.invokestatic 245, 3) := by decide +kernel
theorem dX11_runs_151 : decode cX11_runs 151 = .ok (.ifCond .ne 14, 3) := by decide +kernel
theorem dX11_runs_154 : decode cX11_runs 154 = .ok (.aload_n 0, 1) := by decide +kernel
theorem dX11_runs_155 : decode cX11_runs 155 = .ok (.aload_n 0, 1) := by decide +kernel
theorem dX11_runs_156 : decode cX11_runs 156 = .ok (.getfield 174, 3) := by decide +kernel
theorem dX11_runs_159 : decode cX11_runs 159 = .ok (.putfield 249, 3) := by decide +kernel
theorem dX11_runs_162 : decode cX11_runs 162 = .ok (.goto 28, 3) := by decide +kernel
theorem dX11_runs_165 : decode cX11_runs 165 = .ok (.aload_n 0, 1) := by decide +kernel
theorem dX11_runs_166 : decode cX11_runs 166 = .ok (.getfield 69, 3) := by decide +kernel
theorem dX11_runs_169 : decode cX11_runs 169 = .ok (.aload_n 0, 1) := by decide +kernel
theorem dX11_runs_170 : decode cX11_runs 170 = .ok (.aload_n 0, 1) := by decide +kernel
theorem dX11_runs_171 : decode cX11_runs 171 = .ok (.getfield 174, 3) := by decide +kernel
theorem dX11_runs_174 : decode cX11_runs 174 = .ok (.iconst 1, 1) := by decide +kernel
theorem dX11_runs_175 : decode cX11_runs 175 = .ok (.invokevirtual 82, 3) := by decide +kernel
theorem dX11_runs_178 : decode cX11_runs 178 = .ok (.lload_n 2, 1) := by decide +kernel
theorem dX11_runs_179 : decode cX11_runs 179 = .ok (.lastore, 1) := by decide +kernel
theorem dX11_runs_180 : decode cX11_runs 180 = .ok (.aload_n 0, 1) := by decide +kernel
theorem dX11_runs_181 : decode cX11_runs 181 = .ok (.dup, 1) := by decide +kernel
theorem dX11_runs_182 : decode cX11_runs 182 = .ok (.getfield 252, 3) := by decide +kernel
theorem dX11_runs_185 : decode cX11_runs 185 = .ok (.iconst 1, 1) := by decide +kernel
theorem dX11_runs_186 : decode cX11_runs 186 = .ok (.iadd, 1) := by decide +kernel
theorem dX11_runs_187 : decode cX11_runs 187 = .ok (.putfield 252, 3) := by decide +kernel
theorem dX11_runs_190 : decode cX11_runs 190 = .ok (.aload_n 0, 1) := by decide +kernel
theorem dX11_runs_191 : decode cX11_runs 191 = .ok (.invokevirtual 211, 3) := by decide +kernel
theorem dX11_runs_194 : decode cX11_runs 194 = .ok (.goto (-141), 3) := by decide +kernel
theorem dX11_runs_197 : decode cX11_runs 197 = .ok (.return_, 1) := by decide +kernel
theorem dX11_outcome_0 : decode cX11_outcome 0 = .ok (.iload_n 1, 1) := by decide +kernel
theorem dX11_outcome_1 : decode cX11_outcome 1 = .ok (.ifCond .eq 7, 3) := by decide +kernel
theorem dX11_outcome_4 : decode cX11_outcome 4 = .ok (.aload_n 0, 1) := by decide +kernel
theorem dX11_outcome_5 : decode cX11_outcome 5 = .ok (.invokevirtual 227, 3) := by decide +kernel
theorem dX11_outcome_8 : decode cX11_outcome 8 = .ok (.aload_n 0, 1) := by decide +kernel
theorem dX11_outcome_9 : decode cX11_outcome 9 = .ok (.iload_n 1, 1) := by decide +kernel
theorem dX11_outcome_10 : decode cX11_outcome 10 = .ok (.invokevirtual 266, 3) := by decide +kernel
theorem dX11_outcome_13 : decode cX11_outcome 13 = .ok (.aload_n 0, 1) := by decide +kernel
theorem dX11_outcome_14 : decode cX11_outcome 14 = .ok (.getfield 242, 3) := by decide +kernel
theorem dX11_outcome_17 : decode cX11_outcome 17 = .ok (.istore_n 2, 1) := by decide +kernel
theorem dX11_outcome_18 : decode cX11_outcome 18 = .ok (.iload_n 1, 1) := by decide +kernel
theorem dX11_outcome_19 : decode cX11_outcome 19 = .ok (.ifCond .eq 16, 3) := by decide +kernel
theorem dX11_outcome_22 : decode cX11_outcome 22 = .ok (.aload_n 0, 1) := by decide +kernel
theorem dX11_outcome_23 : decode cX11_outcome 23 = .ok (.getfield 249, 3) := by decide +kernel
theorem dX11_outcome_26 : decode cX11_outcome 26 = .ok (.iconst (-1), 1) := by decide +kernel
theorem dX11_outcome_27 : decode cX11_outcome 27 = .ok (.if_icmp .eq 8, 3) := by decide +kernel
theorem dX11_outcome_30 : decode cX11_outcome 30 = .ok (.aload_n 0, 1) := by decide +kernel
theorem dX11_outcome_31 : decode cX11_outcome 31 = .ok (.iconst 0, 1) := by decide +kernel
theorem dX11_outcome_32 : decode cX11_outcome 32 = .ok (.invokevirtual 266, 3) := by decide +kernel
theorem dX11_outcome_35 : decode cX11_outcome 35 = .ok (.iload_n 2, 1) := by decide +kernel
theorem dX11_outcome_36 : decode cX11_outcome 36 = .ok (.ireturn, 1) := by decide +kernel
theorem dX11_failure_0 : decode cX11_failure 0 = .ok (.aload_n 0, 1) := by decide +kernel
theorem dX11_failure_1 : decode cX11_failure 1 = .ok (.iconst 0, 1) := by decide +kernel
theorem dX11_failure_2 : decode cX11_failure 2 = .ok (.putfield 75, 3) := by decide +kernel
theorem dX11_failure_5 : decode cX11_failure 5 = .ok (.aload_n 0, 1) := by decide +kernel
theorem dX11_failure_6 : decode cX11_failure 6 = .ok (.iload_n 1, 1) := by decide +kernel
theorem dX11_failure_7 : decode cX11_failure 7 = .ok (.invokevirtual 270, 3) := by decide +kernel
theorem dX11_failure_10 : decode cX11_failure 10 = .ok (.istore_n 2, 1) := by decide +kernel
theorem dX11_failure_11 : decode cX11_failure 11 = .ok (.aload_n 0, 1) := by decide +kernel
theorem dX11_failure_12 : decode cX11_failure 12 = .ok (.getfield 249, 3) := by decide +kernel
theorem dX11_failure_15 : decode cX11_failure 15 = .ok (.ireturn, 1) := by decide +kernel
theorem dX11_result_0 : decode cX11_result 0 = .ok (.aload_n 0, 1) := by decide +kernel
theorem dX11_result_1 : decode cX11_result 1 = .ok (.iload_n 1, 1) := by decide +kernel
theorem dX11_result_2 : decode cX11_result 2 = .ok (.invokestatic 154, 3) := by decide +kernel
theorem dX11_result_5 : decode cX11_result 5 = .ok (.iconst 1, 1) := by decide +kernel
theorem dX11_result_6 : decode cX11_result 6 = .ok (.invokevirtual 101, 3) := by decide +kernel
theorem dX11_result_9 : decode cX11_result 9 = .ok (.ifCond .ne 5, 3) := by decide +kernel
theorem dX11_result_12 : decode cX11_result 12 = .ok (.iconst 0, 1) := by decide +kernel
theorem dX11_result_13 : decode cX11_result 13 = .ok (.ireturn, 1) := by decide +kernel
theorem dX11_result_14 : decode cX11_result 14 = .ok (.aload_n 0, 1) := by decide +kernel
theorem dX11_result_15 : decode cX11_result 15 = .ok (.iload_n 2, 1) := by decide +kernel
theorem dX11_result_16 : decode cX11_result 16 = .ok (.invokevirtual 270, 3) := by decide +kernel
theorem dX11_result_19 : decode cX11_result 19 = .ok (.istore_n 3, 1) := by decide +kernel
theorem dX11_result_20 : decode cX11_result 20 = .ok (.aload_n 0, 1) := by decide +kernel
theorem dX11_result_21 : decode cX11_result 21 = .ok (.getfield 69, 3) := by decide +kernel
theorem dX11_result_24 : decode cX11_result 24 = .ok (.iload_n 1, 1) := by decide +kernel
theorem dX11_result_25 : decode cX11_result 25 = .ok (.laload, 1) := by decide +kernel
theorem dX11_result_26 : decode cX11_result 26 = .ok (.l2i, 1) := by decide +kernel
theorem dX11_result_27 : decode cX11_result 27 = .ok (.ireturn, 1) := by decide +kernel
theorem dX11_checks_0 : decode cX11_checks 0 = .ok (.aload_n 0, 1) := by decide +kernel
theorem dX11_checks_1 : decode cX11_checks 1 = .ok (.iconst 0, 1) := by decide +kernel
theorem dX11_checks_2 : decode cX11_checks 2 = .ok (.putfield 75, 3) := by decide +kernel
theorem dX11_checks_5 : decode cX11_checks 5 = .ok (.aload_n 0, 1) := by decide +kernel
theorem dX11_checks_6 : decode cX11_checks 6 = .ok (.iload_n 1, 1) := by decide +kernel
theorem dX11_checks_7 : decode cX11_checks 7 = .ok (.invokevirtual 270, 3) := by decide +kernel
theorem dX11_checks_10 : decode cX11_checks 10 = .ok (.ireturn, 1) := by decide +kernel
theorem dX11_executed_0 : decode cX11_executed 0 = .ok (.aload_n 0, 1) := by decide +kernel
theorem dX11_executed_1 : decode cX11_executed 1 = .ok (.iconst 0, 1) := by decide +kernel
theorem dX11_executed_2 : decode cX11_executed 2 = .ok (.putfield 75, 3) := by decide +kernel
theorem dX11_executed_5 : decode cX11_executed 5 = .ok (.aload_n 0, 1) := by decide +kernel
theorem dX11_executed_6 : decode cX11_executed 6 = .ok (.iconst 0, 1) := by decide +kernel
theorem dX11_executed_7 : decode cX11_executed 7 = .ok (.invokevirtual 266, 3) := by decide +kernel
theorem dX11_executed_10 : decode cX11_executed 10 = .ok (.aload_n 0, 1) := by decide +kernel
theorem dX11_executed_11 : decode cX11_executed 11 = .ok (.getfield 252, 3) := by decide +kernel
theorem dX11_executed_14 : decode cX11_executed 14 = .ok (.ireturn, 1) := by decide +kernel
theorem dX11_saving_0 : decode cX11_saving 0 = .ok (.aload_n 0, 1) := by decide +kernel
theorem dX11_saving_1 : decode cX11_saving 1 = .ok (.iconst 0, 1) := by decide +kernel
theorem dX11_saving_2 : decode cX11_saving 2 = .ok (.putfield 75, 3) := by decide +kernel
theorem dX11_saving_5 : decode cX11_saving 5 = .ok (.aload_n 0, 1) := by decide +kernel
theorem dX11_saving_6 : decode cX11_saving 6 = .ok (.iconst 0, 1) := by decide +kernel
theorem dX11_saving_7 : decode cX11_saving 7 = .ok (.invokevirtual 270, 3) := by decide +kernel
theorem dX11_saving_10 : decode cX11_saving 10 = .ok (.istore_n 1, 1) := by decide +kernel
theorem dX11_saving_11 : decode cX11_saving 11 = .ok (.aload_n 0, 1) := by decide +kernel
theorem dX11_saving_12 : decode cX11_saving 12 = .ok (.iconst 1, 1) := by decide +kernel
theorem dX11_saving_13 : decode cX11_saving 13 = .ok (.invokevirtual 270, 3) := by decide +kernel
theorem dX11_saving_16 : decode cX11_saving 16 = .ok (.istore_n 2, 1) := by decide +kernel
theorem dX11_saving_17 : decode cX11_saving 17 = .ok (.iload_n 1, 1) := by decide +kernel
theorem dX11_saving_18 : decode cX11_saving 18 = .ok (.ifCond .ne 7, 3) := by decide +kernel
theorem dX11_saving_21 : decode cX11_saving 21 = .ok (.dconst 0, 1) := by decide +kernel
theorem dX11_saving_22 : decode cX11_saving 22 = .ok (.goto 10, 3) := by decide +kernel
theorem dX11_saving_25 : decode cX11_saving 25 = .ok (.dconst 1, 1) := by decide +kernel
theorem dX11_saving_26 : decode cX11_saving 26 = .ok (.iload_n 2, 1) := by decide +kernel
theorem dX11_saving_27 : decode cX11_saving 27 = .ok (.i2d, 1) := by decide +kernel
theorem dX11_saving_28 : decode cX11_saving 28 = .ok (.iload_n 1, 1) := by decide +kernel
theorem dX11_saving_29 : decode cX11_saving 29 = .ok (.i2d, 1) := by decide +kernel
theorem dX11_saving_30 : decode cX11_saving 30 = .ok (.ddiv, 1) := by decide +kernel
theorem dX11_saving_31 : decode cX11_saving 31 = .ok (.dsub, 1) := by decide +kernel
theorem dX11_saving_32 : decode cX11_saving 32 = .ok (.dreturn, 1) := by decide +kernel
theorem dX11_openOnes_0 : decode cX11_openOnes 0 = .ok (.bipush 121, 2) := by decide +kernel
theorem dX11_openOnes_2 : decode cX11_openOnes 2 = .ok (.iconst 3, 1) := by decide +kernel
theorem dX11_openOnes_3 : decode cX11_openOnes 3 = .ok (.iload_n 1, 1) := by decide +kernel
theorem dX11_openOnes_4 : decode cX11_openOnes 4 = .ok (.imul, 1) := by decide +kernel
theorem dX11_openOnes_5 : decode cX11_openOnes 5 = .ok (.iadd, 1) := by decide +kernel
theorem dX11_openOnes_6 : decode cX11_openOnes 6 = .ok (.istore 4, 2) := by decide +kernel
theorem dX11_openOnes_8 : decode cX11_openOnes 8 = .ok (.aload_n 0, 1) := by decide +kernel
theorem dX11_openOnes_9 : decode cX11_openOnes 9 = .ok (.getfield 7, 3) := by decide +kernel
theorem dX11_openOnes_12 : decode cX11_openOnes 12 = .ok (.iload 4, 2) := by decide +kernel
theorem dX11_openOnes_14 : decode cX11_openOnes 14 = .ok (.iaload, 1) := by decide +kernel
theorem dX11_openOnes_15 : decode cX11_openOnes 15 = .ok (.istore 5, 2) := by decide +kernel
theorem dX11_openOnes_17 : decode cX11_openOnes 17 = .ok (.aload_n 0, 1) := by decide +kernel
theorem dX11_openOnes_18 : decode cX11_openOnes 18 = .ok (.getfield 7, 3) := by decide +kernel
theorem dX11_openOnes_21 : decode cX11_openOnes 21 = .ok (.iload 4, 2) := by decide +kernel
theorem dX11_openOnes_23 : decode cX11_openOnes 23 = .ok (.iconst 1, 1) := by decide +kernel
theorem dX11_openOnes_24 : decode cX11_openOnes 24 = .ok (.iadd, 1) := by decide +kernel
theorem dX11_openOnes_25 : decode cX11_openOnes 25 = .ok (.iaload, 1) := by decide +kernel
theorem dX11_openOnes_26 : decode cX11_openOnes 26 = .ok (.istore 6, 2) := by decide +kernel
theorem dX11_openOnes_28 : decode cX11_openOnes 28 = .ok (.aload_n 0, 1) := by decide +kernel
theorem dX11_openOnes_29 : decode cX11_openOnes 29 = .ok (.getfield 7, 3) := by decide +kernel
theorem dX11_openOnes_32 : decode cX11_openOnes 32 = .ok (.iload 4, 2) := by decide +kernel
theorem dX11_openOnes_34 : decode cX11_openOnes 34 = .ok (.iload_n 2, 1) := by decide +kernel
theorem dX11_openOnes_35 : decode cX11_openOnes 35 = .ok (.iastore, 1) := by decide +kernel
theorem dX11_openOnes_36 : decode cX11_openOnes 36 = .ok (.aload_n 0, 1) := by decide +kernel
theorem dX11_openOnes_37 : decode cX11_openOnes 37 = .ok (.getfield 7, 3) := by decide +kernel
theorem dX11_openOnes_40 : decode cX11_openOnes 40 = .ok (.iload 4, 2) := by decide +kernel
theorem dX11_openOnes_42 : decode cX11_openOnes 42 = .ok (.iconst 1, 1) := by decide +kernel
theorem dX11_openOnes_43 : decode cX11_openOnes 43 = .ok (.iadd, 1) := by decide +kernel
theorem dX11_openOnes_44 : decode cX11_openOnes 44 = .ok (.iload_n 3, 1) := by decide +kernel
theorem dX11_openOnes_45 : decode cX11_openOnes 45 = .ok (.iastore, 1) := by decide +kernel
theorem dX11_openOnes_46 : decode cX11_openOnes 46 = .ok (.aload_n 0, 1) := by decide +kernel
theorem dX11_openOnes_47 : decode cX11_openOnes 47 = .ok (.invokevirtual 227, 3) := by decide +kernel
theorem dX11_openOnes_50 : decode cX11_openOnes 50 = .ok (.aload_n 0, 1) := by decide +kernel
theorem dX11_openOnes_51 : decode cX11_openOnes 51 = .ok (.getfield 7, 3) := by decide +kernel
theorem dX11_openOnes_54 : decode cX11_openOnes 54 = .ok (.iload 4, 2) := by decide +kernel
theorem dX11_openOnes_56 : decode cX11_openOnes 56 = .ok (.iload 5, 2) := by decide +kernel
theorem dX11_openOnes_58 : decode cX11_openOnes 58 = .ok (.iastore, 1) := by decide +kernel
theorem dX11_openOnes_59 : decode cX11_openOnes 59 = .ok (.aload_n 0, 1) := by decide +kernel
theorem dX11_openOnes_60 : decode cX11_openOnes 60 = .ok (.getfield 7, 3) := by decide +kernel
theorem dX11_openOnes_63 : decode cX11_openOnes 63 = .ok (.iload 4, 2) := by decide +kernel
theorem dX11_openOnes_65 : decode cX11_openOnes 65 = .ok (.iconst 1, 1) := by decide +kernel
theorem dX11_openOnes_66 : decode cX11_openOnes 66 = .ok (.iadd, 1) := by decide +kernel
theorem dX11_openOnes_67 : decode cX11_openOnes 67 = .ok (.iload 6, 2) := by decide +kernel
theorem dX11_openOnes_69 : decode cX11_openOnes 69 = .ok (.iastore, 1) := by decide +kernel
theorem dX11_openOnes_70 : decode cX11_openOnes 70 = .ok (.aload_n 0, 1) := by decide +kernel
theorem dX11_openOnes_71 : decode cX11_openOnes 71 = .ok (.iconst 2, 1) := by decide +kernel
theorem dX11_openOnes_72 : decode cX11_openOnes 72 = .ok (.iconst 4, 1) := by decide +kernel
theorem dX11_openOnes_73 : decode cX11_openOnes 73 = .ok (.invokevirtual 232, 3) := by decide +kernel
theorem dX11_openOnes_76 : decode cX11_openOnes 76 = .ok (.ireturn, 1) := by decide +kernel
theorem dX11_openWith_0 : decode cX11_openWith 0 = .ok (.aload_n 0, 1) := by decide +kernel
theorem dX11_openWith_1 : decode cX11_openWith 1 = .ok (.iload_n 1, 1) := by decide +kernel
theorem dX11_openWith_2 : decode cX11_openWith 2 = .ok (.invokestatic 154, 3) := by decide +kernel
theorem dX11_openWith_5 : decode cX11_openWith 5 = .ok (.iload_n 2, 1) := by decide +kernel
theorem dX11_openWith_6 : decode cX11_openWith 6 = .ok (.iload_n 3, 1) := by decide +kernel
theorem dX11_openWith_7 : decode cX11_openWith 7 = .ok (.if_icmp .gt 7, 3) := by decide +kernel
theorem dX11_openWith_10 : decode cX11_openWith 10 = .ok (.iconst 1, 1) := by decide +kernel
theorem dX11_openWith_11 : decode cX11_openWith 11 = .ok (.goto 4, 3) := by decide +kernel
theorem dX11_openWith_14 : decode cX11_openWith 14 = .ok (.iconst 0, 1) := by decide +kernel
theorem dX11_openWith_15 : decode cX11_openWith 15 = .ok (.invokevirtual 101, 3) := by decide +kernel
theorem dX11_openWith_18 : decode cX11_openWith 18 = .ok (.ifCond .eq 13, 3) := by decide +kernel
theorem dX11_openWith_21 : decode cX11_openWith 21 = .ok (.aload_n 0, 1) := by decide +kernel
theorem dX11_openWith_22 : decode cX11_openWith 22 = .ok (.iload_n 1, 1) := by decide +kernel
theorem dX11_openWith_23 : decode cX11_openWith 23 = .ok (.iload_n 2, 1) := by decide +kernel
theorem dX11_openWith_24 : decode cX11_openWith 24 = .ok (.iload_n 3, 1) := by decide +kernel
theorem dX11_openWith_25 : decode cX11_openWith 25 = .ok (.invokevirtual 274, 3) := by decide +kernel
theorem dX11_openWith_28 : decode cX11_openWith 28 = .ok (.goto 4, 3) := by decide +kernel
theorem dX11_openWith_31 : decode cX11_openWith 31 = .ok (.iconst 0, 1) := by decide +kernel
theorem dX11_openWith_32 : decode cX11_openWith 32 = .ok (.ireturn, 1) := by decide +kernel
theorem dX11_safePower_0 : decode cX11_safePower 0 = .ok (.aload_n 0, 1) := by decide +kernel
theorem dX11_safePower_1 : decode cX11_safePower 1 = .ok (.iload_n 1, 1) := by decide +kernel
theorem dX11_safePower_2 : decode cX11_safePower 2 = .ok (.invokestatic 154, 3) := by decide +kernel
theorem dX11_safePower_5 : decode cX11_safePower 5 = .ok (.iconst 1, 1) := by decide +kernel
theorem dX11_safePower_6 : decode cX11_safePower 6 = .ok (.invokevirtual 101, 3) := by decide +kernel
theorem dX11_safePower_9 : decode cX11_safePower 9 = .ok (.ifCond .ne 5, 3) := by decide +kernel
theorem dX11_safePower_12 : decode cX11_safePower 12 = .ok (.iconst 0, 1) := by decide +kernel
theorem dX11_safePower_13 : decode cX11_safePower 13 = .ok (.ireturn, 1) := by decide +kernel
theorem dX11_safePower_14 : decode cX11_safePower 14 = .ok (.aload_n 0, 1) := by decide +kernel
theorem dX11_safePower_15 : decode cX11_safePower 15 = .ok (.getfield 7, 3) := by decide +kernel
theorem dX11_safePower_18 : decode cX11_safePower 18 = .ok (.bipush 121, 2) := by decide +kernel
theorem dX11_safePower_20 : decode cX11_safePower 20 = .ok (.iconst 3, 1) := by decide +kernel
theorem dX11_safePower_21 : decode cX11_safePower 21 = .ok (.iload_n 1, 1) := by decide +kernel
theorem dX11_safePower_22 : decode cX11_safePower 22 = .ok (.imul, 1) := by decide +kernel
theorem dX11_safePower_23 : decode cX11_safePower 23 = .ok (.iadd, 1) := by decide +kernel
theorem dX11_safePower_24 : decode cX11_safePower 24 = .ok (.iaload, 1) := by decide +kernel
theorem dX11_safePower_25 : decode cX11_safePower 25 = .ok (.istore_n 2, 1) := by decide +kernel
theorem dX11_safePower_26 : decode cX11_safePower 26 = .ok (.iconst 0, 1) := by decide +kernel
theorem dX11_safePower_27 : decode cX11_safePower 27 = .ok (.istore_n 3, 1) := by decide +kernel
theorem dX11_safePower_28 : decode cX11_safePower 28 = .ok (.iconst 0, 1) := by decide +kernel
theorem dX11_safePower_29 : decode cX11_safePower 29 = .ok (.istore 4, 2) := by decide +kernel
theorem dX11_safePower_31 : decode cX11_safePower 31 = .ok (.iload 4, 2) := by decide +kernel
theorem dX11_safePower_33 : decode cX11_safePower 33 = .ok (.bipush 31, 2) := by decide +kernel
theorem dX11_safePower_35 : decode cX11_safePower 35 = .ok (.if_icmp .ge 44, 3) := by decide +kernel
theorem dX11_safePower_38 : decode cX11_safePower 38 = .ok (.iconst 1, 1) := by decide +kernel
theorem dX11_safePower_39 : decode cX11_safePower 39 = .ok (.iload 4, 2) := by decide +kernel
theorem dX11_safePower_41 : decode cX11_safePower 41 = .ok (.ishl, 1) := by decide +kernel
theorem dX11_safePower_42 : decode cX11_safePower 42 = .ok (.istore 5, 2) := by decide +kernel
theorem dX11_safePower_44 : decode cX11_safePower 44 = .ok (.iload 5, 2) := by decide +kernel
theorem dX11_safePower_46 : decode cX11_safePower 46 = .ok (.i2l, 1) := by decide +kernel
theorem dX11_safePower_47 : decode cX11_safePower 47 = .ok (.iload_n 2, 1) := by decide +kernel
theorem dX11_safePower_48 : decode cX11_safePower 48 = .ok (.i2l, 1) := by decide +kernel
theorem dX11_safePower_49 : decode cX11_safePower 49 = .ok (.lconst 1, 1) := by decide +kernel
theorem dX11_safePower_50 : decode cX11_safePower 50 = .ok (.ladd, 1) := by decide +kernel
theorem dX11_safePower_51 : decode cX11_safePower 51 = .ok (.lcmp, 1) := by decide +kernel
theorem dX11_safePower_52 : decode cX11_safePower 52 = .ok (.ifCond .lt 21, 3) := by decide +kernel
theorem dX11_safePower_55 : decode cX11_safePower 55 = .ok (.aload_n 0, 1) := by decide +kernel
theorem dX11_safePower_56 : decode cX11_safePower 56 = .ok (.iload_n 1, 1) := by decide +kernel
theorem dX11_safePower_57 : decode cX11_safePower 57 = .ok (.iload_n 2, 1) := by decide +kernel
theorem dX11_safePower_58 : decode cX11_safePower 58 = .ok (.iload 5, 2) := by decide +kernel
theorem dX11_safePower_60 : decode cX11_safePower 60 = .ok (.iconst 1, 1) := by decide +kernel
theorem dX11_safePower_61 : decode cX11_safePower 61 = .ok (.isub, 1) := by decide +kernel
theorem dX11_safePower_62 : decode cX11_safePower 62 = .ok (.invokevirtual 274, 3) := by decide +kernel
theorem dX11_safePower_65 : decode cX11_safePower 65 = .ok (.ifCond .le 5, 3) := by decide +kernel
theorem dX11_safePower_68 : decode cX11_safePower 68 = .ok (.iload_n 3, 1) := by decide +kernel
theorem dX11_safePower_69 : decode cX11_safePower 69 = .ok (.ireturn, 1) := by decide +kernel
theorem dX11_safePower_70 : decode cX11_safePower 70 = .ok (.iload 5, 2) := by decide +kernel
theorem dX11_safePower_72 : decode cX11_safePower 72 = .ok (.istore_n 3, 1) := by decide +kernel
theorem dX11_safePower_73 : decode cX11_safePower 73 = .ok (.iinc 4 1, 3) := by decide +kernel
theorem dX11_safePower_76 : decode cX11_safePower 76 = .ok (.goto (-45), 3) := by decide +kernel
theorem dX11_safePower_79 : decode cX11_safePower 79 = .ok (.iload_n 3, 1) := by decide +kernel
theorem dX11_safePower_80 : decode cX11_safePower 80 = .ok (.ireturn, 1) := by decide +kernel
theorem dX11_failingInput_0 : decode cX11_failingInput 0 = .ok (.aload_n 0, 1) := by decide +kernel
theorem dX11_failingInput_1 : decode cX11_failingInput 1 = .ok (.iload_n 1, 1) := by decide +kernel
theorem dX11_failingInput_2 : decode cX11_failingInput 2 = .ok (.invokestatic 154, 3) := by decide +kernel
theorem dX11_failingInput_5 : decode cX11_failingInput 5 = .ok (.iconst 1, 1) := by decide +kernel
theorem dX11_failingInput_6 : decode cX11_failingInput 6 = .ok (.invokevirtual 101, 3) := by decide +kernel
theorem dX11_failingInput_9 : decode cX11_failingInput 9 = .ok (.ifCond .ne 5, 3) := by decide +kernel
theorem dX11_failingInput_12 : decode cX11_failingInput 12 = .ok (.iconst 0, 1) := by decide +kernel
theorem dX11_failingInput_13 : decode cX11_failingInput 13 = .ok (.ireturn, 1) := by decide +kernel
theorem dX11_failingInput_14 : decode cX11_failingInput 14 = .ok (.bipush 121, 2) := by decide +kernel
theorem dX11_failingInput_16 : decode cX11_failingInput 16 = .ok (.iconst 3, 1) := by decide +kernel
theorem dX11_failingInput_17 : decode cX11_failingInput 17 = .ok (.iload_n 1, 1) := by decide +kernel
theorem dX11_failingInput_18 : decode cX11_failingInput 18 = .ok (.imul, 1) := by decide +kernel
theorem dX11_failingInput_19 : decode cX11_failingInput 19 = .ok (.iadd, 1) := by decide +kernel
theorem dX11_failingInput_20 : decode cX11_failingInput 20 = .ok (.istore_n 2, 1) := by decide +kernel
theorem dX11_failingInput_21 : decode cX11_failingInput 21 = .ok (.aload_n 0, 1) := by decide +kernel
theorem dX11_failingInput_22 : decode cX11_failingInput 22 = .ok (.getfield 7, 3) := by decide +kernel
theorem dX11_failingInput_25 : decode cX11_failingInput 25 = .ok (.iload_n 2, 1) := by decide +kernel
theorem dX11_failingInput_26 : decode cX11_failingInput 26 = .ok (.iconst 2, 1) := by decide +kernel
theorem dX11_failingInput_27 : decode cX11_failingInput 27 = .ok (.iadd, 1) := by decide +kernel
theorem dX11_failingInput_28 : decode cX11_failingInput 28 = .ok (.iaload, 1) := by decide +kernel
theorem dX11_failingInput_29 : decode cX11_failingInput 29 = .ok (.istore_n 3, 1) := by decide +kernel
theorem dX11_failingInput_30 : decode cX11_failingInput 30 = .ok (.iload_n 3, 1) := by decide +kernel
theorem dX11_failingInput_31 : decode cX11_failingInput 31 = .ok (.i2l, 1) := by decide +kernel
theorem dX11_failingInput_32 : decode cX11_failingInput 32 = .ok (.lstore 4, 2) := by decide +kernel
theorem dX11_failingInput_34 : decode cX11_failingInput 34 = .ok (.iconst 0, 1) := by decide +kernel
theorem dX11_failingInput_35 : decode cX11_failingInput 35 = .ok (.istore 6, 2) := by decide +kernel
theorem dX11_failingInput_37 : decode cX11_failingInput 37 = .ok (.iload 6, 2) := by decide +kernel
theorem dX11_failingInput_39 : decode cX11_failingInput 39 = .ok (.ifCond .ne 70, 3) := by decide +kernel
theorem dX11_failingInput_42 : decode cX11_failingInput 42 = .ok (.lload 4, 2) := by decide +kernel
theorem dX11_failingInput_44 : decode cX11_failingInput 44 = .ok (.iload_n 3, 1) := by decide +kernel
theorem dX11_failingInput_45 : decode cX11_failingInput 45 = .ok (.i2l, 1) := by decide +kernel
theorem dX11_failingInput_46 : decode cX11_failingInput 46 = .ok (.ldc2_w 278, 3) := by decide +kernel
theorem dX11_failingInput_49 : decode cX11_failingInput 49 = .ok (.ladd, 1) := by decide +kernel
theorem dX11_failingInput_50 : decode cX11_failingInput 50 = .ok (.lcmp, 1) := by decide +kernel
theorem dX11_failingInput_51 : decode cX11_failingInput 51 = .ok (.ifCond .gt 58, 3) := by decide +kernel
theorem dX11_failingInput_54 : decode cX11_failingInput 54 = .ok (.lload 4, 2) := by decide +kernel
theorem dX11_failingInput_56 : decode cX11_failingInput 56 = .ok (.aload_n 0, 1) := by decide +kernel
theorem dX11_failingInput_57 : decode cX11_failingInput 57 = .ok (.getfield 7, 3) := by decide +kernel
theorem dX11_failingInput_60 : decode cX11_failingInput 60 = .ok (.iload_n 2, 1) := by decide +kernel
theorem dX11_failingInput_61 : decode cX11_failingInput 61 = .ok (.iconst 1, 1) := by decide +kernel
theorem dX11_failingInput_62 : decode cX11_failingInput 62 = .ok (.iadd, 1) := by decide +kernel
theorem dX11_failingInput_63 : decode cX11_failingInput 63 = .ok (.iaload, 1) := by decide +kernel
theorem dX11_failingInput_64 : decode cX11_failingInput 64 = .ok (.i2l, 1) := by decide +kernel
theorem dX11_failingInput_65 : decode cX11_failingInput 65 = .ok (.lcmp, 1) := by decide +kernel
theorem dX11_failingInput_66 : decode cX11_failingInput 66 = .ok (.ifCond .gt 43, 3) := by decide +kernel
theorem dX11_failingInput_69 : decode cX11_failingInput 69 = .ok (.aload_n 0, 1) := by decide +kernel
theorem dX11_failingInput_70 : decode cX11_failingInput 70 = .ok (.getfield 7, 3) := by decide +kernel
theorem dX11_failingInput_73 : decode cX11_failingInput 73 = .ok (.iload_n 2, 1) := by decide +kernel
theorem dX11_failingInput_74 : decode cX11_failingInput 74 = .ok (.iconst 2, 1) := by decide +kernel
theorem dX11_failingInput_75 : decode cX11_failingInput 75 = .ok (.iadd, 1) := by decide +kernel
theorem dX11_failingInput_76 : decode cX11_failingInput 76 = .ok (.lload 4, 2) := by decide +kernel
theorem dX11_failingInput_78 : decode cX11_failingInput 78 = .ok (.l2i, 1) := by decide +kernel
theorem dX11_failingInput_79 : decode cX11_failingInput 79 = .ok (.iastore, 1) := by decide +kernel
theorem dX11_failingInput_80 : decode cX11_failingInput 80 = .ok (.aload_n 0, 1) := by decide +kernel
theorem dX11_failingInput_81 : decode cX11_failingInput 81 = .ok (.iconst 0, 1) := by decide +kernel
theorem dX11_failingInput_82 : decode cX11_failingInput 82 = .ok (.invokevirtual 266, 3) := by decide +kernel
theorem dX11_failingInput_85 : decode cX11_failingInput 85 = .ok (.aload_n 0, 1) := by decide +kernel
theorem dX11_failingInput_86 : decode cX11_failingInput 86 = .ok (.getfield 249, 3) := by decide +kernel
theorem dX11_failingInput_89 : decode cX11_failingInput 89 = .ok (.iconst (-1), 1) := by decide +kernel
theorem dX11_failingInput_90 : decode cX11_failingInput 90 = .ok (.if_icmp .eq 7, 3) := by decide +kernel
theorem dX11_failingInput_93 : decode cX11_failingInput 93 = .ok (.iconst 1, 1) := by decide +kernel
theorem dX11_failingInput_94 : decode cX11_failingInput 94 = .ok (.goto 4, 3) := by decide +kernel
theorem dX11_failingInput_97 : decode cX11_failingInput 97 = .ok (.iconst 0, 1) := by decide +kernel
theorem dX11_failingInput_98 : decode cX11_failingInput 98 = .ok (.istore 6, 2) := by decide +kernel
theorem dX11_failingInput_100 : decode cX11_failingInput 100 = .ok (.lload 4, 2) := by decide +kernel
theorem dX11_failingInput_102 : decode cX11_failingInput 102 = .ok (.lconst 1, 1) := by decide +kernel
theorem dX11_failingInput_103 : decode cX11_failingInput 103 = .ok (.ladd, 1) := by decide +kernel
theorem dX11_failingInput_104 : decode cX11_failingInput 104 = .ok (.lstore 4, 2) := by decide +kernel
theorem dX11_failingInput_106 : decode cX11_failingInput 106 = .ok (.goto (-69), 3) := by decide +kernel
theorem dX11_failingInput_109 : decode cX11_failingInput 109 = .ok (.aload_n 0, 1) := by decide +kernel
theorem dX11_failingInput_110 : decode cX11_failingInput 110 = .ok (.getfield 7, 3) := by decide +kernel
theorem dX11_failingInput_113 : decode cX11_failingInput 113 = .ok (.iload_n 2, 1) := by decide +kernel
theorem dX11_failingInput_114 : decode cX11_failingInput 114 = .ok (.iconst 2, 1) := by decide +kernel
theorem dX11_failingInput_115 : decode cX11_failingInput 115 = .ok (.iadd, 1) := by decide +kernel
theorem dX11_failingInput_116 : decode cX11_failingInput 116 = .ok (.iload_n 3, 1) := by decide +kernel
theorem dX11_failingInput_117 : decode cX11_failingInput 117 = .ok (.iastore, 1) := by decide +kernel
theorem dX11_failingInput_118 : decode cX11_failingInput 118 = .ok (.iload 6, 2) := by decide +kernel
theorem dX11_failingInput_120 : decode cX11_failingInput 120 = .ok (.ifCond .eq 11, 3) := by decide +kernel
theorem dX11_failingInput_123 : decode cX11_failingInput 123 = .ok (.lload 4, 2) := by decide +kernel
theorem dX11_failingInput_125 : decode cX11_failingInput 125 = .ok (.lconst 1, 1) := by decide +kernel
theorem dX11_failingInput_126 : decode cX11_failingInput 126 = .ok (.lsub, 1) := by decide +kernel
theorem dX11_failingInput_127 : decode cX11_failingInput 127 = .ok (.l2i, 1) := by decide +kernel
theorem dX11_failingInput_128 : decode cX11_failingInput 128 = .ok (.goto 6, 3) := by decide +kernel
theorem dX11_failingInput_131 : decode cX11_failingInput 131 = .ok (.ldc_w 280, 3) := by decide +kernel
theorem dX11_failingInput_134 : decode cX11_failingInput 134 = .ok (.ireturn, 1) := by decide +kernel
theorem dX11_undo_0 : decode cX11_undo 0 = .ok (.aload_n 0, 1) := by decide +kernel
theorem dX11_undo_1 : decode cX11_undo 1 = .ok (.aload_n 0, 1) := by decide +kernel
theorem dX11_undo_2 : decode cX11_undo 2 = .ok (.getfield 79, 3) := by decide +kernel
theorem dX11_undo_5 : decode cX11_undo 5 = .ok (.ifCond .le 7, 3) := by decide +kernel
theorem dX11_undo_8 : decode cX11_undo 8 = .ok (.iconst 1, 1) := by decide +kernel
theorem dX11_undo_9 : decode cX11_undo 9 = .ok (.goto 4, 3) := by decide +kernel
theorem dX11_undo_12 : decode cX11_undo 12 = .ok (.iconst 0, 1) := by decide +kernel
theorem dX11_undo_13 : decode cX11_undo 13 = .ok (.iconst 1, 1) := by decide +kernel
theorem dX11_undo_14 : decode cX11_undo 14 = .ok (.invokevirtual 101, 3) := by decide +kernel
theorem dX11_undo_17 : decode cX11_undo 17 = .ok (.ifCond .ne 5, 3) := by decide +kernel
theorem dX11_undo_20 : decode cX11_undo 20 = .ok (.iconst 0, 1) := by decide +kernel
theorem dX11_undo_21 : decode cX11_undo 21 = .ok (.ireturn, 1) := by decide +kernel
theorem dX11_undo_22 : decode cX11_undo 22 = .ok (.aload_n 0, 1) := by decide +kernel
theorem dX11_undo_23 : decode cX11_undo 23 = .ok (.dup, 1) := by decide +kernel
theorem dX11_undo_24 : decode cX11_undo 24 = .ok (.getfield 79, 3) := by decide +kernel
theorem dX11_undo_27 : decode cX11_undo 27 = .ok (.iconst 1, 1) := by decide +kernel
theorem dX11_undo_28 : decode cX11_undo 28 = .ok (.isub, 1) := by decide +kernel
theorem dX11_undo_29 : decode cX11_undo 29 = .ok (.putfield 79, 3) := by decide +kernel
theorem dX11_undo_32 : decode cX11_undo 32 = .ok (.iconst 0, 1) := by decide +kernel
theorem dX11_undo_33 : decode cX11_undo 33 = .ok (.istore_n 1, 1) := by decide +kernel
theorem dX11_undo_34 : decode cX11_undo 34 = .ok (.iload_n 1, 1) := by decide +kernel
theorem dX11_undo_35 : decode cX11_undo 35 = .ok (.sipush 145, 3) := by decide +kernel
theorem dX11_undo_38 : decode cX11_undo 38 = .ok (.if_icmp .ge 30, 3) := by decide +kernel
theorem dX11_undo_41 : decode cX11_undo 41 = .ok (.aload_n 0, 1) := by decide +kernel
theorem dX11_undo_42 : decode cX11_undo 42 = .ok (.getfield 7, 3) := by decide +kernel
theorem dX11_undo_45 : decode cX11_undo 45 = .ok (.iload_n 1, 1) := by decide +kernel
theorem dX11_undo_46 : decode cX11_undo 46 = .ok (.aload_n 0, 1) := by decide +kernel
theorem dX11_undo_47 : decode cX11_undo 47 = .ok (.getfield 13, 3) := by decide +kernel
theorem dX11_undo_50 : decode cX11_undo 50 = .ok (.sipush 145, 3) := by decide +kernel
theorem dX11_undo_53 : decode cX11_undo 53 = .ok (.aload_n 0, 1) := by decide +kernel
theorem dX11_undo_54 : decode cX11_undo 54 = .ok (.getfield 79, 3) := by decide +kernel
theorem dX11_undo_57 : decode cX11_undo 57 = .ok (.imul, 1) := by decide +kernel
theorem dX11_undo_58 : decode cX11_undo 58 = .ok (.iload_n 1, 1) := by decide +kernel
theorem dX11_undo_59 : decode cX11_undo 59 = .ok (.iadd, 1) := by decide +kernel
theorem dX11_undo_60 : decode cX11_undo 60 = .ok (.iaload, 1) := by decide +kernel
theorem dX11_undo_61 : decode cX11_undo 61 = .ok (.iastore, 1) := by decide +kernel
theorem dX11_undo_62 : decode cX11_undo 62 = .ok (.iinc 1 1, 3) := by decide +kernel
theorem dX11_undo_65 : decode cX11_undo 65 = .ok (.goto (-31), 3) := by decide +kernel
theorem dX11_undo_68 : decode cX11_undo 68 = .ok (.aload_n 0, 1) := by decide +kernel
theorem dX11_undo_69 : decode cX11_undo 69 = .ok (.getfield 79, 3) := by decide +kernel
theorem dX11_undo_72 : decode cX11_undo 72 = .ok (.ireturn, 1) := by decide +kernel
theorem dX11_sumsRun_0 : decode cX11_sumsRun 0 = .ok (.aload_n 0, 1) := by decide +kernel
theorem dX11_sumsRun_1 : decode cX11_sumsRun 1 = .ok (.iload_n 3, 1) := by decide +kernel
theorem dX11_sumsRun_2 : decode cX11_sumsRun 2 = .ok (.invokevirtual 270, 3) := by decide +kernel
theorem dX11_sumsRun_5 : decode cX11_sumsRun 5 = .ok (.istore 4, 2) := by decide +kernel
theorem dX11_sumsRun_7 : decode cX11_sumsRun 7 = .ok (.ldc2_w 281, 3) := by decide +kernel
theorem dX11_sumsRun_10 : decode cX11_sumsRun 10 = .ok (.lload_n 1, 1) := by decide +kernel
theorem dX11_sumsRun_11 : decode cX11_sumsRun 11 = .ok (.lmul, 1) := by decide +kernel
theorem dX11_sumsRun_12 : decode cX11_sumsRun 12 = .ok (.aload_n 0, 1) := by decide +kernel
theorem dX11_sumsRun_13 : decode cX11_sumsRun 13 = .ok (.getfield 249, 3) := by decide +kernel
theorem dX11_sumsRun_16 : decode cX11_sumsRun 16 = .ok (.i2l, 1) := by decide +kernel
theorem dX11_sumsRun_17 : decode cX11_sumsRun 17 = .ok (.ladd, 1) := by decide +kernel
theorem dX11_sumsRun_18 : decode cX11_sumsRun 18 = .ok (.lstore 5, 2) := by decide +kernel
theorem dX11_sumsRun_20 : decode cX11_sumsRun 20 = .ok (.iconst 0, 1) := by decide +kernel
theorem dX11_sumsRun_21 : decode cX11_sumsRun 21 = .ok (.istore 7, 2) := by decide +kernel
theorem dX11_sumsRun_23 : decode cX11_sumsRun 23 = .ok (.iload 7, 2) := by decide +kernel
theorem dX11_sumsRun_25 : decode cX11_sumsRun 25 = .ok (.bipush 8, 2) := by decide +kernel
theorem dX11_sumsRun_27 : decode cX11_sumsRun 27 = .ok (.if_icmp .ge 27, 3) := by decide +kernel
theorem dX11_sumsRun_30 : decode cX11_sumsRun 30 = .ok (.ldc2_w 281, 3) := by decide +kernel
theorem dX11_sumsRun_33 : decode cX11_sumsRun 33 = .ok (.lload 5, 2) := by decide +kernel
theorem dX11_sumsRun_35 : decode cX11_sumsRun 35 = .ok (.lmul, 1) := by decide +kernel
theorem dX11_sumsRun_36 : decode cX11_sumsRun 36 = .ok (.aload_n 0, 1) := by decide +kernel
theorem dX11_sumsRun_37 : decode cX11_sumsRun 37 = .ok (.getfield 69, 3) := by decide +kernel
theorem dX11_sumsRun_40 : decode cX11_sumsRun 40 = .ok (.iload 7, 2) := by decide +kernel
theorem dX11_sumsRun_42 : decode cX11_sumsRun 42 = .ok (.laload, 1) := by decide +kernel
theorem dX11_sumsRun_43 : decode cX11_sumsRun 43 = .ok (.l2i, 1) := by decide +kernel
theorem dX11_sumsRun_44 : decode cX11_sumsRun 44 = .ok (.i2l, 1) := by decide +kernel
theorem dX11_sumsRun_45 : decode cX11_sumsRun 45 = .ok (.ladd, 1) := by decide +kernel
theorem dX11_sumsRun_46 : decode cX11_sumsRun 46 = .ok (.lstore 5, 2) := by decide +kernel
theorem dX11_sumsRun_48 : decode cX11_sumsRun 48 = .ok (.iinc 7 1, 3) := by decide +kernel
theorem dX11_sumsRun_51 : decode cX11_sumsRun 51 = .ok (.goto (-28), 3) := by decide +kernel
theorem dX11_sumsRun_54 : decode cX11_sumsRun 54 = .ok (.ldc2_w 281, 3) := by decide +kernel
theorem dX11_sumsRun_57 : decode cX11_sumsRun 57 = .ok (.lload 5, 2) := by decide +kernel
theorem dX11_sumsRun_59 : decode cX11_sumsRun 59 = .ok (.lmul, 1) := by decide +kernel
theorem dX11_sumsRun_60 : decode cX11_sumsRun 60 = .ok (.iload 4, 2) := by decide +kernel
theorem dX11_sumsRun_62 : decode cX11_sumsRun 62 = .ok (.i2l, 1) := by decide +kernel
theorem dX11_sumsRun_63 : decode cX11_sumsRun 63 = .ok (.ladd, 1) := by decide +kernel
theorem dX11_sumsRun_64 : decode cX11_sumsRun 64 = .ok (.lreturn, 1) := by decide +kernel
theorem dX11_digest_0 : decode cX11_digest 0 = .ok (.aload_n 0, 1) := by decide +kernel
theorem dX11_digest_1 : decode cX11_digest 1 = .ok (.iconst 0, 1) := by decide +kernel
theorem dX11_digest_2 : decode cX11_digest 2 = .ok (.putfield 75, 3) := by decide +kernel
theorem dX11_digest_5 : decode cX11_digest 5 = .ok (.aload_n 0, 1) := by decide +kernel
theorem dX11_digest_6 : decode cX11_digest 6 = .ok (.invokevirtual 227, 3) := by decide +kernel
theorem dX11_digest_9 : decode cX11_digest 9 = .ok (.ldc2_w 281, 3) := by decide +kernel
theorem dX11_digest_12 : decode cX11_digest 12 = .ok (.ldc2_w 283, 3) := by decide +kernel
theorem dX11_digest_15 : decode cX11_digest 15 = .ok (.aload_n 0, 1) := by decide +kernel
theorem dX11_digest_16 : decode cX11_digest 16 = .ok (.getfield 98, 3) := by decide +kernel
theorem dX11_digest_19 : decode cX11_digest 19 = .ok (.i2l, 1) := by decide +kernel
theorem dX11_digest_20 : decode cX11_digest 20 = .ok (.ladd, 1) := by decide +kernel
theorem dX11_digest_21 : decode cX11_digest 21 = .ok (.lmul, 1) := by decide +kernel
theorem dX11_digest_22 : decode cX11_digest 22 = .ok (.aload_n 0, 1) := by decide +kernel
theorem dX11_digest_23 : decode cX11_digest 23 = .ok (.getfield 7, 3) := by decide +kernel
theorem dX11_digest_26 : decode cX11_digest 26 = .ok (.iconst 0, 1) := by decide +kernel
theorem dX11_digest_27 : decode cX11_digest 27 = .ok (.iaload, 1) := by decide +kernel
theorem dX11_digest_28 : decode cX11_digest 28 = .ok (.i2l, 1) := by decide +kernel
theorem dX11_digest_29 : decode cX11_digest 29 = .ok (.ladd, 1) := by decide +kernel
theorem dX11_digest_30 : decode cX11_digest 30 = .ok (.lstore_n 1, 1) := by decide +kernel
theorem dX11_digest_31 : decode cX11_digest 31 = .ok (.iconst 0, 1) := by decide +kernel
theorem dX11_digest_32 : decode cX11_digest 32 = .ok (.istore_n 3, 1) := by decide +kernel
theorem dX11_digest_33 : decode cX11_digest 33 = .ok (.iload_n 3, 1) := by decide +kernel
theorem dX11_digest_34 : decode cX11_digest 34 = .ok (.aload_n 0, 1) := by decide +kernel
theorem dX11_digest_35 : decode cX11_digest 35 = .ok (.getfield 7, 3) := by decide +kernel
theorem dX11_digest_38 : decode cX11_digest 38 = .ok (.iconst 0, 1) := by decide +kernel
theorem dX11_digest_39 : decode cX11_digest 39 = .ok (.iaload, 1) := by decide +kernel
theorem dX11_digest_40 : decode cX11_digest 40 = .ok (.if_icmp .ge 91, 3) := by decide +kernel
theorem dX11_digest_43 : decode cX11_digest 43 = .ok (.iconst 0, 1) := by decide +kernel
theorem dX11_digest_44 : decode cX11_digest 44 = .ok (.istore 4, 2) := by decide +kernel
theorem dX11_digest_46 : decode cX11_digest 46 = .ok (.iload 4, 2) := by decide +kernel
theorem dX11_digest_48 : decode cX11_digest 48 = .ok (.iconst 4, 1) := by decide +kernel
theorem dX11_digest_49 : decode cX11_digest 49 = .ok (.if_icmp .ge 24, 3) := by decide +kernel
theorem dX11_digest_52 : decode cX11_digest 52 = .ok (.ldc2_w 281, 3) := by decide +kernel
theorem dX11_digest_55 : decode cX11_digest 55 = .ok (.lload_n 1, 1) := by decide +kernel
theorem dX11_digest_56 : decode cX11_digest 56 = .ok (.lmul, 1) := by decide +kernel
theorem dX11_digest_57 : decode cX11_digest 57 = .ok (.aload_n 0, 1) := by decide +kernel
theorem dX11_digest_58 : decode cX11_digest 58 = .ok (.iload_n 3, 1) := by decide +kernel
theorem dX11_digest_59 : decode cX11_digest 59 = .ok (.iload 4, 2) := by decide +kernel
theorem dX11_digest_61 : decode cX11_digest 61 = .ok (.invokevirtual 171, 3) := by decide +kernel
theorem dX11_digest_64 : decode cX11_digest 64 = .ok (.i2l, 1) := by decide +kernel
theorem dX11_digest_65 : decode cX11_digest 65 = .ok (.ladd, 1) := by decide +kernel
theorem dX11_digest_66 : decode cX11_digest 66 = .ok (.lstore_n 1, 1) := by decide +kernel
theorem dX11_digest_67 : decode cX11_digest 67 = .ok (.iinc 4 1, 3) := by decide +kernel
theorem dX11_digest_70 : decode cX11_digest 70 = .ok (.goto (-24), 3) := by decide +kernel
theorem dX11_digest_73 : decode cX11_digest 73 = .ok (.ldc2_w 281, 3) := by decide +kernel
theorem dX11_digest_76 : decode cX11_digest 76 = .ok (.ldc2_w 281, 3) := by decide +kernel
theorem dX11_digest_79 : decode cX11_digest 79 = .ok (.lload_n 1, 1) := by decide +kernel
theorem dX11_digest_80 : decode cX11_digest 80 = .ok (.lmul, 1) := by decide +kernel
theorem dX11_digest_81 : decode cX11_digest 81 = .ok (.aload_n 0, 1) := by decide +kernel
theorem dX11_digest_82 : decode cX11_digest 82 = .ok (.iload_n 3, 1) := by decide +kernel
theorem dX11_digest_83 : decode cX11_digest 83 = .ok (.iconst 2, 1) := by decide +kernel
theorem dX11_digest_84 : decode cX11_digest 84 = .ok (.invokevirtual 82, 3) := by decide +kernel
theorem dX11_digest_87 : decode cX11_digest 87 = .ok (.i2l, 1) := by decide +kernel
theorem dX11_digest_88 : decode cX11_digest 88 = .ok (.ladd, 1) := by decide +kernel
theorem dX11_digest_89 : decode cX11_digest 89 = .ok (.lmul, 1) := by decide +kernel
theorem dX11_digest_90 : decode cX11_digest 90 = .ok (.aload_n 0, 1) := by decide +kernel
theorem dX11_digest_91 : decode cX11_digest 91 = .ok (.iload_n 3, 1) := by decide +kernel
theorem dX11_digest_92 : decode cX11_digest 92 = .ok (.iconst 3, 1) := by decide +kernel
theorem dX11_digest_93 : decode cX11_digest 93 = .ok (.invokevirtual 82, 3) := by decide +kernel
theorem dX11_digest_96 : decode cX11_digest 96 = .ok (.i2l, 1) := by decide +kernel
theorem dX11_digest_97 : decode cX11_digest 97 = .ok (.ladd, 1) := by decide +kernel
theorem dX11_digest_98 : decode cX11_digest 98 = .ok (.lstore_n 1, 1) := by decide +kernel
theorem dX11_digest_99 : decode cX11_digest 99 = .ok (.ldc2_w 281, 3) := by decide +kernel
theorem dX11_digest_102 : decode cX11_digest 102 = .ok (.ldc2_w 281, 3) := by decide +kernel
theorem dX11_digest_105 : decode cX11_digest 105 = .ok (.lload_n 1, 1) := by decide +kernel
theorem dX11_digest_106 : decode cX11_digest 106 = .ok (.lmul, 1) := by decide +kernel
theorem dX11_digest_107 : decode cX11_digest 107 = .ok (.aload_n 0, 1) := by decide +kernel
theorem dX11_digest_108 : decode cX11_digest 108 = .ok (.getfield 66, 3) := by decide +kernel
theorem dX11_digest_111 : decode cX11_digest 111 = .ok (.iload_n 3, 1) := by decide +kernel
theorem dX11_digest_112 : decode cX11_digest 112 = .ok (.iaload, 1) := by decide +kernel
theorem dX11_digest_113 : decode cX11_digest 113 = .ok (.i2l, 1) := by decide +kernel
theorem dX11_digest_114 : decode cX11_digest 114 = .ok (.ladd, 1) := by decide +kernel
theorem dX11_digest_115 : decode cX11_digest 115 = .ok (.lmul, 1) := by decide +kernel
theorem dX11_digest_116 : decode cX11_digest 116 = .ok (.aload_n 0, 1) := by decide +kernel
theorem dX11_digest_117 : decode cX11_digest 117 = .ok (.getfield 60, 3) := by decide +kernel
theorem dX11_digest_120 : decode cX11_digest 120 = .ok (.iload_n 3, 1) := by decide +kernel
theorem dX11_digest_121 : decode cX11_digest 121 = .ok (.iaload, 1) := by decide +kernel
theorem dX11_digest_122 : decode cX11_digest 122 = .ok (.i2l, 1) := by decide +kernel
theorem dX11_digest_123 : decode cX11_digest 123 = .ok (.ladd, 1) := by decide +kernel
theorem dX11_digest_124 : decode cX11_digest 124 = .ok (.lstore_n 1, 1) := by decide +kernel
theorem dX11_digest_125 : decode cX11_digest 125 = .ok (.iinc 3 1, 3) := by decide +kernel
theorem dX11_digest_128 : decode cX11_digest 128 = .ok (.goto (-95), 3) := by decide +kernel
theorem dX11_digest_131 : decode cX11_digest 131 = .ok (.iconst 0, 1) := by decide +kernel
theorem dX11_digest_132 : decode cX11_digest 132 = .ok (.istore_n 3, 1) := by decide +kernel
theorem dX11_digest_133 : decode cX11_digest 133 = .ok (.iload_n 3, 1) := by decide +kernel
theorem dX11_digest_134 : decode cX11_digest 134 = .ok (.bipush 8, 2) := by decide +kernel
theorem dX11_digest_136 : decode cX11_digest 136 = .ok (.if_icmp .ge 72, 3) := by decide +kernel
theorem dX11_digest_139 : decode cX11_digest 139 = .ok (.iconst 0, 1) := by decide +kernel
theorem dX11_digest_140 : decode cX11_digest 140 = .ok (.istore 4, 2) := by decide +kernel
theorem dX11_digest_142 : decode cX11_digest 142 = .ok (.iload 4, 2) := by decide +kernel
theorem dX11_digest_144 : decode cX11_digest 144 = .ok (.iconst 3, 1) := by decide +kernel
theorem dX11_digest_145 : decode cX11_digest 145 = .ok (.if_icmp .ge 31, 3) := by decide +kernel
theorem dX11_digest_148 : decode cX11_digest 148 = .ok (.ldc2_w 281, 3) := by decide +kernel
theorem dX11_digest_151 : decode cX11_digest 151 = .ok (.lload_n 1, 1) := by decide +kernel
theorem dX11_digest_152 : decode cX11_digest 152 = .ok (.lmul, 1) := by decide +kernel
theorem dX11_digest_153 : decode cX11_digest 153 = .ok (.aload_n 0, 1) := by decide +kernel
theorem dX11_digest_154 : decode cX11_digest 154 = .ok (.getfield 7, 3) := by decide +kernel
theorem dX11_digest_157 : decode cX11_digest 157 = .ok (.bipush 121, 2) := by decide +kernel
theorem dX11_digest_159 : decode cX11_digest 159 = .ok (.iconst 3, 1) := by decide +kernel
theorem dX11_digest_160 : decode cX11_digest 160 = .ok (.iload_n 3, 1) := by decide +kernel
theorem dX11_digest_161 : decode cX11_digest 161 = .ok (.imul, 1) := by decide +kernel
theorem dX11_digest_162 : decode cX11_digest 162 = .ok (.iadd, 1) := by decide +kernel
theorem dX11_digest_163 : decode cX11_digest 163 = .ok (.iload 4, 2) := by decide +kernel
theorem dX11_digest_165 : decode cX11_digest 165 = .ok (.iadd, 1) := by decide +kernel
theorem dX11_digest_166 : decode cX11_digest 166 = .ok (.iaload, 1) := by decide +kernel
theorem dX11_digest_167 : decode cX11_digest 167 = .ok (.i2l, 1) := by decide +kernel
theorem dX11_digest_168 : decode cX11_digest 168 = .ok (.ladd, 1) := by decide +kernel
theorem dX11_digest_169 : decode cX11_digest 169 = .ok (.lstore_n 1, 1) := by decide +kernel
theorem dX11_digest_170 : decode cX11_digest 170 = .ok (.iinc 4 1, 3) := by decide +kernel
theorem dX11_digest_173 : decode cX11_digest 173 = .ok (.goto (-31), 3) := by decide +kernel
theorem dX11_digest_176 : decode cX11_digest 176 = .ok (.ldc2_w 281, 3) := by decide +kernel
theorem dX11_digest_179 : decode cX11_digest 179 = .ok (.ldc2_w 281, 3) := by decide +kernel
theorem dX11_digest_182 : decode cX11_digest 182 = .ok (.lload_n 1, 1) := by decide +kernel
theorem dX11_digest_183 : decode cX11_digest 183 = .ok (.lmul, 1) := by decide +kernel
theorem dX11_digest_184 : decode cX11_digest 184 = .ok (.aload_n 0, 1) := by decide +kernel
theorem dX11_digest_185 : decode cX11_digest 185 = .ok (.iload_n 3, 1) := by decide +kernel
theorem dX11_digest_186 : decode cX11_digest 186 = .ok (.iconst 0, 1) := by decide +kernel
theorem dX11_digest_187 : decode cX11_digest 187 = .ok (.invokevirtual 235, 3) := by decide +kernel
theorem dX11_digest_190 : decode cX11_digest 190 = .ok (.i2l, 1) := by decide +kernel
theorem dX11_digest_191 : decode cX11_digest 191 = .ok (.ladd, 1) := by decide +kernel
theorem dX11_digest_192 : decode cX11_digest 192 = .ok (.lmul, 1) := by decide +kernel
theorem dX11_digest_193 : decode cX11_digest 193 = .ok (.aload_n 0, 1) := by decide +kernel
theorem dX11_digest_194 : decode cX11_digest 194 = .ok (.iload_n 3, 1) := by decide +kernel
theorem dX11_digest_195 : decode cX11_digest 195 = .ok (.iconst 1, 1) := by decide +kernel
theorem dX11_digest_196 : decode cX11_digest 196 = .ok (.invokevirtual 235, 3) := by decide +kernel
theorem dX11_digest_199 : decode cX11_digest 199 = .ok (.i2l, 1) := by decide +kernel
theorem dX11_digest_200 : decode cX11_digest 200 = .ok (.ladd, 1) := by decide +kernel
theorem dX11_digest_201 : decode cX11_digest 201 = .ok (.lstore_n 1, 1) := by decide +kernel
theorem dX11_digest_202 : decode cX11_digest 202 = .ok (.iinc 3 1, 3) := by decide +kernel
theorem dX11_digest_205 : decode cX11_digest 205 = .ok (.goto (-72), 3) := by decide +kernel
theorem dX11_digest_208 : decode cX11_digest 208 = .ok (.aload_n 0, 1) := by decide +kernel
theorem dX11_digest_209 : decode cX11_digest 209 = .ok (.aload_n 0, 1) := by decide +kernel
theorem dX11_digest_210 : decode cX11_digest 210 = .ok (.lload_n 1, 1) := by decide +kernel
theorem dX11_digest_211 : decode cX11_digest 211 = .ok (.iconst 0, 1) := by decide +kernel
theorem dX11_digest_212 : decode cX11_digest 212 = .ok (.invokevirtual 285, 3) := by decide +kernel
theorem dX11_digest_215 : decode cX11_digest 215 = .ok (.iconst 1, 1) := by decide +kernel
theorem dX11_digest_216 : decode cX11_digest 216 = .ok (.invokevirtual 285, 3) := by decide +kernel
theorem dX11_digest_219 : decode cX11_digest 219 = .ok (.lstore_n 1, 1) := by decide +kernel
theorem dX11_digest_220 : decode cX11_digest 220 = .ok (.aload_n 0, 1) := by decide +kernel
theorem dX11_digest_221 : decode cX11_digest 221 = .ok (.iconst 0, 1) := by decide +kernel
theorem dX11_digest_222 : decode cX11_digest 222 = .ok (.invokevirtual 266, 3) := by decide +kernel
theorem dX11_digest_225 : decode cX11_digest 225 = .ok (.ldc2_w 281, 3) := by decide +kernel
theorem dX11_digest_228 : decode cX11_digest 228 = .ok (.ldc2_w 281, 3) := by decide +kernel
theorem dX11_digest_231 : decode cX11_digest 231 = .ok (.lload_n 1, 1) := by decide +kernel
theorem dX11_digest_232 : decode cX11_digest 232 = .ok (.lmul, 1) := by decide +kernel
theorem dX11_digest_233 : decode cX11_digest 233 = .ok (.aload_n 0, 1) := by decide +kernel
theorem dX11_digest_234 : decode cX11_digest 234 = .ok (.getfield 252, 3) := by decide +kernel
theorem dX11_digest_237 : decode cX11_digest 237 = .ok (.i2l, 1) := by decide +kernel
theorem dX11_digest_238 : decode cX11_digest 238 = .ok (.ladd, 1) := by decide +kernel
theorem dX11_digest_239 : decode cX11_digest 239 = .ok (.lmul, 1) := by decide +kernel
theorem dX11_digest_240 : decode cX11_digest 240 = .ok (.aload_n 0, 1) := by decide +kernel
theorem dX11_digest_241 : decode cX11_digest 241 = .ok (.getfield 79, 3) := by decide +kernel
theorem dX11_digest_244 : decode cX11_digest 244 = .ok (.i2l, 1) := by decide +kernel
theorem dX11_digest_245 : decode cX11_digest 245 = .ok (.ladd, 1) := by decide +kernel
theorem dX11_digest_246 : decode cX11_digest 246 = .ok (.lreturn, 1) := by decide +kernel
theorem dJ9_max_f86c9_0 : decode cJ9_max_f86c9 0 = .ok (.lload_n 0, 1) := by decide +kernel
theorem dJ9_max_f86c9_1 : decode cJ9_max_f86c9 1 = .ok (.lload_n 2, 1) := by decide +kernel
theorem dJ9_max_f86c9_2 : decode cJ9_max_f86c9 2 = .ok (.lcmp, 1) := by decide +kernel
theorem dJ9_max_f86c9_3 : decode cJ9_max_f86c9 3 = .ok (.ifCond .lt 7, 3) := by decide +kernel
theorem dJ9_max_f86c9_6 : decode cJ9_max_f86c9 6 = .ok (.lload_n 0, 1) := by decide +kernel
theorem dJ9_max_f86c9_7 : decode cJ9_max_f86c9 7 = .ok (.goto 4, 3) := by decide +kernel
theorem dJ9_max_f86c9_10 : decode cJ9_max_f86c9 10 = .ok (.lload_n 2, 1) := by decide +kernel
theorem dJ9_max_f86c9_11 : decode cJ9_max_f86c9 11 = .ok (.lreturn, 1) := by decide +kernel
theorem dJ9_min_f86c9_0 : decode cJ9_min_f86c9 0 = .ok (.lload_n 0, 1) := by decide +kernel
theorem dJ9_min_f86c9_1 : decode cJ9_min_f86c9 1 = .ok (.lload_n 2, 1) := by decide +kernel
theorem dJ9_min_f86c9_2 : decode cJ9_min_f86c9 2 = .ok (.lcmp, 1) := by decide +kernel
theorem dJ9_min_f86c9_3 : decode cJ9_min_f86c9 3 = .ok (.ifCond .gt 7, 3) := by decide +kernel
theorem dJ9_min_f86c9_6 : decode cJ9_min_f86c9 6 = .ok (.lload_n 0, 1) := by decide +kernel
theorem dJ9_min_f86c9_7 : decode cJ9_min_f86c9 7 = .ok (.goto 4, 3) := by decide +kernel
theorem dJ9_min_f86c9_10 : decode cJ9_min_f86c9 10 = .ok (.lload_n 2, 1) := by decide +kernel
theorem dJ9_min_f86c9_11 : decode cJ9_min_f86c9 11 = .ok (.lreturn, 1) := by decide +kernel
theorem dL_append_0 : decode cL_append 0 = .ok (.aload_n 2, 1) := by decide +kernel
theorem dL_append_1 : decode cL_append 1 = .ok (.iconst 0, 1) := by decide +kernel
theorem dL_append_2 : decode cL_append 2 = .ok (.aload_n 0, 1) := by decide +kernel
theorem dL_append_3 : decode cL_append 3 = .ok (.iload_n 1, 1) := by decide +kernel
theorem dL_append_4 : decode cL_append 4 = .ok (.invokevirtual 7, 3) := by decide +kernel
theorem dL_append_7 : decode cL_append 7 = .ok (.i2l, 1) := by decide +kernel
theorem dL_append_8 : decode cL_append 8 = .ok (.lastore, 1) := by decide +kernel
theorem dL_append_9 : decode cL_append 9 = .ok (.goto 9, 3) := by decide +kernel
theorem dL_append_12 : decode cL_append 12 = .ok (.astore_n 3, 1) := by decide +kernel
theorem dL_append_13 : decode cL_append 13 = .ok (.iconst 1, 1) := by decide +kernel
theorem dL_append_14 : decode cL_append 14 = .ok (.ireturn, 1) := by decide +kernel
theorem dL_append_15 : decode cL_append 15 = .ok (.astore_n 3, 1) := by decide +kernel
theorem dL_append_16 : decode cL_append 16 = .ok (.iconst 2, 1) := by decide +kernel
theorem dL_append_17 : decode cL_append 17 = .ok (.ireturn, 1) := by decide +kernel
theorem dL_append_18 : decode cL_append 18 = .ok (.iconst 0, 1) := by decide +kernel
theorem dL_append_19 : decode cL_append 19 = .ok (.ireturn, 1) := by decide +kernel
theorem dL_setRange_0 : decode cL_setRange 0 = .ok (.aload 4, 2) := by decide +kernel
theorem dL_setRange_2 : decode cL_setRange 2 = .ok (.iconst 0, 1) := by decide +kernel
theorem dL_setRange_3 : decode cL_setRange 3 = .ok (.aload_n 0, 1) := by decide +kernel
theorem dL_setRange_4 : decode cL_setRange 4 = .ok (.iload_n 1, 1) := by decide +kernel
theorem dL_setRange_5 : decode cL_setRange 5 = .ok (.iload_n 2, 1) := by decide +kernel
theorem dL_setRange_6 : decode cL_setRange 6 = .ok (.iload_n 3, 1) := by decide +kernel
theorem dL_setRange_7 : decode cL_setRange 7 = .ok (.invokevirtual 17, 3) := by decide +kernel
theorem dL_setRange_10 : decode cL_setRange 10 = .ok (.i2l, 1) := by decide +kernel
theorem dL_setRange_11 : decode cL_setRange 11 = .ok (.lastore, 1) := by decide +kernel
theorem dL_setRange_12 : decode cL_setRange 12 = .ok (.goto 11, 3) := by decide +kernel
theorem dL_setRange_15 : decode cL_setRange 15 = .ok (.astore 5, 2) := by decide +kernel
theorem dL_setRange_17 : decode cL_setRange 17 = .ok (.iconst 1, 1) := by decide +kernel
theorem dL_setRange_18 : decode cL_setRange 18 = .ok (.ireturn, 1) := by decide +kernel
theorem dL_setRange_19 : decode cL_setRange 19 = .ok (.astore 5, 2) := by decide +kernel
theorem dL_setRange_21 : decode cL_setRange 21 = .ok (.iconst 2, 1) := by decide +kernel
theorem dL_setRange_22 : decode cL_setRange 22 = .ok (.ireturn, 1) := by decide +kernel
theorem dL_setRange_23 : decode cL_setRange 23 = .ok (.iconst 0, 1) := by decide +kernel
theorem dL_setRange_24 : decode cL_setRange 24 = .ok (.ireturn, 1) := by decide +kernel
theorem dL_setInput_0 : decode cL_setInput 0 = .ok (.aload_n 3, 1) := by decide +kernel
theorem dL_setInput_1 : decode cL_setInput 1 = .ok (.iconst 0, 1) := by decide +kernel
theorem dL_setInput_2 : decode cL_setInput 2 = .ok (.aload_n 0, 1) := by decide +kernel
theorem dL_setInput_3 : decode cL_setInput 3 = .ok (.iload_n 1, 1) := by decide +kernel
theorem dL_setInput_4 : decode cL_setInput 4 = .ok (.iload_n 2, 1) := by decide +kernel
theorem dL_setInput_5 : decode cL_setInput 5 = .ok (.invokevirtual 23, 3) := by decide +kernel
theorem dL_setInput_8 : decode cL_setInput 8 = .ok (.i2l, 1) := by decide +kernel
theorem dL_setInput_9 : decode cL_setInput 9 = .ok (.lastore, 1) := by decide +kernel
theorem dL_setInput_10 : decode cL_setInput 10 = .ok (.goto 11, 3) := by decide +kernel
theorem dL_setInput_13 : decode cL_setInput 13 = .ok (.astore 4, 2) := by decide +kernel
theorem dL_setInput_15 : decode cL_setInput 15 = .ok (.iconst 1, 1) := by decide +kernel
theorem dL_setInput_16 : decode cL_setInput 16 = .ok (.ireturn, 1) := by decide +kernel
theorem dL_setInput_17 : decode cL_setInput 17 = .ok (.astore 4, 2) := by decide +kernel
theorem dL_setInput_19 : decode cL_setInput 19 = .ok (.iconst 2, 1) := by decide +kernel
theorem dL_setInput_20 : decode cL_setInput 20 = .ok (.ireturn, 1) := by decide +kernel
theorem dL_setInput_21 : decode cL_setInput 21 = .ok (.iconst 0, 1) := by decide +kernel
theorem dL_setInput_22 : decode cL_setInput 22 = .ok (.ireturn, 1) := by decide +kernel
theorem dL_input_0 : decode cL_input 0 = .ok (.aload_n 3, 1) := by decide +kernel
theorem dL_input_1 : decode cL_input 1 = .ok (.iconst 0, 1) := by decide +kernel
theorem dL_input_2 : decode cL_input 2 = .ok (.aload_n 0, 1) := by decide +kernel
theorem dL_input_3 : decode cL_input 3 = .ok (.iload_n 1, 1) := by decide +kernel
theorem dL_input_4 : decode cL_input 4 = .ok (.iload_n 2, 1) := by decide +kernel
theorem dL_input_5 : decode cL_input 5 = .ok (.invokevirtual 27, 3) := by decide +kernel
theorem dL_input_8 : decode cL_input 8 = .ok (.i2l, 1) := by decide +kernel
theorem dL_input_9 : decode cL_input 9 = .ok (.lastore, 1) := by decide +kernel
theorem dL_input_10 : decode cL_input 10 = .ok (.goto 11, 3) := by decide +kernel
theorem dL_input_13 : decode cL_input 13 = .ok (.astore 4, 2) := by decide +kernel
theorem dL_input_15 : decode cL_input 15 = .ok (.iconst 1, 1) := by decide +kernel
theorem dL_input_16 : decode cL_input 16 = .ok (.ireturn, 1) := by decide +kernel
theorem dL_input_17 : decode cL_input 17 = .ok (.astore 4, 2) := by decide +kernel
theorem dL_input_19 : decode cL_input 19 = .ok (.iconst 2, 1) := by decide +kernel
theorem dL_input_20 : decode cL_input 20 = .ok (.ireturn, 1) := by decide +kernel
theorem dL_input_21 : decode cL_input 21 = .ok (.iconst 0, 1) := by decide +kernel
theorem dL_input_22 : decode cL_input 22 = .ok (.ireturn, 1) := by decide +kernel
theorem dL_remove_0 : decode cL_remove 0 = .ok (.aload_n 2, 1) := by decide +kernel
theorem dL_remove_1 : decode cL_remove 1 = .ok (.iconst 0, 1) := by decide +kernel
theorem dL_remove_2 : decode cL_remove 2 = .ok (.aload_n 0, 1) := by decide +kernel
theorem dL_remove_3 : decode cL_remove 3 = .ok (.iload_n 1, 1) := by decide +kernel
theorem dL_remove_4 : decode cL_remove 4 = .ok (.invokevirtual 30, 3) := by decide +kernel
theorem dL_remove_7 : decode cL_remove 7 = .ok (.i2l, 1) := by decide +kernel
theorem dL_remove_8 : decode cL_remove 8 = .ok (.lastore, 1) := by decide +kernel
theorem dL_remove_9 : decode cL_remove 9 = .ok (.goto 9, 3) := by decide +kernel
theorem dL_remove_12 : decode cL_remove 12 = .ok (.astore_n 3, 1) := by decide +kernel
theorem dL_remove_13 : decode cL_remove 13 = .ok (.iconst 1, 1) := by decide +kernel
theorem dL_remove_14 : decode cL_remove 14 = .ok (.ireturn, 1) := by decide +kernel
theorem dL_remove_15 : decode cL_remove 15 = .ok (.astore_n 3, 1) := by decide +kernel
theorem dL_remove_16 : decode cL_remove 16 = .ok (.iconst 2, 1) := by decide +kernel
theorem dL_remove_17 : decode cL_remove 17 = .ok (.ireturn, 1) := by decide +kernel
theorem dL_remove_18 : decode cL_remove 18 = .ok (.iconst 0, 1) := by decide +kernel
theorem dL_remove_19 : decode cL_remove 19 = .ok (.ireturn, 1) := by decide +kernel
theorem dL_instruction_0 : decode cL_instruction 0 = .ok (.aload_n 3, 1) := by decide +kernel
theorem dL_instruction_1 : decode cL_instruction 1 = .ok (.iconst 0, 1) := by decide +kernel
theorem dL_instruction_2 : decode cL_instruction 2 = .ok (.aload_n 0, 1) := by decide +kernel
theorem dL_instruction_3 : decode cL_instruction 3 = .ok (.iload_n 1, 1) := by decide +kernel
theorem dL_instruction_4 : decode cL_instruction 4 = .ok (.iload_n 2, 1) := by decide +kernel
theorem dL_instruction_5 : decode cL_instruction 5 = .ok (.invokevirtual 33, 3) := by decide +kernel
theorem dL_instruction_8 : decode cL_instruction 8 = .ok (.i2l, 1) := by decide +kernel
theorem dL_instruction_9 : decode cL_instruction 9 = .ok (.lastore, 1) := by decide +kernel
theorem dL_instruction_10 : decode cL_instruction 10 = .ok (.goto 11, 3) := by decide +kernel
theorem dL_instruction_13 : decode cL_instruction 13 = .ok (.astore 4, 2) := by decide +kernel
theorem dL_instruction_15 : decode cL_instruction 15 = .ok (.iconst 1, 1) := by decide +kernel
theorem dL_instruction_16 : decode cL_instruction 16 = .ok (.ireturn, 1) := by decide +kernel
theorem dL_instruction_17 : decode cL_instruction 17 = .ok (.astore 4, 2) := by decide +kernel
theorem dL_instruction_19 : decode cL_instruction 19 = .ok (.iconst 2, 1) := by decide +kernel
theorem dL_instruction_20 : decode cL_instruction 20 = .ok (.ireturn, 1) := by decide +kernel
theorem dL_instruction_21 : decode cL_instruction 21 = .ok (.iconst 0, 1) := by decide +kernel
theorem dL_instruction_22 : decode cL_instruction 22 = .ok (.ireturn, 1) := by decide +kernel
theorem dL_operand_0 : decode cL_operand 0 = .ok (.aload_n 3, 1) := by decide +kernel
theorem dL_operand_1 : decode cL_operand 1 = .ok (.iconst 0, 1) := by decide +kernel
theorem dL_operand_2 : decode cL_operand 2 = .ok (.aload_n 0, 1) := by decide +kernel
theorem dL_operand_3 : decode cL_operand 3 = .ok (.iload_n 1, 1) := by decide +kernel
theorem dL_operand_4 : decode cL_operand 4 = .ok (.iload_n 2, 1) := by decide +kernel
theorem dL_operand_5 : decode cL_operand 5 = .ok (.invokevirtual 36, 3) := by decide +kernel
theorem dL_operand_8 : decode cL_operand 8 = .ok (.i2l, 1) := by decide +kernel
theorem dL_operand_9 : decode cL_operand 9 = .ok (.lastore, 1) := by decide +kernel
theorem dL_operand_10 : decode cL_operand 10 = .ok (.goto 7, 3) := by decide +kernel
theorem dL_operand_13 : decode cL_operand 13 = .ok (.astore 4, 2) := by decide +kernel
theorem dL_operand_15 : decode cL_operand 15 = .ok (.iconst 1, 1) := by decide +kernel
theorem dL_operand_16 : decode cL_operand 16 = .ok (.ireturn, 1) := by decide +kernel
theorem dL_operand_17 : decode cL_operand 17 = .ok (.iconst 0, 1) := by decide +kernel
theorem dL_operand_18 : decode cL_operand 18 = .ok (.ireturn, 1) := by decide +kernel
theorem dL_state_0 : decode cL_state 0 = .ok (.aload_n 2, 1) := by decide +kernel
theorem dL_state_1 : decode cL_state 1 = .ok (.iconst 0, 1) := by decide +kernel
theorem dL_state_2 : decode cL_state 2 = .ok (.aload_n 0, 1) := by decide +kernel
theorem dL_state_3 : decode cL_state 3 = .ok (.iload_n 1, 1) := by decide +kernel
theorem dL_state_4 : decode cL_state 4 = .ok (.invokevirtual 40, 3) := by decide +kernel
theorem dL_state_7 : decode cL_state 7 = .ok (.i2l, 1) := by decide +kernel
theorem dL_state_8 : decode cL_state 8 = .ok (.lastore, 1) := by decide +kernel
theorem dL_state_9 : decode cL_state 9 = .ok (.goto 6, 3) := by decide +kernel
theorem dL_state_12 : decode cL_state 12 = .ok (.astore_n 3, 1) := by decide +kernel
theorem dL_state_13 : decode cL_state 13 = .ok (.iconst 1, 1) := by decide +kernel
theorem dL_state_14 : decode cL_state 14 = .ok (.ireturn, 1) := by decide +kernel
theorem dL_state_15 : decode cL_state 15 = .ok (.iconst 0, 1) := by decide +kernel
theorem dL_state_16 : decode cL_state 16 = .ok (.ireturn, 1) := by decide +kernel
theorem dL_states_0 : decode cL_states 0 = .ok (.aload_n 2, 1) := by decide +kernel
theorem dL_states_1 : decode cL_states 1 = .ok (.iconst 0, 1) := by decide +kernel
theorem dL_states_2 : decode cL_states 2 = .ok (.aload_n 0, 1) := by decide +kernel
theorem dL_states_3 : decode cL_states 3 = .ok (.iload_n 1, 1) := by decide +kernel
theorem dL_states_4 : decode cL_states 4 = .ok (.invokevirtual 43, 3) := by decide +kernel
theorem dL_states_7 : decode cL_states 7 = .ok (.i2l, 1) := by decide +kernel
theorem dL_states_8 : decode cL_states 8 = .ok (.lastore, 1) := by decide +kernel
theorem dL_states_9 : decode cL_states 9 = .ok (.goto 6, 3) := by decide +kernel
theorem dL_states_12 : decode cL_states 12 = .ok (.astore_n 3, 1) := by decide +kernel
theorem dL_states_13 : decode cL_states 13 = .ok (.iconst 1, 1) := by decide +kernel
theorem dL_states_14 : decode cL_states 14 = .ok (.ireturn, 1) := by decide +kernel
theorem dL_states_15 : decode cL_states 15 = .ok (.iconst 0, 1) := by decide +kernel
theorem dL_states_16 : decode cL_states 16 = .ok (.ireturn, 1) := by decide +kernel
theorem dL_coveredBy_0 : decode cL_coveredBy 0 = .ok (.aload_n 2, 1) := by decide +kernel
theorem dL_coveredBy_1 : decode cL_coveredBy 1 = .ok (.iconst 0, 1) := by decide +kernel
theorem dL_coveredBy_2 : decode cL_coveredBy 2 = .ok (.aload_n 0, 1) := by decide +kernel
theorem dL_coveredBy_3 : decode cL_coveredBy 3 = .ok (.iload_n 1, 1) := by decide +kernel
theorem dL_coveredBy_4 : decode cL_coveredBy 4 = .ok (.invokevirtual 46, 3) := by decide +kernel
theorem dL_coveredBy_7 : decode cL_coveredBy 7 = .ok (.i2l, 1) := by decide +kernel
theorem dL_coveredBy_8 : decode cL_coveredBy 8 = .ok (.lastore, 1) := by decide +kernel
theorem dL_coveredBy_9 : decode cL_coveredBy 9 = .ok (.goto 6, 3) := by decide +kernel
theorem dL_coveredBy_12 : decode cL_coveredBy 12 = .ok (.astore_n 3, 1) := by decide +kernel
theorem dL_coveredBy_13 : decode cL_coveredBy 13 = .ok (.iconst 1, 1) := by decide +kernel
theorem dL_coveredBy_14 : decode cL_coveredBy 14 = .ok (.ireturn, 1) := by decide +kernel
theorem dL_coveredBy_15 : decode cL_coveredBy 15 = .ok (.iconst 0, 1) := by decide +kernel
theorem dL_coveredBy_16 : decode cL_coveredBy 16 = .ok (.ireturn, 1) := by decide +kernel
theorem dL_range_0 : decode cL_range 0 = .ok (.aload_n 3, 1) := by decide +kernel
theorem dL_range_1 : decode cL_range 1 = .ok (.iconst 0, 1) := by decide +kernel
theorem dL_range_2 : decode cL_range 2 = .ok (.aload_n 0, 1) := by decide +kernel
theorem dL_range_3 : decode cL_range 3 = .ok (.iload_n 1, 1) := by decide +kernel
theorem dL_range_4 : decode cL_range 4 = .ok (.iload_n 2, 1) := by decide +kernel
theorem dL_range_5 : decode cL_range 5 = .ok (.invokevirtual 49, 3) := by decide +kernel
theorem dL_range_8 : decode cL_range 8 = .ok (.lastore, 1) := by decide +kernel
theorem dL_range_9 : decode cL_range 9 = .ok (.goto 11, 3) := by decide +kernel
theorem dL_range_12 : decode cL_range 12 = .ok (.astore 4, 2) := by decide +kernel
theorem dL_range_14 : decode cL_range 14 = .ok (.iconst 1, 1) := by decide +kernel
theorem dL_range_15 : decode cL_range 15 = .ok (.ireturn, 1) := by decide +kernel
theorem dL_range_16 : decode cL_range 16 = .ok (.astore 4, 2) := by decide +kernel
theorem dL_range_18 : decode cL_range 18 = .ok (.iconst 2, 1) := by decide +kernel
theorem dL_range_19 : decode cL_range 19 = .ok (.ireturn, 1) := by decide +kernel
theorem dL_range_20 : decode cL_range 20 = .ok (.iconst 0, 1) := by decide +kernel
theorem dL_range_21 : decode cL_range 21 = .ok (.ireturn, 1) := by decide +kernel
theorem dL_finalRange_0 : decode cL_finalRange 0 = .ok (.aload_n 3, 1) := by decide +kernel
theorem dL_finalRange_1 : decode cL_finalRange 1 = .ok (.iconst 0, 1) := by decide +kernel
theorem dL_finalRange_2 : decode cL_finalRange 2 = .ok (.aload_n 0, 1) := by decide +kernel
theorem dL_finalRange_3 : decode cL_finalRange 3 = .ok (.iload_n 1, 1) := by decide +kernel
theorem dL_finalRange_4 : decode cL_finalRange 4 = .ok (.iload_n 2, 1) := by decide +kernel
theorem dL_finalRange_5 : decode cL_finalRange 5 = .ok (.invokevirtual 53, 3) := by decide +kernel
theorem dL_finalRange_8 : decode cL_finalRange 8 = .ok (.i2l, 1) := by decide +kernel
theorem dL_finalRange_9 : decode cL_finalRange 9 = .ok (.lastore, 1) := by decide +kernel
theorem dL_finalRange_10 : decode cL_finalRange 10 = .ok (.goto 7, 3) := by decide +kernel
theorem dL_finalRange_13 : decode cL_finalRange 13 = .ok (.astore 4, 2) := by decide +kernel
theorem dL_finalRange_15 : decode cL_finalRange 15 = .ok (.iconst 1, 1) := by decide +kernel
theorem dL_finalRange_16 : decode cL_finalRange 16 = .ok (.ireturn, 1) := by decide +kernel
theorem dL_finalRange_17 : decode cL_finalRange 17 = .ok (.iconst 0, 1) := by decide +kernel
theorem dL_finalRange_18 : decode cL_finalRange 18 = .ok (.ireturn, 1) := by decide +kernel
theorem dL_result_0 : decode cL_result 0 = .ok (.aload_n 3, 1) := by decide +kernel
theorem dL_result_1 : decode cL_result 1 = .ok (.iconst 0, 1) := by decide +kernel
theorem dL_result_2 : decode cL_result 2 = .ok (.aload_n 0, 1) := by decide +kernel
theorem dL_result_3 : decode cL_result 3 = .ok (.iload_n 1, 1) := by decide +kernel
theorem dL_result_4 : decode cL_result 4 = .ok (.iload_n 2, 1) := by decide +kernel
theorem dL_result_5 : decode cL_result 5 = .ok (.invokevirtual 56, 3) := by decide +kernel
theorem dL_result_8 : decode cL_result 8 = .ok (.i2l, 1) := by decide +kernel
theorem dL_result_9 : decode cL_result 9 = .ok (.lastore, 1) := by decide +kernel
theorem dL_result_10 : decode cL_result 10 = .ok (.goto 7, 3) := by decide +kernel
theorem dL_result_13 : decode cL_result 13 = .ok (.astore 4, 2) := by decide +kernel
theorem dL_result_15 : decode cL_result 15 = .ok (.iconst 1, 1) := by decide +kernel
theorem dL_result_16 : decode cL_result 16 = .ok (.ireturn, 1) := by decide +kernel
theorem dL_result_17 : decode cL_result 17 = .ok (.iconst 0, 1) := by decide +kernel
theorem dL_result_18 : decode cL_result 18 = .ok (.ireturn, 1) := by decide +kernel
theorem dL_openWith_0 : decode cL_openWith 0 = .ok (.aload 4, 2) := by decide +kernel
theorem dL_openWith_2 : decode cL_openWith 2 = .ok (.iconst 0, 1) := by decide +kernel
theorem dL_openWith_3 : decode cL_openWith 3 = .ok (.aload_n 0, 1) := by decide +kernel
theorem dL_openWith_4 : decode cL_openWith 4 = .ok (.iload_n 1, 1) := by decide +kernel
theorem dL_openWith_5 : decode cL_openWith 5 = .ok (.iload_n 2, 1) := by decide +kernel
theorem dL_openWith_6 : decode cL_openWith 6 = .ok (.iload_n 3, 1) := by decide +kernel
theorem dL_openWith_7 : decode cL_openWith 7 = .ok (.invokevirtual 59, 3) := by decide +kernel
theorem dL_openWith_10 : decode cL_openWith 10 = .ok (.i2l, 1) := by decide +kernel
theorem dL_openWith_11 : decode cL_openWith 11 = .ok (.lastore, 1) := by decide +kernel
theorem dL_openWith_12 : decode cL_openWith 12 = .ok (.goto 11, 3) := by decide +kernel
theorem dL_openWith_15 : decode cL_openWith 15 = .ok (.astore 5, 2) := by decide +kernel
theorem dL_openWith_17 : decode cL_openWith 17 = .ok (.iconst 1, 1) := by decide +kernel
theorem dL_openWith_18 : decode cL_openWith 18 = .ok (.ireturn, 1) := by decide +kernel
theorem dL_openWith_19 : decode cL_openWith 19 = .ok (.astore 5, 2) := by decide +kernel
theorem dL_openWith_21 : decode cL_openWith 21 = .ok (.iconst 2, 1) := by decide +kernel
theorem dL_openWith_22 : decode cL_openWith 22 = .ok (.ireturn, 1) := by decide +kernel
theorem dL_openWith_23 : decode cL_openWith 23 = .ok (.iconst 0, 1) := by decide +kernel
theorem dL_openWith_24 : decode cL_openWith 24 = .ok (.ireturn, 1) := by decide +kernel
theorem dL_safePower_0 : decode cL_safePower 0 = .ok (.aload_n 2, 1) := by decide +kernel
theorem dL_safePower_1 : decode cL_safePower 1 = .ok (.iconst 0, 1) := by decide +kernel
theorem dL_safePower_2 : decode cL_safePower 2 = .ok (.aload_n 0, 1) := by decide +kernel
theorem dL_safePower_3 : decode cL_safePower 3 = .ok (.iload_n 1, 1) := by decide +kernel
theorem dL_safePower_4 : decode cL_safePower 4 = .ok (.invokevirtual 62, 3) := by decide +kernel
theorem dL_safePower_7 : decode cL_safePower 7 = .ok (.i2l, 1) := by decide +kernel
theorem dL_safePower_8 : decode cL_safePower 8 = .ok (.lastore, 1) := by decide +kernel
theorem dL_safePower_9 : decode cL_safePower 9 = .ok (.goto 6, 3) := by decide +kernel
theorem dL_safePower_12 : decode cL_safePower 12 = .ok (.astore_n 3, 1) := by decide +kernel
theorem dL_safePower_13 : decode cL_safePower 13 = .ok (.iconst 1, 1) := by decide +kernel
theorem dL_safePower_14 : decode cL_safePower 14 = .ok (.ireturn, 1) := by decide +kernel
theorem dL_safePower_15 : decode cL_safePower 15 = .ok (.iconst 0, 1) := by decide +kernel
theorem dL_safePower_16 : decode cL_safePower 16 = .ok (.ireturn, 1) := by decide +kernel
theorem dL_failingInput_0 : decode cL_failingInput 0 = .ok (.aload_n 2, 1) := by decide +kernel
theorem dL_failingInput_1 : decode cL_failingInput 1 = .ok (.iconst 0, 1) := by decide +kernel
theorem dL_failingInput_2 : decode cL_failingInput 2 = .ok (.aload_n 0, 1) := by decide +kernel
theorem dL_failingInput_3 : decode cL_failingInput 3 = .ok (.iload_n 1, 1) := by decide +kernel
theorem dL_failingInput_4 : decode cL_failingInput 4 = .ok (.invokevirtual 65, 3) := by decide +kernel
theorem dL_failingInput_7 : decode cL_failingInput 7 = .ok (.i2l, 1) := by decide +kernel
theorem dL_failingInput_8 : decode cL_failingInput 8 = .ok (.lastore, 1) := by decide +kernel
theorem dL_failingInput_9 : decode cL_failingInput 9 = .ok (.goto 6, 3) := by decide +kernel
theorem dL_failingInput_12 : decode cL_failingInput 12 = .ok (.astore_n 3, 1) := by decide +kernel
theorem dL_failingInput_13 : decode cL_failingInput 13 = .ok (.iconst 1, 1) := by decide +kernel
theorem dL_failingInput_14 : decode cL_failingInput 14 = .ok (.ireturn, 1) := by decide +kernel
theorem dL_failingInput_15 : decode cL_failingInput 15 = .ok (.iconst 0, 1) := by decide +kernel
theorem dL_failingInput_16 : decode cL_failingInput 16 = .ok (.ireturn, 1) := by decide +kernel
theorem dL_undo_0 : decode cL_undo 0 = .ok (.aload_n 1, 1) := by decide +kernel
theorem dL_undo_1 : decode cL_undo 1 = .ok (.iconst 0, 1) := by decide +kernel
theorem dL_undo_2 : decode cL_undo 2 = .ok (.aload_n 0, 1) := by decide +kernel
theorem dL_undo_3 : decode cL_undo 3 = .ok (.invokevirtual 68, 3) := by decide +kernel
theorem dL_undo_6 : decode cL_undo 6 = .ok (.i2l, 1) := by decide +kernel
theorem dL_undo_7 : decode cL_undo 7 = .ok (.lastore, 1) := by decide +kernel
theorem dL_undo_8 : decode cL_undo 8 = .ok (.goto 6, 3) := by decide +kernel
theorem dL_undo_11 : decode cL_undo 11 = .ok (.astore_n 2, 1) := by decide +kernel
theorem dL_undo_12 : decode cL_undo 12 = .ok (.iconst 1, 1) := by decide +kernel
theorem dL_undo_13 : decode cL_undo 13 = .ok (.ireturn, 1) := by decide +kernel
theorem dL_undo_14 : decode cL_undo 14 = .ok (.iconst 0, 1) := by decide +kernel
theorem dL_undo_15 : decode cL_undo 15 = .ok (.ireturn, 1) := by decide +kernel
theorem dL_law_0 : decode cL_law 0 = .ok (.new 8, 3) := by decide +kernel
theorem dL_law_3 : decode cL_law 3 = .ok (.dup, 1) := by decide +kernel
theorem dL_law_4 : decode cL_law 4 = .ok (.invokespecial 72, 3) := by decide +kernel
theorem dL_law_7 : decode cL_law 7 = .ok (.astore_n 1, 1) := by decide +kernel
theorem dL_law_8 : decode cL_law 8 = .ok (.new 73, 3) := by decide +kernel
theorem dL_law_11 : decode cL_law 11 = .ok (.dup, 1) := by decide +kernel
theorem dL_law_12 : decode cL_law 12 = .ok (.invokespecial 75, 3) := by decide +kernel
theorem dL_law_15 : decode cL_law 15 = .ok (.astore_n 2, 1) := by decide +kernel
theorem dL_law_16 : decode cL_law 16 = .ok (.iconst 1, 1) := by decide +kernel
theorem dL_law_17 : decode cL_law 17 = .ok (.newarray .long, 2) := by decide +kernel
theorem dL_law_19 : decode cL_law 19 = .ok (.astore_n 3, 1) := by decide +kernel
theorem dL_law_20 : decode cL_law 20 = .ok (.iconst 0, 1) := by decide +kernel
theorem dL_law_21 : decode cL_law 21 = .ok (.istore 4, 2) := by decide +kernel
theorem dL_law_23 : decode cL_law 23 = .ok (.iload 4, 2) := by decide +kernel
theorem dL_law_25 : decode cL_law 25 = .ok (.aload_n 0, 1) := by decide +kernel
theorem dL_law_26 : decode cL_law 26 = .ok (.arraylength, 1) := by decide +kernel
theorem dL_law_27 : decode cL_law 27 = .ok (.iconst 4, 1) := by decide +kernel
theorem dL_law_28 : decode cL_law 28 = .ok (.isub, 1) := by decide +kernel
theorem dL_law_29 : decode cL_law 29 = .ok (.if_icmp .gt 968, 3) := by decide +kernel
theorem dL_law_32 : decode cL_law 32 = .ok (.aload_n 0, 1) := by decide +kernel
theorem dL_law_33 : decode cL_law 33 = .ok (.iload 4, 2) := by decide +kernel
theorem dL_law_35 : decode cL_law 35 = .ok (.iaload, 1) := by decide +kernel
theorem dL_law_36 : decode cL_law 36 = .ok (.bipush 31, 2) := by decide +kernel
theorem dL_law_38 : decode cL_law 38 = .ok (.iand, 1) := by decide +kernel
theorem dL_law_39 : decode cL_law 39 = .ok (.tableswitch 952 0 25 #[117, 145, 158, 171, 223, 263, 303, 331, 344, 384, 440, 468, 496, 524, 580, 636, 649, 690, 746, 787, 800, 815, 867, 895, 923, 939], 117) := by decide +kernel
theorem dL_law_156 : decode cL_law 156 = .ok (.aload_n 1, 1) := by decide +kernel
theorem dL_law_157 : decode cL_law 157 = .ok (.aload_n 0, 1) := by decide +kernel
theorem dL_law_158 : decode cL_law 158 = .ok (.iload 4, 2) := by decide +kernel
theorem dL_law_160 : decode cL_law 160 = .ok (.iconst 1, 1) := by decide +kernel
theorem dL_law_161 : decode cL_law 161 = .ok (.iadd, 1) := by decide +kernel
theorem dL_law_162 : decode cL_law 162 = .ok (.iaload, 1) := by decide +kernel
theorem dL_law_163 : decode cL_law 163 = .ok (.aload_n 3, 1) := by decide +kernel
theorem dL_law_164 : decode cL_law 164 = .ok (.invokestatic 76, 3) := by decide +kernel
theorem dL_law_167 : decode cL_law 167 = .ok (.istore 5, 2) := by decide +kernel
theorem dL_law_169 : decode cL_law 169 = .ok (.aload_n 2, 1) := by decide +kernel
theorem dL_law_170 : decode cL_law 170 = .ok (.aload_n 0, 1) := by decide +kernel
theorem dL_law_171 : decode cL_law 171 = .ok (.iload 4, 2) := by decide +kernel
theorem dL_law_173 : decode cL_law 173 = .ok (.iconst 1, 1) := by decide +kernel
theorem dL_law_174 : decode cL_law 174 = .ok (.iadd, 1) := by decide +kernel
theorem dL_law_175 : decode cL_law 175 = .ok (.iaload, 1) := by decide +kernel
theorem dL_law_176 : decode cL_law 176 = .ok (.invokevirtual 81, 3) := by decide +kernel
theorem dL_law_179 : decode cL_law 179 = .ok (.istore 6, 2) := by decide +kernel
theorem dL_law_181 : decode cL_law 181 = .ok (.goto 810, 3) := by decide +kernel
theorem dL_law_184 : decode cL_law 184 = .ok (.aload_n 1, 1) := by decide +kernel
theorem dL_law_185 : decode cL_law 185 = .ok (.invokevirtual 82, 3) := by decide +kernel
theorem dL_law_188 : decode cL_law 188 = .ok (.aload_n 2, 1) := by decide +kernel
theorem dL_law_189 : decode cL_law 189 = .ok (.invokevirtual 85, 3) := by decide +kernel
theorem dL_law_192 : decode cL_law 192 = .ok (.if_icmp .eq 799, 3) := by decide +kernel
theorem dL_law_195 : decode cL_law 195 = .ok (.iconst 0, 1) := by decide +kernel
theorem dL_law_196 : decode cL_law 196 = .ok (.ireturn, 1) := by decide +kernel
theorem dL_law_197 : decode cL_law 197 = .ok (.aload_n 1, 1) := by decide +kernel
theorem dL_law_198 : decode cL_law 198 = .ok (.invokevirtual 86, 3) := by decide +kernel
theorem dL_law_201 : decode cL_law 201 = .ok (.pop, 1) := by decide +kernel
theorem dL_law_202 : decode cL_law 202 = .ok (.aload_n 2, 1) := by decide +kernel
theorem dL_law_203 : decode cL_law 203 = .ok (.invokevirtual 89, 3) := by decide +kernel
theorem dL_law_206 : decode cL_law 206 = .ok (.pop, 1) := by decide +kernel
theorem dL_law_207 : decode cL_law 207 = .ok (.goto 784, 3) := by decide +kernel
theorem dL_law_210 : decode cL_law 210 = .ok (.aload_n 1, 1) := by decide +kernel
theorem dL_law_211 : decode cL_law 211 = .ok (.aload_n 0, 1) := by decide +kernel
theorem dL_law_212 : decode cL_law 212 = .ok (.iload 4, 2) := by decide +kernel
theorem dL_law_214 : decode cL_law 214 = .ok (.iconst 1, 1) := by decide +kernel
theorem dL_law_215 : decode cL_law 215 = .ok (.iadd, 1) := by decide +kernel
theorem dL_law_216 : decode cL_law 216 = .ok (.iaload, 1) := by decide +kernel
theorem dL_law_217 : decode cL_law 217 = .ok (.aload_n 0, 1) := by decide +kernel
theorem dL_law_218 : decode cL_law 218 = .ok (.iload 4, 2) := by decide +kernel
theorem dL_law_220 : decode cL_law 220 = .ok (.iconst 2, 1) := by decide +kernel
theorem dL_law_221 : decode cL_law 221 = .ok (.iadd, 1) := by decide +kernel
theorem dL_law_222 : decode cL_law 222 = .ok (.iaload, 1) := by decide +kernel
theorem dL_law_223 : decode cL_law 223 = .ok (.aload_n 0, 1) := by decide +kernel
theorem dL_law_224 : decode cL_law 224 = .ok (.iload 4, 2) := by decide +kernel
theorem dL_law_226 : decode cL_law 226 = .ok (.iconst 3, 1) := by decide +kernel
theorem dL_law_227 : decode cL_law 227 = .ok (.iadd, 1) := by decide +kernel
theorem dL_law_228 : decode cL_law 228 = .ok (.iaload, 1) := by decide +kernel
theorem dL_law_229 : decode cL_law 229 = .ok (.aload_n 3, 1) := by decide +kernel
theorem dL_law_230 : decode cL_law 230 = .ok (.invokestatic 90, 3) := by decide +kernel
theorem dL_law_233 : decode cL_law 233 = .ok (.istore 5, 2) := by decide +kernel
theorem dL_law_235 : decode cL_law 235 = .ok (.aload_n 2, 1) := by decide +kernel
theorem dL_law_236 : decode cL_law 236 = .ok (.aload_n 0, 1) := by decide +kernel
theorem dL_law_237 : decode cL_law 237 = .ok (.iload 4, 2) := by decide +kernel
theorem dL_law_239 : decode cL_law 239 = .ok (.iconst 1, 1) := by decide +kernel
theorem dL_law_240 : decode cL_law 240 = .ok (.iadd, 1) := by decide +kernel
theorem dL_law_241 : decode cL_law 241 = .ok (.iaload, 1) := by decide +kernel
theorem dL_law_242 : decode cL_law 242 = .ok (.aload_n 0, 1) := by decide +kernel
theorem dL_law_243 : decode cL_law 243 = .ok (.iload 4, 2) := by decide +kernel
theorem dL_law_245 : decode cL_law 245 = .ok (.iconst 2, 1) := by decide +kernel
theorem dL_law_246 : decode cL_law 246 = .ok (.iadd, 1) := by decide +kernel
theorem dL_law_247 : decode cL_law 247 = .ok (.iaload, 1) := by decide +kernel
theorem dL_law_248 : decode cL_law 248 = .ok (.aload_n 0, 1) := by decide +kernel
theorem dL_law_249 : decode cL_law 249 = .ok (.iload 4, 2) := by decide +kernel
theorem dL_law_251 : decode cL_law 251 = .ok (.iconst 3, 1) := by decide +kernel
theorem dL_law_252 : decode cL_law 252 = .ok (.iadd, 1) := by decide +kernel
theorem dL_law_253 : decode cL_law 253 = .ok (.iaload, 1) := by decide +kernel
theorem dL_law_254 : decode cL_law 254 = .ok (.invokevirtual 93, 3) := by decide +kernel
theorem dL_law_257 : decode cL_law 257 = .ok (.istore 6, 2) := by decide +kernel
theorem dL_law_259 : decode cL_law 259 = .ok (.goto 732, 3) := by decide +kernel
theorem dL_law_262 : decode cL_law 262 = .ok (.aload_n 1, 1) := by decide +kernel
theorem dL_law_263 : decode cL_law 263 = .ok (.aload_n 0, 1) := by decide +kernel
theorem dL_law_264 : decode cL_law 264 = .ok (.iload 4, 2) := by decide +kernel
theorem dL_law_266 : decode cL_law 266 = .ok (.iconst 1, 1) := by decide +kernel
theorem dL_law_267 : decode cL_law 267 = .ok (.iadd, 1) := by decide +kernel
theorem dL_law_268 : decode cL_law 268 = .ok (.iaload, 1) := by decide +kernel
theorem dL_law_269 : decode cL_law 269 = .ok (.aload_n 0, 1) := by decide +kernel
theorem dL_law_270 : decode cL_law 270 = .ok (.iload 4, 2) := by decide +kernel
theorem dL_law_272 : decode cL_law 272 = .ok (.iconst 2, 1) := by decide +kernel
theorem dL_law_273 : decode cL_law 273 = .ok (.iadd, 1) := by decide +kernel
theorem dL_law_274 : decode cL_law 274 = .ok (.iaload, 1) := by decide +kernel
theorem dL_law_275 : decode cL_law 275 = .ok (.aload_n 3, 1) := by decide +kernel
theorem dL_law_276 : decode cL_law 276 = .ok (.invokestatic 94, 3) := by decide +kernel
theorem dL_law_279 : decode cL_law 279 = .ok (.istore 5, 2) := by decide +kernel
theorem dL_law_281 : decode cL_law 281 = .ok (.aload_n 2, 1) := by decide +kernel
theorem dL_law_282 : decode cL_law 282 = .ok (.aload_n 0, 1) := by decide +kernel
theorem dL_law_283 : decode cL_law 283 = .ok (.iload 4, 2) := by decide +kernel
theorem dL_law_285 : decode cL_law 285 = .ok (.iconst 1, 1) := by decide +kernel
theorem dL_law_286 : decode cL_law 286 = .ok (.iadd, 1) := by decide +kernel
theorem dL_law_287 : decode cL_law 287 = .ok (.iaload, 1) := by decide +kernel
theorem dL_law_288 : decode cL_law 288 = .ok (.aload_n 0, 1) := by decide +kernel
theorem dL_law_289 : decode cL_law 289 = .ok (.iload 4, 2) := by decide +kernel
theorem dL_law_291 : decode cL_law 291 = .ok (.iconst 2, 1) := by decide +kernel
theorem dL_law_292 : decode cL_law 292 = .ok (.iadd, 1) := by decide +kernel
theorem dL_law_293 : decode cL_law 293 = .ok (.iaload, 1) := by decide +kernel
theorem dL_law_294 : decode cL_law 294 = .ok (.invokevirtual 97, 3) := by decide +kernel
theorem dL_law_297 : decode cL_law 297 = .ok (.istore 6, 2) := by decide +kernel
theorem dL_law_299 : decode cL_law 299 = .ok (.goto 692, 3) := by decide +kernel
theorem dL_law_302 : decode cL_law 302 = .ok (.aload_n 1, 1) := by decide +kernel
theorem dL_law_303 : decode cL_law 303 = .ok (.aload_n 0, 1) := by decide +kernel
theorem dL_law_304 : decode cL_law 304 = .ok (.iload 4, 2) := by decide +kernel
theorem dL_law_306 : decode cL_law 306 = .ok (.iconst 1, 1) := by decide +kernel
theorem dL_law_307 : decode cL_law 307 = .ok (.iadd, 1) := by decide +kernel
theorem dL_law_308 : decode cL_law 308 = .ok (.iaload, 1) := by decide +kernel
theorem dL_law_309 : decode cL_law 309 = .ok (.aload_n 0, 1) := by decide +kernel
theorem dL_law_310 : decode cL_law 310 = .ok (.iload 4, 2) := by decide +kernel
theorem dL_law_312 : decode cL_law 312 = .ok (.iconst 2, 1) := by decide +kernel
theorem dL_law_313 : decode cL_law 313 = .ok (.iadd, 1) := by decide +kernel
theorem dL_law_314 : decode cL_law 314 = .ok (.iaload, 1) := by decide +kernel
theorem dL_law_315 : decode cL_law 315 = .ok (.aload_n 3, 1) := by decide +kernel
theorem dL_law_316 : decode cL_law 316 = .ok (.invokestatic 98, 3) := by decide +kernel
theorem dL_law_319 : decode cL_law 319 = .ok (.istore 5, 2) := by decide +kernel
theorem dL_law_321 : decode cL_law 321 = .ok (.aload_n 2, 1) := by decide +kernel
theorem dL_law_322 : decode cL_law 322 = .ok (.aload_n 0, 1) := by decide +kernel
theorem dL_law_323 : decode cL_law 323 = .ok (.iload 4, 2) := by decide +kernel
theorem dL_law_325 : decode cL_law 325 = .ok (.iconst 1, 1) := by decide +kernel
theorem dL_law_326 : decode cL_law 326 = .ok (.iadd, 1) := by decide +kernel
theorem dL_law_327 : decode cL_law 327 = .ok (.iaload, 1) := by decide +kernel
theorem dL_law_328 : decode cL_law 328 = .ok (.aload_n 0, 1) := by decide +kernel
theorem dL_law_329 : decode cL_law 329 = .ok (.iload 4, 2) := by decide +kernel
theorem dL_law_331 : decode cL_law 331 = .ok (.iconst 2, 1) := by decide +kernel
theorem dL_law_332 : decode cL_law 332 = .ok (.iadd, 1) := by decide +kernel
theorem dL_law_333 : decode cL_law 333 = .ok (.iaload, 1) := by decide +kernel
theorem dL_law_334 : decode cL_law 334 = .ok (.invokevirtual 100, 3) := by decide +kernel
theorem dL_law_337 : decode cL_law 337 = .ok (.istore 6, 2) := by decide +kernel
theorem dL_law_339 : decode cL_law 339 = .ok (.goto 652, 3) := by decide +kernel
theorem dL_law_342 : decode cL_law 342 = .ok (.aload_n 1, 1) := by decide +kernel
theorem dL_law_343 : decode cL_law 343 = .ok (.aload_n 0, 1) := by decide +kernel
theorem dL_law_344 : decode cL_law 344 = .ok (.iload 4, 2) := by decide +kernel
theorem dL_law_346 : decode cL_law 346 = .ok (.iconst 1, 1) := by decide +kernel
theorem dL_law_347 : decode cL_law 347 = .ok (.iadd, 1) := by decide +kernel
theorem dL_law_348 : decode cL_law 348 = .ok (.iaload, 1) := by decide +kernel
theorem dL_law_349 : decode cL_law 349 = .ok (.aload_n 3, 1) := by decide +kernel
theorem dL_law_350 : decode cL_law 350 = .ok (.invokestatic 101, 3) := by decide +kernel
theorem dL_law_353 : decode cL_law 353 = .ok (.istore 5, 2) := by decide +kernel
theorem dL_law_355 : decode cL_law 355 = .ok (.aload_n 2, 1) := by decide +kernel
theorem dL_law_356 : decode cL_law 356 = .ok (.aload_n 0, 1) := by decide +kernel
theorem dL_law_357 : decode cL_law 357 = .ok (.iload 4, 2) := by decide +kernel
theorem dL_law_359 : decode cL_law 359 = .ok (.iconst 1, 1) := by decide +kernel
theorem dL_law_360 : decode cL_law 360 = .ok (.iadd, 1) := by decide +kernel
theorem dL_law_361 : decode cL_law 361 = .ok (.iaload, 1) := by decide +kernel
theorem dL_law_362 : decode cL_law 362 = .ok (.invokevirtual 103, 3) := by decide +kernel
theorem dL_law_365 : decode cL_law 365 = .ok (.istore 6, 2) := by decide +kernel
theorem dL_law_367 : decode cL_law 367 = .ok (.goto 624, 3) := by decide +kernel
theorem dL_law_370 : decode cL_law 370 = .ok (.aload_n 1, 1) := by decide +kernel
theorem dL_law_371 : decode cL_law 371 = .ok (.invokevirtual 104, 3) := by decide +kernel
theorem dL_law_374 : decode cL_law 374 = .ok (.pop, 1) := by decide +kernel
theorem dL_law_375 : decode cL_law 375 = .ok (.aload_n 2, 1) := by decide +kernel
theorem dL_law_376 : decode cL_law 376 = .ok (.invokevirtual 107, 3) := by decide +kernel
theorem dL_law_379 : decode cL_law 379 = .ok (.pop, 1) := by decide +kernel
theorem dL_law_380 : decode cL_law 380 = .ok (.goto 611, 3) := by decide +kernel
theorem dL_law_383 : decode cL_law 383 = .ok (.aload_n 1, 1) := by decide +kernel
theorem dL_law_384 : decode cL_law 384 = .ok (.aload_n 0, 1) := by decide +kernel
theorem dL_law_385 : decode cL_law 385 = .ok (.iload 4, 2) := by decide +kernel
theorem dL_law_387 : decode cL_law 387 = .ok (.iconst 1, 1) := by decide +kernel
theorem dL_law_388 : decode cL_law 388 = .ok (.iadd, 1) := by decide +kernel
theorem dL_law_389 : decode cL_law 389 = .ok (.iaload, 1) := by decide +kernel
theorem dL_law_390 : decode cL_law 390 = .ok (.aload_n 0, 1) := by decide +kernel
theorem dL_law_391 : decode cL_law 391 = .ok (.iload 4, 2) := by decide +kernel
theorem dL_law_393 : decode cL_law 393 = .ok (.iconst 2, 1) := by decide +kernel
theorem dL_law_394 : decode cL_law 394 = .ok (.iadd, 1) := by decide +kernel
theorem dL_law_395 : decode cL_law 395 = .ok (.iaload, 1) := by decide +kernel
theorem dL_law_396 : decode cL_law 396 = .ok (.aload_n 3, 1) := by decide +kernel
theorem dL_law_397 : decode cL_law 397 = .ok (.invokestatic 108, 3) := by decide +kernel
theorem dL_law_400 : decode cL_law 400 = .ok (.istore 5, 2) := by decide +kernel
theorem dL_law_402 : decode cL_law 402 = .ok (.aload_n 2, 1) := by decide +kernel
theorem dL_law_403 : decode cL_law 403 = .ok (.aload_n 0, 1) := by decide +kernel
theorem dL_law_404 : decode cL_law 404 = .ok (.iload 4, 2) := by decide +kernel
theorem dL_law_406 : decode cL_law 406 = .ok (.iconst 1, 1) := by decide +kernel
theorem dL_law_407 : decode cL_law 407 = .ok (.iadd, 1) := by decide +kernel
theorem dL_law_408 : decode cL_law 408 = .ok (.iaload, 1) := by decide +kernel
theorem dL_law_409 : decode cL_law 409 = .ok (.aload_n 0, 1) := by decide +kernel
theorem dL_law_410 : decode cL_law 410 = .ok (.iload 4, 2) := by decide +kernel
theorem dL_law_412 : decode cL_law 412 = .ok (.iconst 2, 1) := by decide +kernel
theorem dL_law_413 : decode cL_law 413 = .ok (.iadd, 1) := by decide +kernel
theorem dL_law_414 : decode cL_law 414 = .ok (.iaload, 1) := by decide +kernel
theorem dL_law_415 : decode cL_law 415 = .ok (.invokevirtual 110, 3) := by decide +kernel
theorem dL_law_418 : decode cL_law 418 = .ok (.istore 6, 2) := by decide +kernel
theorem dL_law_420 : decode cL_law 420 = .ok (.goto 571, 3) := by decide +kernel
theorem dL_law_423 : decode cL_law 423 = .ok (.aload_n 1, 1) := by decide +kernel
theorem dL_law_424 : decode cL_law 424 = .ok (.aload_n 0, 1) := by decide +kernel
theorem dL_law_425 : decode cL_law 425 = .ok (.iload 4, 2) := by decide +kernel
theorem dL_law_427 : decode cL_law 427 = .ok (.iconst 1, 1) := by decide +kernel
theorem dL_law_428 : decode cL_law 428 = .ok (.iadd, 1) := by decide +kernel
theorem dL_law_429 : decode cL_law 429 = .ok (.iaload, 1) := by decide +kernel
theorem dL_law_430 : decode cL_law 430 = .ok (.aload_n 0, 1) := by decide +kernel
theorem dL_law_431 : decode cL_law 431 = .ok (.iload 4, 2) := by decide +kernel
theorem dL_law_433 : decode cL_law 433 = .ok (.iconst 2, 1) := by decide +kernel
theorem dL_law_434 : decode cL_law 434 = .ok (.iadd, 1) := by decide +kernel
theorem dL_law_435 : decode cL_law 435 = .ok (.iaload, 1) := by decide +kernel
theorem dL_law_436 : decode cL_law 436 = .ok (.ifCond .eq 7, 3) := by decide +kernel
theorem dL_law_439 : decode cL_law 439 = .ok (.iconst 1, 1) := by decide +kernel
theorem dL_law_440 : decode cL_law 440 = .ok (.goto 4, 3) := by decide +kernel
theorem dL_law_443 : decode cL_law 443 = .ok (.iconst 0, 1) := by decide +kernel
theorem dL_law_444 : decode cL_law 444 = .ok (.aload_n 3, 1) := by decide +kernel
theorem dL_law_445 : decode cL_law 445 = .ok (.invokestatic 111, 3) := by decide +kernel
theorem dL_law_448 : decode cL_law 448 = .ok (.istore 5, 2) := by decide +kernel
theorem dL_law_450 : decode cL_law 450 = .ok (.aload_n 2, 1) := by decide +kernel
theorem dL_law_451 : decode cL_law 451 = .ok (.aload_n 0, 1) := by decide +kernel
theorem dL_law_452 : decode cL_law 452 = .ok (.iload 4, 2) := by decide +kernel
theorem dL_law_454 : decode cL_law 454 = .ok (.iconst 1, 1) := by decide +kernel
theorem dL_law_455 : decode cL_law 455 = .ok (.iadd, 1) := by decide +kernel
theorem dL_law_456 : decode cL_law 456 = .ok (.iaload, 1) := by decide +kernel
theorem dL_law_457 : decode cL_law 457 = .ok (.aload_n 0, 1) := by decide +kernel
theorem dL_law_458 : decode cL_law 458 = .ok (.iload 4, 2) := by decide +kernel
theorem dL_law_460 : decode cL_law 460 = .ok (.iconst 2, 1) := by decide +kernel
theorem dL_law_461 : decode cL_law 461 = .ok (.iadd, 1) := by decide +kernel
theorem dL_law_462 : decode cL_law 462 = .ok (.iaload, 1) := by decide +kernel
theorem dL_law_463 : decode cL_law 463 = .ok (.ifCond .eq 7, 3) := by decide +kernel
theorem dL_law_466 : decode cL_law 466 = .ok (.iconst 1, 1) := by decide +kernel
theorem dL_law_467 : decode cL_law 467 = .ok (.goto 4, 3) := by decide +kernel
theorem dL_law_470 : decode cL_law 470 = .ok (.iconst 0, 1) := by decide +kernel
theorem dL_law_471 : decode cL_law 471 = .ok (.invokevirtual 114, 3) := by decide +kernel
theorem dL_law_474 : decode cL_law 474 = .ok (.istore 6, 2) := by decide +kernel
theorem dL_law_476 : decode cL_law 476 = .ok (.goto 515, 3) := by decide +kernel
theorem dL_law_479 : decode cL_law 479 = .ok (.aload_n 1, 1) := by decide +kernel
theorem dL_law_480 : decode cL_law 480 = .ok (.aload_n 0, 1) := by decide +kernel
theorem dL_law_481 : decode cL_law 481 = .ok (.iload 4, 2) := by decide +kernel
theorem dL_law_483 : decode cL_law 483 = .ok (.iconst 1, 1) := by decide +kernel
theorem dL_law_484 : decode cL_law 484 = .ok (.iadd, 1) := by decide +kernel
theorem dL_law_485 : decode cL_law 485 = .ok (.iaload, 1) := by decide +kernel
theorem dL_law_486 : decode cL_law 486 = .ok (.aload_n 3, 1) := by decide +kernel
theorem dL_law_487 : decode cL_law 487 = .ok (.invokestatic 115, 3) := by decide +kernel
theorem dL_law_490 : decode cL_law 490 = .ok (.istore 5, 2) := by decide +kernel
theorem dL_law_492 : decode cL_law 492 = .ok (.aload_n 2, 1) := by decide +kernel
theorem dL_law_493 : decode cL_law 493 = .ok (.aload_n 0, 1) := by decide +kernel
theorem dL_law_494 : decode cL_law 494 = .ok (.iload 4, 2) := by decide +kernel
theorem dL_law_496 : decode cL_law 496 = .ok (.iconst 1, 1) := by decide +kernel
theorem dL_law_497 : decode cL_law 497 = .ok (.iadd, 1) := by decide +kernel
theorem dL_law_498 : decode cL_law 498 = .ok (.iaload, 1) := by decide +kernel
theorem dL_law_499 : decode cL_law 499 = .ok (.invokevirtual 117, 3) := by decide +kernel
theorem dL_law_502 : decode cL_law 502 = .ok (.istore 6, 2) := by decide +kernel
theorem dL_law_504 : decode cL_law 504 = .ok (.goto 487, 3) := by decide +kernel
theorem dL_law_507 : decode cL_law 507 = .ok (.aload_n 1, 1) := by decide +kernel
theorem dL_law_508 : decode cL_law 508 = .ok (.aload_n 0, 1) := by decide +kernel
theorem dL_law_509 : decode cL_law 509 = .ok (.iload 4, 2) := by decide +kernel
theorem dL_law_511 : decode cL_law 511 = .ok (.iconst 1, 1) := by decide +kernel
theorem dL_law_512 : decode cL_law 512 = .ok (.iadd, 1) := by decide +kernel
theorem dL_law_513 : decode cL_law 513 = .ok (.iaload, 1) := by decide +kernel
theorem dL_law_514 : decode cL_law 514 = .ok (.aload_n 3, 1) := by decide +kernel
theorem dL_law_515 : decode cL_law 515 = .ok (.invokestatic 118, 3) := by decide +kernel
theorem dL_law_518 : decode cL_law 518 = .ok (.istore 5, 2) := by decide +kernel
theorem dL_law_520 : decode cL_law 520 = .ok (.aload_n 2, 1) := by decide +kernel
theorem dL_law_521 : decode cL_law 521 = .ok (.aload_n 0, 1) := by decide +kernel
theorem dL_law_522 : decode cL_law 522 = .ok (.iload 4, 2) := by decide +kernel
theorem dL_law_524 : decode cL_law 524 = .ok (.iconst 1, 1) := by decide +kernel
theorem dL_law_525 : decode cL_law 525 = .ok (.iadd, 1) := by decide +kernel
theorem dL_law_526 : decode cL_law 526 = .ok (.iaload, 1) := by decide +kernel
theorem dL_law_527 : decode cL_law 527 = .ok (.invokevirtual 120, 3) := by decide +kernel
theorem dL_law_530 : decode cL_law 530 = .ok (.istore 6, 2) := by decide +kernel
theorem dL_law_532 : decode cL_law 532 = .ok (.goto 459, 3) := by decide +kernel
theorem dL_law_535 : decode cL_law 535 = .ok (.aload_n 1, 1) := by decide +kernel
theorem dL_law_536 : decode cL_law 536 = .ok (.aload_n 0, 1) := by decide +kernel
theorem dL_law_537 : decode cL_law 537 = .ok (.iload 4, 2) := by decide +kernel
theorem dL_law_539 : decode cL_law 539 = .ok (.iconst 1, 1) := by decide +kernel
theorem dL_law_540 : decode cL_law 540 = .ok (.iadd, 1) := by decide +kernel
theorem dL_law_541 : decode cL_law 541 = .ok (.iaload, 1) := by decide +kernel
theorem dL_law_542 : decode cL_law 542 = .ok (.aload_n 3, 1) := by decide +kernel
theorem dL_law_543 : decode cL_law 543 = .ok (.invokestatic 121, 3) := by decide +kernel
theorem dL_law_546 : decode cL_law 546 = .ok (.istore 5, 2) := by decide +kernel
theorem dL_law_548 : decode cL_law 548 = .ok (.aload_n 2, 1) := by decide +kernel
theorem dL_law_549 : decode cL_law 549 = .ok (.aload_n 0, 1) := by decide +kernel
theorem dL_law_550 : decode cL_law 550 = .ok (.iload 4, 2) := by decide +kernel
theorem dL_law_552 : decode cL_law 552 = .ok (.iconst 1, 1) := by decide +kernel
theorem dL_law_553 : decode cL_law 553 = .ok (.iadd, 1) := by decide +kernel
theorem dL_law_554 : decode cL_law 554 = .ok (.iaload, 1) := by decide +kernel
theorem dL_law_555 : decode cL_law 555 = .ok (.invokevirtual 123, 3) := by decide +kernel
theorem dL_law_558 : decode cL_law 558 = .ok (.istore 6, 2) := by decide +kernel
theorem dL_law_560 : decode cL_law 560 = .ok (.goto 431, 3) := by decide +kernel
theorem dL_law_563 : decode cL_law 563 = .ok (.aload_n 1, 1) := by decide +kernel
theorem dL_law_564 : decode cL_law 564 = .ok (.aload_n 0, 1) := by decide +kernel
theorem dL_law_565 : decode cL_law 565 = .ok (.iload 4, 2) := by decide +kernel
theorem dL_law_567 : decode cL_law 567 = .ok (.iconst 1, 1) := by decide +kernel
theorem dL_law_568 : decode cL_law 568 = .ok (.iadd, 1) := by decide +kernel
theorem dL_law_569 : decode cL_law 569 = .ok (.iaload, 1) := by decide +kernel
theorem dL_law_570 : decode cL_law 570 = .ok (.aload_n 0, 1) := by decide +kernel
theorem dL_law_571 : decode cL_law 571 = .ok (.iload 4, 2) := by decide +kernel
theorem dL_law_573 : decode cL_law 573 = .ok (.iconst 2, 1) := by decide +kernel
theorem dL_law_574 : decode cL_law 574 = .ok (.iadd, 1) := by decide +kernel
theorem dL_law_575 : decode cL_law 575 = .ok (.iaload, 1) := by decide +kernel
theorem dL_law_576 : decode cL_law 576 = .ok (.ifCond .eq 7, 3) := by decide +kernel
theorem dL_law_579 : decode cL_law 579 = .ok (.iconst 1, 1) := by decide +kernel
theorem dL_law_580 : decode cL_law 580 = .ok (.goto 4, 3) := by decide +kernel
theorem dL_law_583 : decode cL_law 583 = .ok (.iconst 0, 1) := by decide +kernel
theorem dL_law_584 : decode cL_law 584 = .ok (.aload_n 3, 1) := by decide +kernel
theorem dL_law_585 : decode cL_law 585 = .ok (.invokestatic 124, 3) := by decide +kernel
theorem dL_law_588 : decode cL_law 588 = .ok (.istore 5, 2) := by decide +kernel
theorem dL_law_590 : decode cL_law 590 = .ok (.aload_n 2, 1) := by decide +kernel
theorem dL_law_591 : decode cL_law 591 = .ok (.aload_n 0, 1) := by decide +kernel
theorem dL_law_592 : decode cL_law 592 = .ok (.iload 4, 2) := by decide +kernel
theorem dL_law_594 : decode cL_law 594 = .ok (.iconst 1, 1) := by decide +kernel
theorem dL_law_595 : decode cL_law 595 = .ok (.iadd, 1) := by decide +kernel
theorem dL_law_596 : decode cL_law 596 = .ok (.iaload, 1) := by decide +kernel
theorem dL_law_597 : decode cL_law 597 = .ok (.aload_n 0, 1) := by decide +kernel
theorem dL_law_598 : decode cL_law 598 = .ok (.iload 4, 2) := by decide +kernel
theorem dL_law_600 : decode cL_law 600 = .ok (.iconst 2, 1) := by decide +kernel
theorem dL_law_601 : decode cL_law 601 = .ok (.iadd, 1) := by decide +kernel
theorem dL_law_602 : decode cL_law 602 = .ok (.iaload, 1) := by decide +kernel
theorem dL_law_603 : decode cL_law 603 = .ok (.ifCond .eq 7, 3) := by decide +kernel
theorem dL_law_606 : decode cL_law 606 = .ok (.iconst 1, 1) := by decide +kernel
theorem dL_law_607 : decode cL_law 607 = .ok (.goto 4, 3) := by decide +kernel
theorem dL_law_610 : decode cL_law 610 = .ok (.iconst 0, 1) := by decide +kernel
theorem dL_law_611 : decode cL_law 611 = .ok (.invokevirtual 126, 3) := by decide +kernel
theorem dL_law_614 : decode cL_law 614 = .ok (.lstore 6, 2) := by decide +kernel
theorem dL_law_616 : decode cL_law 616 = .ok (.goto 375, 3) := by decide +kernel
theorem dL_law_619 : decode cL_law 619 = .ok (.aload_n 1, 1) := by decide +kernel
theorem dL_law_620 : decode cL_law 620 = .ok (.aload_n 0, 1) := by decide +kernel
theorem dL_law_621 : decode cL_law 621 = .ok (.iload 4, 2) := by decide +kernel
theorem dL_law_623 : decode cL_law 623 = .ok (.iconst 1, 1) := by decide +kernel
theorem dL_law_624 : decode cL_law 624 = .ok (.iadd, 1) := by decide +kernel
theorem dL_law_625 : decode cL_law 625 = .ok (.iaload, 1) := by decide +kernel
theorem dL_law_626 : decode cL_law 626 = .ok (.aload_n 0, 1) := by decide +kernel
theorem dL_law_627 : decode cL_law 627 = .ok (.iload 4, 2) := by decide +kernel
theorem dL_law_629 : decode cL_law 629 = .ok (.iconst 2, 1) := by decide +kernel
theorem dL_law_630 : decode cL_law 630 = .ok (.iadd, 1) := by decide +kernel
theorem dL_law_631 : decode cL_law 631 = .ok (.iaload, 1) := by decide +kernel
theorem dL_law_632 : decode cL_law 632 = .ok (.ifCond .eq 7, 3) := by decide +kernel
theorem dL_law_635 : decode cL_law 635 = .ok (.iconst 1, 1) := by decide +kernel
theorem dL_law_636 : decode cL_law 636 = .ok (.goto 4, 3) := by decide +kernel
theorem dL_law_639 : decode cL_law 639 = .ok (.iconst 0, 1) := by decide +kernel
theorem dL_law_640 : decode cL_law 640 = .ok (.aload_n 3, 1) := by decide +kernel
theorem dL_law_641 : decode cL_law 641 = .ok (.invokestatic 127, 3) := by decide +kernel
theorem dL_law_644 : decode cL_law 644 = .ok (.istore 5, 2) := by decide +kernel
theorem dL_law_646 : decode cL_law 646 = .ok (.aload_n 2, 1) := by decide +kernel
theorem dL_law_647 : decode cL_law 647 = .ok (.aload_n 0, 1) := by decide +kernel
theorem dL_law_648 : decode cL_law 648 = .ok (.iload 4, 2) := by decide +kernel
theorem dL_law_650 : decode cL_law 650 = .ok (.iconst 1, 1) := by decide +kernel
theorem dL_law_651 : decode cL_law 651 = .ok (.iadd, 1) := by decide +kernel
theorem dL_law_652 : decode cL_law 652 = .ok (.iaload, 1) := by decide +kernel
theorem dL_law_653 : decode cL_law 653 = .ok (.aload_n 0, 1) := by decide +kernel
theorem dL_law_654 : decode cL_law 654 = .ok (.iload 4, 2) := by decide +kernel
theorem dL_law_656 : decode cL_law 656 = .ok (.iconst 2, 1) := by decide +kernel
theorem dL_law_657 : decode cL_law 657 = .ok (.iadd, 1) := by decide +kernel
theorem dL_law_658 : decode cL_law 658 = .ok (.iaload, 1) := by decide +kernel
theorem dL_law_659 : decode cL_law 659 = .ok (.ifCond .eq 7, 3) := by decide +kernel
theorem dL_law_662 : decode cL_law 662 = .ok (.iconst 1, 1) := by decide +kernel
theorem dL_law_663 : decode cL_law 663 = .ok (.goto 4, 3) := by decide +kernel
theorem dL_law_666 : decode cL_law 666 = .ok (.iconst 0, 1) := by decide +kernel
theorem dL_law_667 : decode cL_law 667 = .ok (.invokevirtual 129, 3) := by decide +kernel
theorem dL_law_670 : decode cL_law 670 = .ok (.istore 6, 2) := by decide +kernel
theorem dL_law_672 : decode cL_law 672 = .ok (.goto 319, 3) := by decide +kernel
theorem dL_law_675 : decode cL_law 675 = .ok (.aload_n 1, 1) := by decide +kernel
theorem dL_law_676 : decode cL_law 676 = .ok (.invokevirtual 130, 3) := by decide +kernel
theorem dL_law_679 : decode cL_law 679 = .ok (.pop, 1) := by decide +kernel
theorem dL_law_680 : decode cL_law 680 = .ok (.aload_n 2, 1) := by decide +kernel
theorem dL_law_681 : decode cL_law 681 = .ok (.invokevirtual 134, 3) := by decide +kernel
theorem dL_law_684 : decode cL_law 684 = .ok (.pop, 1) := by decide +kernel
theorem dL_law_685 : decode cL_law 685 = .ok (.goto 306, 3) := by decide +kernel
theorem dL_law_688 : decode cL_law 688 = .ok (.aload_n 1, 1) := by decide +kernel
theorem dL_law_689 : decode cL_law 689 = .ok (.aload_n 0, 1) := by decide +kernel
theorem dL_law_690 : decode cL_law 690 = .ok (.iload 4, 2) := by decide +kernel
theorem dL_law_692 : decode cL_law 692 = .ok (.iconst 1, 1) := by decide +kernel
theorem dL_law_693 : decode cL_law 693 = .ok (.iadd, 1) := by decide +kernel
theorem dL_law_694 : decode cL_law 694 = .ok (.iaload, 1) := by decide +kernel
theorem dL_law_695 : decode cL_law 695 = .ok (.ifCond .eq 7, 3) := by decide +kernel
theorem dL_law_698 : decode cL_law 698 = .ok (.iconst 1, 1) := by decide +kernel
theorem dL_law_699 : decode cL_law 699 = .ok (.goto 4, 3) := by decide +kernel
theorem dL_law_702 : decode cL_law 702 = .ok (.iconst 0, 1) := by decide +kernel
theorem dL_law_703 : decode cL_law 703 = .ok (.invokevirtual 135, 3) := by decide +kernel
theorem dL_law_706 : decode cL_law 706 = .ok (.pop, 1) := by decide +kernel
theorem dL_law_707 : decode cL_law 707 = .ok (.aload_n 2, 1) := by decide +kernel
theorem dL_law_708 : decode cL_law 708 = .ok (.aload_n 0, 1) := by decide +kernel
theorem dL_law_709 : decode cL_law 709 = .ok (.iload 4, 2) := by decide +kernel
theorem dL_law_711 : decode cL_law 711 = .ok (.iconst 1, 1) := by decide +kernel
theorem dL_law_712 : decode cL_law 712 = .ok (.iadd, 1) := by decide +kernel
theorem dL_law_713 : decode cL_law 713 = .ok (.iaload, 1) := by decide +kernel
theorem dL_law_714 : decode cL_law 714 = .ok (.ifCond .eq 7, 3) := by decide +kernel
theorem dL_law_717 : decode cL_law 717 = .ok (.iconst 1, 1) := by decide +kernel
theorem dL_law_718 : decode cL_law 718 = .ok (.goto 4, 3) := by decide +kernel
theorem dL_law_721 : decode cL_law 721 = .ok (.iconst 0, 1) := by decide +kernel
theorem dL_law_722 : decode cL_law 722 = .ok (.invokevirtual 139, 3) := by decide +kernel
theorem dL_law_725 : decode cL_law 725 = .ok (.pop, 1) := by decide +kernel
theorem dL_law_726 : decode cL_law 726 = .ok (.goto 265, 3) := by decide +kernel
theorem dL_law_729 : decode cL_law 729 = .ok (.aload_n 1, 1) := by decide +kernel
theorem dL_law_730 : decode cL_law 730 = .ok (.aload_n 0, 1) := by decide +kernel
theorem dL_law_731 : decode cL_law 731 = .ok (.iload 4, 2) := by decide +kernel
theorem dL_law_733 : decode cL_law 733 = .ok (.iconst 1, 1) := by decide +kernel
theorem dL_law_734 : decode cL_law 734 = .ok (.iadd, 1) := by decide +kernel
theorem dL_law_735 : decode cL_law 735 = .ok (.iaload, 1) := by decide +kernel
theorem dL_law_736 : decode cL_law 736 = .ok (.aload_n 0, 1) := by decide +kernel
theorem dL_law_737 : decode cL_law 737 = .ok (.iload 4, 2) := by decide +kernel
theorem dL_law_739 : decode cL_law 739 = .ok (.iconst 2, 1) := by decide +kernel
theorem dL_law_740 : decode cL_law 740 = .ok (.iadd, 1) := by decide +kernel
theorem dL_law_741 : decode cL_law 741 = .ok (.iaload, 1) := by decide +kernel
theorem dL_law_742 : decode cL_law 742 = .ok (.ifCond .eq 7, 3) := by decide +kernel
theorem dL_law_745 : decode cL_law 745 = .ok (.iconst 1, 1) := by decide +kernel
theorem dL_law_746 : decode cL_law 746 = .ok (.goto 4, 3) := by decide +kernel
theorem dL_law_749 : decode cL_law 749 = .ok (.iconst 0, 1) := by decide +kernel
theorem dL_law_750 : decode cL_law 750 = .ok (.aload_n 3, 1) := by decide +kernel
theorem dL_law_751 : decode cL_law 751 = .ok (.invokestatic 140, 3) := by decide +kernel
theorem dL_law_754 : decode cL_law 754 = .ok (.istore 5, 2) := by decide +kernel
theorem dL_law_756 : decode cL_law 756 = .ok (.aload_n 2, 1) := by decide +kernel
theorem dL_law_757 : decode cL_law 757 = .ok (.aload_n 0, 1) := by decide +kernel
theorem dL_law_758 : decode cL_law 758 = .ok (.iload 4, 2) := by decide +kernel
theorem dL_law_760 : decode cL_law 760 = .ok (.iconst 1, 1) := by decide +kernel
theorem dL_law_761 : decode cL_law 761 = .ok (.iadd, 1) := by decide +kernel
theorem dL_law_762 : decode cL_law 762 = .ok (.iaload, 1) := by decide +kernel
theorem dL_law_763 : decode cL_law 763 = .ok (.aload_n 0, 1) := by decide +kernel
theorem dL_law_764 : decode cL_law 764 = .ok (.iload 4, 2) := by decide +kernel
theorem dL_law_766 : decode cL_law 766 = .ok (.iconst 2, 1) := by decide +kernel
theorem dL_law_767 : decode cL_law 767 = .ok (.iadd, 1) := by decide +kernel
theorem dL_law_768 : decode cL_law 768 = .ok (.iaload, 1) := by decide +kernel
theorem dL_law_769 : decode cL_law 769 = .ok (.ifCond .eq 7, 3) := by decide +kernel
theorem dL_law_772 : decode cL_law 772 = .ok (.iconst 1, 1) := by decide +kernel
theorem dL_law_773 : decode cL_law 773 = .ok (.goto 4, 3) := by decide +kernel
theorem dL_law_776 : decode cL_law 776 = .ok (.iconst 0, 1) := by decide +kernel
theorem dL_law_777 : decode cL_law 777 = .ok (.invokevirtual 142, 3) := by decide +kernel
theorem dL_law_780 : decode cL_law 780 = .ok (.istore 6, 2) := by decide +kernel
theorem dL_law_782 : decode cL_law 782 = .ok (.goto 209, 3) := by decide +kernel
theorem dL_law_785 : decode cL_law 785 = .ok (.aload_n 1, 1) := by decide +kernel
theorem dL_law_786 : decode cL_law 786 = .ok (.aload_n 0, 1) := by decide +kernel
theorem dL_law_787 : decode cL_law 787 = .ok (.iload 4, 2) := by decide +kernel
theorem dL_law_789 : decode cL_law 789 = .ok (.iconst 1, 1) := by decide +kernel
theorem dL_law_790 : decode cL_law 790 = .ok (.iadd, 1) := by decide +kernel
theorem dL_law_791 : decode cL_law 791 = .ok (.iaload, 1) := by decide +kernel
theorem dL_law_792 : decode cL_law 792 = .ok (.ifCond .eq 7, 3) := by decide +kernel
theorem dL_law_795 : decode cL_law 795 = .ok (.iconst 1, 1) := by decide +kernel
theorem dL_law_796 : decode cL_law 796 = .ok (.goto 4, 3) := by decide +kernel
theorem dL_law_799 : decode cL_law 799 = .ok (.iconst 0, 1) := by decide +kernel
theorem dL_law_800 : decode cL_law 800 = .ok (.invokevirtual 143, 3) := by decide +kernel
theorem dL_law_803 : decode cL_law 803 = .ok (.pop, 1) := by decide +kernel
theorem dL_law_804 : decode cL_law 804 = .ok (.aload_n 2, 1) := by decide +kernel
theorem dL_law_805 : decode cL_law 805 = .ok (.aload_n 0, 1) := by decide +kernel
theorem dL_law_806 : decode cL_law 806 = .ok (.iload 4, 2) := by decide +kernel
theorem dL_law_808 : decode cL_law 808 = .ok (.iconst 1, 1) := by decide +kernel
theorem dL_law_809 : decode cL_law 809 = .ok (.iadd, 1) := by decide +kernel
theorem dL_law_810 : decode cL_law 810 = .ok (.iaload, 1) := by decide +kernel
theorem dL_law_811 : decode cL_law 811 = .ok (.ifCond .eq 7, 3) := by decide +kernel
theorem dL_law_814 : decode cL_law 814 = .ok (.iconst 1, 1) := by decide +kernel
theorem dL_law_815 : decode cL_law 815 = .ok (.goto 4, 3) := by decide +kernel
theorem dL_law_818 : decode cL_law 818 = .ok (.iconst 0, 1) := by decide +kernel
theorem dL_law_819 : decode cL_law 819 = .ok (.invokevirtual 146, 3) := by decide +kernel
theorem dL_law_822 : decode cL_law 822 = .ok (.pop, 1) := by decide +kernel
theorem dL_law_823 : decode cL_law 823 = .ok (.goto 168, 3) := by decide +kernel
theorem dL_law_826 : decode cL_law 826 = .ok (.aload_n 1, 1) := by decide +kernel
theorem dL_law_827 : decode cL_law 827 = .ok (.invokevirtual 147, 3) := by decide +kernel
theorem dL_law_830 : decode cL_law 830 = .ok (.pop, 1) := by decide +kernel
theorem dL_law_831 : decode cL_law 831 = .ok (.aload_n 2, 1) := by decide +kernel
theorem dL_law_832 : decode cL_law 832 = .ok (.invokevirtual 150, 3) := by decide +kernel
theorem dL_law_835 : decode cL_law 835 = .ok (.pop, 1) := by decide +kernel
theorem dL_law_836 : decode cL_law 836 = .ok (.goto 155, 3) := by decide +kernel
theorem dL_law_839 : decode cL_law 839 = .ok (.aload_n 1, 1) := by decide +kernel
theorem dL_law_840 : decode cL_law 840 = .ok (.invokevirtual 151, 3) := by decide +kernel
theorem dL_law_843 : decode cL_law 843 = .ok (.dstore 5, 2) := by decide +kernel
theorem dL_law_845 : decode cL_law 845 = .ok (.aload_n 2, 1) := by decide +kernel
theorem dL_law_846 : decode cL_law 846 = .ok (.invokevirtual 155, 3) := by decide +kernel
theorem dL_law_849 : decode cL_law 849 = .ok (.dstore 7, 2) := by decide +kernel
theorem dL_law_851 : decode cL_law 851 = .ok (.goto 140, 3) := by decide +kernel
theorem dL_law_854 : decode cL_law 854 = .ok (.aload_n 1, 1) := by decide +kernel
theorem dL_law_855 : decode cL_law 855 = .ok (.aload_n 0, 1) := by decide +kernel
theorem dL_law_856 : decode cL_law 856 = .ok (.iload 4, 2) := by decide +kernel
theorem dL_law_858 : decode cL_law 858 = .ok (.iconst 1, 1) := by decide +kernel
theorem dL_law_859 : decode cL_law 859 = .ok (.iadd, 1) := by decide +kernel
theorem dL_law_860 : decode cL_law 860 = .ok (.iaload, 1) := by decide +kernel
theorem dL_law_861 : decode cL_law 861 = .ok (.aload_n 0, 1) := by decide +kernel
theorem dL_law_862 : decode cL_law 862 = .ok (.iload 4, 2) := by decide +kernel
theorem dL_law_864 : decode cL_law 864 = .ok (.iconst 2, 1) := by decide +kernel
theorem dL_law_865 : decode cL_law 865 = .ok (.iadd, 1) := by decide +kernel
theorem dL_law_866 : decode cL_law 866 = .ok (.iaload, 1) := by decide +kernel
theorem dL_law_867 : decode cL_law 867 = .ok (.aload_n 0, 1) := by decide +kernel
theorem dL_law_868 : decode cL_law 868 = .ok (.iload 4, 2) := by decide +kernel
theorem dL_law_870 : decode cL_law 870 = .ok (.iconst 3, 1) := by decide +kernel
theorem dL_law_871 : decode cL_law 871 = .ok (.iadd, 1) := by decide +kernel
theorem dL_law_872 : decode cL_law 872 = .ok (.iaload, 1) := by decide +kernel
theorem dL_law_873 : decode cL_law 873 = .ok (.aload_n 3, 1) := by decide +kernel
theorem dL_law_874 : decode cL_law 874 = .ok (.invokestatic 156, 3) := by decide +kernel
theorem dL_law_877 : decode cL_law 877 = .ok (.istore 5, 2) := by decide +kernel
theorem dL_law_879 : decode cL_law 879 = .ok (.aload_n 2, 1) := by decide +kernel
theorem dL_law_880 : decode cL_law 880 = .ok (.aload_n 0, 1) := by decide +kernel
theorem dL_law_881 : decode cL_law 881 = .ok (.iload 4, 2) := by decide +kernel
theorem dL_law_883 : decode cL_law 883 = .ok (.iconst 1, 1) := by decide +kernel
theorem dL_law_884 : decode cL_law 884 = .ok (.iadd, 1) := by decide +kernel
theorem dL_law_885 : decode cL_law 885 = .ok (.iaload, 1) := by decide +kernel
theorem dL_law_886 : decode cL_law 886 = .ok (.aload_n 0, 1) := by decide +kernel
theorem dL_law_887 : decode cL_law 887 = .ok (.iload 4, 2) := by decide +kernel
theorem dL_law_889 : decode cL_law 889 = .ok (.iconst 2, 1) := by decide +kernel
theorem dL_law_890 : decode cL_law 890 = .ok (.iadd, 1) := by decide +kernel
theorem dL_law_891 : decode cL_law 891 = .ok (.iaload, 1) := by decide +kernel
theorem dL_law_892 : decode cL_law 892 = .ok (.aload_n 0, 1) := by decide +kernel
theorem dL_law_893 : decode cL_law 893 = .ok (.iload 4, 2) := by decide +kernel
theorem dL_law_895 : decode cL_law 895 = .ok (.iconst 3, 1) := by decide +kernel
theorem dL_law_896 : decode cL_law 896 = .ok (.iadd, 1) := by decide +kernel
theorem dL_law_897 : decode cL_law 897 = .ok (.iaload, 1) := by decide +kernel
theorem dL_law_898 : decode cL_law 898 = .ok (.invokevirtual 158, 3) := by decide +kernel
theorem dL_law_901 : decode cL_law 901 = .ok (.istore 6, 2) := by decide +kernel
theorem dL_law_903 : decode cL_law 903 = .ok (.goto 88, 3) := by decide +kernel
theorem dL_law_906 : decode cL_law 906 = .ok (.aload_n 1, 1) := by decide +kernel
theorem dL_law_907 : decode cL_law 907 = .ok (.aload_n 0, 1) := by decide +kernel
theorem dL_law_908 : decode cL_law 908 = .ok (.iload 4, 2) := by decide +kernel
theorem dL_law_910 : decode cL_law 910 = .ok (.iconst 1, 1) := by decide +kernel
theorem dL_law_911 : decode cL_law 911 = .ok (.iadd, 1) := by decide +kernel
theorem dL_law_912 : decode cL_law 912 = .ok (.iaload, 1) := by decide +kernel
theorem dL_law_913 : decode cL_law 913 = .ok (.aload_n 3, 1) := by decide +kernel
theorem dL_law_914 : decode cL_law 914 = .ok (.invokestatic 159, 3) := by decide +kernel
theorem dL_law_917 : decode cL_law 917 = .ok (.istore 5, 2) := by decide +kernel
theorem dL_law_919 : decode cL_law 919 = .ok (.aload_n 2, 1) := by decide +kernel
theorem dL_law_920 : decode cL_law 920 = .ok (.aload_n 0, 1) := by decide +kernel
theorem dL_law_921 : decode cL_law 921 = .ok (.iload 4, 2) := by decide +kernel
theorem dL_law_923 : decode cL_law 923 = .ok (.iconst 1, 1) := by decide +kernel
theorem dL_law_924 : decode cL_law 924 = .ok (.iadd, 1) := by decide +kernel
theorem dL_law_925 : decode cL_law 925 = .ok (.iaload, 1) := by decide +kernel
theorem dL_law_926 : decode cL_law 926 = .ok (.invokevirtual 161, 3) := by decide +kernel
theorem dL_law_929 : decode cL_law 929 = .ok (.istore 6, 2) := by decide +kernel
theorem dL_law_931 : decode cL_law 931 = .ok (.goto 60, 3) := by decide +kernel
theorem dL_law_934 : decode cL_law 934 = .ok (.aload_n 1, 1) := by decide +kernel
theorem dL_law_935 : decode cL_law 935 = .ok (.aload_n 0, 1) := by decide +kernel
theorem dL_law_936 : decode cL_law 936 = .ok (.iload 4, 2) := by decide +kernel
theorem dL_law_938 : decode cL_law 938 = .ok (.iconst 1, 1) := by decide +kernel
theorem dL_law_939 : decode cL_law 939 = .ok (.iadd, 1) := by decide +kernel
theorem dL_law_940 : decode cL_law 940 = .ok (.iaload, 1) := by decide +kernel
theorem dL_law_941 : decode cL_law 941 = .ok (.aload_n 3, 1) := by decide +kernel
theorem dL_law_942 : decode cL_law 942 = .ok (.invokestatic 162, 3) := by decide +kernel
theorem dL_law_945 : decode cL_law 945 = .ok (.istore 5, 2) := by decide +kernel
theorem dL_law_947 : decode cL_law 947 = .ok (.aload_n 2, 1) := by decide +kernel
theorem dL_law_948 : decode cL_law 948 = .ok (.aload_n 0, 1) := by decide +kernel
theorem dL_law_949 : decode cL_law 949 = .ok (.iload 4, 2) := by decide +kernel
theorem dL_law_951 : decode cL_law 951 = .ok (.iconst 1, 1) := by decide +kernel
theorem dL_law_952 : decode cL_law 952 = .ok (.iadd, 1) := by decide +kernel
theorem dL_law_953 : decode cL_law 953 = .ok (.iaload, 1) := by decide +kernel
theorem dL_law_954 : decode cL_law 954 = .ok (.invokevirtual 164, 3) := by decide +kernel
theorem dL_law_957 : decode cL_law 957 = .ok (.istore 6, 2) := by decide +kernel
theorem dL_law_959 : decode cL_law 959 = .ok (.goto 32, 3) := by decide +kernel
theorem dL_law_962 : decode cL_law 962 = .ok (.aload_n 1, 1) := by decide +kernel
theorem dL_law_963 : decode cL_law 963 = .ok (.aload_n 3, 1) := by decide +kernel
theorem dL_law_964 : decode cL_law 964 = .ok (.invokestatic 165, 3) := by decide +kernel
theorem dL_law_967 : decode cL_law 967 = .ok (.istore 5, 2) := by decide +kernel
theorem dL_law_969 : decode cL_law 969 = .ok (.aload_n 2, 1) := by decide +kernel
theorem dL_law_970 : decode cL_law 970 = .ok (.invokevirtual 168, 3) := by decide +kernel
theorem dL_law_973 : decode cL_law 973 = .ok (.istore 6, 2) := by decide +kernel
theorem dL_law_975 : decode cL_law 975 = .ok (.goto 16, 3) := by decide +kernel
theorem dL_law_978 : decode cL_law 978 = .ok (.aload_n 1, 1) := by decide +kernel
theorem dL_law_979 : decode cL_law 979 = .ok (.invokevirtual 169, 3) := by decide +kernel
theorem dL_law_982 : decode cL_law 982 = .ok (.pop2, 1) := by decide +kernel
theorem dL_law_983 : decode cL_law 983 = .ok (.aload_n 2, 1) := by decide +kernel
theorem dL_law_984 : decode cL_law 984 = .ok (.invokevirtual 173, 3) := by decide +kernel
theorem dL_law_987 : decode cL_law 987 = .ok (.pop2, 1) := by decide +kernel
theorem dL_law_988 : decode cL_law 988 = .ok (.goto 3, 3) := by decide +kernel
theorem dL_law_991 : decode cL_law 991 = .ok (.iinc 4 4, 3) := by decide +kernel
theorem dL_law_994 : decode cL_law 994 = .ok (.goto (-971), 3) := by decide +kernel
theorem dL_law_997 : decode cL_law 997 = .ok (.iconst 1, 1) := by decide +kernel
theorem dL_law_998 : decode cL_law 998 = .ok (.ireturn, 1) := by decide +kernel
abbrev vwCl : List vw_C := [(RX0, TX0, 13), (RX1, TX1, 2), (RX2, TX2, 2), (RX3, TX3, 3), (RX4, TX4, 6), (RX5, TX5, 3), (RX6, TX6, 7), (RX7, TX7, 6), (RX8, TX8, 2), (RX9, TX9, 2), (RX10, TX10, 14), (RX11, TX11, 33)]
/-- the texts of the throws: own class, place in its pool, text -/
def strL : List (String × Nat × String) := [("OverflowGuards", 92, "the byte is not 0 to 127"), ("OverflowGuards", 103, "the text has 200 bytes"), ("OverflowGuards", 148, "the input is not in its input range"), ("OverflowGuards", 153, "what is not 0 to 2"), ("OverflowGuards", 176, "what is not 0 to 3"), ("OverflowGuards", 190, "the state is not 0 to 4"), ("OverflowGuards", 260, "there is no saved state"), ("OverflowGuards", 289, "there is no such variable"), ("OverflowGuards", 292, "the low end is greater than the high end"), ("OverflowGuards", 294, "there is no such instruction"), ("OverflowGuards", 300, "it is a loop begin or a loop end")]
