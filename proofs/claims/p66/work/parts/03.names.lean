/-! ===== BEGIN printed: names, fields, word lists, decode rows ===== -/
def RX0 : String := "LevelingNetwork$1"
def TX0 : u_T := fun k => match k with
  | _ => ("", "", "", false)
def tyX0 : Nat → FieldType := fun k => match k with
  | _ => .int
abbrev wsX00 : List Cond := u_ws RX0 TX0 0
theorem nmX0 : ∀ a, a < 0 → ∀ b, b < 0 → a ≠ b → (TX0 a).2.1 ≠ (TX0 b).2.1 := by decide +kernel
theorem tyX0_ok : ∀ k, k < 0 → parseFieldDescriptor (TX0 k).2.2.1 = some (tyX0 k) := by decide +kernel
def RX1 : String := "LevelingNetwork$Bank"
def TX1 : u_T := fun k => match k with
  | _ => ("LevelingNetwork$Bank", "survey", "LLevelingNetwork$Survey;", true)
def tyX1 : Nat → FieldType := fun k => match k with
  | _ => .object "LevelingNetwork$Survey"
abbrev wsX10 : List Cond := u_ws RX1 TX1 1
theorem nmX1 : ∀ a, a < 1 → ∀ b, b < 1 → a ≠ b → (TX1 a).2.1 ≠ (TX1 b).2.1 := by decide +kernel
theorem tyX1_ok : ∀ k, k < 1 → parseFieldDescriptor (TX1 k).2.2.1 = some (tyX1 k) := by decide +kernel
abbrev cX1_init : ByteArray := prog_3_method_1_code
def yX1_init : MethodName := ⟨RX1, "<init>", "(LLevelingNetwork$Survey;)V"⟩
abbrev cX1_hasColumn : ByteArray := prog_3_method_2_code
def yX1_hasColumn : MethodName := ⟨RX1, "hasColumn", "(II)Z"⟩
abbrev cX1_firstColumn : ByteArray := prog_3_method_3_code
def yX1_firstColumn : MethodName := ⟨RX1, "firstColumn", "(I)I"⟩
abbrev cX1_lastColumn : ByteArray := prog_3_method_4_code
def yX1_lastColumn : MethodName := ⟨RX1, "lastColumn", "(I)I"⟩
abbrev cX1_offsetAt : ByteArray := prog_3_method_5_code
def yX1_offsetAt : MethodName := ⟨RX1, "offsetAt", "(II)I"⟩
abbrev cX1_wetByColumns : ByteArray := prog_3_method_6_code
def yX1_wetByColumns : MethodName := ⟨RX1, "wetByColumns", "(II)I"⟩
abbrev cX1_shoreLines : ByteArray := prog_3_method_7_code
def yX1_shoreLines : MethodName := ⟨RX1, "shoreLines", "(II)I"⟩
abbrev cX1_columnOfLowestOffset : ByteArray := prog_3_method_8_code
def yX1_columnOfLowestOffset : MethodName := ⟨RX1, "columnOfLowestOffset", "(I)I"⟩
abbrev cX1_wetBySegments : ByteArray := prog_3_method_9_code
def yX1_wetBySegments : MethodName := ⟨RX1, "wetBySegments", "(II)I"⟩
abbrev cX1_wetOfSegment : ByteArray := prog_3_method_10_code
def yX1_wetOfSegment : MethodName := ⟨RX1, "wetOfSegment", "(III)I"⟩
abbrev cX1_clamp : ByteArray := prog_3_method_11_code
def yX1_clamp : MethodName := ⟨RX1, "clamp", "(II)I"⟩
def RX2 : String := "LevelingNetwork$Changes"
def TX2 : u_T := fun k => match k with
  | 0 => ("LevelingNetwork$Changes", "survey", "LLevelingNetwork$Survey;", true)
  | 1 => ("LevelingNetwork$Changes", "forest", "LLevelingNetwork$Forest;", true)
  | 2 => ("LevelingNetwork$Changes", "loopWay", "LLevelingNetwork$Way;", true)
  | _ => ("LevelingNetwork$Changes", "sharing", "LLevelingNetwork$Sharing;", true)
def tyX2 : Nat → FieldType := fun k => match k with
  | 0 => .object "LevelingNetwork$Survey"
  | 1 => .object "LevelingNetwork$Forest"
  | 2 => .object "LevelingNetwork$Way"
  | _ => .object "LevelingNetwork$Sharing"
abbrev wsX20 : List Cond := u_ws RX2 TX2 4
theorem nmX2 : ∀ a, a < 4 → ∀ b, b < 4 → a ≠ b → (TX2 a).2.1 ≠ (TX2 b).2.1 := by decide +kernel
theorem tyX2_ok : ∀ k, k < 4 → parseFieldDescriptor (TX2 k).2.2.1 = some (tyX2 k) := by decide +kernel
abbrev cX2_init : ByteArray := prog_4_method_1_code
def yX2_init : MethodName := ⟨RX2, "<init>", "(LLevelingNetwork$Survey;LLevelingNetwork$Forest;LLevelingNetwork$Way;LLevelingNetwork$Sharing;)V"⟩
abbrev cX2_troubleWith : ByteArray := prog_4_method_2_code
def yX2_troubleWith : MethodName := ⟨RX2, "troubleWith", "(LLevelingNetwork$Kind;IIII)LLevelingNetwork$Trouble;"⟩
abbrev cX2_stateTroubleUnless : ByteArray := prog_4_method_3_code
def yX2_stateTroubleUnless : MethodName := ⟨RX2, "stateTroubleUnless", "(Z)LLevelingNetwork$Trouble;"⟩
abbrev cX2_isHeight : ByteArray := prog_4_method_4_code
def yX2_isHeight : MethodName := ⟨RX2, "isHeight", "(I)Z"⟩
abbrev cX2_isRun : ByteArray := prog_4_method_5_code
def yX2_isRun : MethodName := ⟨RX2, "isRun", "(I)Z"⟩
abbrev cX2_troubleWithFixing : ByteArray := prog_4_method_6_code
def yX2_troubleWithFixing : MethodName := ⟨RX2, "troubleWithFixing", "(II)LLevelingNetwork$Trouble;"⟩
abbrev cX2_troubleWithFreeing : ByteArray := prog_4_method_7_code
def yX2_troubleWithFreeing : MethodName := ⟨RX2, "troubleWithFreeing", "(I)LLevelingNetwork$Trouble;"⟩
abbrev cX2_troubleWithLine : ByteArray := prog_4_method_8_code
def yX2_troubleWithLine : MethodName := ⟨RX2, "troubleWithLine", "(IIII)LLevelingNetwork$Trouble;"⟩
abbrev cX2_troubleWithBackwardRun : ByteArray := prog_4_method_9_code
def yX2_troubleWithBackwardRun : MethodName := ⟨RX2, "troubleWithBackwardRun", "(II)LLevelingNetwork$Trouble;"⟩
abbrev cX2_troubleWithExclusion : ByteArray := prog_4_method_10_code
def yX2_troubleWithExclusion : MethodName := ⟨RX2, "troubleWithExclusion", "(IZ)LLevelingNetwork$Trouble;"⟩
abbrev cX2_troubleWithSharing : ByteArray := prog_4_method_11_code
def yX2_troubleWithSharing : MethodName := ⟨RX2, "troubleWithSharing", "(I)LLevelingNetwork$Trouble;"⟩
abbrev cX2_troubleWithProfile : ByteArray := prog_4_method_12_code
def yX2_troubleWithProfile : MethodName := ⟨RX2, "troubleWithProfile", "(I)LLevelingNetwork$Trouble;"⟩
abbrev cX2_troubleWithStation : ByteArray := prog_4_method_13_code
def yX2_troubleWithStation : MethodName := ⟨RX2, "troubleWithStation", "(III)LLevelingNetwork$Trouble;"⟩
abbrev cX2_carryOut : ByteArray := prog_4_method_14_code
def yX2_carryOut : MethodName := ⟨RX2, "carryOut", "(LLevelingNetwork$Kind;IIII)I"⟩
abbrev cX2_putBenchmark : ByteArray := prog_4_method_15_code
def yX2_putBenchmark : MethodName := ⟨RX2, "putBenchmark", "()I"⟩
abbrev cX2_putLine : ByteArray := prog_4_method_16_code
def yX2_putLine : MethodName := ⟨RX2, "putLine", "(IIII)I"⟩
abbrev cX2_shareOut : ByteArray := prog_4_method_17_code
def yX2_shareOut : MethodName := ⟨RX2, "shareOut", "(I)I"⟩
abbrev cX2_clearCorrections : ByteArray := prog_4_method_18_code
def yX2_clearCorrections : MethodName := ⟨RX2, "clearCorrections", "()I"⟩
abbrev cX2_putProfile : ByteArray := prog_4_method_19_code
def yX2_putProfile : MethodName := ⟨RX2, "putProfile", "(I)I"⟩
abbrev cX2_putStation : ByteArray := prog_4_method_20_code
def yX2_putStation : MethodName := ⟨RX2, "putStation", "(III)I"⟩
abbrev cX2_putWater : ByteArray := prog_4_method_21_code
def yX2_putWater : MethodName := ⟨RX2, "putWater", "(I)I"⟩
def RX3 : String := "LevelingNetwork$Forest"
def TX3 : u_T := fun k => match k with
  | 0 => ("LevelingNetwork$Forest", "survey", "LLevelingNetwork$Survey;", true)
  | 1 => ("LevelingNetwork$Forest", "order", "[I", true)
  | 2 => ("LevelingNetwork$Forest", "ordered", "I", false)
  | 3 => ("LevelingNetwork$Forest", "reached", "[Z", true)
  | 4 => ("LevelingNetwork$Forest", "taken", "[Z", true)
  | _ => ("LevelingNetwork$Forest", "root", "[I", true)
def tyX3 : Nat → FieldType := fun k => match k with
  | 0 => .object "LevelingNetwork$Survey"
  | 1 => .array .int
  | 2 => .int
  | 3 => .array .boolean
  | 4 => .array .boolean
  | _ => .array .int
abbrev wsX30 : List Cond := u_ws RX3 TX3 6
theorem nmX3 : ∀ a, a < 6 → ∀ b, b < 6 → a ≠ b → (TX3 a).2.1 ≠ (TX3 b).2.1 := by decide +kernel
theorem tyX3_ok : ∀ k, k < 6 → parseFieldDescriptor (TX3 k).2.2.1 = some (tyX3 k) := by decide +kernel
abbrev cX3_init : ByteArray := prog_5_method_1_code
def yX3_init : MethodName := ⟨RX3, "<init>", "(LLevelingNetwork$Survey;)V"⟩
abbrev cX3_find : ByteArray := prog_5_method_2_code
def yX3_find : MethodName := ⟨RX3, "find", "()V"⟩
abbrev cX3_putInOrder : ByteArray := prog_5_method_3_code
def yX3_putInOrder : MethodName := ⟨RX3, "putInOrder", "()V"⟩
abbrev cX3_consider : ByteArray := prog_5_method_4_code
def yX3_consider : MethodName := ⟨RX3, "consider", "(I)V"⟩
abbrev cX3_takenLength : ByteArray := prog_5_method_5_code
def yX3_takenLength : MethodName := ⟨RX3, "takenLength", "()I"⟩
abbrev cX3_grownLength : ByteArray := prog_5_method_6_code
def yX3_grownLength : MethodName := ⟨RX3, "grownLength", "()I"⟩
abbrev cX3_growReached : ByteArray := prog_5_method_7_code
def yX3_growReached : MethodName := ⟨RX3, "growReached", "()I"⟩
abbrev cX3_firstLineOutOfReached : ByteArray := prog_5_method_8_code
def yX3_firstLineOutOfReached : MethodName := ⟨RX3, "firstLineOutOfReached", "()I"⟩
abbrev cX3_trees : ByteArray := prog_5_method_9_code
def yX3_trees : MethodName := ⟨RX3, "trees", "()I"⟩
abbrev cX3_closesLoop : ByteArray := prog_5_method_10_code
def yX3_closesLoop : MethodName := ⟨RX3, "closesLoop", "(I)Z"⟩
abbrev cX3_loops : ByteArray := prog_5_method_11_code
def yX3_loops : MethodName := ⟨RX3, "loops", "()I"⟩
abbrev cX3_closingLineAt : ByteArray := prog_5_method_12_code
def yX3_closingLineAt : MethodName := ⟨RX3, "closingLineAt", "(I)I"⟩
def RX4 : String := "LevelingNetwork$Heights"
def TX4 : u_T := fun k => match k with
  | 0 => ("LevelingNetwork$Heights", "survey", "LLevelingNetwork$Survey;", true)
  | 1 => ("LevelingNetwork$Heights", "forest", "LLevelingNetwork$Forest;", true)
  | 2 => ("LevelingNetwork$Heights", "way", "LLevelingNetwork$Way;", true)
  | 3 => ("LevelingNetwork$Heights", "known", "[Z", true)
  | _ => ("LevelingNetwork$Heights", "level", "[I", true)
def tyX4 : Nat → FieldType := fun k => match k with
  | 0 => .object "LevelingNetwork$Survey"
  | 1 => .object "LevelingNetwork$Forest"
  | 2 => .object "LevelingNetwork$Way"
  | 3 => .array .boolean
  | _ => .array .int
abbrev wsX40 : List Cond := u_ws RX4 TX4 5
theorem nmX4 : ∀ a, a < 5 → ∀ b, b < 5 → a ≠ b → (TX4 a).2.1 ≠ (TX4 b).2.1 := by decide +kernel
theorem tyX4_ok : ∀ k, k < 5 → parseFieldDescriptor (TX4 k).2.2.1 = some (tyX4 k) := by decide +kernel
abbrev cX4_init : ByteArray := prog_6_method_1_code
def yX4_init : MethodName := ⟨RX4, "<init>", "(LLevelingNetwork$Survey;LLevelingNetwork$Forest;)V"⟩
abbrev cX4_datumOf : ByteArray := prog_6_method_2_code
def yX4_datumOf : MethodName := ⟨RX4, "datumOf", "(I)I"⟩
abbrev cX4_exists : ByteArray := prog_6_method_3_code
def yX4_exists : MethodName := ⟨RX4, "exists", "(I)Z"⟩
abbrev cX4_byWay : ByteArray := prog_6_method_4_code
def yX4_byWay : MethodName := ⟨RX4, "byWay", "(I)I"⟩
abbrev cX4_carriedFromDatum : ByteArray := prog_6_method_5_code
def yX4_carriedFromDatum : MethodName := ⟨RX4, "carriedFromDatum", "(I)I"⟩
abbrev cX4_byRounds : ByteArray := prog_6_method_6_code
def yX4_byRounds : MethodName := ⟨RX4, "byRounds", "(I)I"⟩
abbrev cX4_gapByLevels : ByteArray := prog_6_method_7_code
def yX4_gapByLevels : MethodName := ⟨RX4, "gapByLevels", "(I)I"⟩
abbrev cX4_passOn : ByteArray := prog_6_method_8_code
def yX4_passOn : MethodName := ⟨RX4, "passOn", "(II)V"⟩
abbrev cX4_passOnOnce : ByteArray := prog_6_method_9_code
def yX4_passOnOnce : MethodName := ⟨RX4, "passOnOnce", "()Z"⟩
abbrev cX4_atRank : ByteArray := prog_6_method_10_code
def yX4_atRank : MethodName := ⟨RX4, "atRank", "(I)I"⟩
abbrev cX4_benchmarksAheadOf : ByteArray := prog_6_method_11_code
def yX4_benchmarksAheadOf : MethodName := ⟨RX4, "benchmarksAheadOf", "(I)I"⟩
def RX5 : String := "LevelingNetwork$History"
def TX5 : u_T := fun k => match k with
  | 0 => ("LevelingNetwork$History", "past", "[LLevelingNetwork$Survey;", true)
  | 1 => ("LevelingNetwork$History", "next", "I", false)
  | _ => ("LevelingNetwork$History", "size", "I", false)
def tyX5 : Nat → FieldType := fun k => match k with
  | 0 => .array (.object "LevelingNetwork$Survey")
  | 1 => .int
  | _ => .int
abbrev wsX50 : List Cond := u_ws RX5 TX5 3
theorem nmX5 : ∀ a, a < 3 → ∀ b, b < 3 → a ≠ b → (TX5 a).2.1 ≠ (TX5 b).2.1 := by decide +kernel
theorem tyX5_ok : ∀ k, k < 3 → parseFieldDescriptor (TX5 k).2.2.1 = some (tyX5 k) := by decide +kernel
abbrev cX5_init : ByteArray := prog_7_method_1_code
def yX5_init : MethodName := ⟨RX5, "<init>", "()V"⟩
abbrev cX5_push : ByteArray := prog_7_method_2_code
def yX5_push : MethodName := ⟨RX5, "push", "(LLevelingNetwork$Survey;)V"⟩
abbrev cX5_popInto : ByteArray := prog_7_method_3_code
def yX5_popInto : MethodName := ⟨RX5, "popInto", "(LLevelingNetwork$Survey;)V"⟩
def RX6 : String := "LevelingNetwork$Kind"
def TX6 : u_T := fun k => match k with
  | _ => ("", "", "", false)
def tyX6 : Nat → FieldType := fun k => match k with
  | _ => .int
abbrev wsX60 : List Cond := u_ws RX6 TX6 0
theorem nmX6 : ∀ a, a < 0 → ∀ b, b < 0 → a ≠ b → (TX6 a).2.1 ≠ (TX6 b).2.1 := by decide +kernel
theorem tyX6_ok : ∀ k, k < 0 → parseFieldDescriptor (TX6 k).2.2.1 = some (tyX6 k) := by decide +kernel
def RX7 : String := "LevelingNetwork$Script"
def TX7 : u_T := fun k => match k with
  | 0 => ("LevelingNetwork$Script", "text", "[C", true)
  | 1 => ("LevelingNetwork$Script", "size", "I", false)
  | 2 => ("LevelingNetwork$Script", "position", "I", false)
  | 3 => ("LevelingNetwork$Script", "commands", "I", false)
  | 4 => ("LevelingNetwork$Script", "kinds", "[LLevelingNetwork$Kind;", true)
  | _ => ("LevelingNetwork$Script", "arguments", "[[I", true)
def tyX7 : Nat → FieldType := fun k => match k with
  | 0 => .array .char
  | 1 => .int
  | 2 => .int
  | 3 => .int
  | 4 => .array (.object "LevelingNetwork$Kind")
  | _ => .array (.array .int)
abbrev wsX70 : List Cond := u_ws RX7 TX7 6
theorem nmX7 : ∀ a, a < 6 → ∀ b, b < 6 → a ≠ b → (TX7 a).2.1 ≠ (TX7 b).2.1 := by decide +kernel
theorem tyX7_ok : ∀ k, k < 6 → parseFieldDescriptor (TX7 k).2.2.1 = some (tyX7 k) := by decide +kernel
abbrev cX7_init : ByteArray := prog_9_method_1_code
def yX7_init : MethodName := ⟨RX7, "<init>", "()V"⟩
abbrev cX7_add : ByteArray := prog_9_method_2_code
def yX7_add : MethodName := ⟨RX7, "add", "(C)V"⟩
abbrev cX7_read : ByteArray := prog_9_method_3_code
def yX7_read : MethodName := ⟨RX7, "read", "()Z"⟩
abbrev cX7_readCommand : ByteArray := prog_9_method_4_code
def yX7_readCommand : MethodName := ⟨RX7, "readCommand", "()Z"⟩
abbrev cX7_readWord : ByteArray := prog_9_method_5_code
def yX7_readWord : MethodName := ⟨RX7, "readWord", "()LLevelingNetwork$Kind;"⟩
abbrev cX7_fittingSigns : ByteArray := prog_9_method_6_code
def yX7_fittingSigns : MethodName := ⟨RX7, "fittingSigns", "(Ljava/lang/String;)I"⟩
abbrev cX7_readForm : ByteArray := prog_9_method_7_code
def yX7_readForm : MethodName := ⟨RX7, "readForm", "(Ljava/lang/String;[I)Z"⟩
abbrev cX7_mostDigits : ByteArray := prog_9_method_8_code
def yX7_mostDigits : MethodName := ⟨RX7, "mostDigits", "(C)I"⟩
abbrev cX7_readArgument : ByteArray := prog_9_method_9_code
def yX7_readArgument : MethodName := ⟨RX7, "readArgument", "(IZ[II)Z"⟩
abbrev cX7_readSign : ByteArray := prog_9_method_10_code
def yX7_readSign : MethodName := ⟨RX7, "readSign", "(C)Z"⟩
abbrev cX7_signAt : ByteArray := prog_9_method_11_code
def yX7_signAt : MethodName := ⟨RX7, "signAt", "(I)C"⟩
def RX8 : String := "LevelingNetwork$Sharing"
def TX8 : u_T := fun k => match k with
  | 0 => ("LevelingNetwork$Sharing", "survey", "LLevelingNetwork$Survey;", true)
  | 1 => ("LevelingNetwork$Sharing", "parts", "[I", true)
  | _ => ("LevelingNetwork$Sharing", "remainders", "[I", true)
def tyX8 : Nat → FieldType := fun k => match k with
  | 0 => .object "LevelingNetwork$Survey"
  | 1 => .array .int
  | _ => .array .int
abbrev wsX80 : List Cond := u_ws RX8 TX8 3
theorem nmX8 : ∀ a, a < 3 → ∀ b, b < 3 → a ≠ b → (TX8 a).2.1 ≠ (TX8 b).2.1 := by decide +kernel
theorem tyX8_ok : ∀ k, k < 3 → parseFieldDescriptor (TX8 k).2.2.1 = some (tyX8 k) := by decide +kernel
abbrev cX8_init : ByteArray := prog_10_method_1_code
def yX8_init : MethodName := ⟨RX8, "<init>", "(LLevelingNetwork$Survey;)V"⟩
abbrev cX8_divide : ByteArray := prog_10_method_2_code
def yX8_divide : MethodName := ⟨RX8, "divide", "(LLevelingNetwork$Way;)V"⟩
abbrev cX8_giveOut : ByteArray := prog_10_method_3_code
def yX8_giveOut : MethodName := ⟨RX8, "giveOut", "(I)V"⟩
abbrev cX8_correct : ByteArray := prog_10_method_4_code
def yX8_correct : MethodName := ⟨RX8, "correct", "(LLevelingNetwork$Way;)V"⟩
def RX9 : String := "LevelingNetwork$Survey"
def TX9 : u_T := fun k => match k with
  | 0 => ("LevelingNetwork$Survey", "benchmarks", "I", false)
  | 1 => ("LevelingNetwork$Survey", "fixed", "[Z", true)
  | 2 => ("LevelingNetwork$Survey", "fixedHeight", "[I", true)
  | 3 => ("LevelingNetwork$Survey", "lines", "I", false)
  | 4 => ("LevelingNetwork$Survey", "first", "[I", true)
  | 5 => ("LevelingNetwork$Survey", "second", "[I", true)
  | 6 => ("LevelingNetwork$Survey", "length", "[I", true)
  | 7 => ("LevelingNetwork$Survey", "forward", "[I", true)
  | 8 => ("LevelingNetwork$Survey", "backward", "[I", true)
  | 9 => ("LevelingNetwork$Survey", "doubleRun", "[Z", true)
  | 10 => ("LevelingNetwork$Survey", "excluded", "[Z", true)
  | 11 => ("LevelingNetwork$Survey", "correction", "[I", true)
  | 12 => ("LevelingNetwork$Survey", "profiles", "I", false)
  | 13 => ("LevelingNetwork$Survey", "site", "[I", true)
  | 14 => ("LevelingNetwork$Survey", "stations", "[I", true)
  | 15 => ("LevelingNetwork$Survey", "distance", "[[I", true)
  | 16 => ("LevelingNetwork$Survey", "offset", "[[I", true)
  | _ => ("LevelingNetwork$Survey", "water", "I", false)
def tyX9 : Nat → FieldType := fun k => match k with
  | 0 => .int
  | 1 => .array .boolean
  | 2 => .array .int
  | 3 => .int
  | 4 => .array .int
  | 5 => .array .int
  | 6 => .array .int
  | 7 => .array .int
  | 8 => .array .int
  | 9 => .array .boolean
  | 10 => .array .boolean
  | 11 => .array .int
  | 12 => .int
  | 13 => .array .int
  | 14 => .array .int
  | 15 => .array (.array .int)
  | 16 => .array (.array .int)
  | _ => .int
abbrev wsX90 : List Cond := u_ws RX9 TX9 18
theorem nmX9 : ∀ a, a < 18 → ∀ b, b < 18 → a ≠ b → (TX9 a).2.1 ≠ (TX9 b).2.1 := by decide +kernel
theorem tyX9_ok : ∀ k, k < 18 → parseFieldDescriptor (TX9 k).2.2.1 = some (tyX9 k) := by decide +kernel
abbrev cX9_init : ByteArray := prog_11_method_1_code
def yX9_init : MethodName := ⟨RX9, "<init>", "()V"⟩
abbrev cX9_copyFrom : ByteArray := prog_11_method_2_code
def yX9_copyFrom : MethodName := ⟨RX9, "copyFrom", "(LLevelingNetwork$Survey;)V"⟩
abbrev cX9_copyBenchmarks : ByteArray := prog_11_method_3_code
def yX9_copyBenchmarks : MethodName := ⟨RX9, "copyBenchmarks", "(LLevelingNetwork$Survey;)V"⟩
abbrev cX9_copyLines : ByteArray := prog_11_method_4_code
def yX9_copyLines : MethodName := ⟨RX9, "copyLines", "(LLevelingNetwork$Survey;)V"⟩
abbrev cX9_copyProfiles : ByteArray := prog_11_method_5_code
def yX9_copyProfiles : MethodName := ⟨RX9, "copyProfiles", "(LLevelingNetwork$Survey;)V"⟩
abbrev cX9_hasBenchmark : ByteArray := prog_11_method_6_code
def yX9_hasBenchmark : MethodName := ⟨RX9, "hasBenchmark", "(I)Z"⟩
abbrev cX9_hasLine : ByteArray := prog_11_method_7_code
def yX9_hasLine : MethodName := ⟨RX9, "hasLine", "(I)Z"⟩
abbrev cX9_hasProfile : ByteArray := prog_11_method_8_code
def yX9_hasProfile : MethodName := ⟨RX9, "hasProfile", "(I)Z"⟩
abbrev cX9_fixedBenchmarks : ByteArray := prog_11_method_9_code
def yX9_fixedBenchmarks : MethodName := ⟨RX9, "fixedBenchmarks", "()I"⟩
abbrev cX9_sumOfRuns : ByteArray := prog_11_method_10_code
def yX9_sumOfRuns : MethodName := ⟨RX9, "sumOfRuns", "(I)I"⟩
abbrev cX9_levelled : ByteArray := prog_11_method_11_code
def yX9_levelled : MethodName := ⟨RX9, "levelled", "(I)I"⟩
abbrev cX9_corrected : ByteArray := prog_11_method_12_code
def yX9_corrected : MethodName := ⟨RX9, "corrected", "(I)I"⟩
abbrev cX9_usable : ByteArray := prog_11_method_13_code
def yX9_usable : MethodName := ⟨RX9, "usable", "(I)Z"⟩
abbrev cX9_usableLines : ByteArray := prog_11_method_14_code
def yX9_usableLines : MethodName := ⟨RX9, "usableLines", "()I"⟩
abbrev cX9_usableLength : ByteArray := prog_11_method_15_code
def yX9_usableLength : MethodName := ⟨RX9, "usableLength", "()I"⟩
abbrev cX9_lineAtRank : ByteArray := prog_11_method_16_code
def yX9_lineAtRank : MethodName := ⟨RX9, "lineAtRank", "(I)I"⟩
abbrev cX9_linesAheadOf : ByteArray := prog_11_method_17_code
def yX9_linesAheadOf : MethodName := ⟨RX9, "linesAheadOf", "(I)I"⟩
def RX10 : String := "LevelingNetwork$Trouble"
def TX10 : u_T := fun k => match k with
  | _ => ("", "", "", false)
def tyX10 : Nat → FieldType := fun k => match k with
  | _ => .int
abbrev wsX100 : List Cond := u_ws RX10 TX10 0
theorem nmX10 : ∀ a, a < 0 → ∀ b, b < 0 → a ≠ b → (TX10 a).2.1 ≠ (TX10 b).2.1 := by decide +kernel
theorem tyX10_ok : ∀ k, k < 0 → parseFieldDescriptor (TX10 k).2.2.1 = some (tyX10 k) := by decide +kernel
def RX11 : String := "LevelingNetwork$Way"
def TX11 : u_T := fun k => match k with
  | 0 => ("LevelingNetwork$Way", "survey", "LLevelingNetwork$Survey;", true)
  | 1 => ("LevelingNetwork$Way", "forest", "LLevelingNetwork$Forest;", true)
  | 2 => ("LevelingNetwork$Way", "lines", "[I", true)
  | 3 => ("LevelingNetwork$Way", "signs", "[I", true)
  | _ => ("LevelingNetwork$Way", "size", "I", false)
def tyX11 : Nat → FieldType := fun k => match k with
  | 0 => .object "LevelingNetwork$Survey"
  | 1 => .object "LevelingNetwork$Forest"
  | 2 => .array .int
  | 3 => .array .int
  | _ => .int
abbrev wsX110 : List Cond := u_ws RX11 TX11 5
theorem nmX11 : ∀ a, a < 5 → ∀ b, b < 5 → a ≠ b → (TX11 a).2.1 ≠ (TX11 b).2.1 := by decide +kernel
theorem tyX11_ok : ∀ k, k < 5 → parseFieldDescriptor (TX11 k).2.2.1 = some (tyX11 k) := by decide +kernel
abbrev cX11_init : ByteArray := prog_13_method_1_code
def yX11_init : MethodName := ⟨RX11, "<init>", "(LLevelingNetwork$Survey;LLevelingNetwork$Forest;)V"⟩
abbrev cX11_trace : ByteArray := prog_13_method_2_code
def yX11_trace : MethodName := ⟨RX11, "trace", "(II)V"⟩
abbrev cX11_traceLoop : ByteArray := prog_13_method_3_code
def yX11_traceLoop : MethodName := ⟨RX11, "traceLoop", "(I)V"⟩
abbrev cX11_walk : ByteArray := prog_13_method_4_code
def yX11_walk : MethodName := ⟨RX11, "walk", "(LLevelingNetwork$Way;III)Z"⟩
abbrev cX11_leadsOn : ByteArray := prog_13_method_5_code
def yX11_leadsOn : MethodName := ⟨RX11, "leadsOn", "(II)Z"⟩
abbrev cX11_add : ByteArray := prog_13_method_6_code
def yX11_add : MethodName := ⟨RX11, "add", "(II)I"⟩
abbrev cX11_rise : ByteArray := prog_13_method_7_code
def yX11_rise : MethodName := ⟨RX11, "rise", "()I"⟩
abbrev cX11_totalLength : ByteArray := prog_13_method_8_code
def yX11_totalLength : MethodName := ⟨RX11, "totalLength", "()I"⟩
def RX12 : String := "LevelingNetwork"
def TX12 : u_T := fun k => match k with
  | 0 => ("LevelingNetwork", "survey", "LLevelingNetwork$Survey;", true)
  | 1 => ("LevelingNetwork", "before", "LLevelingNetwork$Survey;", true)
  | 2 => ("LevelingNetwork", "snapshot", "LLevelingNetwork$Survey;", true)
  | 3 => ("LevelingNetwork", "hasSnapshot", "Z", false)
  | 4 => ("LevelingNetwork", "history", "LLevelingNetwork$History;", true)
  | 5 => ("LevelingNetwork", "forest", "LLevelingNetwork$Forest;", true)
  | 6 => ("LevelingNetwork", "loopWay", "LLevelingNetwork$Way;", true)
  | 7 => ("LevelingNetwork", "sharing", "LLevelingNetwork$Sharing;", true)
  | 8 => ("LevelingNetwork", "heights", "LLevelingNetwork$Heights;", true)
  | 9 => ("LevelingNetwork", "bank", "LLevelingNetwork$Bank;", true)
  | 10 => ("LevelingNetwork", "changes", "LLevelingNetwork$Changes;", true)
  | 11 => ("LevelingNetwork", "script", "LLevelingNetwork$Script;", true)
  | 12 => ("LevelingNetwork", "output", "Ljava/lang/StringBuilder;", true)
  | 13 => ("LevelingNetwork", "errorAt", "I", false)
  | _ => ("LevelingNetwork", "failedAt", "I", false)
def tyX12 : Nat → FieldType := fun k => match k with
  | 0 => .object "LevelingNetwork$Survey"
  | 1 => .object "LevelingNetwork$Survey"
  | 2 => .object "LevelingNetwork$Survey"
  | 3 => .boolean
  | 4 => .object "LevelingNetwork$History"
  | 5 => .object "LevelingNetwork$Forest"
  | 6 => .object "LevelingNetwork$Way"
  | 7 => .object "LevelingNetwork$Sharing"
  | 8 => .object "LevelingNetwork$Heights"
  | 9 => .object "LevelingNetwork$Bank"
  | 10 => .object "LevelingNetwork$Changes"
  | 11 => .object "LevelingNetwork$Script"
  | 12 => .object "java/lang/StringBuilder"
  | 13 => .int
  | _ => .int
abbrev wsX120 : List Cond := u_ws RX12 TX12 15
theorem nmX12 : ∀ a, a < 15 → ∀ b, b < 15 → a ≠ b → (TX12 a).2.1 ≠ (TX12 b).2.1 := by decide +kernel
theorem tyX12_ok : ∀ k, k < 15 → parseFieldDescriptor (TX12 k).2.2.1 = some (tyX12 k) := by decide +kernel
abbrev cX12_init : ByteArray := prog_1_method_1_code
def yX12_init : MethodName := ⟨RX12, "<init>", "()V"⟩
abbrev cX12_addBenchmark : ByteArray := prog_1_method_2_code
def yX12_addBenchmark : MethodName := ⟨RX12, "addBenchmark", "()I"⟩
abbrev cX12_fix : ByteArray := prog_1_method_3_code
def yX12_fix : MethodName := ⟨RX12, "fix", "(II)I"⟩
abbrev cX12_release : ByteArray := prog_1_method_4_code
def yX12_release : MethodName := ⟨RX12, "release", "(I)I"⟩
abbrev cX12_addLine : ByteArray := prog_1_method_5_code
def yX12_addLine : MethodName := ⟨RX12, "addLine", "(IIII)I"⟩
abbrev cX12_addBackwardRun : ByteArray := prog_1_method_6_code
def yX12_addBackwardRun : MethodName := ⟨RX12, "addBackwardRun", "(II)I"⟩
abbrev cX12_exclude : ByteArray := prog_1_method_7_code
def yX12_exclude : MethodName := ⟨RX12, "exclude", "(I)I"⟩
abbrev cX12_include : ByteArray := prog_1_method_8_code
def yX12_include : MethodName := ⟨RX12, "include", "(I)I"⟩
abbrev cX12_shareMisclosure : ByteArray := prog_1_method_9_code
def yX12_shareMisclosure : MethodName := ⟨RX12, "shareMisclosure", "(I)I"⟩
abbrev cX12_resetCorrections : ByteArray := prog_1_method_10_code
def yX12_resetCorrections : MethodName := ⟨RX12, "resetCorrections", "()I"⟩
abbrev cX12_addProfile : ByteArray := prog_1_method_11_code
def yX12_addProfile : MethodName := ⟨RX12, "addProfile", "(I)I"⟩
abbrev cX12_addStation : ByteArray := prog_1_method_12_code
def yX12_addStation : MethodName := ⟨RX12, "addStation", "(III)I"⟩
abbrev cX12_setWaterLevel : ByteArray := prog_1_method_13_code
def yX12_setWaterLevel : MethodName := ⟨RX12, "setWaterLevel", "(I)I"⟩
abbrev cX12_benchmarkCount : ByteArray := prog_1_method_14_code
def yX12_benchmarkCount : MethodName := ⟨RX12, "benchmarkCount", "()I"⟩
abbrev cX12_isFixed : ByteArray := prog_1_method_15_code
def yX12_isFixed : MethodName := ⟨RX12, "isFixed", "(I)Z"⟩
abbrev cX12_hasHeight : ByteArray := prog_1_method_16_code
def yX12_hasHeight : MethodName := ⟨RX12, "hasHeight", "(I)Z"⟩
abbrev cX12_height : ByteArray := prog_1_method_17_code
def yX12_height : MethodName := ⟨RX12, "height", "(I)I"⟩
abbrev cX12_heightByRounds : ByteArray := prog_1_method_18_code
def yX12_heightByRounds : MethodName := ⟨RX12, "heightByRounds", "(I)I"⟩
abbrev cX12_closingError : ByteArray := prog_1_method_19_code
def yX12_closingError : MethodName := ⟨RX12, "closingError", "(I)I"⟩
abbrev cX12_datum : ByteArray := prog_1_method_20_code
def yX12_datum : MethodName := ⟨RX12, "datum", "(I)I"⟩
abbrev cX12_benchmarkByHeight : ByteArray := prog_1_method_21_code
def yX12_benchmarkByHeight : MethodName := ⟨RX12, "benchmarkByHeight", "(I)I"⟩
abbrev cX12_lineCount : ByteArray := prog_1_method_22_code
def yX12_lineCount : MethodName := ⟨RX12, "lineCount", "()I"⟩
abbrev cX12_firstOf : ByteArray := prog_1_method_23_code
def yX12_firstOf : MethodName := ⟨RX12, "firstOf", "(I)I"⟩
abbrev cX12_secondOf : ByteArray := prog_1_method_24_code
def yX12_secondOf : MethodName := ⟨RX12, "secondOf", "(I)I"⟩
abbrev cX12_lengthOf : ByteArray := prog_1_method_25_code
def yX12_lengthOf : MethodName := ⟨RX12, "lengthOf", "(I)I"⟩
abbrev cX12_levelledDifference : ByteArray := prog_1_method_26_code
def yX12_levelledDifference : MethodName := ⟨RX12, "levelledDifference", "(I)I"⟩
abbrev cX12_correction : ByteArray := prog_1_method_27_code
def yX12_correction : MethodName := ⟨RX12, "correction", "(I)I"⟩
abbrev cX12_discrepancy : ByteArray := prog_1_method_28_code
def yX12_discrepancy : MethodName := ⟨RX12, "discrepancy", "(I)I"⟩
abbrev cX12_isExcluded : ByteArray := prog_1_method_29_code
def yX12_isExcluded : MethodName := ⟨RX12, "isExcluded", "(I)Z"⟩
abbrev cX12_isUsable : ByteArray := prog_1_method_30_code
def yX12_isUsable : MethodName := ⟨RX12, "isUsable", "(I)Z"⟩
abbrev cX12_tolerance : ByteArray := prog_1_method_31_code
def yX12_tolerance : MethodName := ⟨RX12, "tolerance", "(I)I"⟩
abbrev cX12_lineByDiscrepancy : ByteArray := prog_1_method_32_code
def yX12_lineByDiscrepancy : MethodName := ⟨RX12, "lineByDiscrepancy", "(I)I"⟩
abbrev cX12_forestLength : ByteArray := prog_1_method_34_code
def yX12_forestLength : MethodName := ⟨RX12, "forestLength", "()I"⟩
abbrev cX12_forestLengthByGrowing : ByteArray := prog_1_method_35_code
def yX12_forestLengthByGrowing : MethodName := ⟨RX12, "forestLengthByGrowing", "()I"⟩
abbrev cX12_treeCount : ByteArray := prog_1_method_36_code
def yX12_treeCount : MethodName := ⟨RX12, "treeCount", "()I"⟩
abbrev cX12_loopCount : ByteArray := prog_1_method_37_code
def yX12_loopCount : MethodName := ⟨RX12, "loopCount", "()I"⟩
abbrev cX12_loopAt : ByteArray := prog_1_method_38_code
def yX12_loopAt : MethodName := ⟨RX12, "loopAt", "(I)I"⟩
abbrev cX12_loopSize : ByteArray := prog_1_method_39_code
def yX12_loopSize : MethodName := ⟨RX12, "loopSize", "(I)I"⟩
abbrev cX12_loopLength : ByteArray := prog_1_method_40_code
def yX12_loopLength : MethodName := ⟨RX12, "loopLength", "(I)I"⟩
abbrev cX12_misclosure : ByteArray := prog_1_method_41_code
def yX12_misclosure : MethodName := ⟨RX12, "misclosure", "(I)I"⟩
abbrev cX12_misclosureByLevels : ByteArray := prog_1_method_42_code
def yX12_misclosureByLevels : MethodName := ⟨RX12, "misclosureByLevels", "(I)I"⟩
abbrev cX12_part : ByteArray := prog_1_method_43_code
def yX12_part : MethodName := ⟨RX12, "part", "(II)I"⟩
abbrev cX12_profileCount : ByteArray := prog_1_method_44_code
def yX12_profileCount : MethodName := ⟨RX12, "profileCount", "()I"⟩
abbrev cX12_stationCount : ByteArray := prog_1_method_45_code
def yX12_stationCount : MethodName := ⟨RX12, "stationCount", "(I)I"⟩
abbrev cX12_waterLevel : ByteArray := prog_1_method_46_code
def yX12_waterLevel : MethodName := ⟨RX12, "waterLevel", "()I"⟩
abbrev cX12_ground : ByteArray := prog_1_method_47_code
def yX12_ground : MethodName := ⟨RX12, "ground", "(II)I"⟩
abbrev cX12_wetColumns : ByteArray := prog_1_method_48_code
def yX12_wetColumns : MethodName := ⟨RX12, "wetColumns", "(I)I"⟩
abbrev cX12_wetColumnsBySegments : ByteArray := prog_1_method_49_code
def yX12_wetColumnsBySegments : MethodName := ⟨RX12, "wetColumnsBySegments", "(I)I"⟩
abbrev cX12_shores : ByteArray := prog_1_method_50_code
def yX12_shores : MethodName := ⟨RX12, "shores", "(I)I"⟩
abbrev cX12_lowestColumn : ByteArray := prog_1_method_51_code
def yX12_lowestColumn : MethodName := ⟨RX12, "lowestColumn", "(I)I"⟩
abbrev cX12_meanLength : ByteArray := prog_1_method_52_code
def yX12_meanLength : MethodName := ⟨RX12, "meanLength", "()D"⟩
abbrev cX12_usableShare : ByteArray := prog_1_method_53_code
def yX12_usableShare : MethodName := ⟨RX12, "usableShare", "()F"⟩
abbrev cX12_isConsistent : ByteArray := prog_1_method_54_code
def yX12_isConsistent : MethodName := ⟨RX12, "isConsistent", "()Z"⟩
abbrev cX12_renderLine : ByteArray := prog_1_method_55_code
def yX12_renderLine : MethodName := ⟨RX12, "renderLine", "(I)I"⟩
abbrev cX12_renderBenchmark : ByteArray := prog_1_method_56_code
def yX12_renderBenchmark : MethodName := ⟨RX12, "renderBenchmark", "(I)I"⟩
abbrev cX12_outputAt : ByteArray := prog_1_method_57_code
def yX12_outputAt : MethodName := ⟨RX12, "outputAt", "(I)C"⟩
abbrev cX12_type : ByteArray := prog_1_method_58_code
def yX12_type : MethodName := ⟨RX12, "type", "(C)I"⟩
abbrev cX12_runScript : ByteArray := prog_1_method_59_code
def yX12_runScript : MethodName := ⟨RX12, "runScript", "()I"⟩
abbrev cX12_errorPosition : ByteArray := prog_1_method_60_code
def yX12_errorPosition : MethodName := ⟨RX12, "errorPosition", "()I"⟩
abbrev cX12_failedCommand : ByteArray := prog_1_method_61_code
def yX12_failedCommand : MethodName := ⟨RX12, "failedCommand", "()I"⟩
abbrev cX12_undo : ByteArray := prog_1_method_62_code
def yX12_undo : MethodName := ⟨RX12, "undo", "()I"⟩
abbrev cX12_save : ByteArray := prog_1_method_63_code
def yX12_save : MethodName := ⟨RX12, "save", "()I"⟩
abbrev cX12_restore : ByteArray := prog_1_method_64_code
def yX12_restore : MethodName := ⟨RX12, "restore", "()I"⟩
abbrev cX12_change : ByteArray := prog_1_method_65_code
def yX12_change : MethodName := ⟨RX12, "change", "(LLevelingNetwork$Kind;IIII)I"⟩
abbrev cX12_raise : ByteArray := prog_1_method_66_code
def yX12_raise : MethodName := ⟨RX12, "raise", "(LLevelingNetwork$Trouble;)V"⟩
abbrev cX12_requireBenchmark : ByteArray := prog_1_method_67_code
def yX12_requireBenchmark : MethodName := ⟨RX12, "requireBenchmark", "(I)V"⟩
abbrev cX12_requireLine : ByteArray := prog_1_method_68_code
def yX12_requireLine : MethodName := ⟨RX12, "requireLine", "(I)V"⟩
abbrev cX12_requireProfile : ByteArray := prog_1_method_69_code
def yX12_requireProfile : MethodName := ⟨RX12, "requireProfile", "(I)V"⟩
abbrev cX12_requireHeight : ByteArray := prog_1_method_70_code
def yX12_requireHeight : MethodName := ⟨RX12, "requireHeight", "(I)V"⟩
abbrev cX12_traceLoop : ByteArray := prog_1_method_71_code
def yX12_traceLoop : MethodName := ⟨RX12, "traceLoop", "(I)V"⟩
abbrev cX12_surfaceAt : ByteArray := prog_1_method_72_code
def yX12_surfaceAt : MethodName := ⟨RX12, "surfaceAt", "(I)I"⟩
abbrev cX12_markOf : ByteArray := prog_1_method_73_code
def yX12_markOf : MethodName := ⟨RX12, "markOf", "(I)C"⟩
abbrev cX12_heightsAgree : ByteArray := prog_1_method_74_code
def yX12_heightsAgree : MethodName := ⟨RX12, "heightsAgree", "()Z"⟩
abbrev cX12_misclosuresAgree : ByteArray := prog_1_method_75_code
def yX12_misclosuresAgree : MethodName := ⟨RX12, "misclosuresAgree", "()Z"⟩
abbrev cX12_wetColumnsAgree : ByteArray := prog_1_method_76_code
def yX12_wetColumnsAgree : MethodName := ⟨RX12, "wetColumnsAgree", "()Z"⟩
abbrev cX12_firstFailure : ByteArray := prog_1_method_77_code
def yX12_firstFailure : MethodName := ⟨RX12, "firstFailure", "()I"⟩
abbrev cX12_within : ByteArray := prog_1_method_78_code
def yX12_within : MethodName := ⟨RX12, "within", "(III)Z"⟩
abbrev cX12_toleranceFor : ByteArray := prog_1_method_79_code
def yX12_toleranceFor : MethodName := ⟨RX12, "toleranceFor", "(I)I"⟩
def RX13 : String := "LevelingNetworkModel"
def TX13 : u_T := fun k => match k with
  | _ => ("", "", "", false)
def tyX13 : Nat → FieldType := fun k => match k with
  | _ => .int
abbrev wsX130 : List Cond := u_ws RX13 TX13 0
theorem nmX13 : ∀ a, a < 0 → ∀ b, b < 0 → a ≠ b → (TX13 a).2.1 ≠ (TX13 b).2.1 := by decide +kernel
theorem tyX13_ok : ∀ k, k < 0 → parseFieldDescriptor (TX13 k).2.2.1 = some (tyX13 k) := by decide +kernel
def RJx145de : String := "java/io/Serializable"
def TJx145de : u_T := fun k => match k with
  | _ => ("", "", "", false)
def tyJx145de : Nat → FieldType := fun k => match k with
  | _ => .int
abbrev wsJx145de0 : List Cond := u_ws RJx145de TJx145de 0
theorem nmJx145de : ∀ a, a < 0 → ∀ b, b < 0 → a ≠ b → (TJx145de a).2.1 ≠ (TJx145de b).2.1 := by decide +kernel
theorem tyJx145de_ok : ∀ k, k < 0 → parseFieldDescriptor (TJx145de k).2.2.1 = some (tyJx145de k) := by decide +kernel
def RJ5 : String := "java/lang/AbstractStringBuilder"
def TJ5 : u_T := fun k => match k with
  | _ => ("", "", "", false)
def tyJ5 : Nat → FieldType := fun k => match k with
  | _ => .int
abbrev wsJ50 : List Cond := u_ws RJ5 TJ5 0
theorem nmJ5 : ∀ a, a < 0 → ∀ b, b < 0 → a ≠ b → (TJ5 a).2.1 ≠ (TJ5 b).2.1 := by decide +kernel
theorem tyJ5_ok : ∀ k, k < 0 → parseFieldDescriptor (TJ5 k).2.2.1 = some (tyJ5 k) := by decide +kernel
abbrev cJ5_init_d00df : ByteArray := prog_17_method_2_code
def yJ5_init_d00df : MethodName := ⟨RJ5, "<init>", "(I)V"⟩
abbrev cJ5_length_8abf5 : ByteArray := prog_17_method_6_code
def yJ5_length_8abf5 : MethodName := ⟨RJ5, "length", "()I"⟩
abbrev cJ5_ensureCapacityInternal_d00df : ByteArray := prog_17_method_9_code
def yJ5_ensureCapacityInternal_d00df : MethodName := ⟨RJ5, "ensureCapacityInternal", "(I)V"⟩
abbrev cJ5_newCapacity_0f7a4 : ByteArray := prog_17_method_10_code
def yJ5_newCapacity_0f7a4 : MethodName := ⟨RJ5, "newCapacity", "(I)I"⟩
abbrev cJ5_inflate_da8c8 : ByteArray := prog_17_method_11_code
def yJ5_inflate_da8c8 : MethodName := ⟨RJ5, "inflate", "()V"⟩
abbrev cJ5_setLength_d00df : ByteArray := prog_17_method_13_code
def yJ5_setLength_d00df : MethodName := ⟨RJ5, "setLength", "(I)V"⟩
abbrev cJ5_charAt_5068e : ByteArray := prog_17_method_14_code
def yJ5_charAt_5068e : MethodName := ⟨RJ5, "charAt", "(I)C"⟩
abbrev cJ5_append_cf1ce : ByteArray := prog_17_method_22_code
def yJ5_append_cf1ce : MethodName := ⟨RJ5, "append", "(Ljava/lang/String;)Ljava/lang/AbstractStringBuilder;"⟩
abbrev cJ5_appendNull_278bc : ByteArray := prog_17_method_26_code
def yJ5_appendNull_278bc : MethodName := ⟨RJ5, "appendNull", "()Ljava/lang/AbstractStringBuilder;"⟩
abbrev cJ5_append_3fe6f : ByteArray := prog_17_method_31_code
def yJ5_append_3fe6f : MethodName := ⟨RJ5, "append", "(C)Ljava/lang/AbstractStringBuilder;"⟩
abbrev cJ5_append_c97b9 : ByteArray := prog_17_method_32_code
def yJ5_append_c97b9 : MethodName := ⟨RJ5, "append", "(I)Ljava/lang/AbstractStringBuilder;"⟩
abbrev cJ5_getValue_6d5f1 : ByteArray := prog_17_method_64_code
def yJ5_getValue_6d5f1 : MethodName := ⟨RJ5, "getValue", "()[B"⟩
abbrev cJ5_isLatin1_aae02 : ByteArray := prog_17_method_68_code
def yJ5_isLatin1_aae02 : MethodName := ⟨RJ5, "isLatin1", "()Z"⟩
abbrev cJ5_inflateIfNeededFor_a7421 : ByteArray := prog_17_method_71_code
def yJ5_inflateIfNeededFor_a7421 : MethodName := ⟨RJ5, "inflateIfNeededFor", "(Ljava/lang/String;)V"⟩
abbrev cJ5_putStringAt_47b60 : ByteArray := prog_17_method_73_code
def yJ5_putStringAt_47b60 : MethodName := ⟨RJ5, "putStringAt", "(ILjava/lang/String;)V"⟩
def RJx2cfe8 : String := "java/lang/Appendable"
def TJx2cfe8 : u_T := fun k => match k with
  | _ => ("", "", "", false)
def tyJx2cfe8 : Nat → FieldType := fun k => match k with
  | _ => .int
abbrev wsJx2cfe80 : List Cond := u_ws RJx2cfe8 TJx2cfe8 0
theorem nmJx2cfe8 : ∀ a, a < 0 → ∀ b, b < 0 → a ≠ b → (TJx2cfe8 a).2.1 ≠ (TJx2cfe8 b).2.1 := by decide +kernel
theorem tyJx2cfe8_ok : ∀ k, k < 0 → parseFieldDescriptor (TJx2cfe8 k).2.2.1 = some (tyJx2cfe8 k) := by decide +kernel
def RJx00060 : String := "java/lang/ArrayIndexOutOfBoundsException"
def TJx00060 : u_T := fun k => match k with
  | 0 => ("java/lang/Throwable", "cause", "Ljava/lang/Throwable;", false)
  | 1 => ("java/lang/Throwable", "stackTrace", "[Ljava/lang/StackTraceElement;", false)
  | 2 => ("java/lang/Throwable", "suppressedExceptions", "Ljava/util/List;", false)
  | 3 => ("java/lang/Throwable", "detailMessage", "Ljava/lang/String;", false)
  | 4 => ("java/lang/Throwable", "backtrace", "Ljava/lang/Object;", false)
  | _ => ("java/lang/Throwable", "depth", "I", false)
def tyJx00060 : Nat → FieldType := fun k => match k with
  | 0 => .object "java/lang/Throwable"
  | 1 => .array (.object "java/lang/StackTraceElement")
  | 2 => .object "java/util/List"
  | 3 => .object "java/lang/String"
  | 4 => .object "java/lang/Object"
  | _ => .int
abbrev wsJx000600 : List Cond := u_ws RJx00060 TJx00060 6
theorem nmJx00060 : ∀ a, a < 6 → ∀ b, b < 6 → a ≠ b → (TJx00060 a).2.1 ≠ (TJx00060 b).2.1 := by decide +kernel
theorem tyJx00060_ok : ∀ k, k < 6 → parseFieldDescriptor (TJx00060 k).2.2.1 = some (tyJx00060 k) := by decide +kernel
abbrev cJx00060_init_a7421 : ByteArray := prog_20_method_2_code
def yJx00060_init_a7421 : MethodName := ⟨RJx00060, "<init>", "(Ljava/lang/String;)V"⟩
abbrev cJx00060_init_d00df : ByteArray := prog_20_method_3_code
def yJx00060_init_d00df : MethodName := ⟨RJx00060, "<init>", "(I)V"⟩
def RJx9f9b0 : String := "java/lang/CharSequence"
def TJx9f9b0 : u_T := fun k => match k with
  | _ => ("", "", "", false)
def tyJx9f9b0 : Nat → FieldType := fun k => match k with
  | _ => .int
abbrev wsJx9f9b00 : List Cond := u_ws RJx9f9b0 TJx9f9b0 0
theorem nmJx9f9b0 : ∀ a, a < 0 → ∀ b, b < 0 → a ≠ b → (TJx9f9b0 a).2.1 ≠ (TJx9f9b0 b).2.1 := by decide +kernel
theorem tyJx9f9b0_ok : ∀ k, k < 0 → parseFieldDescriptor (TJx9f9b0 k).2.2.1 = some (tyJx9f9b0 k) := by decide +kernel
def RJx8e188 : String := "java/lang/Cloneable"
def TJx8e188 : u_T := fun k => match k with
  | _ => ("", "", "", false)
def tyJx8e188 : Nat → FieldType := fun k => match k with
  | _ => .int
abbrev wsJx8e1880 : List Cond := u_ws RJx8e188 TJx8e188 0
theorem nmJx8e188 : ∀ a, a < 0 → ∀ b, b < 0 → a ≠ b → (TJx8e188 a).2.1 ≠ (TJx8e188 b).2.1 := by decide +kernel
theorem tyJx8e188_ok : ∀ k, k < 0 → parseFieldDescriptor (TJx8e188 k).2.2.1 = some (tyJx8e188 k) := by decide +kernel
def RJxb160c : String := "java/lang/Comparable"
def TJxb160c : u_T := fun k => match k with
  | _ => ("", "", "", false)
def tyJxb160c : Nat → FieldType := fun k => match k with
  | _ => .int
abbrev wsJxb160c0 : List Cond := u_ws RJxb160c TJxb160c 0
theorem nmJxb160c : ∀ a, a < 0 → ∀ b, b < 0 → a ≠ b → (TJxb160c a).2.1 ≠ (TJxb160c b).2.1 := by decide +kernel
theorem tyJxb160c_ok : ∀ k, k < 0 → parseFieldDescriptor (TJxb160c k).2.2.1 = some (tyJxb160c k) := by decide +kernel
def RJx29ce0 : String := "java/lang/Enum"
def TJx29ce0 : u_T := fun k => match k with
  | _ => ("", "", "", false)
def tyJx29ce0 : Nat → FieldType := fun k => match k with
  | _ => .int
abbrev wsJx29ce00 : List Cond := u_ws RJx29ce0 TJx29ce0 0
theorem nmJx29ce0 : ∀ a, a < 0 → ∀ b, b < 0 → a ≠ b → (TJx29ce0 a).2.1 ≠ (TJx29ce0 b).2.1 := by decide +kernel
theorem tyJx29ce0_ok : ∀ k, k < 0 → parseFieldDescriptor (TJx29ce0 k).2.2.1 = some (tyJx29ce0 k) := by decide +kernel
abbrev cJx29ce0_ordinal_8abf5 : ByteArray := prog_24_method_2_code
def yJx29ce0_ordinal_8abf5 : MethodName := ⟨RJx29ce0, "ordinal", "()I"⟩
def RJ6 : String := "java/lang/Integer"
def TJ6 : u_T := fun k => match k with
  | _ => ("", "", "", false)
def tyJ6 : Nat → FieldType := fun k => match k with
  | _ => .int
abbrev wsJ60 : List Cond := u_ws RJ6 TJ6 0
theorem nmJ6 : ∀ a, a < 0 → ∀ b, b < 0 → a ≠ b → (TJ6 a).2.1 ≠ (TJ6 b).2.1 := by decide +kernel
theorem tyJ6_ok : ∀ k, k < 0 → parseFieldDescriptor (TJ6 k).2.2.1 = some (tyJ6 k) := by decide +kernel
abbrev cJ6_getChars_ba4f3 : ByteArray := prog_29_method_12_code
def yJ6_getChars_ba4f3 : MethodName := ⟨RJ6, "getChars", "(II[B)I"⟩
abbrev cJ6_stringSize_0f7a4 : ByteArray := prog_29_method_13_code
def yJ6_stringSize_0f7a4 : MethodName := ⟨RJ6, "stringSize", "(I)I"⟩
def RJ9 : String := "java/lang/Math"
def TJ9 : u_T := fun k => match k with
  | _ => ("", "", "", false)
def tyJ9 : Nat → FieldType := fun k => match k with
  | _ => .int
abbrev wsJ90 : List Cond := u_ws RJ9 TJ9 0
theorem nmJ9 : ∀ a, a < 0 → ∀ b, b < 0 → a ≠ b → (TJ9 a).2.1 ≠ (TJ9 b).2.1 := by decide +kernel
theorem tyJ9_ok : ∀ k, k < 0 → parseFieldDescriptor (TJ9 k).2.2.1 = some (tyJ9 k) := by decide +kernel
abbrev cJ9_floorDiv_7cf53 : ByteArray := prog_30_method_47_code
def yJ9_floorDiv_7cf53 : MethodName := ⟨RJ9, "floorDiv", "(II)I"⟩
abbrev cJ9_abs_0f7a4 : ByteArray := prog_30_method_59_code
def yJ9_abs_0f7a4 : MethodName := ⟨RJ9, "abs", "(I)I"⟩
abbrev cJ9_max_7cf53 : ByteArray := prog_30_method_65_code
def yJ9_max_7cf53 : MethodName := ⟨RJ9, "max", "(II)I"⟩
abbrev cJ9_min_7cf53 : ByteArray := prog_30_method_69_code
def yJ9_min_7cf53 : MethodName := ⟨RJ9, "min", "(II)I"⟩
def RJxd2413 : String := "java/lang/Number"
def TJxd2413 : u_T := fun k => match k with
  | _ => ("", "", "", false)
def tyJxd2413 : Nat → FieldType := fun k => match k with
  | _ => .int
abbrev wsJxd24130 : List Cond := u_ws RJxd2413 TJxd2413 0
theorem nmJxd2413 : ∀ a, a < 0 → ∀ b, b < 0 → a ≠ b → (TJxd2413 a).2.1 ≠ (TJxd2413 b).2.1 := by decide +kernel
theorem tyJxd2413_ok : ∀ k, k < 0 → parseFieldDescriptor (TJxd2413 k).2.2.1 = some (tyJxd2413 k) := by decide +kernel
def RJ0 : String := "java/lang/String"
def TJ0 : u_T := fun k => match k with
  | 0 => ("java/lang/String", "value", "[B", true)
  | 1 => ("java/lang/String", "coder", "B", true)
  | 2 => ("java/lang/String", "hash", "I", false)
  | _ => ("java/lang/String", "hashIsZero", "Z", false)
def tyJ0 : Nat → FieldType := fun k => match k with
  | 0 => .array .byte
  | 1 => .byte
  | 2 => .int
  | _ => .boolean
abbrev wsJ00 : List Cond := u_ws RJ0 TJ0 4
theorem nmJ0 : ∀ a, a < 4 → ∀ b, b < 4 → a ≠ b → (TJ0 a).2.1 ≠ (TJ0 b).2.1 := by decide +kernel
theorem tyJ0_ok : ∀ k, k < 4 → parseFieldDescriptor (TJ0 k).2.2.1 = some (tyJ0 k) := by decide +kernel
abbrev cJ0_init_81219 : ByteArray := prog_33_method_53_code
def yJ0_init_81219 : MethodName := ⟨RJ0, "<init>", "(Ljava/lang/StringBuilder;)V"⟩
abbrev cJ0_length_8abf5 : ByteArray := prog_33_method_54_code
def yJ0_length_8abf5 : MethodName := ⟨RJ0, "length", "()I"⟩
abbrev cJ0_charAt_5068e : ByteArray := prog_33_method_56_code
def yJ0_charAt_5068e : MethodName := ⟨RJ0, "charAt", "(I)C"⟩
abbrev cJ0_getBytes_840e7 : ByteArray := prog_33_method_147_code
def yJ0_getBytes_840e7 : MethodName := ⟨RJ0, "getBytes", "([BIB)V"⟩
abbrev cJ0_init_db425 : ByteArray := prog_33_method_150_code
def yJ0_init_db425 : MethodName := ⟨RJ0, "<init>", "(Ljava/lang/AbstractStringBuilder;Ljava/lang/Void;)V"⟩
abbrev cJ0_coder_7d493 : ByteArray := prog_33_method_152_code
def yJ0_coder_7d493 : MethodName := ⟨RJ0, "coder", "()B"⟩
abbrev cJ0_isLatin1_aae02 : ByteArray := prog_33_method_154_code
def yJ0_isLatin1_aae02 : MethodName := ⟨RJ0, "isLatin1", "()Z"⟩
abbrev cJ0_checkIndex_df160 : ByteArray := prog_33_method_155_code
def yJ0_checkIndex_df160 : MethodName := ⟨RJ0, "checkIndex", "(II)V"⟩
abbrev cJ0_checkBoundsOffCount_cabcc : ByteArray := prog_33_method_157_code
def yJ0_checkBoundsOffCount_cabcc : MethodName := ⟨RJ0, "checkBoundsOffCount", "(III)I"⟩
abbrev cJ0_checkBoundsBeginEnd_23922 : ByteArray := prog_33_method_158_code
def yJ0_checkBoundsBeginEnd_23922 : MethodName := ⟨RJ0, "checkBoundsBeginEnd", "(III)V"⟩
def RJ4 : String := "java/lang/StringBuilder"
def TJ4 : u_T := fun k => match k with
  | 0 => ("java/lang/AbstractStringBuilder", "value", "[B", false)
  | 1 => ("java/lang/AbstractStringBuilder", "coder", "B", false)
  | 2 => ("java/lang/AbstractStringBuilder", "maybeLatin1", "Z", false)
  | _ => ("java/lang/AbstractStringBuilder", "count", "I", false)
def tyJ4 : Nat → FieldType := fun k => match k with
  | 0 => .array .byte
  | 1 => .byte
  | 2 => .boolean
  | _ => .int
abbrev wsJ40 : List Cond := u_ws RJ4 TJ4 4
theorem nmJ4 : ∀ a, a < 4 → ∀ b, b < 4 → a ≠ b → (TJ4 a).2.1 ≠ (TJ4 b).2.1 := by decide +kernel
theorem tyJ4_ok : ∀ k, k < 4 → parseFieldDescriptor (TJ4 k).2.2.1 = some (tyJ4 k) := by decide +kernel
abbrev cJ4_init_da8c8 : ByteArray := prog_34_method_1_code
def yJ4_init_da8c8 : MethodName := ⟨RJ4, "<init>", "()V"⟩
abbrev cJ4_append_15ec4 : ByteArray := prog_34_method_7_code
def yJ4_append_15ec4 : MethodName := ⟨RJ4, "append", "(Ljava/lang/String;)Ljava/lang/StringBuilder;"⟩
abbrev cJ4_append_cf468 : ByteArray := prog_34_method_14_code
def yJ4_append_cf468 : MethodName := ⟨RJ4, "append", "(C)Ljava/lang/StringBuilder;"⟩
abbrev cJ4_append_bf812 : ByteArray := prog_34_method_15_code
def yJ4_append_bf812 : MethodName := ⟨RJ4, "append", "(I)Ljava/lang/StringBuilder;"⟩
abbrev cJ4_toString_0e30d : ByteArray := prog_34_method_42_code
def yJ4_toString_0e30d : MethodName := ⟨RJ4, "toString", "()Ljava/lang/String;"⟩
abbrev cJ4_charAt_5068e : ByteArray := prog_34_method_88_code
def yJ4_charAt_5068e : MethodName := ⟨RJ4, "charAt", "(I)C"⟩
abbrev cJ4_setLength_d00df : ByteArray := prog_34_method_89_code
def yJ4_setLength_d00df : MethodName := ⟨RJ4, "setLength", "(I)V"⟩
abbrev cJ4_length_8abf5 : ByteArray := prog_34_method_93_code
def yJ4_length_8abf5 : MethodName := ⟨RJ4, "length", "()I"⟩
def RJx7c733 : String := "java/lang/StringIndexOutOfBoundsException"
def TJx7c733 : u_T := fun k => match k with
  | 0 => ("java/lang/Throwable", "backtrace", "Ljava/lang/Object;", false)
  | 1 => ("java/lang/Throwable", "detailMessage", "Ljava/lang/String;", false)
  | 2 => ("java/lang/Throwable", "cause", "Ljava/lang/Throwable;", false)
  | 3 => ("java/lang/Throwable", "stackTrace", "[Ljava/lang/StackTraceElement;", false)
  | 4 => ("java/lang/Throwable", "depth", "I", false)
  | _ => ("java/lang/Throwable", "suppressedExceptions", "Ljava/util/List;", false)
def tyJx7c733 : Nat → FieldType := fun k => match k with
  | 0 => .object "java/lang/Object"
  | 1 => .object "java/lang/String"
  | 2 => .object "java/lang/Throwable"
  | 3 => .array (.object "java/lang/StackTraceElement")
  | 4 => .int
  | _ => .object "java/util/List"
abbrev wsJx7c7330 : List Cond := u_ws RJx7c733 TJx7c733 6
theorem nmJx7c733 : ∀ a, a < 6 → ∀ b, b < 6 → a ≠ b → (TJx7c733 a).2.1 ≠ (TJx7c733 b).2.1 := by decide +kernel
theorem tyJx7c733_ok : ∀ k, k < 6 → parseFieldDescriptor (TJx7c733 k).2.2.1 = some (tyJx7c733 k) := by decide +kernel
abbrev cJx7c733_init_d00df : ByteArray := prog_35_method_3_code
def yJx7c733_init_d00df : MethodName := ⟨RJx7c733, "<init>", "(I)V"⟩
def RJ1 : String := "java/lang/StringLatin1"
def TJ1 : u_T := fun k => match k with
  | _ => ("", "", "", false)
def tyJ1 : Nat → FieldType := fun k => match k with
  | _ => .int
abbrev wsJ10 : List Cond := u_ws RJ1 TJ1 0
theorem nmJ1 : ∀ a, a < 0 → ∀ b, b < 0 → a ≠ b → (TJ1 a).2.1 ≠ (TJ1 b).2.1 := by decide +kernel
theorem tyJ1_ok : ∀ k, k < 0 → parseFieldDescriptor (TJ1 k).2.2.1 = some (tyJ1 k) := by decide +kernel
abbrev cJ1_charAt_3b067 : ByteArray := prog_36_method_2_code
def yJ1_charAt_3b067 : MethodName := ⟨RJ1, "charAt", "([BI)C"⟩
abbrev cJ1_canEncode_fc78d : ByteArray := prog_36_method_3_code
def yJ1_canEncode_fc78d : MethodName := ⟨RJ1, "canEncode", "(C)Z"⟩
abbrev cJ1_fillNull_b72d1 : ByteArray := prog_36_method_48_code
def yJ1_fillNull_b72d1 : MethodName := ⟨RJ1, "fillNull", "([BII)V"⟩
abbrev cJ1_inflate_0e8fd : ByteArray := prog_36_method_50_code
def yJ1_inflate_0e8fd : MethodName := ⟨RJ1, "inflate", "([BI[BII)V"⟩
def RJ2 : String := "java/lang/StringUTF16"
def TJ2 : u_T := fun k => match k with
  | _ => ("", "", "", false)
def tyJ2 : Nat → FieldType := fun k => match k with
  | _ => .int
abbrev wsJ20 : List Cond := u_ws RJ2 TJ2 0
theorem nmJ2 : ∀ a, a < 0 → ∀ b, b < 0 → a ≠ b → (TJ2 a).2.1 ≠ (TJ2 b).2.1 := by decide +kernel
theorem tyJ2_ok : ∀ k, k < 0 → parseFieldDescriptor (TJ2 k).2.2.1 = some (tyJ2 k) := by decide +kernel
abbrev cJ2_newBytesFor_77867 : ByteArray := prog_37_method_2_code
def yJ2_newBytesFor_77867 : MethodName := ⟨RJ2, "newBytesFor", "(I)[B"⟩
abbrev cJ2_newBytesLength_0f7a4 : ByteArray := prog_37_method_3_code
def yJ2_newBytesLength_0f7a4 : MethodName := ⟨RJ2, "newBytesLength", "(I)I"⟩
abbrev cJ2_putChar_b72d1 : ByteArray := prog_37_method_4_code
def yJ2_putChar_b72d1 : MethodName := ⟨RJ2, "putChar", "([BII)V"⟩
abbrev cJ2_getChar_3b067 : ByteArray := prog_37_method_5_code
def yJ2_getChar_3b067 : MethodName := ⟨RJ2, "getChar", "([BI)C"⟩
abbrev cJ2_length_9d52b : ByteArray := prog_37_method_6_code
def yJ2_length_9d52b : MethodName := ⟨RJ2, "length", "([B)I"⟩
abbrev cJ2_coderFromArrayLen_85cad : ByteArray := prog_37_method_15_code
def yJ2_coderFromArrayLen_85cad : MethodName := ⟨RJ2, "coderFromArrayLen", "([BI)B"⟩
abbrev cJ2_compress_39247 : ByteArray := prog_37_method_17_code
def yJ2_compress_39247 : MethodName := ⟨RJ2, "compress", "([BII)[B"⟩
abbrev cJ2_compress_5af95 : ByteArray := prog_37_method_22_code
def yJ2_compress_5af95 : MethodName := ⟨RJ2, "compress", "([BI[BII)I"⟩
abbrev cJ2_fillNull_b72d1 : ByteArray := prog_37_method_70_code
def yJ2_fillNull_b72d1 : MethodName := ⟨RJ2, "fillNull", "([BII)V"⟩
abbrev cJ2_putCharSB_b72d1 : ByteArray := prog_37_method_71_code
def yJ2_putCharSB_b72d1 : MethodName := ⟨RJ2, "putCharSB", "([BII)V"⟩
abbrev cJ2_getChars_46870 : ByteArray := prog_37_method_77_code
def yJ2_getChars_46870 : MethodName := ⟨RJ2, "getChars", "(III[B)I"⟩
abbrev cJ2_putCharsAt_cd4e5 : ByteArray := prog_37_method_81_code
def yJ2_putCharsAt_cd4e5 : MethodName := ⟨RJ2, "putCharsAt", "([BICCCC)I"⟩
abbrev cJ2_charAt_3b067 : ByteArray := prog_37_method_83_code
def yJ2_charAt_3b067 : MethodName := ⟨RJ2, "charAt", "([BI)C"⟩
abbrev cJ2_inflate_0e8fd : ByteArray := prog_37_method_86_code
def yJ2_inflate_0e8fd : MethodName := ⟨RJ2, "inflate", "([BI[BII)V"⟩
abbrev cJ2_getChars_ba4f3 : ByteArray := prog_37_method_89_code
def yJ2_getChars_ba4f3 : MethodName := ⟨RJ2, "getChars", "(II[B)I"⟩
abbrev cJ2_checkIndex_2214a : ByteArray := prog_37_method_91_code
def yJ2_checkIndex_2214a : MethodName := ⟨RJ2, "checkIndex", "(I[B)V"⟩
abbrev cJ2_checkBoundsBeginEnd_d044e : ByteArray := prog_37_method_93_code
def yJ2_checkBoundsBeginEnd_d044e : MethodName := ⟨RJ2, "checkBoundsBeginEnd", "(II[B)V"⟩
abbrev cJ2_checkBoundsOffCount_d044e : ByteArray := prog_37_method_94_code
def yJ2_checkBoundsOffCount_d044e : MethodName := ⟨RJ2, "checkBoundsOffCount", "(II[B)V"⟩
def RJ10 : String := "java/lang/System"
def TJ10 : u_T := fun k => match k with
  | _ => ("", "", "", false)
def tyJ10 : Nat → FieldType := fun k => match k with
  | _ => .int
abbrev wsJ100 : List Cond := u_ws RJ10 TJ10 0
theorem nmJ10 : ∀ a, a < 0 → ∀ b, b < 0 → a ≠ b → (TJ10 a).2.1 ≠ (TJ10 b).2.1 := by decide +kernel
theorem tyJ10_ok : ∀ k, k < 0 → parseFieldDescriptor (TJ10 k).2.2.1 = some (tyJ10 k) := by decide +kernel
def RJxfd54e : String := "java/lang/constant/Constable"
def TJxfd54e : u_T := fun k => match k with
  | _ => ("", "", "", false)
def tyJxfd54e : Nat → FieldType := fun k => match k with
  | _ => .int
abbrev wsJxfd54e0 : List Cond := u_ws RJxfd54e TJxfd54e 0
theorem nmJxfd54e : ∀ a, a < 0 → ∀ b, b < 0 → a ≠ b → (TJxfd54e a).2.1 ≠ (TJxfd54e b).2.1 := by decide +kernel
theorem tyJxfd54e_ok : ∀ k, k < 0 → parseFieldDescriptor (TJxfd54e k).2.2.1 = some (tyJxfd54e k) := by decide +kernel
def RJx3cf43 : String := "java/lang/constant/ConstantDesc"
def TJx3cf43 : u_T := fun k => match k with
  | _ => ("", "", "", false)
def tyJx3cf43 : Nat → FieldType := fun k => match k with
  | _ => .int
abbrev wsJx3cf430 : List Cond := u_ws RJx3cf43 TJx3cf43 0
theorem nmJx3cf43 : ∀ a, a < 0 → ∀ b, b < 0 → a ≠ b → (TJx3cf43 a).2.1 ≠ (TJx3cf43 b).2.1 := by decide +kernel
theorem tyJx3cf43_ok : ∀ k, k < 0 → parseFieldDescriptor (TJx3cf43 k).2.2.1 = some (tyJx3cf43 k) := by decide +kernel
def RJ7 : String := "java/util/Arrays"
def TJ7 : u_T := fun k => match k with
  | _ => ("", "", "", false)
def tyJ7 : Nat → FieldType := fun k => match k with
  | _ => .int
abbrev wsJ70 : List Cond := u_ws RJ7 TJ7 0
theorem nmJ7 : ∀ a, a < 0 → ∀ b, b < 0 → a ≠ b → (TJ7 a).2.1 ≠ (TJ7 b).2.1 := by decide +kernel
theorem tyJ7_ok : ∀ k, k < 0 → parseFieldDescriptor (TJ7 k).2.2.1 = some (tyJ7 k) := by decide +kernel
abbrev cJ7_rangeCheck_23922 : ByteArray := prog_43_method_30_code
def yJ7_rangeCheck_23922 : MethodName := ⟨RJ7, "rangeCheck", "(III)V"⟩
abbrev cJ7_fill_eb02e : ByteArray := prog_43_method_110_code
def yJ7_fill_eb02e : MethodName := ⟨RJ7, "fill", "([BIIB)V"⟩
abbrev cJ7_copyOf_9075b : ByteArray := prog_43_method_121_code
def yJ7_copyOf_9075b : MethodName := ⟨RJ7, "copyOf", "([BI)[B"⟩
abbrev cJ7_checkLength_df160 : ByteArray := prog_43_method_131_code
def yJ7_checkLength_df160 : MethodName := ⟨RJ7, "checkLength", "(II)V"⟩
abbrev cJ7_copyOfRange_39247 : ByteArray := prog_43_method_132_code
def yJ7_copyOfRange_39247 : MethodName := ⟨RJ7, "copyOfRange", "([BII)[B"⟩
abbrev cJ7_copyOfRangeByte_39247 : ByteArray := prog_43_method_133_code
def yJ7_copyOfRangeByte_39247 : MethodName := ⟨RJ7, "copyOfRangeByte", "([BII)[B"⟩
def RJ8 : String := "jdk/internal/util/ArraysSupport"
def TJ8 : u_T := fun k => match k with
  | _ => ("", "", "", false)
def tyJ8 : Nat → FieldType := fun k => match k with
  | _ => .int
abbrev wsJ80 : List Cond := u_ws RJ8 TJ8 0
theorem nmJ8 : ∀ a, a < 0 → ∀ b, b < 0 → a ≠ b → (TJ8 a).2.1 ≠ (TJ8 b).2.1 := by decide +kernel
theorem tyJ8_ok : ∀ k, k < 0 → parseFieldDescriptor (TJ8 k).2.2.1 = some (tyJ8 k) := by decide +kernel
abbrev cJ8_newLength_cabcc : ByteArray := prog_45_method_27_code
def yJ8_newLength_cabcc : MethodName := ⟨RJ8, "newLength", "(III)I"⟩
abbrev cJ8_hugeLength_7cf53 : ByteArray := prog_45_method_28_code
def yJ8_hugeLength_7cf53 : MethodName := ⟨RJ8, "hugeLength", "(II)I"⟩
def RJ3 : String := "jdk/internal/util/Preconditions"
def TJ3 : u_T := fun k => match k with
  | _ => ("", "", "", false)
def tyJ3 : Nat → FieldType := fun k => match k with
  | _ => .int
abbrev wsJ30 : List Cond := u_ws RJ3 TJ3 0
theorem nmJ3 : ∀ a, a < 0 → ∀ b, b < 0 → a ≠ b → (TJ3 a).2.1 ≠ (TJ3 b).2.1 := by decide +kernel
theorem tyJ3_ok : ∀ k, k < 0 → parseFieldDescriptor (TJ3 k).2.2.1 = some (tyJ3 k) := by decide +kernel
abbrev cJ3_checkIndex_8e157 : ByteArray := prog_46_method_11_code
def yJ3_checkIndex_8e157 : MethodName := ⟨RJ3, "checkIndex", "(IILjava/util/function/BiFunction;)I"⟩
abbrev cJ3_checkFromToIndex_8c36e : ByteArray := prog_46_method_12_code
def yJ3_checkFromToIndex_8c36e : MethodName := ⟨RJ3, "checkFromToIndex", "(IIILjava/util/function/BiFunction;)I"⟩
abbrev cJ3_checkFromIndexSize_8c36e : ByteArray := prog_46_method_13_code
def yJ3_checkFromIndexSize_8c36e : MethodName := ⟨RJ3, "checkFromIndexSize", "(IIILjava/util/function/BiFunction;)I"⟩
def RL : String := "LevelingNetworkLaw"
abbrev cL_at : ByteArray := method_2_code
def yL_at : MethodName := ⟨RL, "at", "([II)I"⟩
abbrev cL_put : ByteArray := method_3_code
def yL_put : MethodName := ⟨RL, "put", "(LLevelingNetwork;Ljava/lang/String;)V"⟩
abbrev cL_build : ByteArray := method_4_code
def yL_build : MethodName := ⟨RL, "build", "([I)LLevelingNetwork;"⟩
abbrev cL_line : ByteArray := method_5_code
def yL_line : MethodName := ⟨RL, "line", "(LLevelingNetwork;IIII)I"⟩
abbrev cL_act : ByteArray := method_6_code
def yL_act : MethodName := ⟨RL, "act", "(LLevelingNetwork;IIII)I"⟩
abbrev cL_state : ByteArray := method_7_code
def yL_state : MethodName := ⟨RL, "state", "(LLevelingNetwork;)I"⟩
abbrev cL_law : ByteArray := code
def yL_law : MethodName := ⟨RL, "law", "([I)Z"⟩
abbrev cL_isLine : ByteArray := method_15_code
def yL_isLine : MethodName := ⟨RL, "isLine", "(LLevelingNetwork;ILjava/lang/String;)Z"⟩
abbrev cL_runs : ByteArray := method_16_code
def yL_runs : MethodName := ⟨RL, "runs", "(LLevelingNetwork;)I"⟩
abbrev cL_fails : ByteArray := method_17_code
def yL_fails : MethodName := ⟨RL, "fails", "(LLevelingNetwork;Ljava/lang/String;I)Z"⟩
abbrev vwCl : List vw_C := [(RJ0, TJ0, 4), (RJ4, TJ4, 4), (RJx00060, TJx00060, 6), (RJx7c733, TJx7c733, 6), (RX1, TX1, 1), (RX2, TX2, 4), (RX3, TX3, 6), (RX4, TX4, 5), (RX5, TX5, 3), (RX7, TX7, 6), (RX8, TX8, 3), (RX9, TX9, 18), (RX11, TX11, 5), (RX12, TX12, 15)]
