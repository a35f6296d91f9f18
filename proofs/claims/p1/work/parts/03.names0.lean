/-! ===== BEGIN printed: names, fields, word lists, decode rows ===== -/
def RX0 : String := "CheckRestart$Checkpoints"
def TX0 : u_T := fun k => match k with
  | 0 => ("CheckRestart$Checkpoints", "whole", "[Z", true)
  | 1 => ("CheckRestart$Checkpoints", "editions", "[I", true)
  | 2 => ("CheckRestart$Checkpoints", "units", "[I", true)
  | 3 => ("CheckRestart$Checkpoints", "cellCounts", "[I", true)
  | 4 => ("CheckRestart$Checkpoints", "cells", "[J", true)
  | 5 => ("CheckRestart$Checkpoints", "positions", "[I", true)
  | _ => ("CheckRestart$Checkpoints", "begun", "I", false)
def tyX0 : Nat → FieldType := fun k => match k with
  | 0 => .array .boolean
  | 1 => .array .int
  | 2 => .array .int
  | 3 => .array .int
  | 4 => .array .long
  | 5 => .array .int
  | _ => .int
abbrev wsX00 : List Cond := u_ws RX0 TX0 7
theorem nmX0 : ∀ a, a < 7 → ∀ b, b < 7 → a ≠ b → (TX0 a).2.1 ≠ (TX0 b).2.1 := by decide +kernel
theorem tyX0_ok : ∀ k, k < 7 → parseFieldDescriptor (TX0 k).2.2.1 = some (tyX0 k) := by decide +kernel
abbrev cX0_init : ByteArray := prog_2_method_1_code
def yX0_init : MethodName := ⟨RX0, "<init>", "()V"⟩
abbrev cX0_has : ByteArray := prog_2_method_2_code
def yX0_has : MethodName := ⟨RX0, "has", "(I)Z"⟩
abbrev cX0_addTorn : ByteArray := prog_2_method_3_code
def yX0_addTorn : MethodName := ⟨RX0, "addTorn", "()V"⟩
abbrev cX0_addWhole : ByteArray := prog_2_method_4_code
def yX0_addWhole : MethodName := ⟨RX0, "addWhole", "(LCheckRestart$Progress;I)V"⟩
abbrev cX0_latestWholeUpTo : ByteArray := prog_2_method_5_code
def yX0_latestWholeUpTo : MethodName := ⟨RX0, "latestWholeUpTo", "(I)I"⟩
abbrev cX0_isPastAFilesEnd : ByteArray := prog_2_method_6_code
def yX0_isPastAFilesEnd : MethodName := ⟨RX0, "isPastAFilesEnd", "(ILCheckRestart$Job;)Z"⟩
abbrev cX0_putBack : ByteArray := prog_2_method_7_code
def yX0_putBack : MethodName := ⟨RX0, "putBack", "(ILCheckRestart$Progress;)V"⟩
def RX1 : String := "CheckRestart$Job"
def TX1 : u_T := fun k => match k with
  | 0 => ("CheckRestart$Job", "firstValues", "[J", true)
  | 1 => ("CheckRestart$Job", "lengths", "[I", true)
  | 2 => ("CheckRestart$Job", "cellCount", "I", false)
  | _ => ("CheckRestart$Job", "fileCount", "I", false)
def tyX1 : Nat → FieldType := fun k => match k with
  | 0 => .array .long
  | 1 => .array .int
  | 2 => .int
  | _ => .int
abbrev wsX10 : List Cond := u_ws RX1 TX1 4
theorem nmX1 : ∀ a, a < 4 → ∀ b, b < 4 → a ≠ b → (TX1 a).2.1 ≠ (TX1 b).2.1 := by decide +kernel
theorem tyX1_ok : ∀ k, k < 4 → parseFieldDescriptor (TX1 k).2.2.1 = some (tyX1 k) := by decide +kernel
abbrev cX1_init : ByteArray := prog_3_method_1_code
def yX1_init : MethodName := ⟨RX1, "<init>", "()V"⟩
abbrev cX1_hasFile : ByteArray := prog_3_method_2_code
def yX1_hasFile : MethodName := ⟨RX1, "hasFile", "(I)Z"⟩
def RX2 : String := "CheckRestart$Progress"
def TX2 : u_T := fun k => match k with
  | 0 => ("CheckRestart$Progress", "job", "LCheckRestart$Job;", true)
  | 1 => ("CheckRestart$Progress", "cells", "[J", true)
  | 2 => ("CheckRestart$Progress", "positions", "[I", true)
  | _ => ("CheckRestart$Progress", "units", "I", false)
def tyX2 : Nat → FieldType := fun k => match k with
  | 0 => .object "CheckRestart$Job"
  | 1 => .array .long
  | 2 => .array .int
  | _ => .int
abbrev wsX20 : List Cond := u_ws RX2 TX2 4
theorem nmX2 : ∀ a, a < 4 → ∀ b, b < 4 → a ≠ b → (TX2 a).2.1 ≠ (TX2 b).2.1 := by decide +kernel
theorem tyX2_ok : ∀ k, k < 4 → parseFieldDescriptor (TX2 k).2.2.1 = some (tyX2 k) := by decide +kernel
abbrev cX2_init : ByteArray := prog_4_method_1_code
def yX2_init : MethodName := ⟨RX2, "<init>", "(LCheckRestart$Job;)V"⟩
abbrev cX2_startOver : ByteArray := prog_4_method_2_code
def yX2_startOver : MethodName := ⟨RX2, "startOver", "()V"⟩
abbrev cX2_isEnded : ByteArray := prog_4_method_3_code
def yX2_isEnded : MethodName := ⟨RX2, "isEnded", "()Z"⟩
abbrev cX2_doUnit : ByteArray := prog_4_method_4_code
def yX2_doUnit : MethodName := ⟨RX2, "doUnit", "()J"⟩
abbrev cX2_readRecord : ByteArray := prog_4_method_5_code
def yX2_readRecord : MethodName := ⟨RX2, "readRecord", "(I)J"⟩
abbrev cX2_hasCellsOf : ByteArray := prog_4_method_6_code
def yX2_hasCellsOf : MethodName := ⟨RX2, "hasCellsOf", "(LCheckRestart$Progress;)Z"⟩
def RX3 : String := "CheckRestart"
def TX3 : u_T := fun k => match k with
  | 0 => ("CheckRestart", "job", "LCheckRestart$Job;", true)
  | 1 => ("CheckRestart", "progress", "LCheckRestart$Progress;", true)
  | 2 => ("CheckRestart", "replay", "LCheckRestart$Progress;", true)
  | 3 => ("CheckRestart", "rows", "[J", true)
  | 4 => ("CheckRestart", "checkpoints", "LCheckRestart$Checkpoints;", true)
  | 5 => ("CheckRestart", "editionNow", "I", false)
  | 6 => ("CheckRestart", "down", "Z", false)
  | 7 => ("CheckRestart", "cutPart", "I", false)
  | _ => ("CheckRestart", "cutsThatCame", "I", false)
def tyX3 : Nat → FieldType := fun k => match k with
  | 0 => .object "CheckRestart$Job"
  | 1 => .object "CheckRestart$Progress"
  | 2 => .object "CheckRestart$Progress"
  | 3 => .array .long
  | 4 => .object "CheckRestart$Checkpoints"
  | 5 => .int
  | 6 => .boolean
  | 7 => .int
  | _ => .int
abbrev wsX30 : List Cond := u_ws RX3 TX3 9
theorem nmX3 : ∀ a, a < 9 → ∀ b, b < 9 → a ≠ b → (TX3 a).2.1 ≠ (TX3 b).2.1 := by decide +kernel
theorem tyX3_ok : ∀ k, k < 9 → parseFieldDescriptor (TX3 k).2.2.1 = some (tyX3 k) := by decide +kernel
abbrev cX3_init : ByteArray := prog_1_method_1_code
def yX3_init : MethodName := ⟨RX3, "<init>", "()V"⟩
abbrev cX3_cell : ByteArray := prog_1_method_2_code
def yX3_cell : MethodName := ⟨RX3, "cell", "(J)I"⟩
abbrev cX3_file : ByteArray := prog_1_method_3_code
def yX3_file : MethodName := ⟨RX3, "file", "(I)I"⟩
abbrev cX3_step : ByteArray := prog_1_method_4_code
def yX3_step : MethodName := ⟨RX3, "step", "(I)I"⟩
abbrev cX3_check : ByteArray := prog_1_method_5_code
def yX3_check : MethodName := ⟨RX3, "check", "()I"⟩
abbrev cX3_cut : ByteArray := prog_1_method_6_code
def yX3_cut : MethodName := ⟨RX3, "cut", "(I)I"⟩
abbrev cX3_restart : ByteArray := prog_1_method_7_code
def yX3_restart : MethodName := ⟨RX3, "restart", "(I)I"⟩
abbrev cX3_get : ByteArray := prog_1_method_8_code
def yX3_get : MethodName := ⟨RX3, "get", "(I)J"⟩
abbrev cX3_position : ByteArray := prog_1_method_9_code
def yX3_position : MethodName := ⟨RX3, "position", "(I)I"⟩
abbrev cX3_grow : ByteArray := prog_1_method_10_code
def yX3_grow : MethodName := ⟨RX3, "grow", "(II)I"⟩
abbrev cX3_edition : ByteArray := prog_1_method_11_code
def yX3_edition : MethodName := ⟨RX3, "edition", "(I)I"⟩
abbrev cX3_output : ByteArray := prog_1_method_12_code
def yX3_output : MethodName := ⟨RX3, "output", "(I)I"⟩
abbrev cX3_torn : ByteArray := prog_1_method_13_code
def yX3_torn : MethodName := ⟨RX3, "torn", "(I)I"⟩
abbrev cX3_row : ByteArray := prog_1_method_14_code
def yX3_row : MethodName := ⟨RX3, "row", "(I)I"⟩
abbrev cX3_equal : ByteArray := prog_1_method_15_code
def yX3_equal : MethodName := ⟨RX3, "equal", "()Z"⟩
abbrev cX3_count : ByteArray := prog_1_method_16_code
def yX3_count : MethodName := ⟨RX3, "count", "(I)I"⟩
abbrev cX3_isSetupOver : ByteArray := prog_1_method_17_code
def yX3_isSetupOver : MethodName := ⟨RX3, "isSetupOver", "()Z"⟩
abbrev cX3_goDown : ByteArray := prog_1_method_18_code
def yX3_goDown : MethodName := ⟨RX3, "goDown", "()V"⟩
abbrev cX3_hasRow : ByteArray := prog_1_method_19_code
def yX3_hasRow : MethodName := ⟨RX3, "hasRow", "(I)Z"⟩
abbrev cX3_asNumber : ByteArray := prog_1_method_20_code
def yX3_asNumber : MethodName := ⟨RX3, "asNumber", "(Z)I"⟩
def RX4 : String := "CheckRestartModel"
def TX4 : u_T := fun k => match k with
  | 0 => ("CheckRestartModel", "code", "I", false)
  | 1 => ("CheckRestartModel", "cells", "[J", true)
  | 2 => ("CheckRestartModel", "first", "[J", true)
  | 3 => ("CheckRestartModel", "trial", "[J", true)
  | 4 => ("CheckRestartModel", "lengths", "[I", true)
  | 5 => ("CheckRestartModel", "positions", "[I", true)
  | 6 => ("CheckRestartModel", "trialAt", "[I", true)
  | 7 => ("CheckRestartModel", "many", "I", false)
  | 8 => ("CheckRestartModel", "files", "I", false)
  | 9 => ("CheckRestartModel", "units", "I", false)
  | 10 => ("CheckRestartModel", "edition", "I", false)
  | 11 => ("CheckRestartModel", "rows", "[J", true)
  | 12 => ("CheckRestartModel", "keptCells", "[J", true)
  | 13 => ("CheckRestartModel", "keptPositions", "[I", true)
  | 14 => ("CheckRestartModel", "keptMany", "[I", true)
  | 15 => ("CheckRestartModel", "keptFiles", "[I", true)
  | 16 => ("CheckRestartModel", "keptUnits", "[I", true)
  | 17 => ("CheckRestartModel", "keptEdition", "[I", true)
  | 18 => ("CheckRestartModel", "isWhole", "[Z", true)
  | 19 => ("CheckRestartModel", "checks", "I", false)
  | 20 => ("CheckRestartModel", "cutAt", "I", false)
  | 21 => ("CheckRestartModel", "cuts", "I", false)
  | _ => ("CheckRestartModel", "down", "Z", false)
def tyX4 : Nat → FieldType := fun k => match k with
  | 0 => .int
  | 1 => .array .long
  | 2 => .array .long
  | 3 => .array .long
  | 4 => .array .int
  | 5 => .array .int
  | 6 => .array .int
  | 7 => .int
  | 8 => .int
  | 9 => .int
  | 10 => .int
  | 11 => .array .long
  | 12 => .array .long
  | 13 => .array .int
  | 14 => .array .int
  | 15 => .array .int
  | 16 => .array .int
  | 17 => .array .int
  | 18 => .array .boolean
  | 19 => .int
  | 20 => .int
  | 21 => .int
  | _ => .boolean
abbrev wsX40 : List Cond := u_ws RX4 TX4 23
theorem nmX4 : ∀ a, a < 23 → ∀ b, b < 23 → a ≠ b → (TX4 a).2.1 ≠ (TX4 b).2.1 := by decide +kernel
theorem tyX4_ok : ∀ k, k < 23 → parseFieldDescriptor (TX4 k).2.2.1 = some (tyX4 k) := by decide +kernel
abbrev cX4_init : ByteArray := prog_6_method_1_code
def yX4_init : MethodName := ⟨RX4, "<init>", "()V"⟩
abbrev cX4_thrown : ByteArray := prog_6_method_2_code
def yX4_thrown : MethodName := ⟨RX4, "thrown", "()I"⟩
abbrev cX4_cell : ByteArray := prog_6_method_3_code
def yX4_cell : MethodName := ⟨RX4, "cell", "(J)I"⟩
abbrev cX4_file : ByteArray := prog_6_method_4_code
def yX4_file : MethodName := ⟨RX4, "file", "(I)I"⟩
abbrev cX4_isEnded : ByteArray := prog_6_method_5_code
def yX4_isEnded : MethodName := ⟨RX4, "isEnded", "()Z"⟩
abbrev cX4_step : ByteArray := prog_6_method_6_code
def yX4_step : MethodName := ⟨RX4, "step", "(I)I"⟩
abbrev cX4_check : ByteArray := prog_6_method_7_code
def yX4_check : MethodName := ⟨RX4, "check", "()I"⟩
abbrev cX4_cut : ByteArray := prog_6_method_8_code
def yX4_cut : MethodName := ⟨RX4, "cut", "(I)I"⟩
abbrev cX4_restart : ByteArray := prog_6_method_9_code
def yX4_restart : MethodName := ⟨RX4, "restart", "(I)I"⟩
abbrev cX4_get : ByteArray := prog_6_method_10_code
def yX4_get : MethodName := ⟨RX4, "get", "(I)J"⟩
abbrev cX4_position : ByteArray := prog_6_method_11_code
def yX4_position : MethodName := ⟨RX4, "position", "(I)I"⟩
abbrev cX4_grow : ByteArray := prog_6_method_12_code
def yX4_grow : MethodName := ⟨RX4, "grow", "(II)I"⟩
abbrev cX4_edition : ByteArray := prog_6_method_13_code
def yX4_edition : MethodName := ⟨RX4, "edition", "(I)I"⟩
abbrev cX4_output : ByteArray := prog_6_method_14_code
def yX4_output : MethodName := ⟨RX4, "output", "(I)I"⟩
abbrev cX4_torn : ByteArray := prog_6_method_15_code
def yX4_torn : MethodName := ⟨RX4, "torn", "(I)I"⟩
abbrev cX4_row : ByteArray := prog_6_method_16_code
def yX4_row : MethodName := ⟨RX4, "row", "(I)I"⟩
abbrev cX4_isOver : ByteArray := prog_6_method_17_code
def yX4_isOver : MethodName := ⟨RX4, "isOver", "()Z"⟩
abbrev cX4_equal : ByteArray := prog_6_method_18_code
def yX4_equal : MethodName := ⟨RX4, "equal", "()Z"⟩
abbrev cX4_count : ByteArray := prog_6_method_19_code
def yX4_count : MethodName := ⟨RX4, "count", "(I)I"⟩
def RJx00060 : String := "java/lang/ArrayIndexOutOfBoundsException"
def TJx00060 : u_T := fun k => match k with
  | 0 => ("java/lang/Throwable", "cause", "Ljava/lang/Throwable;", false)
  | 1 => ("java/lang/Throwable", "stackTrace", "[Ljava/lang/StackTraceElement;", false)
  | 2 => ("java/lang/Throwable", "suppressedExceptions", "Ljava/util/List;", false)
  | 3 => ("java/lang/Throwable", "detailMessage", "Ljava/lang/String;", false)
  | 4 => ("java/lang/Throwable", "backtrace", "Ljava/lang/Object;", false)
  | _ => ("java/lang/Throwable", "depth", "I", false)
def tyJx00060 : Nat → FieldType := fun k => match k with
  | 0 => .object "java/lang/Throwable"
  | 1 => .array (.object "java/lang/StackTraceElement")
  | 2 => .object "java/util/List"
  | 3 => .object "java/lang/String"
  | 4 => .object "java/lang/Object"
  | _ => .int
abbrev wsJx000600 : List Cond := u_ws RJx00060 TJx00060 6
theorem nmJx00060 : ∀ a, a < 6 → ∀ b, b < 6 → a ≠ b → (TJx00060 a).2.1 ≠ (TJx00060 b).2.1 := by decide +kernel
theorem tyJx00060_ok : ∀ k, k < 6 → parseFieldDescriptor (TJx00060 k).2.2.1 = some (tyJx00060 k) := by decide +kernel
abbrev cJx00060_init_a7421 : ByteArray := prog_7_method_2_code
def yJx00060_init_a7421 : MethodName := ⟨RJx00060, "<init>", "(Ljava/lang/String;)V"⟩
def RJ0 : String := "java/lang/String"
def TJ0 : u_T := fun k => match k with
  | _ => ("", "", "", false)
def tyJ0 : Nat → FieldType := fun k => match k with
  | _ => .int
abbrev wsJ00 : List Cond := u_ws RJ0 TJ0 0
theorem nmJ0 : ∀ a, a < 0 → ∀ b, b < 0 → a ≠ b → (TJ0 a).2.1 ≠ (TJ0 b).2.1 := by decide +kernel
theorem tyJ0_ok : ∀ k, k < 0 → parseFieldDescriptor (TJ0 k).2.2.1 = some (tyJ0 k) := by decide +kernel
def RJ10 : String := "java/lang/System"
def TJ10 : u_T := fun k => match k with
  | _ => ("", "", "", false)
def tyJ10 : Nat → FieldType := fun k => match k with
  | _ => .int
abbrev wsJ100 : List Cond := u_ws RJ10 TJ10 0
theorem nmJ10 : ∀ a, a < 0 → ∀ b, b < 0 → a ≠ b → (TJ10 a).2.1 ≠ (TJ10 b).2.1 := by decide +kernel
theorem tyJ10_ok : ∀ k, k < 0 → parseFieldDescriptor (TJ10 k).2.2.1 = some (tyJ10 k) := by decide +kernel
def RL : String := "CheckRestartLaw"
abbrev cL_get : ByteArray := method_3_code
def yL_get : MethodName := ⟨RL, "get", "(LCheckRestart;I[J)I"⟩
abbrev cL_row : ByteArray := method_4_code
def yL_row : MethodName := ⟨RL, "row", "(LCheckRestart;I[J)I"⟩
abbrev cL_law : ByteArray := code
def yL_law : MethodName := ⟨RL, "law", "([I)Z"⟩
def wsX0_init : List Cond := .code yX0_init cX0_init 1 none :: ([.methodLink RX0 3 objectInit, .instanceMethod objectInit, .code objectInit ⟨#[0xb1]⟩ 1 none, .arrayClass .boolean, .fieldLink RX0 9 "CheckRestart$Checkpoints" "whole" "[Z", .arrayClass .int, .fieldLink RX0 15 "CheckRestart$Checkpoints" "editions" "[I", .fieldLink RX0 19 "CheckRestart$Checkpoints" "units" "[I", .fieldLink RX0 22 "CheckRestart$Checkpoints" "cellCounts" "[I", .arrayClass .long, .fieldLink RX0 25 "CheckRestart$Checkpoints" "cells" "[J", .fieldLink RX0 29 "CheckRestart$Checkpoints" "positions" "[I", .fieldLink RX0 32 "CheckRestart$Checkpoints" "begun" "I"] ++ wsX00)
def wsX0_has : List Cond := .code yX0_has cX0_has 2 (some .boolean) :: ([.fieldLink RX0 32 "CheckRestart$Checkpoints" "begun" "I"] ++ wsX00)
def wsX0_addTorn : List Cond := .code yX0_addTorn cX0_addTorn 1 none :: ([.fieldLink RX0 32 "CheckRestart$Checkpoints" "begun" "I", .fieldLink RX0 9 "CheckRestart$Checkpoints" "whole" "[Z"] ++ wsX00)
def wsX0_addWhole : List Cond := .code yX0_addWhole cX0_addWhole 4 none :: ([.fieldLink RX0 32 "CheckRestart$Checkpoints" "begun" "I", .fieldLink RX0 9 "CheckRestart$Checkpoints" "whole" "[Z", .fieldLink RX0 15 "CheckRestart$Checkpoints" "editions" "[I", .fieldLink RX0 19 "CheckRestart$Checkpoints" "units" "[I", .fieldLink RX0 36 "CheckRestart$Progress" "units" "I", .fieldLink RX0 22 "CheckRestart$Checkpoints" "cellCounts" "[I", .fieldLink RX0 40 "CheckRestart$Progress" "job" "LCheckRestart$Job;", .fieldLink RX0 44 "CheckRestart$Job" "cellCount" "I", .fieldLink RX0 49 "CheckRestart$Progress" "cells" "[J", .fieldLink RX0 25 "CheckRestart$Checkpoints" "cells" "[J", .methodLink RX0 50 arraycopyName, .native arraycopyName, .static arraycopyName, .initialized "java/lang/System", .fieldLink RX0 56 "CheckRestart$Progress" "positions" "[I", .fieldLink RX0 29 "CheckRestart$Checkpoints" "positions" "[I"] ++ wsX00 ++ wsX20 ++ wsX10)
def wsX0_latestWholeUpTo : List Cond := .code yX0_latestWholeUpTo cX0_latestWholeUpTo 3 (some .int) :: ([.fieldLink RX0 9 "CheckRestart$Checkpoints" "whole" "[Z", .methodLink RX0 57 yX0_has, .instanceMethod yX0_has, .selects RX0 yX0_has yX0_has, .initialized RX0, .code yX0_has cX0_has 2 (some .boolean), .fieldLink RX0 32 "CheckRestart$Checkpoints" "begun" "I"] ++ wsX00)
def wsX0_isPastAFilesEnd : List Cond := .code yX0_isPastAFilesEnd cX0_isPastAFilesEnd 5 (some .boolean) :: ([.fieldLink RX0 61 "CheckRestart$Job" "fileCount" "I", .fieldLink RX0 64 "CheckRestart$Job" "lengths" "[I", .fieldLink RX0 29 "CheckRestart$Checkpoints" "positions" "[I"] ++ wsX10 ++ wsX00)
def wsX2_startOver : List Cond := .code yX2_startOver cX2_startOver 2 none :: ([.fieldLink RX2 23 "CheckRestart$Progress" "job" "LCheckRestart$Job;", .fieldLink RX2 27 "CheckRestart$Job" "cellCount" "I", .fieldLink RX2 9 "CheckRestart$Progress" "cells" "[J", .fieldLink RX2 32 "CheckRestart$Job" "firstValues" "[J", .fieldLink RX2 15 "CheckRestart$Progress" "positions" "[I", .fieldLink RX2 19 "CheckRestart$Progress" "units" "I"] ++ wsX20 ++ wsX10)
def wsX0_putBack : List Cond := .code yX0_putBack cX0_putBack 4 none :: ([.fieldLink RX0 25 "CheckRestart$Checkpoints" "cells" "[J", .fieldLink RX0 49 "CheckRestart$Progress" "cells" "[J", .fieldLink RX0 22 "CheckRestart$Checkpoints" "cellCounts" "[I", .methodLink RX0 50 arraycopyName, .native arraycopyName, .static arraycopyName, .initialized "java/lang/System", .fieldLink RX0 29 "CheckRestart$Checkpoints" "positions" "[I", .fieldLink RX0 56 "CheckRestart$Progress" "positions" "[I", .fieldLink RX0 19 "CheckRestart$Checkpoints" "units" "[I", .fieldLink RX0 36 "CheckRestart$Progress" "units" "I", .methodLink RX0 67 yX2_startOver, .instanceMethod yX2_startOver, .selects RX2 yX2_startOver yX2_startOver, .initialized RX2, .code yX2_startOver cX2_startOver 2 none, .fieldLink RX2 23 "CheckRestart$Progress" "job" "LCheckRestart$Job;", .fieldLink RX2 27 "CheckRestart$Job" "cellCount" "I", .fieldLink RX2 9 "CheckRestart$Progress" "cells" "[J", .fieldLink RX2 32 "CheckRestart$Job" "firstValues" "[J", .fieldLink RX2 15 "CheckRestart$Progress" "positions" "[I", .fieldLink RX2 19 "CheckRestart$Progress" "units" "I"] ++ wsX00 ++ wsX20 ++ wsX10)
def wsX1_init : List Cond := .code yX1_init cX1_init 1 none :: ([.methodLink RX1 3 objectInit, .instanceMethod objectInit, .code objectInit ⟨#[0xb1]⟩ 1 none, .arrayClass .long, .fieldLink RX1 9 "CheckRestart$Job" "firstValues" "[J", .arrayClass .int, .fieldLink RX1 15 "CheckRestart$Job" "lengths" "[I", .fieldLink RX1 19 "CheckRestart$Job" "cellCount" "I", .fieldLink RX1 23 "CheckRestart$Job" "fileCount" "I"] ++ wsX10)
def wsX1_hasFile : List Cond := .code yX1_hasFile cX1_hasFile 2 (some .boolean) :: ([.fieldLink RX1 23 "CheckRestart$Job" "fileCount" "I"] ++ wsX10)
def wsX2_init : List Cond := .code yX2_init cX2_init 2 none :: ([.methodLink RX2 3 objectInit, .instanceMethod objectInit, .code objectInit ⟨#[0xb1]⟩ 1 none, .arrayClass .long, .fieldLink RX2 9 "CheckRestart$Progress" "cells" "[J", .arrayClass .int, .fieldLink RX2 15 "CheckRestart$Progress" "positions" "[I", .fieldLink RX2 19 "CheckRestart$Progress" "units" "I", .fieldLink RX2 23 "CheckRestart$Progress" "job" "LCheckRestart$Job;"] ++ wsX20)
def wsX2_isEnded : List Cond := .code yX2_isEnded cX2_isEnded 2 (some .boolean) :: ([.fieldLink RX2 23 "CheckRestart$Progress" "job" "LCheckRestart$Job;", .fieldLink RX2 35 "CheckRestart$Job" "fileCount" "I", .fieldLink RX2 15 "CheckRestart$Progress" "positions" "[I", .fieldLink RX2 38 "CheckRestart$Job" "lengths" "[I"] ++ wsX20 ++ wsX10)
def wsX2_readRecord : List Cond := .code yX2_readRecord cX2_readRecord 4 (some .long) :: ([.fieldLink RX2 23 "CheckRestart$Progress" "job" "LCheckRestart$Job;", .fieldLink RX2 35 "CheckRestart$Job" "fileCount" "I", .fieldLink RX2 15 "CheckRestart$Progress" "positions" "[I", .fieldLink RX2 38 "CheckRestart$Job" "lengths" "[I", .constantLong RX2 45 (1000)] ++ wsX20 ++ wsX10)
def wsX2_doUnit : List Cond := .code yX2_doUnit cX2_doUnit 5 (some .long) :: ([.fieldLink RX2 19 "CheckRestart$Progress" "units" "I", .fieldLink RX2 23 "CheckRestart$Progress" "job" "LCheckRestart$Job;", .fieldLink RX2 27 "CheckRestart$Job" "cellCount" "I", .fieldLink RX2 9 "CheckRestart$Progress" "cells" "[J", .methodLink RX2 41 yX2_readRecord, .instanceMethod yX2_readRecord, .selects RX2 yX2_readRecord yX2_readRecord, .initialized RX2, .code yX2_readRecord cX2_readRecord 4 (some .long), .fieldLink RX2 35 "CheckRestart$Job" "fileCount" "I", .fieldLink RX2 15 "CheckRestart$Progress" "positions" "[I", .fieldLink RX2 38 "CheckRestart$Job" "lengths" "[I", .constantLong RX2 45 (1000)] ++ wsX20 ++ wsX10)
def wsX2_hasCellsOf : List Cond := .code yX2_hasCellsOf cX2_hasCellsOf 3 (some .boolean) :: ([.fieldLink RX2 23 "CheckRestart$Progress" "job" "LCheckRestart$Job;", .fieldLink RX2 27 "CheckRestart$Job" "cellCount" "I", .fieldLink RX2 9 "CheckRestart$Progress" "cells" "[J"] ++ wsX20 ++ wsX10)
def wsX3_init_r1 : List Cond := [Cond.methodLink RX3 1 objectInit, Cond.instanceMethod objectInit, Cond.code objectInit ⟨#[0xb1]⟩ 1 none, Cond.classLink RX3 7 RX1, Cond.instantiable RX1 4, Cond.initialized RX1, Cond.fieldLink RX3 10 "CheckRestart" "job" "LCheckRestart$Job;", Cond.classLink RX3 16 RX2, Cond.instantiable RX2 4, Cond.initialized RX2, Cond.fieldLink RX3 21 "CheckRestart" "progress" "LCheckRestart$Progress;", Cond.fieldLink RX3 25 "CheckRestart" "replay" "LCheckRestart$Progress;", Cond.arrayClass .long, Cond.fieldLink RX3 28 "CheckRestart" "rows" "[J", Cond.classLink RX3 32 RX0, Cond.instantiable RX0 7, Cond.initialized RX0, Cond.fieldLink RX3 35 "CheckRestart" "checkpoints" "LCheckRestart$Checkpoints;", Cond.fieldLink RX3 39 "CheckRestart" "editionNow" "I", Cond.fieldLink RX3 43 "CheckRestart" "down" "Z", Cond.fieldLink RX3 47 "CheckRestart" "cutPart" "I", Cond.fieldLink RX3 50 "CheckRestart" "cutsThatCame" "I", Cond.instanceMethod yX1_init, Cond.code yX1_init cX1_init 1 none]
def wsX3_init_r2 : List Cond := [Cond.methodLink RX1 3 objectInit, Cond.fieldLink RX1 9 "CheckRestart$Job" "firstValues" "[J", Cond.arrayClass .int, Cond.fieldLink RX1 15 "CheckRestart$Job" "lengths" "[I", Cond.fieldLink RX1 19 "CheckRestart$Job" "cellCount" "I", Cond.fieldLink RX1 23 "CheckRestart$Job" "fileCount" "I", Cond.methodLink RX3 18 yX2_init, Cond.instanceMethod yX2_init, Cond.code yX2_init cX2_init 2 none, Cond.methodLink RX2 3 objectInit, Cond.fieldLink RX2 9 "CheckRestart$Progress" "cells" "[J", Cond.fieldLink RX2 15 "CheckRestart$Progress" "positions" "[I", Cond.fieldLink RX2 19 "CheckRestart$Progress" "units" "I", Cond.fieldLink RX2 23 "CheckRestart$Progress" "job" "LCheckRestart$Job;", Cond.instanceMethod yX0_init, Cond.code yX0_init cX0_init 1 none, Cond.methodLink RX0 3 objectInit, Cond.arrayClass .boolean, Cond.fieldLink RX0 9 "CheckRestart$Checkpoints" "whole" "[Z", Cond.fieldLink RX0 15 "CheckRestart$Checkpoints" "editions" "[I", Cond.fieldLink RX0 19 "CheckRestart$Checkpoints" "units" "[I", Cond.fieldLink RX0 22 "CheckRestart$Checkpoints" "cellCounts" "[I", Cond.fieldLink RX0 25 "CheckRestart$Checkpoints" "cells" "[J", Cond.fieldLink RX0 29 "CheckRestart$Checkpoints" "positions" "[I"]
def wsX3_init_r3 : List Cond := [Cond.fieldLink RX0 32 "CheckRestart$Checkpoints" "begun" "I"]
def wsX3_init : List Cond := .code yX3_init cX3_init 1 none :: ((wsX3_init_r1 ++ (wsX3_init_r2 ++ wsX3_init_r3)) ++ wsX10 ++ wsX30 ++ wsX20 ++ wsX00)
def wsX3_isSetupOver : List Cond := .code yX3_isSetupOver cX3_isSetupOver 1 (some .boolean) :: ([.fieldLink RX3 43 "CheckRestart" "down" "Z", .fieldLink RX3 21 "CheckRestart" "progress" "LCheckRestart$Progress;", .fieldLink RX3 73 "CheckRestart$Progress" "units" "I"] ++ wsX30 ++ wsX20)
def wsX3_cell : List Cond := .code yX3_cell cX3_cell 4 (some .int) :: ([.fieldLink RX3 10 "CheckRestart" "job" "LCheckRestart$Job;", .fieldLink RX3 57 "CheckRestart$Job" "cellCount" "I", .fieldLink RX3 60 "CheckRestart$Job" "firstValues" "[J", .fieldLink RX3 21 "CheckRestart" "progress" "LCheckRestart$Progress;", .fieldLink RX3 63 "CheckRestart$Progress" "cells" "[J", .methodLink RX3 53 yX3_isSetupOver, .instanceMethod yX3_isSetupOver, .selects RX3 yX3_isSetupOver yX3_isSetupOver, .initialized RX3, .code yX3_isSetupOver cX3_isSetupOver 1 (some .boolean), .fieldLink RX3 43 "CheckRestart" "down" "Z", .fieldLink RX3 73 "CheckRestart$Progress" "units" "I"] ++ wsX30 ++ wsX10 ++ wsX20)
def wsX3_file : List Cond := .code yX3_file cX3_file 3 (some .int) :: ([.fieldLink RX3 10 "CheckRestart" "job" "LCheckRestart$Job;", .fieldLink RX3 66 "CheckRestart$Job" "fileCount" "I", .fieldLink RX3 69 "CheckRestart$Job" "lengths" "[I", .methodLink RX3 53 yX3_isSetupOver, .instanceMethod yX3_isSetupOver, .selects RX3 yX3_isSetupOver yX3_isSetupOver, .initialized RX3, .code yX3_isSetupOver cX3_isSetupOver 1 (some .boolean), .fieldLink RX3 43 "CheckRestart" "down" "Z", .fieldLink RX3 21 "CheckRestart" "progress" "LCheckRestart$Progress;", .fieldLink RX3 73 "CheckRestart$Progress" "units" "I"] ++ wsX30 ++ wsX10 ++ wsX20)
def wsX3_step_r1 : List Cond := [Cond.fieldLink RX3 43 "CheckRestart" "down" "Z", Cond.fieldLink RX3 21 "CheckRestart" "progress" "LCheckRestart$Progress;", Cond.fieldLink RX3 73 "CheckRestart$Progress" "units" "I", Cond.fieldLink RX3 28 "CheckRestart" "rows" "[J", Cond.methodLink RX3 76 yX2_isEnded, Cond.instanceMethod yX2_isEnded, Cond.selects RX2 yX2_isEnded yX2_isEnded, Cond.initialized RX2, Cond.code yX2_isEnded cX2_isEnded 2 (some .boolean), Cond.fieldLink RX2 23 "CheckRestart$Progress" "job" "LCheckRestart$Job;", Cond.fieldLink RX2 35 "CheckRestart$Job" "fileCount" "I", Cond.fieldLink RX2 15 "CheckRestart$Progress" "positions" "[I", Cond.fieldLink RX2 38 "CheckRestart$Job" "lengths" "[I", Cond.methodLink RX3 79 yX2_doUnit, Cond.instanceMethod yX2_doUnit, Cond.selects RX2 yX2_doUnit yX2_doUnit, Cond.code yX2_doUnit cX2_doUnit 5 (some .long), Cond.fieldLink RX2 19 "CheckRestart$Progress" "units" "I", Cond.fieldLink RX2 27 "CheckRestart$Job" "cellCount" "I", Cond.fieldLink RX2 9 "CheckRestart$Progress" "cells" "[J", Cond.methodLink RX2 41 yX2_readRecord, Cond.instanceMethod yX2_readRecord, Cond.selects RX2 yX2_readRecord yX2_readRecord, Cond.code yX2_readRecord cX2_readRecord 4 (some .long)]
def wsX3_step_r2 : List Cond := [Cond.constantLong RX2 45 (1000)]
def wsX3_step : List Cond := .code yX3_step cX3_step 4 (some .int) :: ((wsX3_step_r1 ++ wsX3_step_r2) ++ wsX30 ++ wsX20 ++ wsX10)
def wsX3_goDown : List Cond := .code yX3_goDown cX3_goDown 1 none :: ([.fieldLink RX3 43 "CheckRestart" "down" "Z", .fieldLink RX3 47 "CheckRestart" "cutPart" "I", .fieldLink RX3 50 "CheckRestart" "cutsThatCame" "I"] ++ wsX30)
def wsX3_check_r1 : List Cond := [Cond.fieldLink RX3 43 "CheckRestart" "down" "Z", Cond.fieldLink RX3 35 "CheckRestart" "checkpoints" "LCheckRestart$Checkpoints;", Cond.fieldLink RX3 83 "CheckRestart$Checkpoints" "begun" "I", Cond.fieldLink RX3 10 "CheckRestart" "job" "LCheckRestart$Job;", Cond.fieldLink RX3 57 "CheckRestart$Job" "cellCount" "I", Cond.fieldLink RX3 66 "CheckRestart$Job" "fileCount" "I", Cond.fieldLink RX3 47 "CheckRestart" "cutPart" "I", Cond.fieldLink RX3 21 "CheckRestart" "progress" "LCheckRestart$Progress;", Cond.fieldLink RX3 39 "CheckRestart" "editionNow" "I", Cond.methodLink RX3 86 yX0_addTorn, Cond.instanceMethod yX0_addTorn, Cond.selects RX0 yX0_addTorn yX0_addTorn, Cond.initialized RX0, Cond.code yX0_addTorn cX0_addTorn 1 none, Cond.fieldLink RX0 32 "CheckRestart$Checkpoints" "begun" "I", Cond.fieldLink RX0 9 "CheckRestart$Checkpoints" "whole" "[Z", Cond.methodLink RX3 89 yX3_goDown, Cond.instanceMethod yX3_goDown, Cond.selects RX3 yX3_goDown yX3_goDown, Cond.initialized RX3, Cond.code yX3_goDown cX3_goDown 1 none, Cond.fieldLink RX3 50 "CheckRestart" "cutsThatCame" "I", Cond.methodLink RX3 92 yX0_addWhole, Cond.instanceMethod yX0_addWhole]
def wsX3_check_r2 : List Cond := [Cond.selects RX0 yX0_addWhole yX0_addWhole, Cond.code yX0_addWhole cX0_addWhole 4 none, Cond.fieldLink RX0 15 "CheckRestart$Checkpoints" "editions" "[I", Cond.fieldLink RX0 19 "CheckRestart$Checkpoints" "units" "[I", Cond.fieldLink RX0 36 "CheckRestart$Progress" "units" "I", Cond.fieldLink RX0 22 "CheckRestart$Checkpoints" "cellCounts" "[I", Cond.fieldLink RX0 40 "CheckRestart$Progress" "job" "LCheckRestart$Job;", Cond.fieldLink RX0 44 "CheckRestart$Job" "cellCount" "I", Cond.fieldLink RX0 49 "CheckRestart$Progress" "cells" "[J", Cond.fieldLink RX0 25 "CheckRestart$Checkpoints" "cells" "[J", Cond.methodLink RX0 50 arraycopyName, Cond.native arraycopyName, Cond.static arraycopyName, Cond.initialized "java/lang/System", Cond.fieldLink RX0 56 "CheckRestart$Progress" "positions" "[I", Cond.fieldLink RX0 29 "CheckRestart$Checkpoints" "positions" "[I"]
def wsX3_check : List Cond := .code yX3_check cX3_check 2 (some .int) :: ((wsX3_check_r1 ++ wsX3_check_r2) ++ wsX30 ++ wsX00 ++ wsX10 ++ wsX20)
def wsX3_cut : List Cond := .code yX3_cut cX3_cut 2 (some .int) :: ([.fieldLink RX3 47 "CheckRestart" "cutPart" "I", .methodLink RX3 89 yX3_goDown, .instanceMethod yX3_goDown, .selects RX3 yX3_goDown yX3_goDown, .initialized RX3, .code yX3_goDown cX3_goDown 1 none, .fieldLink RX3 43 "CheckRestart" "down" "Z", .fieldLink RX3 50 "CheckRestart" "cutsThatCame" "I"] ++ wsX30)
def wsX3_restart_r1 : List Cond := [Cond.fieldLink RX3 43 "CheckRestart" "down" "Z", Cond.fieldLink RX3 35 "CheckRestart" "checkpoints" "LCheckRestart$Checkpoints;", Cond.fieldLink RX3 100 "CheckRestart$Checkpoints" "editions" "[I", Cond.fieldLink RX3 39 "CheckRestart" "editionNow" "I", Cond.fieldLink RX3 10 "CheckRestart" "job" "LCheckRestart$Job;", Cond.fieldLink RX3 21 "CheckRestart" "progress" "LCheckRestart$Progress;", Cond.fieldLink RX3 83 "CheckRestart$Checkpoints" "begun" "I", Cond.methodLink RX3 96 yX0_latestWholeUpTo, Cond.instanceMethod yX0_latestWholeUpTo, Cond.selects RX0 yX0_latestWholeUpTo yX0_latestWholeUpTo, Cond.initialized RX0, Cond.code yX0_latestWholeUpTo cX0_latestWholeUpTo 3 (some .int), Cond.fieldLink RX0 9 "CheckRestart$Checkpoints" "whole" "[Z", Cond.methodLink RX0 57 yX0_has, Cond.instanceMethod yX0_has, Cond.selects RX0 yX0_has yX0_has, Cond.code yX0_has cX0_has 2 (some .boolean), Cond.fieldLink RX0 32 "CheckRestart$Checkpoints" "begun" "I", Cond.methodLink RX3 103 yX0_isPastAFilesEnd, Cond.instanceMethod yX0_isPastAFilesEnd, Cond.selects RX0 yX0_isPastAFilesEnd yX0_isPastAFilesEnd, Cond.code yX0_isPastAFilesEnd cX0_isPastAFilesEnd 5 (some .boolean), Cond.fieldLink RX0 61 "CheckRestart$Job" "fileCount" "I", Cond.fieldLink RX0 64 "CheckRestart$Job" "lengths" "[I"]
def wsX3_restart_r2 : List Cond := [Cond.fieldLink RX0 29 "CheckRestart$Checkpoints" "positions" "[I", Cond.methodLink RX3 107 yX0_putBack, Cond.instanceMethod yX0_putBack, Cond.selects RX0 yX0_putBack yX0_putBack, Cond.code yX0_putBack cX0_putBack 4 none, Cond.fieldLink RX0 25 "CheckRestart$Checkpoints" "cells" "[J", Cond.fieldLink RX0 49 "CheckRestart$Progress" "cells" "[J", Cond.fieldLink RX0 22 "CheckRestart$Checkpoints" "cellCounts" "[I", Cond.methodLink RX0 50 arraycopyName, Cond.native arraycopyName, Cond.static arraycopyName, Cond.initialized "java/lang/System", Cond.fieldLink RX0 56 "CheckRestart$Progress" "positions" "[I", Cond.fieldLink RX0 19 "CheckRestart$Checkpoints" "units" "[I", Cond.fieldLink RX0 36 "CheckRestart$Progress" "units" "I", Cond.methodLink RX0 67 yX2_startOver, Cond.instanceMethod yX2_startOver, Cond.selects RX2 yX2_startOver yX2_startOver, Cond.initialized RX2, Cond.code yX2_startOver cX2_startOver 2 none, Cond.fieldLink RX2 23 "CheckRestart$Progress" "job" "LCheckRestart$Job;", Cond.fieldLink RX2 27 "CheckRestart$Job" "cellCount" "I", Cond.fieldLink RX2 9 "CheckRestart$Progress" "cells" "[J", Cond.fieldLink RX2 32 "CheckRestart$Job" "firstValues" "[J"]
def wsX3_restart_r3 : List Cond := [Cond.fieldLink RX2 15 "CheckRestart$Progress" "positions" "[I", Cond.fieldLink RX2 19 "CheckRestart$Progress" "units" "I"]
def wsX3_restart : List Cond := .code yX3_restart cX3_restart 3 (some .int) :: ((wsX3_restart_r1 ++ (wsX3_restart_r2 ++ wsX3_restart_r3)) ++ wsX30 ++ wsX00 ++ wsX10 ++ wsX20)
def wsX3_get : List Cond := .code yX3_get cX3_get 2 (some .long) :: ([.classLink RX3 111 "java/lang/IllegalArgumentException", .initialized "java/lang/IllegalArgumentException", .fieldLink RX3 10 "CheckRestart" "job" "LCheckRestart$Job;", .fieldLink RX3 57 "CheckRestart$Job" "cellCount" "I", .fieldLink RX3 21 "CheckRestart" "progress" "LCheckRestart$Progress;", .fieldLink RX3 63 "CheckRestart$Progress" "cells" "[J"] ++ wsX30 ++ wsX10 ++ wsX20 ++ (vx_atS RX3 115 "java/lang/IllegalArgumentException" ["java/lang/RuntimeException", "java/lang/Exception"]).filter goodWord)
def wsX3_position : List Cond := .code yX3_position cX3_position 2 (some .int) :: ([.fieldLink RX3 10 "CheckRestart" "job" "LCheckRestart$Job;", .fieldLink RX3 21 "CheckRestart" "progress" "LCheckRestart$Progress;", .fieldLink RX3 122 "CheckRestart$Progress" "positions" "[I", .methodLink RX3 118 yX1_hasFile, .instanceMethod yX1_hasFile, .selects RX1 yX1_hasFile yX1_hasFile, .initialized RX1, .code yX1_hasFile cX1_hasFile 2 (some .boolean), .fieldLink RX1 23 "CheckRestart$Job" "fileCount" "I"] ++ wsX30 ++ wsX20 ++ wsX10)
def wsX3_grow : List Cond := .code yX3_grow cX3_grow 5 (some .int) :: ([.fieldLink RX3 10 "CheckRestart" "job" "LCheckRestart$Job;", .fieldLink RX3 69 "CheckRestart$Job" "lengths" "[I", .constantLong RX3 125 (2000), .methodLink RX3 118 yX1_hasFile, .instanceMethod yX1_hasFile, .selects RX1 yX1_hasFile yX1_hasFile, .initialized RX1, .code yX1_hasFile cX1_hasFile 2 (some .boolean), .fieldLink RX1 23 "CheckRestart$Job" "fileCount" "I"] ++ wsX30 ++ wsX10)
def wsX3_edition : List Cond := .code yX3_edition cX3_edition 3 (some .int) :: ([.fieldLink RX3 39 "CheckRestart" "editionNow" "I"] ++ wsX30)
def wsX3_hasRow : List Cond := .code yX3_hasRow cX3_hasRow 2 (some .boolean) :: ([.fieldLink RX3 21 "CheckRestart" "progress" "LCheckRestart$Progress;", .fieldLink RX3 73 "CheckRestart$Progress" "units" "I"] ++ wsX30 ++ wsX20)
def wsX3_output : List Cond := .code yX3_output cX3_output 2 (some .int) :: ([.fieldLink RX3 28 "CheckRestart" "rows" "[J", .methodLink RX3 127 yX3_hasRow, .instanceMethod yX3_hasRow, .selects RX3 yX3_hasRow yX3_hasRow, .initialized RX3, .code yX3_hasRow cX3_hasRow 2 (some .boolean), .fieldLink RX3 21 "CheckRestart" "progress" "LCheckRestart$Progress;", .fieldLink RX3 73 "CheckRestart$Progress" "units" "I"] ++ wsX30 ++ wsX20)
def wsX3_asNumber : List Cond := .code yX3_asNumber cX3_asNumber 1 (some .int) :: ([])
def wsX3_torn : List Cond := .code yX3_torn cX3_torn 2 (some .int) :: ([.fieldLink RX3 35 "CheckRestart" "checkpoints" "LCheckRestart$Checkpoints;", .fieldLink RX3 133 "CheckRestart$Checkpoints" "whole" "[Z", .methodLink RX3 130 yX0_has, .instanceMethod yX0_has, .selects RX0 yX0_has yX0_has, .initialized RX0, .code yX0_has cX0_has 2 (some .boolean), .fieldLink RX0 32 "CheckRestart$Checkpoints" "begun" "I", .methodLink RX3 137 yX3_asNumber, .static yX3_asNumber, .initialized RX3, .code yX3_asNumber cX3_asNumber 1 (some .int)] ++ wsX30 ++ wsX00)
def wsX3_row : List Cond := .code yX3_row cX3_row 2 (some .int) :: ([.classLink RX3 141 RJx00060, .instantiable RJx00060 6, .initialized RJx00060, .fieldLink RX3 28 "CheckRestart" "rows" "[J", .methodLink RX3 127 yX3_hasRow, .instanceMethod yX3_hasRow, .selects RX3 yX3_hasRow yX3_hasRow, .initialized RX3, .code yX3_hasRow cX3_hasRow 2 (some .boolean), .fieldLink RX3 21 "CheckRestart" "progress" "LCheckRestart$Progress;", .fieldLink RX3 73 "CheckRestart$Progress" "units" "I"] ++ wsJx000600 ++ wsX30 ++ wsX20)
def wsX3_equal_r1 : List Cond := [Cond.fieldLink RX3 25 "CheckRestart" "replay" "LCheckRestart$Progress;", Cond.fieldLink RX3 21 "CheckRestart" "progress" "LCheckRestart$Progress;", Cond.fieldLink RX3 73 "CheckRestart$Progress" "units" "I", Cond.fieldLink RX3 28 "CheckRestart" "rows" "[J", Cond.methodLink RX3 146 yX2_startOver, Cond.instanceMethod yX2_startOver, Cond.selects RX2 yX2_startOver yX2_startOver, Cond.initialized RX2, Cond.code yX2_startOver cX2_startOver 2 none, Cond.fieldLink RX2 23 "CheckRestart$Progress" "job" "LCheckRestart$Job;", Cond.fieldLink RX2 27 "CheckRestart$Job" "cellCount" "I", Cond.fieldLink RX2 9 "CheckRestart$Progress" "cells" "[J", Cond.fieldLink RX2 32 "CheckRestart$Job" "firstValues" "[J", Cond.fieldLink RX2 15 "CheckRestart$Progress" "positions" "[I", Cond.fieldLink RX2 19 "CheckRestart$Progress" "units" "I", Cond.methodLink RX3 76 yX2_isEnded, Cond.instanceMethod yX2_isEnded, Cond.selects RX2 yX2_isEnded yX2_isEnded, Cond.code yX2_isEnded cX2_isEnded 2 (some .boolean), Cond.fieldLink RX2 35 "CheckRestart$Job" "fileCount" "I", Cond.fieldLink RX2 38 "CheckRestart$Job" "lengths" "[I", Cond.methodLink RX3 79 yX2_doUnit, Cond.instanceMethod yX2_doUnit, Cond.selects RX2 yX2_doUnit yX2_doUnit]
def wsX3_equal_r2 : List Cond := [Cond.code yX2_doUnit cX2_doUnit 5 (some .long), Cond.methodLink RX2 41 yX2_readRecord, Cond.instanceMethod yX2_readRecord, Cond.selects RX2 yX2_readRecord yX2_readRecord, Cond.code yX2_readRecord cX2_readRecord 4 (some .long), Cond.constantLong RX2 45 (1000), Cond.methodLink RX3 149 yX2_hasCellsOf, Cond.instanceMethod yX2_hasCellsOf, Cond.selects RX2 yX2_hasCellsOf yX2_hasCellsOf, Cond.code yX2_hasCellsOf cX2_hasCellsOf 3 (some .boolean)]
def wsX3_equal : List Cond := .code yX3_equal cX3_equal 2 (some .boolean) :: ((wsX3_equal_r1 ++ wsX3_equal_r2) ++ wsX30 ++ wsX20 ++ wsX10)
def wsX3_count : List Cond := .code yX3_count cX3_count 2 (some .int) :: ([.fieldLink RX3 10 "CheckRestart" "job" "LCheckRestart$Job;", .fieldLink RX3 57 "CheckRestart$Job" "cellCount" "I", .fieldLink RX3 66 "CheckRestart$Job" "fileCount" "I", .fieldLink RX3 21 "CheckRestart" "progress" "LCheckRestart$Progress;", .fieldLink RX3 73 "CheckRestart$Progress" "units" "I", .fieldLink RX3 35 "CheckRestart" "checkpoints" "LCheckRestart$Checkpoints;", .fieldLink RX3 83 "CheckRestart$Checkpoints" "begun" "I", .fieldLink RX3 43 "CheckRestart" "down" "Z", .fieldLink RX3 50 "CheckRestart" "cutsThatCame" "I", .methodLink RX3 137 yX3_asNumber, .static yX3_asNumber, .initialized RX3, .code yX3_asNumber cX3_asNumber 1 (some .int), .methodLink RX3 76 yX2_isEnded, .instanceMethod yX2_isEnded, .selects RX2 yX2_isEnded yX2_isEnded, .initialized RX2, .code yX2_isEnded cX2_isEnded 2 (some .boolean), .fieldLink RX2 23 "CheckRestart$Progress" "job" "LCheckRestart$Job;", .fieldLink RX2 35 "CheckRestart$Job" "fileCount" "I", .fieldLink RX2 15 "CheckRestart$Progress" "positions" "[I", .fieldLink RX2 38 "CheckRestart$Job" "lengths" "[I"] ++ wsX30 ++ wsX10 ++ wsX20 ++ wsX00)
def wsX4_init : List Cond := .code yX4_init cX4_init 1 none :: ([.methodLink RX4 1 objectInit, .instanceMethod objectInit, .code objectInit ⟨#[0xb1]⟩ 1 none, .arrayClass .long, .fieldLink RX4 7 "CheckRestartModel" "cells" "[J", .fieldLink RX4 13 "CheckRestartModel" "first" "[J", .fieldLink RX4 16 "CheckRestartModel" "trial" "[J", .arrayClass .int, .fieldLink RX4 19 "CheckRestartModel" "lengths" "[I", .fieldLink RX4 23 "CheckRestartModel" "positions" "[I", .fieldLink RX4 26 "CheckRestartModel" "trialAt" "[I", .fieldLink RX4 29 "CheckRestartModel" "rows" "[J", .fieldLink RX4 32 "CheckRestartModel" "keptCells" "[J", .fieldLink RX4 35 "CheckRestartModel" "keptPositions" "[I", .fieldLink RX4 38 "CheckRestartModel" "keptMany" "[I", .fieldLink RX4 41 "CheckRestartModel" "keptFiles" "[I", .fieldLink RX4 44 "CheckRestartModel" "keptUnits" "[I", .fieldLink RX4 47 "CheckRestartModel" "keptEdition" "[I", .arrayClass .boolean, .fieldLink RX4 50 "CheckRestartModel" "isWhole" "[Z"] ++ wsX40)
def wsX4_thrown : List Cond := .code yX4_thrown cX4_thrown 1 (some .int) :: ([.fieldLink RX4 54 "CheckRestartModel" "code" "I"] ++ wsX40)
def wsX4_cell : List Cond := .code yX4_cell cX4_cell 3 (some .int) :: ([.fieldLink RX4 54 "CheckRestartModel" "code" "I", .fieldLink RX4 58 "CheckRestartModel" "down" "Z", .fieldLink RX4 62 "CheckRestartModel" "units" "I", .fieldLink RX4 65 "CheckRestartModel" "many" "I", .fieldLink RX4 7 "CheckRestartModel" "cells" "[J", .fieldLink RX4 13 "CheckRestartModel" "first" "[J"] ++ wsX40)
def wsX4_file : List Cond := .code yX4_file cX4_file 2 (some .int) :: ([.fieldLink RX4 54 "CheckRestartModel" "code" "I", .fieldLink RX4 58 "CheckRestartModel" "down" "Z", .fieldLink RX4 62 "CheckRestartModel" "units" "I", .fieldLink RX4 68 "CheckRestartModel" "files" "I", .fieldLink RX4 19 "CheckRestartModel" "lengths" "[I"] ++ wsX40)
def wsX4_isEnded : List Cond := .code yX4_isEnded cX4_isEnded 3 (some .boolean) :: ([.fieldLink RX4 68 "CheckRestartModel" "files" "I", .fieldLink RX4 23 "CheckRestartModel" "positions" "[I", .fieldLink RX4 19 "CheckRestartModel" "lengths" "[I"] ++ wsX40)
def wsX4_step : List Cond := .code yX4_step cX4_step 8 (some .int) :: ([.fieldLink RX4 54 "CheckRestartModel" "code" "I", .fieldLink RX4 58 "CheckRestartModel" "down" "Z", .fieldLink RX4 62 "CheckRestartModel" "units" "I", .fieldLink RX4 68 "CheckRestartModel" "files" "I", .fieldLink RX4 23 "CheckRestartModel" "positions" "[I", .fieldLink RX4 19 "CheckRestartModel" "lengths" "[I", .constantLong RX4 75 (1000), .fieldLink RX4 29 "CheckRestartModel" "rows" "[J", .fieldLink RX4 65 "CheckRestartModel" "many" "I", .fieldLink RX4 7 "CheckRestartModel" "cells" "[J", .methodLink RX4 71 yX4_isEnded, .instanceMethod yX4_isEnded, .selects RX4 yX4_isEnded yX4_isEnded, .initialized RX4, .code yX4_isEnded cX4_isEnded 3 (some .boolean)] ++ wsX40)
def wsX4_check : List Cond := .code yX4_check cX4_check 4 (some .int) :: ([.fieldLink RX4 54 "CheckRestartModel" "code" "I", .fieldLink RX4 58 "CheckRestartModel" "down" "Z", .fieldLink RX4 77 "CheckRestartModel" "checks" "I", .fieldLink RX4 65 "CheckRestartModel" "many" "I", .fieldLink RX4 68 "CheckRestartModel" "files" "I", .fieldLink RX4 80 "CheckRestartModel" "cutAt" "I", .fieldLink RX4 83 "CheckRestartModel" "cuts" "I", .fieldLink RX4 32 "CheckRestartModel" "keptCells" "[J", .fieldLink RX4 7 "CheckRestartModel" "cells" "[J", .fieldLink RX4 35 "CheckRestartModel" "keptPositions" "[I", .fieldLink RX4 23 "CheckRestartModel" "positions" "[I", .fieldLink RX4 38 "CheckRestartModel" "keptMany" "[I", .fieldLink RX4 41 "CheckRestartModel" "keptFiles" "[I", .fieldLink RX4 44 "CheckRestartModel" "keptUnits" "[I", .fieldLink RX4 62 "CheckRestartModel" "units" "I", .fieldLink RX4 47 "CheckRestartModel" "keptEdition" "[I", .fieldLink RX4 86 "CheckRestartModel" "edition" "I", .fieldLink RX4 50 "CheckRestartModel" "isWhole" "[Z"] ++ wsX40)
def wsX4_cut : List Cond := .code yX4_cut cX4_cut 2 (some .int) :: ([.fieldLink RX4 54 "CheckRestartModel" "code" "I", .fieldLink RX4 83 "CheckRestartModel" "cuts" "I", .fieldLink RX4 58 "CheckRestartModel" "down" "Z", .fieldLink RX4 80 "CheckRestartModel" "cutAt" "I"] ++ wsX40)
def wsX4_restart : List Cond := .code yX4_restart cX4_restart 4 (some .int) :: ([.fieldLink RX4 54 "CheckRestartModel" "code" "I", .fieldLink RX4 58 "CheckRestartModel" "down" "Z", .fieldLink RX4 77 "CheckRestartModel" "checks" "I", .fieldLink RX4 50 "CheckRestartModel" "isWhole" "[Z", .fieldLink RX4 47 "CheckRestartModel" "keptEdition" "[I", .fieldLink RX4 86 "CheckRestartModel" "edition" "I", .fieldLink RX4 41 "CheckRestartModel" "keptFiles" "[I", .fieldLink RX4 19 "CheckRestartModel" "lengths" "[I", .fieldLink RX4 35 "CheckRestartModel" "keptPositions" "[I", .fieldLink RX4 65 "CheckRestartModel" "many" "I", .fieldLink RX4 7 "CheckRestartModel" "cells" "[J", .fieldLink RX4 38 "CheckRestartModel" "keptMany" "[I", .fieldLink RX4 32 "CheckRestartModel" "keptCells" "[J", .fieldLink RX4 13 "CheckRestartModel" "first" "[J", .fieldLink RX4 68 "CheckRestartModel" "files" "I", .fieldLink RX4 23 "CheckRestartModel" "positions" "[I", .fieldLink RX4 44 "CheckRestartModel" "keptUnits" "[I", .fieldLink RX4 62 "CheckRestartModel" "units" "I"] ++ wsX40)
def wsX4_get : List Cond := .code yX4_get cX4_get 2 (some .long) :: ([.fieldLink RX4 65 "CheckRestartModel" "many" "I", .fieldLink RX4 54 "CheckRestartModel" "code" "I", .fieldLink RX4 7 "CheckRestartModel" "cells" "[J"] ++ wsX40)
def wsX4_position : List Cond := .code yX4_position cX4_position 2 (some .int) :: ([.fieldLink RX4 54 "CheckRestartModel" "code" "I", .fieldLink RX4 68 "CheckRestartModel" "files" "I", .fieldLink RX4 23 "CheckRestartModel" "positions" "[I"] ++ wsX40)
def wsX4_grow : List Cond := .code yX4_grow cX4_grow 5 (some .int) :: ([.fieldLink RX4 54 "CheckRestartModel" "code" "I", .fieldLink RX4 68 "CheckRestartModel" "files" "I", .fieldLink RX4 19 "CheckRestartModel" "lengths" "[I", .constantLong RX4 89 (2000)] ++ wsX40)
def wsX4_edition : List Cond := .code yX4_edition cX4_edition 3 (some .int) :: ([.fieldLink RX4 54 "CheckRestartModel" "code" "I", .fieldLink RX4 86 "CheckRestartModel" "edition" "I"] ++ wsX40)
def wsX4_output : List Cond := .code yX4_output cX4_output 2 (some .int) :: ([.fieldLink RX4 54 "CheckRestartModel" "code" "I", .fieldLink RX4 62 "CheckRestartModel" "units" "I", .fieldLink RX4 29 "CheckRestartModel" "rows" "[J"] ++ wsX40)
def wsX4_torn : List Cond := .code yX4_torn cX4_torn 2 (some .int) :: ([.fieldLink RX4 54 "CheckRestartModel" "code" "I", .fieldLink RX4 77 "CheckRestartModel" "checks" "I", .fieldLink RX4 50 "CheckRestartModel" "isWhole" "[Z"] ++ wsX40)
def wsX4_row : List Cond := .code yX4_row cX4_row 2 (some .int) :: ([.fieldLink RX4 62 "CheckRestartModel" "units" "I", .fieldLink RX4 54 "CheckRestartModel" "code" "I", .fieldLink RX4 29 "CheckRestartModel" "rows" "[J"] ++ wsX40)
def wsX4_isOver : List Cond := .code yX4_isOver cX4_isOver 3 (some .boolean) :: ([.fieldLink RX4 68 "CheckRestartModel" "files" "I", .fieldLink RX4 26 "CheckRestartModel" "trialAt" "[I", .fieldLink RX4 19 "CheckRestartModel" "lengths" "[I"] ++ wsX40)
def wsX4_equal : List Cond := .code yX4_equal cX4_equal 8 (some .boolean) :: ([.fieldLink RX4 54 "CheckRestartModel" "code" "I", .fieldLink RX4 65 "CheckRestartModel" "many" "I", .fieldLink RX4 16 "CheckRestartModel" "trial" "[J", .fieldLink RX4 13 "CheckRestartModel" "first" "[J", .fieldLink RX4 68 "CheckRestartModel" "files" "I", .fieldLink RX4 26 "CheckRestartModel" "trialAt" "[I", .fieldLink RX4 62 "CheckRestartModel" "units" "I", .fieldLink RX4 19 "CheckRestartModel" "lengths" "[I", .constantLong RX4 75 (1000), .fieldLink RX4 29 "CheckRestartModel" "rows" "[J", .fieldLink RX4 7 "CheckRestartModel" "cells" "[J", .methodLink RX4 91 yX4_isOver, .instanceMethod yX4_isOver, .selects RX4 yX4_isOver yX4_isOver, .initialized RX4, .code yX4_isOver cX4_isOver 3 (some .boolean)] ++ wsX40)
def wsX4_count : List Cond := .code yX4_count cX4_count 2 (some .int) :: ([.fieldLink RX4 54 "CheckRestartModel" "code" "I", .fieldLink RX4 65 "CheckRestartModel" "many" "I", .fieldLink RX4 68 "CheckRestartModel" "files" "I", .fieldLink RX4 62 "CheckRestartModel" "units" "I", .fieldLink RX4 77 "CheckRestartModel" "checks" "I", .fieldLink RX4 58 "CheckRestartModel" "down" "Z", .fieldLink RX4 83 "CheckRestartModel" "cuts" "I", .methodLink RX4 71 yX4_isEnded, .instanceMethod yX4_isEnded, .selects RX4 yX4_isEnded yX4_isEnded, .initialized RX4, .code yX4_isEnded cX4_isEnded 3 (some .boolean), .fieldLink RX4 23 "CheckRestartModel" "positions" "[I", .fieldLink RX4 19 "CheckRestartModel" "lengths" "[I"] ++ wsX40)
def wsJx00060_init_a7421 : List Cond := .code yJx00060_init_a7421 cJx00060_init_a7421 2 none :: ([])
def wsL_get : List Cond := .codeWith yL_get cL_get 4 (some .int) [(0, 8, 11, 13)] :: ([.classLink RL 13 "java/lang/IllegalArgumentException", .methodLink RL 7 yX3_get, .instanceMethod yX3_get, .selects RX3 yX3_get yX3_get, .initialized RX3, .code yX3_get cX3_get 2 (some .long), .classLink RX3 111 "java/lang/IllegalArgumentException", .initialized "java/lang/IllegalArgumentException", .fieldLink RX3 10 "CheckRestart" "job" "LCheckRestart$Job;", .fieldLink RX3 57 "CheckRestart$Job" "cellCount" "I", .fieldLink RX3 21 "CheckRestart" "progress" "LCheckRestart$Progress;", .fieldLink RX3 63 "CheckRestart$Progress" "cells" "[J"] ++ wsX30 ++ wsX10 ++ wsX20 ++ (vx_atS RX3 115 "java/lang/IllegalArgumentException" ["java/lang/RuntimeException", "java/lang/Exception"]).filter goodWord)
def wsL_row : List Cond := .codeWith yL_row cL_row 4 (some .int) [(0, 9, 12, 19)] :: ([.methodLink RL 15 yX3_row, .instanceMethod yX3_row, .selects RX3 yX3_row yX3_row, .initialized RX3, .code yX3_row cX3_row 2 (some .int), .classLink RX3 141 RJx00060, .instantiable RJx00060 6, .initialized RJx00060, .fieldLink RX3 28 "CheckRestart" "rows" "[J", .methodLink RX3 127 yX3_hasRow, .instanceMethod yX3_hasRow, .selects RX3 yX3_hasRow yX3_hasRow, .code yX3_hasRow cX3_hasRow 2 (some .boolean), .fieldLink RX3 21 "CheckRestart" "progress" "LCheckRestart$Progress;", .fieldLink RX3 73 "CheckRestart$Progress" "units" "I"] ++ wsJx000600 ++ wsX30 ++ wsX20)
def wsL_law0_r1 : List Cond := [Cond.classLink RL 8 RX3, Cond.instantiable RX3 9, Cond.initialized RX3, Cond.classLink RL 22 RX4, Cond.instantiable RX4 23, Cond.initialized RX4, Cond.arrayClass .long, Cond.constantLong RL 25 (4294967295), Cond.methodLink RL 21 yX3_init, Cond.instanceMethod yX3_init, Cond.code yX3_init cX3_init 1 none, Cond.methodLink RX3 1 objectInit, Cond.instanceMethod objectInit, Cond.code objectInit ⟨#[0xb1]⟩ 1 none, Cond.classLink RX3 7 RX1, Cond.instantiable RX1 4, Cond.initialized RX1, Cond.fieldLink RX3 10 "CheckRestart" "job" "LCheckRestart$Job;", Cond.classLink RX3 16 RX2, Cond.instantiable RX2 4, Cond.initialized RX2, Cond.fieldLink RX3 21 "CheckRestart" "progress" "LCheckRestart$Progress;", Cond.fieldLink RX3 25 "CheckRestart" "replay" "LCheckRestart$Progress;", Cond.fieldLink RX3 28 "CheckRestart" "rows" "[J"]
def wsL_law0_r2 : List Cond := [Cond.classLink RX3 32 RX0, Cond.instantiable RX0 7, Cond.initialized RX0, Cond.fieldLink RX3 35 "CheckRestart" "checkpoints" "LCheckRestart$Checkpoints;", Cond.fieldLink RX3 39 "CheckRestart" "editionNow" "I", Cond.fieldLink RX3 43 "CheckRestart" "down" "Z", Cond.fieldLink RX3 47 "CheckRestart" "cutPart" "I", Cond.fieldLink RX3 50 "CheckRestart" "cutsThatCame" "I", Cond.instanceMethod yX1_init, Cond.code yX1_init cX1_init 1 none, Cond.methodLink RX1 3 objectInit, Cond.fieldLink RX1 9 "CheckRestart$Job" "firstValues" "[J", Cond.arrayClass .int, Cond.fieldLink RX1 15 "CheckRestart$Job" "lengths" "[I", Cond.fieldLink RX1 19 "CheckRestart$Job" "cellCount" "I", Cond.fieldLink RX1 23 "CheckRestart$Job" "fileCount" "I", Cond.methodLink RX3 18 yX2_init, Cond.instanceMethod yX2_init, Cond.code yX2_init cX2_init 2 none, Cond.methodLink RX2 3 objectInit, Cond.fieldLink RX2 9 "CheckRestart$Progress" "cells" "[J", Cond.fieldLink RX2 15 "CheckRestart$Progress" "positions" "[I", Cond.fieldLink RX2 19 "CheckRestart$Progress" "units" "I", Cond.fieldLink RX2 23 "CheckRestart$Progress" "job" "LCheckRestart$Job;"]
def wsL_law0_r3 : List Cond := [Cond.instanceMethod yX0_init, Cond.code yX0_init cX0_init 1 none, Cond.methodLink RX0 3 objectInit, Cond.arrayClass .boolean, Cond.fieldLink RX0 9 "CheckRestart$Checkpoints" "whole" "[Z", Cond.fieldLink RX0 15 "CheckRestart$Checkpoints" "editions" "[I", Cond.fieldLink RX0 19 "CheckRestart$Checkpoints" "units" "[I", Cond.fieldLink RX0 22 "CheckRestart$Checkpoints" "cellCounts" "[I", Cond.fieldLink RX0 25 "CheckRestart$Checkpoints" "cells" "[J", Cond.fieldLink RX0 29 "CheckRestart$Checkpoints" "positions" "[I", Cond.fieldLink RX0 32 "CheckRestart$Checkpoints" "begun" "I", Cond.methodLink RL 24 yX4_init, Cond.instanceMethod yX4_init, Cond.code yX4_init cX4_init 1 none, Cond.methodLink RX4 1 objectInit, Cond.fieldLink RX4 7 "CheckRestartModel" "cells" "[J", Cond.fieldLink RX4 13 "CheckRestartModel" "first" "[J", Cond.fieldLink RX4 16 "CheckRestartModel" "trial" "[J", Cond.fieldLink RX4 19 "CheckRestartModel" "lengths" "[I", Cond.fieldLink RX4 23 "CheckRestartModel" "positions" "[I", Cond.fieldLink RX4 26 "CheckRestartModel" "trialAt" "[I", Cond.fieldLink RX4 29 "CheckRestartModel" "rows" "[J", Cond.fieldLink RX4 32 "CheckRestartModel" "keptCells" "[J", Cond.fieldLink RX4 35 "CheckRestartModel" "keptPositions" "[I"]
def wsL_law0_r4 : List Cond := [Cond.fieldLink RX4 38 "CheckRestartModel" "keptMany" "[I", Cond.fieldLink RX4 41 "CheckRestartModel" "keptFiles" "[I", Cond.fieldLink RX4 44 "CheckRestartModel" "keptUnits" "[I", Cond.fieldLink RX4 47 "CheckRestartModel" "keptEdition" "[I", Cond.fieldLink RX4 50 "CheckRestartModel" "isWhole" "[Z", Cond.methodLink RL 27 yX3_cell, Cond.instanceMethod yX3_cell, Cond.selects RX3 yX3_cell yX3_cell, Cond.code yX3_cell cX3_cell 4 (some .int), Cond.fieldLink RX3 57 "CheckRestart$Job" "cellCount" "I", Cond.fieldLink RX3 60 "CheckRestart$Job" "firstValues" "[J", Cond.fieldLink RX3 63 "CheckRestart$Progress" "cells" "[J", Cond.methodLink RX3 53 yX3_isSetupOver, Cond.instanceMethod yX3_isSetupOver, Cond.selects RX3 yX3_isSetupOver yX3_isSetupOver, Cond.code yX3_isSetupOver cX3_isSetupOver 1 (some .boolean), Cond.fieldLink RX3 73 "CheckRestart$Progress" "units" "I", Cond.methodLink RL 31 yX4_cell, Cond.instanceMethod yX4_cell, Cond.selects RX4 yX4_cell yX4_cell, Cond.code yX4_cell cX4_cell 3 (some .int), Cond.fieldLink RX4 54 "CheckRestartModel" "code" "I", Cond.fieldLink RX4 58 "CheckRestartModel" "down" "Z", Cond.fieldLink RX4 62 "CheckRestartModel" "units" "I"]
def wsL_law0_r5 : List Cond := [Cond.fieldLink RX4 65 "CheckRestartModel" "many" "I", Cond.methodLink RL 32 yX3_file, Cond.instanceMethod yX3_file, Cond.selects RX3 yX3_file yX3_file, Cond.code yX3_file cX3_file 3 (some .int), Cond.fieldLink RX3 66 "CheckRestart$Job" "fileCount" "I", Cond.fieldLink RX3 69 "CheckRestart$Job" "lengths" "[I", Cond.methodLink RL 35 yX4_file, Cond.instanceMethod yX4_file, Cond.selects RX4 yX4_file yX4_file, Cond.code yX4_file cX4_file 2 (some .int), Cond.fieldLink RX4 68 "CheckRestartModel" "files" "I", Cond.methodLink RL 36 yX3_step, Cond.instanceMethod yX3_step, Cond.selects RX3 yX3_step yX3_step, Cond.code yX3_step cX3_step 4 (some .int), Cond.methodLink RX3 76 yX2_isEnded, Cond.instanceMethod yX2_isEnded, Cond.selects RX2 yX2_isEnded yX2_isEnded, Cond.code yX2_isEnded cX2_isEnded 2 (some .boolean), Cond.fieldLink RX2 35 "CheckRestart$Job" "fileCount" "I", Cond.fieldLink RX2 38 "CheckRestart$Job" "lengths" "[I", Cond.methodLink RX3 79 yX2_doUnit, Cond.instanceMethod yX2_doUnit]
def wsL_law0_r6 : List Cond := [Cond.selects RX2 yX2_doUnit yX2_doUnit, Cond.code yX2_doUnit cX2_doUnit 5 (some .long), Cond.fieldLink RX2 27 "CheckRestart$Job" "cellCount" "I", Cond.methodLink RX2 41 yX2_readRecord, Cond.instanceMethod yX2_readRecord, Cond.selects RX2 yX2_readRecord yX2_readRecord, Cond.code yX2_readRecord cX2_readRecord 4 (some .long), Cond.constantLong RX2 45 (1000), Cond.methodLink RL 39 yX4_step, Cond.instanceMethod yX4_step, Cond.selects RX4 yX4_step yX4_step, Cond.code yX4_step cX4_step 8 (some .int), Cond.constantLong RX4 75 (1000), Cond.methodLink RX4 71 yX4_isEnded, Cond.instanceMethod yX4_isEnded, Cond.selects RX4 yX4_isEnded yX4_isEnded, Cond.code yX4_isEnded cX4_isEnded 3 (some .boolean), Cond.methodLink RL 40 yX3_check, Cond.instanceMethod yX3_check, Cond.selects RX3 yX3_check yX3_check, Cond.code yX3_check cX3_check 2 (some .int), Cond.fieldLink RX3 83 "CheckRestart$Checkpoints" "begun" "I", Cond.methodLink RX3 86 yX0_addTorn, Cond.instanceMethod yX0_addTorn]
def wsL_law0_r7 : List Cond := [Cond.selects RX0 yX0_addTorn yX0_addTorn, Cond.code yX0_addTorn cX0_addTorn 1 none, Cond.methodLink RX3 89 yX3_goDown, Cond.instanceMethod yX3_goDown, Cond.selects RX3 yX3_goDown yX3_goDown, Cond.code yX3_goDown cX3_goDown 1 none, Cond.methodLink RX3 92 yX0_addWhole, Cond.instanceMethod yX0_addWhole, Cond.selects RX0 yX0_addWhole yX0_addWhole, Cond.code yX0_addWhole cX0_addWhole 4 none, Cond.fieldLink RX0 36 "CheckRestart$Progress" "units" "I", Cond.fieldLink RX0 40 "CheckRestart$Progress" "job" "LCheckRestart$Job;", Cond.fieldLink RX0 44 "CheckRestart$Job" "cellCount" "I", Cond.fieldLink RX0 49 "CheckRestart$Progress" "cells" "[J", Cond.methodLink RX0 50 arraycopyName, Cond.native arraycopyName, Cond.static arraycopyName, Cond.initialized "java/lang/System", Cond.fieldLink RX0 56 "CheckRestart$Progress" "positions" "[I", Cond.methodLink RL 44 yX4_check, Cond.instanceMethod yX4_check, Cond.selects RX4 yX4_check yX4_check, Cond.code yX4_check cX4_check 4 (some .int), Cond.fieldLink RX4 77 "CheckRestartModel" "checks" "I"]
def wsL_law0_r8 : List Cond := [Cond.fieldLink RX4 80 "CheckRestartModel" "cutAt" "I", Cond.fieldLink RX4 83 "CheckRestartModel" "cuts" "I", Cond.fieldLink RX4 86 "CheckRestartModel" "edition" "I", Cond.methodLink RL 45 yX3_cut, Cond.instanceMethod yX3_cut, Cond.selects RX3 yX3_cut yX3_cut, Cond.code yX3_cut cX3_cut 2 (some .int), Cond.methodLink RL 48 yX4_cut, Cond.instanceMethod yX4_cut, Cond.selects RX4 yX4_cut yX4_cut, Cond.code yX4_cut cX4_cut 2 (some .int), Cond.methodLink RL 49 yX3_restart, Cond.instanceMethod yX3_restart, Cond.selects RX3 yX3_restart yX3_restart, Cond.code yX3_restart cX3_restart 3 (some .int), Cond.fieldLink RX3 100 "CheckRestart$Checkpoints" "editions" "[I", Cond.methodLink RX3 96 yX0_latestWholeUpTo, Cond.instanceMethod yX0_latestWholeUpTo, Cond.selects RX0 yX0_latestWholeUpTo yX0_latestWholeUpTo, Cond.code yX0_latestWholeUpTo cX0_latestWholeUpTo 3 (some .int), Cond.methodLink RX0 57 yX0_has, Cond.instanceMethod yX0_has, Cond.selects RX0 yX0_has yX0_has, Cond.code yX0_has cX0_has 2 (some .boolean)]
def wsL_law0_r9 : List Cond := [Cond.methodLink RX3 103 yX0_isPastAFilesEnd, Cond.instanceMethod yX0_isPastAFilesEnd, Cond.selects RX0 yX0_isPastAFilesEnd yX0_isPastAFilesEnd, Cond.code yX0_isPastAFilesEnd cX0_isPastAFilesEnd 5 (some .boolean), Cond.fieldLink RX0 61 "CheckRestart$Job" "fileCount" "I", Cond.fieldLink RX0 64 "CheckRestart$Job" "lengths" "[I", Cond.methodLink RX3 107 yX0_putBack, Cond.instanceMethod yX0_putBack, Cond.selects RX0 yX0_putBack yX0_putBack, Cond.code yX0_putBack cX0_putBack 4 none, Cond.methodLink RX0 67 yX2_startOver, Cond.instanceMethod yX2_startOver, Cond.selects RX2 yX2_startOver yX2_startOver, Cond.code yX2_startOver cX2_startOver 2 none, Cond.fieldLink RX2 32 "CheckRestart$Job" "firstValues" "[J", Cond.methodLink RL 52 yX4_restart, Cond.instanceMethod yX4_restart, Cond.selects RX4 yX4_restart yX4_restart, Cond.code yX4_restart cX4_restart 4 (some .int), Cond.methodLink RL 53 yL_get, Cond.static yL_get, Cond.initialized RL, Cond.codeWith yL_get cL_get 4 (some .int) [(0, 8, 11, 13)], Cond.classLink RL 13 "java/lang/IllegalArgumentException"]
def wsL_law0_r10 : List Cond := [Cond.methodLink RL 7 yX3_get, Cond.instanceMethod yX3_get, Cond.selects RX3 yX3_get yX3_get, Cond.code yX3_get cX3_get 2 (some .long), Cond.classLink RX3 111 "java/lang/IllegalArgumentException", Cond.initialized "java/lang/IllegalArgumentException", Cond.methodLink RL 58 yX4_get, Cond.instanceMethod yX4_get, Cond.selects RX4 yX4_get yX4_get, Cond.code yX4_get cX4_get 2 (some .long), Cond.methodLink RL 59 yX4_thrown, Cond.instanceMethod yX4_thrown, Cond.selects RX4 yX4_thrown yX4_thrown, Cond.code yX4_thrown cX4_thrown 1 (some .int), Cond.methodLink RL 62 yX3_position, Cond.instanceMethod yX3_position, Cond.selects RX3 yX3_position yX3_position, Cond.code yX3_position cX3_position 2 (some .int), Cond.fieldLink RX3 122 "CheckRestart$Progress" "positions" "[I", Cond.methodLink RX3 118 yX1_hasFile, Cond.instanceMethod yX1_hasFile, Cond.selects RX1 yX1_hasFile yX1_hasFile, Cond.code yX1_hasFile cX1_hasFile 2 (some .boolean), Cond.methodLink RL 65 yX4_position]
def wsL_law0_r11 : List Cond := [Cond.instanceMethod yX4_position, Cond.selects RX4 yX4_position yX4_position, Cond.code yX4_position cX4_position 2 (some .int), Cond.methodLink RL 66 yX3_grow, Cond.instanceMethod yX3_grow, Cond.selects RX3 yX3_grow yX3_grow, Cond.code yX3_grow cX3_grow 5 (some .int), Cond.constantLong RX3 125 (2000), Cond.methodLink RL 70 yX4_grow, Cond.instanceMethod yX4_grow, Cond.selects RX4 yX4_grow yX4_grow, Cond.code yX4_grow cX4_grow 5 (some .int), Cond.constantLong RX4 89 (2000), Cond.methodLink RL 71 yX3_edition, Cond.instanceMethod yX3_edition, Cond.selects RX3 yX3_edition yX3_edition, Cond.code yX3_edition cX3_edition 3 (some .int), Cond.methodLink RL 74 yX4_edition, Cond.instanceMethod yX4_edition, Cond.selects RX4 yX4_edition yX4_edition, Cond.code yX4_edition cX4_edition 3 (some .int), Cond.methodLink RL 75 yX3_output, Cond.instanceMethod yX3_output, Cond.selects RX3 yX3_output yX3_output]
def wsL_law0_r12 : List Cond := [Cond.code yX3_output cX3_output 2 (some .int), Cond.methodLink RX3 127 yX3_hasRow, Cond.instanceMethod yX3_hasRow, Cond.selects RX3 yX3_hasRow yX3_hasRow, Cond.code yX3_hasRow cX3_hasRow 2 (some .boolean), Cond.methodLink RL 78 yX4_output, Cond.instanceMethod yX4_output, Cond.selects RX4 yX4_output yX4_output, Cond.code yX4_output cX4_output 2 (some .int), Cond.methodLink RL 79 yX3_torn, Cond.instanceMethod yX3_torn, Cond.selects RX3 yX3_torn yX3_torn, Cond.code yX3_torn cX3_torn 2 (some .int), Cond.fieldLink RX3 133 "CheckRestart$Checkpoints" "whole" "[Z", Cond.methodLink RX3 130 yX0_has, Cond.methodLink RX3 137 yX3_asNumber, Cond.static yX3_asNumber, Cond.code yX3_asNumber cX3_asNumber 1 (some .int), Cond.methodLink RL 82 yX4_torn, Cond.instanceMethod yX4_torn, Cond.selects RX4 yX4_torn yX4_torn, Cond.code yX4_torn cX4_torn 2 (some .int), Cond.methodLink RL 83 yL_row, Cond.static yL_row]
def wsL_law0_r13 : List Cond := [Cond.codeWith yL_row cL_row 4 (some .int) [(0, 9, 12, 19)], Cond.methodLink RL 15 yX3_row, Cond.instanceMethod yX3_row, Cond.selects RX3 yX3_row yX3_row, Cond.code yX3_row cX3_row 2 (some .int), Cond.classLink RX3 141 RJx00060, Cond.instantiable RJx00060 6, Cond.initialized RJx00060, Cond.methodLink RL 85 yX4_row, Cond.instanceMethod yX4_row, Cond.selects RX4 yX4_row yX4_row, Cond.code yX4_row cX4_row 2 (some .int), Cond.methodLink RL 86 yX3_equal, Cond.instanceMethod yX3_equal, Cond.selects RX3 yX3_equal yX3_equal, Cond.code yX3_equal cX3_equal 2 (some .boolean), Cond.methodLink RX3 146 yX2_startOver, Cond.methodLink RX3 149 yX2_hasCellsOf, Cond.instanceMethod yX2_hasCellsOf, Cond.selects RX2 yX2_hasCellsOf yX2_hasCellsOf, Cond.code yX2_hasCellsOf cX2_hasCellsOf 3 (some .boolean), Cond.methodLink RL 90 yX4_equal, Cond.instanceMethod yX4_equal, Cond.selects RX4 yX4_equal yX4_equal]
def wsL_law0_r14 : List Cond := [Cond.code yX4_equal cX4_equal 8 (some .boolean), Cond.methodLink RX4 91 yX4_isOver, Cond.instanceMethod yX4_isOver, Cond.selects RX4 yX4_isOver yX4_isOver, Cond.code yX4_isOver cX4_isOver 3 (some .boolean), Cond.methodLink RL 91 yX3_count, Cond.instanceMethod yX3_count, Cond.selects RX3 yX3_count yX3_count, Cond.code yX3_count cX3_count 2 (some .int), Cond.methodLink RL 94 yX4_count, Cond.instanceMethod yX4_count, Cond.selects RX4 yX4_count yX4_count, Cond.code yX4_count cX4_count 2 (some .int)]
def wsL_law0 : List Cond := (wsL_law0_r1 ++ (wsL_law0_r2 ++ (wsL_law0_r3 ++ (wsL_law0_r4 ++ (wsL_law0_r5 ++ (wsL_law0_r6 ++ (wsL_law0_r7 ++ (wsL_law0_r8 ++ (wsL_law0_r9 ++ (wsL_law0_r10 ++ (wsL_law0_r11 ++ (wsL_law0_r12 ++ (wsL_law0_r13 ++ wsL_law0_r14))))))))))))) ++ wsX30 ++ wsX40 ++ wsX10 ++ wsX20 ++ wsX00 ++ wsJx000600 ++ ([] : List Cond)
def wsL_law : List Cond := wsL_law0 ++ (vx_atS RX3 115 "java/lang/IllegalArgumentException" ["java/lang/RuntimeException", "java/lang/Exception"]).filter goodWord
set_option maxRecDepth 20000 in
theorem wsL_law_in0 : ∀ w ∈ wsL_law0, w ∈ lw_tbl := fun w h => (goodIn_p wsL_law0 [24, 27, 32, 64, 90, 376, 149, 153, 455, 157, 459, 161, 165, 169, 173, 463, 467, 178, 182, 186, 190, 472, 197, 476, 201, 205, 209, 213, 217, 221, 480, 275, 484, 451, 225, 229, 488, 233, 492, 238, 497, 242, 246, 501, 250, 254, 505, 350, 509, 258, 263, 513, 517, 267, 521] (by decide +kernel) (by decide +kernel) w h).1
theorem wsL_law_x0 : ∀ w ∈ (vx_atS RX3 115 "java/lang/IllegalArgumentException" ["java/lang/RuntimeException", "java/lang/Exception"]).filter goodWord, w ∈ lw_tbl := by decide +kernel
theorem wsL_law_in : ∀ w ∈ wsL_law, w ∈ lw_tbl := fun w h => (List.mem_append.mp h).elim (fun h => wsL_law_in0 w h) (fun h => wsL_law_x0 w h)
theorem inlX0 : ∀ w ∈ wsX00, w ∈ wsL_law := fun _ h => List.mem_append_left _ (List.mem_append_left _ (List.mem_append_left _ (List.mem_append_right _ h)))
theorem inX0 : ∀ w ∈ wsX00, w ∈ lw_tbl := fun w h => wsL_law_in w (inlX0 w h)
theorem inlX1 : ∀ w ∈ wsX10, w ∈ wsL_law := fun _ h => List.mem_append_left _ (List.mem_append_left _ (List.mem_append_left _ (List.mem_append_left _ (List.mem_append_left _ (List.mem_append_right _ h)))))
theorem inX1 : ∀ w ∈ wsX10, w ∈ lw_tbl := fun w h => wsL_law_in w (inlX1 w h)
theorem inlX2 : ∀ w ∈ wsX20, w ∈ wsL_law := fun _ h => List.mem_append_left _ (List.mem_append_left _ (List.mem_append_left _ (List.mem_append_left _ (List.mem_append_right _ h))))
theorem inX2 : ∀ w ∈ wsX20, w ∈ lw_tbl := fun w h => wsL_law_in w (inlX2 w h)
theorem inlX3 : ∀ w ∈ wsX30, w ∈ wsL_law := fun _ h => List.mem_append_left _ (List.mem_append_left _ (List.mem_append_left _ (List.mem_append_left _ (List.mem_append_left _ (List.mem_append_left _ (List.mem_append_left _ (List.mem_append_right _ h)))))))
theorem inX3 : ∀ w ∈ wsX30, w ∈ lw_tbl := fun w h => wsL_law_in w (inlX3 w h)
theorem inlX4 : ∀ w ∈ wsX40, w ∈ wsL_law := fun _ h => List.mem_append_left _ (List.mem_append_left _ (List.mem_append_left _ (List.mem_append_left _ (List.mem_append_left _ (List.mem_append_left _ (List.mem_append_right _ h))))))
theorem inX4 : ∀ w ∈ wsX40, w ∈ lw_tbl := fun w h => wsL_law_in w (inlX4 w h)
theorem inlJx00060 : ∀ w ∈ wsJx000600, w ∈ wsL_law := fun _ h => List.mem_append_left _ (List.mem_append_left _ (List.mem_append_right _ h))
theorem inJx00060 : ∀ w ∈ wsJx000600, w ∈ lw_tbl := fun w h => wsL_law_in w (inlJx00060 w h)
theorem inJ0 : ∀ w ∈ wsJ00, w ∈ lw_tbl := by decide +kernel
theorem inJ10 : ∀ w ∈ wsJ100, w ∈ lw_tbl := by decide +kernel
theorem dX0_init_0 : decode cX0_init 0 = .ok (.aload_n 0, 1) := by decide +kernel
theorem dX0_init_1 : decode cX0_init 1 = .ok (.invokespecial 3, 3) := by decide +kernel
theorem dX0_init_4 : decode cX0_init 4 = .ok (.aload_n 0, 1) := by decide +kernel
theorem dX0_init_5 : decode cX0_init 5 = .ok (.bipush 100, 2) := by decide +kernel
theorem dX0_init_7 : decode cX0_init 7 = .ok (.newarray .boolean, 2) := by decide +kernel
theorem dX0_init_9 : decode cX0_init 9 = .ok (.putfield 9, 3) := by decide +kernel
theorem dX0_init_12 : decode cX0_init 12 = .ok (.aload_n 0, 1) := by decide +kernel
theorem dX0_init_13 : decode cX0_init 13 = .ok (.bipush 100, 2) := by decide +kernel
theorem dX0_init_15 : decode cX0_init 15 = .ok (.newarray .int, 2) := by decide +kernel
theorem dX0_init_17 : decode cX0_init 17 = .ok (.putfield 15, 3) := by decide +kernel
theorem dX0_init_20 : decode cX0_init 20 = .ok (.aload_n 0, 1) := by decide +kernel
theorem dX0_init_21 : decode cX0_init 21 = .ok (.bipush 100, 2) := by decide +kernel
theorem dX0_init_23 : decode cX0_init 23 = .ok (.newarray .int, 2) := by decide +kernel
theorem dX0_init_25 : decode cX0_init 25 = .ok (.putfield 19, 3) := by decide +kernel
theorem dX0_init_28 : decode cX0_init 28 = .ok (.aload_n 0, 1) := by decide +kernel
theorem dX0_init_29 : decode cX0_init 29 = .ok (.bipush 100, 2) := by decide +kernel
theorem dX0_init_31 : decode cX0_init 31 = .ok (.newarray .int, 2) := by decide +kernel
theorem dX0_init_33 : decode cX0_init 33 = .ok (.putfield 22, 3) := by decide +kernel
theorem dX0_init_36 : decode cX0_init 36 = .ok (.aload_n 0, 1) := by decide +kernel
theorem dX0_init_37 : decode cX0_init 37 = .ok (.sipush 1200, 3) := by decide +kernel
theorem dX0_init_40 : decode cX0_init 40 = .ok (.newarray .long, 2) := by decide +kernel
theorem dX0_init_42 : decode cX0_init 42 = .ok (.putfield 25, 3) := by decide +kernel
theorem dX0_init_45 : decode cX0_init 45 = .ok (.aload_n 0, 1) := by decide +kernel
theorem dX0_init_46 : decode cX0_init 46 = .ok (.sipush 600, 3) := by decide +kernel
theorem dX0_init_49 : decode cX0_init 49 = .ok (.newarray .int, 2) := by decide +kernel
theorem dX0_init_51 : decode cX0_init 51 = .ok (.putfield 29, 3) := by decide +kernel
theorem dX0_init_54 : decode cX0_init 54 = .ok (.aload_n 0, 1) := by decide +kernel
theorem dX0_init_55 : decode cX0_init 55 = .ok (.iconst 0, 1) := by decide +kernel
theorem dX0_init_56 : decode cX0_init 56 = .ok (.putfield 32, 3) := by decide +kernel
theorem dX0_init_59 : decode cX0_init 59 = .ok (.return_, 1) := by decide +kernel
theorem dX0_has_0 : decode cX0_has 0 = .ok (.iload_n 1, 1) := by decide +kernel
theorem dX0_has_1 : decode cX0_has 1 = .ok (.iconst 1, 1) := by decide +kernel
theorem dX0_has_2 : decode cX0_has 2 = .ok (.if_icmp .lt 15, 3) := by decide +kernel
theorem dX0_has_5 : decode cX0_has 5 = .ok (.iload_n 1, 1) := by decide +kernel
theorem dX0_has_6 : decode cX0_has 6 = .ok (.aload_n 0, 1) := by decide +kernel
theorem dX0_has_7 : decode cX0_has 7 = .ok (.getfield 32, 3) := by decide +kernel
theorem dX0_has_10 : decode cX0_has 10 = .ok (.if_icmp .gt 7, 3) := by decide +kernel
theorem dX0_has_13 : decode cX0_has 13 = .ok (.iconst 1, 1) := by decide +kernel
theorem dX0_has_14 : decode cX0_has 14 = .ok (.goto 4, 3) := by decide +kernel
theorem dX0_has_17 : decode cX0_has 17 = .ok (.iconst 0, 1) := by decide +kernel
theorem dX0_has_18 : decode cX0_has 18 = .ok (.ireturn, 1) := by decide +kernel
theorem dX0_addTorn_0 : decode cX0_addTorn 0 = .ok (.aload_n 0, 1) := by decide +kernel
theorem dX0_addTorn_1 : decode cX0_addTorn 1 = .ok (.getfield 32, 3) := by decide +kernel
theorem dX0_addTorn_4 : decode cX0_addTorn 4 = .ok (.bipush 100, 2) := by decide +kernel
theorem dX0_addTorn_6 : decode cX0_addTorn 6 = .ok (.if_icmp .lt 4, 3) := by decide +kernel
theorem dX0_addTorn_9 : decode cX0_addTorn 9 = .ok (.return_, 1) := by decide +kernel
theorem dX0_addTorn_10 : decode cX0_addTorn 10 = .ok (.aload_n 0, 1) := by decide +kernel
theorem dX0_addTorn_11 : decode cX0_addTorn 11 = .ok (.getfield 9, 3) := by decide +kernel
theorem dX0_addTorn_14 : decode cX0_addTorn 14 = .ok (.aload_n 0, 1) := by decide +kernel
theorem dX0_addTorn_15 : decode cX0_addTorn 15 = .ok (.getfield 32, 3) := by decide +kernel
theorem dX0_addTorn_18 : decode cX0_addTorn 18 = .ok (.iconst 0, 1) := by decide +kernel
theorem dX0_addTorn_19 : decode cX0_addTorn 19 = .ok (.bastore, 1) := by decide +kernel
theorem dX0_addTorn_20 : decode cX0_addTorn 20 = .ok (.aload_n 0, 1) := by decide +kernel
theorem dX0_addTorn_21 : decode cX0_addTorn 21 = .ok (.dup, 1) := by decide +kernel
theorem dX0_addTorn_22 : decode cX0_addTorn 22 = .ok (.getfield 32, 3) := by decide +kernel
theorem dX0_addTorn_25 : decode cX0_addTorn 25 = .ok (.iconst 1, 1) := by decide +kernel
theorem dX0_addTorn_26 : decode cX0_addTorn 26 = .ok (.iadd, 1) := by decide +kernel
theorem dX0_addTorn_27 : decode cX0_addTorn 27 = .ok (.putfield 32, 3) := by decide +kernel
theorem dX0_addTorn_30 : decode cX0_addTorn 30 = .ok (.return_, 1) := by decide +kernel
theorem dX0_addWhole_0 : decode cX0_addWhole 0 = .ok (.aload_n 0, 1) := by decide +kernel
theorem dX0_addWhole_1 : decode cX0_addWhole 1 = .ok (.getfield 32, 3) := by decide +kernel
theorem dX0_addWhole_4 : decode cX0_addWhole 4 = .ok (.bipush 100, 2) := by decide +kernel
theorem dX0_addWhole_6 : decode cX0_addWhole 6 = .ok (.if_icmp .lt 4, 3) := by decide +kernel
theorem dX0_addWhole_9 : decode cX0_addWhole 9 = .ok (.return_, 1) := by decide +kernel
theorem dX0_addWhole_10 : decode cX0_addWhole 10 = .ok (.aload_n 0, 1) := by decide +kernel
theorem dX0_addWhole_11 : decode cX0_addWhole 11 = .ok (.getfield 32, 3) := by decide +kernel
theorem dX0_addWhole_14 : decode cX0_addWhole 14 = .ok (.istore_n 3, 1) := by decide +kernel
theorem dX0_addWhole_15 : decode cX0_addWhole 15 = .ok (.aload_n 0, 1) := by decide +kernel
theorem dX0_addWhole_16 : decode cX0_addWhole 16 = .ok (.getfield 9, 3) := by decide +kernel
theorem dX0_addWhole_19 : decode cX0_addWhole 19 = .ok (.iload_n 3, 1) := by decide +kernel
theorem dX0_addWhole_20 : decode cX0_addWhole 20 = .ok (.iconst 1, 1) := by decide +kernel
theorem dX0_addWhole_21 : decode cX0_addWhole 21 = .ok (.bastore, 1) := by decide +kernel
theorem dX0_addWhole_22 : decode cX0_addWhole 22 = .ok (.aload_n 0, 1) := by decide +kernel
theorem dX0_addWhole_23 : decode cX0_addWhole 23 = .ok (.getfield 15, 3) := by decide +kernel
theorem dX0_addWhole_26 : decode cX0_addWhole 26 = .ok (.iload_n 3, 1) := by decide +kernel
theorem dX0_addWhole_27 : decode cX0_addWhole 27 = .ok (.iload_n 2, 1) := by decide +kernel
theorem dX0_addWhole_28 : decode cX0_addWhole 28 = .ok (.iastore, 1) := by decide +kernel
theorem dX0_addWhole_29 : decode cX0_addWhole 29 = .ok (.aload_n 0, 1) := by decide +kernel
theorem dX0_addWhole_30 : decode cX0_addWhole 30 = .ok (.getfield 19, 3) := by decide +kernel
theorem dX0_addWhole_33 : decode cX0_addWhole 33 = .ok (.iload_n 3, 1) := by decide +kernel
theorem dX0_addWhole_34 : decode cX0_addWhole 34 = .ok (.aload_n 1, 1) := by decide +kernel
theorem dX0_addWhole_35 : decode cX0_addWhole 35 = .ok (.getfield 36, 3) := by decide +kernel
theorem dX0_addWhole_38 : decode cX0_addWhole 38 = .ok (.iastore, 1) := by decide +kernel
theorem dX0_addWhole_39 : decode cX0_addWhole 39 = .ok (.aload_n 0, 1) := by decide +kernel
theorem dX0_addWhole_40 : decode cX0_addWhole 40 = .ok (.getfield 22, 3) := by decide +kernel
theorem dX0_addWhole_43 : decode cX0_addWhole 43 = .ok (.iload_n 3, 1) := by decide +kernel
theorem dX0_addWhole_44 : decode cX0_addWhole 44 = .ok (.aload_n 1, 1) := by decide +kernel
theorem dX0_addWhole_45 : decode cX0_addWhole 45 = .ok (.getfield 40, 3) := by decide +kernel
theorem dX0_addWhole_48 : decode cX0_addWhole 48 = .ok (.getfield 44, 3) := by decide +kernel
theorem dX0_addWhole_51 : decode cX0_addWhole 51 = .ok (.iastore, 1) := by decide +kernel
theorem dX0_addWhole_52 : decode cX0_addWhole 52 = .ok (.aload_n 1, 1) := by decide +kernel
theorem dX0_addWhole_53 : decode cX0_addWhole 53 = .ok (.getfield 49, 3) := by decide +kernel
theorem dX0_addWhole_56 : decode cX0_addWhole 56 = .ok (.iconst 0, 1) := by decide +kernel
theorem dX0_addWhole_57 : decode cX0_addWhole 57 = .ok (.aload_n 0, 1) := by decide +kernel
theorem dX0_addWhole_58 : decode cX0_addWhole 58 = .ok (.getfield 25, 3) := by decide +kernel
theorem dX0_addWhole_61 : decode cX0_addWhole 61 = .ok (.iload_n 3, 1) := by decide +kernel
theorem dX0_addWhole_62 : decode cX0_addWhole 62 = .ok (.bipush 12, 2) := by decide +kernel
theorem dX0_addWhole_64 : decode cX0_addWhole 64 = .ok (.imul, 1) := by decide +kernel
theorem dX0_addWhole_65 : decode cX0_addWhole 65 = .ok (.bipush 12, 2) := by decide +kernel
theorem dX0_addWhole_67 : decode cX0_addWhole 67 = .ok (.invokestatic 50, 3) := by decide +kernel
theorem dX0_addWhole_70 : decode cX0_addWhole 70 = .ok (.aload_n 1, 1) := by decide +kernel
theorem dX0_addWhole_71 : decode cX0_addWhole 71 = .ok (.getfield 56, 3) := by decide +kernel
theorem dX0_addWhole_74 : decode cX0_addWhole 74 = .ok (.iconst 0, 1) := by decide +kernel
theorem dX0_addWhole_75 : decode cX0_addWhole 75 = .ok (.aload_n 0, 1) := by decide +kernel
theorem dX0_addWhole_76 : decode cX0_addWhole 76 = .ok (.getfield 29, 3) := by decide +kernel
theorem dX0_addWhole_79 : decode cX0_addWhole 79 = .ok (.iload_n 3, 1) := by decide +kernel
theorem dX0_addWhole_80 : decode cX0_addWhole 80 = .ok (.bipush 6, 2) := by decide +kernel
theorem dX0_addWhole_82 : decode cX0_addWhole 82 = .ok (.imul, 1) := by decide +kernel
theorem dX0_addWhole_83 : decode cX0_addWhole 83 = .ok (.bipush 6, 2) := by decide +kernel
theorem dX0_addWhole_85 : decode cX0_addWhole 85 = .ok (.invokestatic 50, 3) := by decide +kernel
theorem dX0_addWhole_88 : decode cX0_addWhole 88 = .ok (.aload_n 0, 1) := by decide +kernel
theorem dX0_addWhole_89 : decode cX0_addWhole 89 = .ok (.dup, 1) := by decide +kernel
theorem dX0_addWhole_90 : decode cX0_addWhole 90 = .ok (.getfield 32, 3) := by decide +kernel
theorem dX0_addWhole_93 : decode cX0_addWhole 93 = .ok (.iconst 1, 1) := by decide +kernel
theorem dX0_addWhole_94 : decode cX0_addWhole 94 = .ok (.iadd, 1) := by decide +kernel
theorem dX0_addWhole_95 : decode cX0_addWhole 95 = .ok (.putfield 32, 3) := by decide +kernel
theorem dX0_addWhole_98 : decode cX0_addWhole 98 = .ok (.return_, 1) := by decide +kernel
set_option maxRecDepth 20000 in
theorem ggX0_latestWholeUpTo_X0_has : GoodIn wsX0_latestWholeUpTo wsX0_has := goodIn_r _ [6, 7, 8, 9, 10, 11, 12, 13, 14] (by decide +kernel) (by decide +kernel)
set_option maxRecDepth 20000 in
theorem gX0_latestWholeUpTo_X0_has : GoodIn wsX0_latestWholeUpTo (wsV RX0 57 RX0 yX0_has wsX0_has) := goodIn_app (goodIn_of _ (by decide +kernel)) ggX0_latestWholeUpTo_X0_has
theorem dX0_latestWholeUpTo_0 : decode cX0_latestWholeUpTo 0 = .ok (.aload_n 0, 1) := by decide +kernel
theorem dX0_latestWholeUpTo_1 : decode cX0_latestWholeUpTo 1 = .ok (.iload_n 1, 1) := by decide +kernel
theorem dX0_latestWholeUpTo_2 : decode cX0_latestWholeUpTo 2 = .ok (.invokevirtual 57, 3) := by decide +kernel
theorem dX0_latestWholeUpTo_5 : decode cX0_latestWholeUpTo 5 = .ok (.ifCond .ne 5, 3) := by decide +kernel
theorem dX0_latestWholeUpTo_8 : decode cX0_latestWholeUpTo 8 = .ok (.iconst (-1), 1) := by decide +kernel
theorem dX0_latestWholeUpTo_9 : decode cX0_latestWholeUpTo 9 = .ok (.ireturn, 1) := by decide +kernel
theorem dX0_latestWholeUpTo_10 : decode cX0_latestWholeUpTo 10 = .ok (.iload_n 1, 1) := by decide +kernel
theorem dX0_latestWholeUpTo_11 : decode cX0_latestWholeUpTo 11 = .ok (.istore_n 2, 1) := by decide +kernel
theorem dX0_latestWholeUpTo_12 : decode cX0_latestWholeUpTo 12 = .ok (.iload_n 2, 1) := by decide +kernel
theorem dX0_latestWholeUpTo_13 : decode cX0_latestWholeUpTo 13 = .ok (.iconst 1, 1) := by decide +kernel
theorem dX0_latestWholeUpTo_14 : decode cX0_latestWholeUpTo 14 = .ok (.if_icmp .lt 22, 3) := by decide +kernel
theorem dX0_latestWholeUpTo_17 : decode cX0_latestWholeUpTo 17 = .ok (.aload_n 0, 1) := by decide +kernel
theorem dX0_latestWholeUpTo_18 : decode cX0_latestWholeUpTo 18 = .ok (.getfield 9, 3) := by decide +kernel
theorem dX0_latestWholeUpTo_21 : decode cX0_latestWholeUpTo 21 = .ok (.iload_n 2, 1) := by decide +kernel
theorem dX0_latestWholeUpTo_22 : decode cX0_latestWholeUpTo 22 = .ok (.iconst 1, 1) := by decide +kernel
theorem dX0_latestWholeUpTo_23 : decode cX0_latestWholeUpTo 23 = .ok (.isub, 1) := by decide +kernel
theorem dX0_latestWholeUpTo_24 : decode cX0_latestWholeUpTo 24 = .ok (.baload, 1) := by decide +kernel
theorem dX0_latestWholeUpTo_25 : decode cX0_latestWholeUpTo 25 = .ok (.ifCond .eq 5, 3) := by decide +kernel
theorem dX0_latestWholeUpTo_28 : decode cX0_latestWholeUpTo 28 = .ok (.iload_n 2, 1) := by decide +kernel
theorem dX0_latestWholeUpTo_29 : decode cX0_latestWholeUpTo 29 = .ok (.ireturn, 1) := by decide +kernel
theorem dX0_latestWholeUpTo_30 : decode cX0_latestWholeUpTo 30 = .ok (.iinc 2 (-1), 3) := by decide +kernel
theorem dX0_latestWholeUpTo_33 : decode cX0_latestWholeUpTo 33 = .ok (.goto (-21), 3) := by decide +kernel
theorem dX0_latestWholeUpTo_36 : decode cX0_latestWholeUpTo 36 = .ok (.iconst (-1), 1) := by decide +kernel
theorem dX0_latestWholeUpTo_37 : decode cX0_latestWholeUpTo 37 = .ok (.ireturn, 1) := by decide +kernel
theorem dX0_isPastAFilesEnd_0 : decode cX0_isPastAFilesEnd 0 = .ok (.iload_n 1, 1) := by decide +kernel
theorem dX0_isPastAFilesEnd_1 : decode cX0_isPastAFilesEnd 1 = .ok (.iconst 1, 1) := by decide +kernel
theorem dX0_isPastAFilesEnd_2 : decode cX0_isPastAFilesEnd 2 = .ok (.isub, 1) := by decide +kernel
theorem dX0_isPastAFilesEnd_3 : decode cX0_isPastAFilesEnd 3 = .ok (.bipush 6, 2) := by decide +kernel
theorem dX0_isPastAFilesEnd_5 : decode cX0_isPastAFilesEnd 5 = .ok (.imul, 1) := by decide +kernel
theorem dX0_isPastAFilesEnd_6 : decode cX0_isPastAFilesEnd 6 = .ok (.istore_n 3, 1) := by decide +kernel
theorem dX0_isPastAFilesEnd_7 : decode cX0_isPastAFilesEnd 7 = .ok (.iconst 0, 1) := by decide +kernel
theorem dX0_isPastAFilesEnd_8 : decode cX0_isPastAFilesEnd 8 = .ok (.istore 4, 2) := by decide +kernel
theorem dX0_isPastAFilesEnd_10 : decode cX0_isPastAFilesEnd 10 = .ok (.iload 4, 2) := by decide +kernel
theorem dX0_isPastAFilesEnd_12 : decode cX0_isPastAFilesEnd 12 = .ok (.aload_n 2, 1) := by decide +kernel
theorem dX0_isPastAFilesEnd_13 : decode cX0_isPastAFilesEnd 13 = .ok (.getfield 61, 3) := by decide +kernel
theorem dX0_isPastAFilesEnd_16 : decode cX0_isPastAFilesEnd 16 = .ok (.if_icmp .ge 30, 3) := by decide +kernel
theorem dX0_isPastAFilesEnd_19 : decode cX0_isPastAFilesEnd 19 = .ok (.aload_n 2, 1) := by decide +kernel
theorem dX0_isPastAFilesEnd_20 : decode cX0_isPastAFilesEnd 20 = .ok (.getfield 64, 3) := by decide +kernel
theorem dX0_isPastAFilesEnd_23 : decode cX0_isPastAFilesEnd 23 = .ok (.iload 4, 2) := by decide +kernel
theorem dX0_isPastAFilesEnd_25 : decode cX0_isPastAFilesEnd 25 = .ok (.iaload, 1) := by decide +kernel
theorem dX0_isPastAFilesEnd_26 : decode cX0_isPastAFilesEnd 26 = .ok (.aload_n 0, 1) := by decide +kernel
theorem dX0_isPastAFilesEnd_27 : decode cX0_isPastAFilesEnd 27 = .ok (.getfield 29, 3) := by decide +kernel
theorem dX0_isPastAFilesEnd_30 : decode cX0_isPastAFilesEnd 30 = .ok (.iload_n 3, 1) := by decide +kernel
theorem dX0_isPastAFilesEnd_31 : decode cX0_isPastAFilesEnd 31 = .ok (.iload 4, 2) := by decide +kernel
theorem dX0_isPastAFilesEnd_33 : decode cX0_isPastAFilesEnd 33 = .ok (.iadd, 1) := by decide +kernel
theorem dX0_isPastAFilesEnd_34 : decode cX0_isPastAFilesEnd 34 = .ok (.iaload, 1) := by decide +kernel
theorem dX0_isPastAFilesEnd_35 : decode cX0_isPastAFilesEnd 35 = .ok (.if_icmp .ge 5, 3) := by decide +kernel
theorem dX0_isPastAFilesEnd_38 : decode cX0_isPastAFilesEnd 38 = .ok (.iconst 1, 1) := by decide +kernel
theorem dX0_isPastAFilesEnd_39 : decode cX0_isPastAFilesEnd 39 = .ok (.ireturn, 1) := by decide +kernel
theorem dX0_isPastAFilesEnd_40 : decode cX0_isPastAFilesEnd 40 = .ok (.iinc 4 1, 3) := by decide +kernel
theorem dX0_isPastAFilesEnd_43 : decode cX0_isPastAFilesEnd 43 = .ok (.goto (-33), 3) := by decide +kernel
theorem dX0_isPastAFilesEnd_46 : decode cX0_isPastAFilesEnd 46 = .ok (.iconst 0, 1) := by decide +kernel
theorem dX0_isPastAFilesEnd_47 : decode cX0_isPastAFilesEnd 47 = .ok (.ireturn, 1) := by decide +kernel
set_option maxRecDepth 20000 in
theorem ggX0_putBack_X2_startOver : GoodIn wsX0_putBack wsX2_startOver := goodIn_r _ [16, 17, 18, 19, 20, 21, 22, 30, 31, 32, 33, 34, 35, 36, 37] (by decide +kernel) (by decide +kernel)
set_option maxRecDepth 20000 in
theorem gX0_putBack_X2_startOver : GoodIn wsX0_putBack (wsV RX0 67 RX2 yX2_startOver wsX2_startOver) := goodIn_app (goodIn_of _ (by decide +kernel)) ggX0_putBack_X2_startOver
theorem dX0_putBack_0 : decode cX0_putBack 0 = .ok (.iload_n 1, 1) := by decide +kernel
theorem dX0_putBack_1 : decode cX0_putBack 1 = .ok (.iconst 1, 1) := by decide +kernel
theorem dX0_putBack_2 : decode cX0_putBack 2 = .ok (.isub, 1) := by decide +kernel
theorem dX0_putBack_3 : decode cX0_putBack 3 = .ok (.istore_n 3, 1) := by decide +kernel
theorem dX0_putBack_4 : decode cX0_putBack 4 = .ok (.aload_n 2, 1) := by decide +kernel
theorem dX0_putBack_5 : decode cX0_putBack 5 = .ok (.invokevirtual 67, 3) := by decide +kernel
theorem dX0_putBack_8 : decode cX0_putBack 8 = .ok (.aload_n 0, 1) := by decide +kernel
theorem dX0_putBack_9 : decode cX0_putBack 9 = .ok (.getfield 25, 3) := by decide +kernel
theorem dX0_putBack_12 : decode cX0_putBack 12 = .ok (.iload_n 3, 1) := by decide +kernel
theorem dX0_putBack_13 : decode cX0_putBack 13 = .ok (.bipush 12, 2) := by decide +kernel
theorem dX0_putBack_15 : decode cX0_putBack 15 = .ok (.imul, 1) := by decide +kernel
theorem dX0_putBack_16 : decode cX0_putBack 16 = .ok (.aload_n 2, 1) := by decide +kernel
theorem dX0_putBack_17 : decode cX0_putBack 17 = .ok (.getfield 49, 3) := by decide +kernel
theorem dX0_putBack_20 : decode cX0_putBack 20 = .ok (.iconst 0, 1) := by decide +kernel
theorem dX0_putBack_21 : decode cX0_putBack 21 = .ok (.aload_n 0, 1) := by decide +kernel
theorem dX0_putBack_22 : decode cX0_putBack 22 = .ok (.getfield 22, 3) := by decide +kernel
theorem dX0_putBack_25 : decode cX0_putBack 25 = .ok (.iload_n 3, 1) := by decide +kernel
theorem dX0_putBack_26 : decode cX0_putBack 26 = .ok (.iaload, 1) := by decide +kernel
theorem dX0_putBack_27 : decode cX0_putBack 27 = .ok (.invokestatic 50, 3) := by decide +kernel
theorem dX0_putBack_30 : decode cX0_putBack 30 = .ok (.aload_n 0, 1) := by decide +kernel
theorem dX0_putBack_31 : decode cX0_putBack 31 = .ok (.getfield 29, 3) := by decide +kernel
theorem dX0_putBack_34 : decode cX0_putBack 34 = .ok (.iload_n 3, 1) := by decide +kernel
theorem dX0_putBack_35 : decode cX0_putBack 35 = .ok (.bipush 6, 2) := by decide +kernel
theorem dX0_putBack_37 : decode cX0_putBack 37 = .ok (.imul, 1) := by decide +kernel
theorem dX0_putBack_38 : decode cX0_putBack 38 = .ok (.aload_n 2, 1) := by decide +kernel
theorem dX0_putBack_39 : decode cX0_putBack 39 = .ok (.getfield 56, 3) := by decide +kernel
theorem dX0_putBack_42 : decode cX0_putBack 42 = .ok (.iconst 0, 1) := by decide +kernel
theorem dX0_putBack_43 : decode cX0_putBack 43 = .ok (.bipush 6, 2) := by decide +kernel
theorem dX0_putBack_45 : decode cX0_putBack 45 = .ok (.invokestatic 50, 3) := by decide +kernel
theorem dX0_putBack_48 : decode cX0_putBack 48 = .ok (.aload_n 2, 1) := by decide +kernel
theorem dX0_putBack_49 : decode cX0_putBack 49 = .ok (.aload_n 0, 1) := by decide +kernel
theorem dX0_putBack_50 : decode cX0_putBack 50 = .ok (.getfield 19, 3) := by decide +kernel
theorem dX0_putBack_53 : decode cX0_putBack 53 = .ok (.iload_n 3, 1) := by decide +kernel
theorem dX0_putBack_54 : decode cX0_putBack 54 = .ok (.iaload, 1) := by decide +kernel
theorem dX0_putBack_55 : decode cX0_putBack 55 = .ok (.putfield 36, 3) := by decide +kernel
theorem dX0_putBack_58 : decode cX0_putBack 58 = .ok (.return_, 1) := by decide +kernel
theorem dX1_init_0 : decode cX1_init 0 = .ok (.aload_n 0, 1) := by decide +kernel
theorem dX1_init_1 : decode cX1_init 1 = .ok (.invokespecial 3, 3) := by decide +kernel
theorem dX1_init_4 : decode cX1_init 4 = .ok (.aload_n 0, 1) := by decide +kernel
theorem dX1_init_5 : decode cX1_init 5 = .ok (.bipush 12, 2) := by decide +kernel
theorem dX1_init_7 : decode cX1_init 7 = .ok (.newarray .long, 2) := by decide +kernel
theorem dX1_init_9 : decode cX1_init 9 = .ok (.putfield 9, 3) := by decide +kernel
theorem dX1_init_12 : decode cX1_init 12 = .ok (.aload_n 0, 1) := by decide +kernel
theorem dX1_init_13 : decode cX1_init 13 = .ok (.bipush 6, 2) := by decide +kernel
theorem dX1_init_15 : decode cX1_init 15 = .ok (.newarray .int, 2) := by decide +kernel
theorem dX1_init_17 : decode cX1_init 17 = .ok (.putfield 15, 3) := by decide +kernel
theorem dX1_init_20 : decode cX1_init 20 = .ok (.aload_n 0, 1) := by decide +kernel
theorem dX1_init_21 : decode cX1_init 21 = .ok (.iconst 0, 1) := by decide +kernel
theorem dX1_init_22 : decode cX1_init 22 = .ok (.putfield 19, 3) := by decide +kernel
theorem dX1_init_25 : decode cX1_init 25 = .ok (.aload_n 0, 1) := by decide +kernel
theorem dX1_init_26 : decode cX1_init 26 = .ok (.iconst 0, 1) := by decide +kernel
theorem dX1_init_27 : decode cX1_init 27 = .ok (.putfield 23, 3) := by decide +kernel
theorem dX1_init_30 : decode cX1_init 30 = .ok (.return_, 1) := by decide +kernel
theorem dX1_hasFile_0 : decode cX1_hasFile 0 = .ok (.iload_n 1, 1) := by decide +kernel
theorem dX1_hasFile_1 : decode cX1_hasFile 1 = .ok (.ifCond .lt 15, 3) := by decide +kernel
theorem dX1_hasFile_4 : decode cX1_hasFile 4 = .ok (.iload_n 1, 1) := by decide +kernel
theorem dX1_hasFile_5 : decode cX1_hasFile 5 = .ok (.aload_n 0, 1) := by decide +kernel
theorem dX1_hasFile_6 : decode cX1_hasFile 6 = .ok (.getfield 23, 3) := by decide +kernel
theorem dX1_hasFile_9 : decode cX1_hasFile 9 = .ok (.if_icmp .ge 7, 3) := by decide +kernel
theorem dX1_hasFile_12 : decode cX1_hasFile 12 = .ok (.iconst 1, 1) := by decide +kernel
theorem dX1_hasFile_13 : decode cX1_hasFile 13 = .ok (.goto 4, 3) := by decide +kernel
theorem dX1_hasFile_16 : decode cX1_hasFile 16 = .ok (.iconst 0, 1) := by decide +kernel
theorem dX1_hasFile_17 : decode cX1_hasFile 17 = .ok (.ireturn, 1) := by decide +kernel
theorem dX2_init_0 : decode cX2_init 0 = .ok (.aload_n 0, 1) := by decide +kernel
theorem dX2_init_1 : decode cX2_init 1 = .ok (.invokespecial 3, 3) := by decide +kernel
theorem dX2_init_4 : decode cX2_init 4 = .ok (.aload_n 0, 1) := by decide +kernel
theorem dX2_init_5 : decode cX2_init 5 = .ok (.bipush 12, 2) := by decide +kernel
theorem dX2_init_7 : decode cX2_init 7 = .ok (.newarray .long, 2) := by decide +kernel
theorem dX2_init_9 : decode cX2_init 9 = .ok (.putfield 9, 3) := by decide +kernel
theorem dX2_init_12 : decode cX2_init 12 = .ok (.aload_n 0, 1) := by decide +kernel
theorem dX2_init_13 : decode cX2_init 13 = .ok (.bipush 6, 2) := by decide +kernel
theorem dX2_init_15 : decode cX2_init 15 = .ok (.newarray .int, 2) := by decide +kernel
theorem dX2_init_17 : decode cX2_init 17 = .ok (.putfield 15, 3) := by decide +kernel
theorem dX2_init_20 : decode cX2_init 20 = .ok (.aload_n 0, 1) := by decide +kernel
theorem dX2_init_21 : decode cX2_init 21 = .ok (.iconst 0, 1) := by decide +kernel
theorem dX2_init_22 : decode cX2_init 22 = .ok (.putfield 19, 3) := by decide +kernel
theorem dX2_init_25 : decode cX2_init 25 = .ok (.aload_n 0, 1) := by decide +kernel
theorem dX2_init_26 : decode cX2_init 26 = .ok (.aload_n 1, 1) := by decide +kernel
theorem dX2_init_27 : decode cX2_init 27 = .ok (.putfield 23, 3) := by decide +kernel
theorem dX2_init_30 : decode cX2_init 30 = .ok (.return_, 1) := by decide +kernel
theorem dX2_startOver_0 : decode cX2_startOver 0 = .ok (.iconst 0, 1) := by decide +kernel
theorem dX2_startOver_1 : decode cX2_startOver 1 = .ok (.istore_n 1, 1) := by decide +kernel
theorem dX2_startOver_2 : decode cX2_startOver 2 = .ok (.iload_n 1, 1) := by decide +kernel
theorem dX2_startOver_3 : decode cX2_startOver 3 = .ok (.aload_n 0, 1) := by decide +kernel
theorem dX2_startOver_4 : decode cX2_startOver 4 = .ok (.getfield 23, 3) := by decide +kernel
theorem dX2_startOver_7 : decode cX2_startOver 7 = .ok (.getfield 27, 3) := by decide +kernel
theorem dX2_startOver_10 : decode cX2_startOver 10 = .ok (.if_icmp .ge 24, 3) := by decide +kernel
theorem dX2_startOver_13 : decode cX2_startOver 13 = .ok (.aload_n 0, 1) := by decide +kernel
theorem dX2_startOver_14 : decode cX2_startOver 14 = .ok (.getfield 9, 3) := by decide +kernel
theorem dX2_startOver_17 : decode cX2_startOver 17 = .ok (.iload_n 1, 1) := by decide +kernel
theorem dX2_startOver_18 : decode cX2_startOver 18 = .ok (.aload_n 0, 1) := by decide +kernel
theorem dX2_startOver_19 : decode cX2_startOver 19 = .ok (.getfield 23, 3) := by decide +kernel
theorem dX2_startOver_22 : decode cX2_startOver 22 = .ok (.getfield 32, 3) := by decide +kernel
theorem dX2_startOver_25 : decode cX2_startOver 25 = .ok (.iload_n 1, 1) := by decide +kernel
theorem dX2_startOver_26 : decode cX2_startOver 26 = .ok (.laload, 1) := by decide +kernel
theorem dX2_startOver_27 : decode cX2_startOver 27 = .ok (.lastore, 1) := by decide +kernel
theorem dX2_startOver_28 : decode cX2_startOver 28 = .ok (.iinc 1 1, 3) := by decide +kernel
theorem dX2_startOver_31 : decode cX2_startOver 31 = .ok (.goto (-29), 3) := by decide +kernel
theorem dX2_startOver_34 : decode cX2_startOver 34 = .ok (.iconst 0, 1) := by decide +kernel
theorem dX2_startOver_35 : decode cX2_startOver 35 = .ok (.istore_n 1, 1) := by decide +kernel
theorem dX2_startOver_36 : decode cX2_startOver 36 = .ok (.iload_n 1, 1) := by decide +kernel
theorem dX2_startOver_37 : decode cX2_startOver 37 = .ok (.bipush 6, 2) := by decide +kernel
theorem dX2_startOver_39 : decode cX2_startOver 39 = .ok (.if_icmp .ge 16, 3) := by decide +kernel
theorem dX2_startOver_42 : decode cX2_startOver 42 = .ok (.aload_n 0, 1) := by decide +kernel
theorem dX2_startOver_43 : decode cX2_startOver 43 = .ok (.getfield 15, 3) := by decide +kernel
theorem dX2_startOver_46 : decode cX2_startOver 46 = .ok (.iload_n 1, 1) := by decide +kernel
theorem dX2_startOver_47 : decode cX2_startOver 47 = .ok (.iconst 0, 1) := by decide +kernel
theorem dX2_startOver_48 : decode cX2_startOver 48 = .ok (.iastore, 1) := by decide +kernel
theorem dX2_startOver_49 : decode cX2_startOver 49 = .ok (.iinc 1 1, 3) := by decide +kernel
theorem dX2_startOver_52 : decode cX2_startOver 52 = .ok (.goto (-16), 3) := by decide +kernel
theorem dX2_startOver_55 : decode cX2_startOver 55 = .ok (.aload_n 0, 1) := by decide +kernel
theorem dX2_startOver_56 : decode cX2_startOver 56 = .ok (.iconst 0, 1) := by decide +kernel
theorem dX2_startOver_57 : decode cX2_startOver 57 = .ok (.putfield 19, 3) := by decide +kernel
theorem dX2_startOver_60 : decode cX2_startOver 60 = .ok (.return_, 1) := by decide +kernel
theorem dX2_isEnded_0 : decode cX2_isEnded 0 = .ok (.iconst 0, 1) := by decide +kernel
theorem dX2_isEnded_1 : decode cX2_isEnded 1 = .ok (.istore_n 1, 1) := by decide +kernel
theorem dX2_isEnded_2 : decode cX2_isEnded 2 = .ok (.iload_n 1, 1) := by decide +kernel
theorem dX2_isEnded_3 : decode cX2_isEnded 3 = .ok (.aload_n 0, 1) := by decide +kernel
theorem dX2_isEnded_4 : decode cX2_isEnded 4 = .ok (.getfield 23, 3) := by decide +kernel
theorem dX2_isEnded_7 : decode cX2_isEnded 7 = .ok (.getfield 35, 3) := by decide +kernel
theorem dX2_isEnded_10 : decode cX2_isEnded 10 = .ok (.if_icmp .ge 29, 3) := by decide +kernel
theorem dX2_isEnded_13 : decode cX2_isEnded 13 = .ok (.aload_n 0, 1) := by decide +kernel
theorem dX2_isEnded_14 : decode cX2_isEnded 14 = .ok (.getfield 15, 3) := by decide +kernel
theorem dX2_isEnded_17 : decode cX2_isEnded 17 = .ok (.iload_n 1, 1) := by decide +kernel
theorem dX2_isEnded_18 : decode cX2_isEnded 18 = .ok (.iaload, 1) := by decide +kernel
theorem dX2_isEnded_19 : decode cX2_isEnded 19 = .ok (.aload_n 0, 1) := by decide +kernel
theorem dX2_isEnded_20 : decode cX2_isEnded 20 = .ok (.getfield 23, 3) := by decide +kernel
theorem dX2_isEnded_23 : decode cX2_isEnded 23 = .ok (.getfield 38, 3) := by decide +kernel
theorem dX2_isEnded_26 : decode cX2_isEnded 26 = .ok (.iload_n 1, 1) := by decide +kernel
theorem dX2_isEnded_27 : decode cX2_isEnded 27 = .ok (.iaload, 1) := by decide +kernel
theorem dX2_isEnded_28 : decode cX2_isEnded 28 = .ok (.if_icmp .ge 5, 3) := by decide +kernel
theorem dX2_isEnded_31 : decode cX2_isEnded 31 = .ok (.iconst 0, 1) := by decide +kernel
theorem dX2_isEnded_32 : decode cX2_isEnded 32 = .ok (.ireturn, 1) := by decide +kernel
theorem dX2_isEnded_33 : decode cX2_isEnded 33 = .ok (.iinc 1 1, 3) := by decide +kernel
theorem dX2_isEnded_36 : decode cX2_isEnded 36 = .ok (.goto (-34), 3) := by decide +kernel
theorem dX2_isEnded_39 : decode cX2_isEnded 39 = .ok (.iconst 1, 1) := by decide +kernel
theorem dX2_isEnded_40 : decode cX2_isEnded 40 = .ok (.ireturn, 1) := by decide +kernel
set_option maxRecDepth 20000 in
theorem ggX2_doUnit_X2_readRecord : GoodIn wsX2_doUnit wsX2_readRecord := goodIn_r _ [9, 2, 10, 11, 12, 13, 14, 15, 16, 17, 18, 19, 20, 21] (by decide +kernel) (by decide +kernel)
set_option maxRecDepth 20000 in
theorem gX2_doUnit_X2_readRecord : GoodIn wsX2_doUnit (wsV RX2 41 RX2 yX2_readRecord wsX2_readRecord) := goodIn_app (goodIn_of _ (by decide +kernel)) ggX2_doUnit_X2_readRecord
theorem dX2_doUnit_0 : decode cX2_doUnit 0 = .ok (.aload_n 0, 1) := by decide +kernel
theorem dX2_doUnit_1 : decode cX2_doUnit 1 = .ok (.getfield 19, 3) := by decide +kernel
theorem dX2_doUnit_4 : decode cX2_doUnit 4 = .ok (.istore_n 1, 1) := by decide +kernel
theorem dX2_doUnit_5 : decode cX2_doUnit 5 = .ok (.aload_n 0, 1) := by decide +kernel
theorem dX2_doUnit_6 : decode cX2_doUnit 6 = .ok (.iload_n 1, 1) := by decide +kernel
theorem dX2_doUnit_7 : decode cX2_doUnit 7 = .ok (.invokevirtual 41, 3) := by decide +kernel
theorem dX2_doUnit_10 : decode cX2_doUnit 10 = .ok (.lstore_n 2, 1) := by decide +kernel
theorem dX2_doUnit_11 : decode cX2_doUnit 11 = .ok (.aload_n 0, 1) := by decide +kernel
theorem dX2_doUnit_12 : decode cX2_doUnit 12 = .ok (.dup, 1) := by decide +kernel
theorem dX2_doUnit_13 : decode cX2_doUnit 13 = .ok (.getfield 19, 3) := by decide +kernel
theorem dX2_doUnit_16 : decode cX2_doUnit 16 = .ok (.iconst 1, 1) := by decide +kernel
theorem dX2_doUnit_17 : decode cX2_doUnit 17 = .ok (.iadd, 1) := by decide +kernel
theorem dX2_doUnit_18 : decode cX2_doUnit 18 = .ok (.putfield 19, 3) := by decide +kernel
theorem dX2_doUnit_21 : decode cX2_doUnit 21 = .ok (.aload_n 0, 1) := by decide +kernel
theorem dX2_doUnit_22 : decode cX2_doUnit 22 = .ok (.getfield 23, 3) := by decide +kernel
theorem dX2_doUnit_25 : decode cX2_doUnit 25 = .ok (.getfield 27, 3) := by decide +kernel
theorem dX2_doUnit_28 : decode cX2_doUnit 28 = .ok (.ifCond .ne 5, 3) := by decide +kernel
theorem dX2_doUnit_31 : decode cX2_doUnit 31 = .ok (.lconst 0, 1) := by decide +kernel
theorem dX2_doUnit_32 : decode cX2_doUnit 32 = .ok (.lreturn, 1) := by decide +kernel
theorem dX2_doUnit_33 : decode cX2_doUnit 33 = .ok (.iload_n 1, 1) := by decide +kernel
theorem dX2_doUnit_34 : decode cX2_doUnit 34 = .ok (.aload_n 0, 1) := by decide +kernel
theorem dX2_doUnit_35 : decode cX2_doUnit 35 = .ok (.getfield 23, 3) := by decide +kernel
theorem dX2_doUnit_38 : decode cX2_doUnit 38 = .ok (.getfield 27, 3) := by decide +kernel
theorem dX2_doUnit_41 : decode cX2_doUnit 41 = .ok (.irem, 1) := by decide +kernel
theorem dX2_doUnit_42 : decode cX2_doUnit 42 = .ok (.istore 4, 2) := by decide +kernel
theorem dX2_doUnit_44 : decode cX2_doUnit 44 = .ok (.aload_n 0, 1) := by decide +kernel
theorem dX2_doUnit_45 : decode cX2_doUnit 45 = .ok (.getfield 9, 3) := by decide +kernel
theorem dX2_doUnit_48 : decode cX2_doUnit 48 = .ok (.iload 4, 2) := by decide +kernel
theorem dX2_doUnit_50 : decode cX2_doUnit 50 = .ok (.dup2, 1) := by decide +kernel
theorem dX2_doUnit_51 : decode cX2_doUnit 51 = .ok (.laload, 1) := by decide +kernel
theorem dX2_doUnit_52 : decode cX2_doUnit 52 = .ok (.aload_n 0, 1) := by decide +kernel
theorem dX2_doUnit_53 : decode cX2_doUnit 53 = .ok (.getfield 19, 3) := by decide +kernel
theorem dX2_doUnit_56 : decode cX2_doUnit 56 = .ok (.i2l, 1) := by decide +kernel
theorem dX2_doUnit_57 : decode cX2_doUnit 57 = .ok (.lload_n 2, 1) := by decide +kernel
theorem dX2_doUnit_58 : decode cX2_doUnit 58 = .ok (.lmul, 1) := by decide +kernel
theorem dX2_doUnit_59 : decode cX2_doUnit 59 = .ok (.ladd, 1) := by decide +kernel
theorem dX2_doUnit_60 : decode cX2_doUnit 60 = .ok (.lastore, 1) := by decide +kernel
theorem dX2_doUnit_61 : decode cX2_doUnit 61 = .ok (.aload_n 0, 1) := by decide +kernel
theorem dX2_doUnit_62 : decode cX2_doUnit 62 = .ok (.getfield 9, 3) := by decide +kernel
theorem dX2_doUnit_65 : decode cX2_doUnit 65 = .ok (.iload 4, 2) := by decide +kernel
theorem dX2_doUnit_67 : decode cX2_doUnit 67 = .ok (.laload, 1) := by decide +kernel
theorem dX2_doUnit_68 : decode cX2_doUnit 68 = .ok (.lreturn, 1) := by decide +kernel
theorem dX2_readRecord_0 : decode cX2_readRecord 0 = .ok (.aload_n 0, 1) := by decide +kernel
theorem dX2_readRecord_1 : decode cX2_readRecord 1 = .ok (.getfield 23, 3) := by decide +kernel
theorem dX2_readRecord_4 : decode cX2_readRecord 4 = .ok (.getfield 35, 3) := by decide +kernel
theorem dX2_readRecord_7 : decode cX2_readRecord 7 = .ok (.ifCond .ne 5, 3) := by decide +kernel
theorem dX2_readRecord_10 : decode cX2_readRecord 10 = .ok (.lconst 0, 1) := by decide +kernel
theorem dX2_readRecord_11 : decode cX2_readRecord 11 = .ok (.lreturn, 1) := by decide +kernel
theorem dX2_readRecord_12 : decode cX2_readRecord 12 = .ok (.iload_n 1, 1) := by decide +kernel
theorem dX2_readRecord_13 : decode cX2_readRecord 13 = .ok (.aload_n 0, 1) := by decide +kernel
theorem dX2_readRecord_14 : decode cX2_readRecord 14 = .ok (.getfield 23, 3) := by decide +kernel
theorem dX2_readRecord_17 : decode cX2_readRecord 17 = .ok (.getfield 35, 3) := by decide +kernel
theorem dX2_readRecord_20 : decode cX2_readRecord 20 = .ok (.irem, 1) := by decide +kernel
theorem dX2_readRecord_21 : decode cX2_readRecord 21 = .ok (.istore_n 2, 1) := by decide +kernel
theorem dX2_readRecord_22 : decode cX2_readRecord 22 = .ok (.aload_n 0, 1) := by decide +kernel
theorem dX2_readRecord_23 : decode cX2_readRecord 23 = .ok (.getfield 15, 3) := by decide +kernel
theorem dX2_readRecord_26 : decode cX2_readRecord 26 = .ok (.iload_n 2, 1) := by decide +kernel
theorem dX2_readRecord_27 : decode cX2_readRecord 27 = .ok (.iaload, 1) := by decide +kernel
theorem dX2_readRecord_28 : decode cX2_readRecord 28 = .ok (.istore_n 3, 1) := by decide +kernel
theorem dX2_readRecord_29 : decode cX2_readRecord 29 = .ok (.iload_n 3, 1) := by decide +kernel
theorem dX2_readRecord_30 : decode cX2_readRecord 30 = .ok (.aload_n 0, 1) := by decide +kernel
theorem dX2_readRecord_31 : decode cX2_readRecord 31 = .ok (.getfield 23, 3) := by decide +kernel
theorem dX2_readRecord_34 : decode cX2_readRecord 34 = .ok (.getfield 38, 3) := by decide +kernel
theorem dX2_readRecord_37 : decode cX2_readRecord 37 = .ok (.iload_n 2, 1) := by decide +kernel
theorem dX2_readRecord_38 : decode cX2_readRecord 38 = .ok (.iaload, 1) := by decide +kernel
theorem dX2_readRecord_39 : decode cX2_readRecord 39 = .ok (.if_icmp .lt 5, 3) := by decide +kernel
theorem dX2_readRecord_42 : decode cX2_readRecord 42 = .ok (.lconst 0, 1) := by decide +kernel
theorem dX2_readRecord_43 : decode cX2_readRecord 43 = .ok (.lreturn, 1) := by decide +kernel
theorem dX2_readRecord_44 : decode cX2_readRecord 44 = .ok (.aload_n 0, 1) := by decide +kernel
theorem dX2_readRecord_45 : decode cX2_readRecord 45 = .ok (.getfield 15, 3) := by decide +kernel
theorem dX2_readRecord_48 : decode cX2_readRecord 48 = .ok (.iload_n 2, 1) := by decide +kernel
theorem dX2_readRecord_49 : decode cX2_readRecord 49 = .ok (.iload_n 3, 1) := by decide +kernel
theorem dX2_readRecord_50 : decode cX2_readRecord 50 = .ok (.iconst 1, 1) := by decide +kernel
theorem dX2_readRecord_51 : decode cX2_readRecord 51 = .ok (.iadd, 1) := by decide +kernel
theorem dX2_readRecord_52 : decode cX2_readRecord 52 = .ok (.iastore, 1) := by decide +kernel
theorem dX2_readRecord_53 : decode cX2_readRecord 53 = .ok (.ldc2_w 45, 3) := by decide +kernel
theorem dX2_readRecord_56 : decode cX2_readRecord 56 = .ok (.iload_n 2, 1) := by decide +kernel
theorem dX2_readRecord_57 : decode cX2_readRecord 57 = .ok (.iconst 1, 1) := by decide +kernel
theorem dX2_readRecord_58 : decode cX2_readRecord 58 = .ok (.iadd, 1) := by decide +kernel
theorem dX2_readRecord_59 : decode cX2_readRecord 59 = .ok (.i2l, 1) := by decide +kernel
theorem dX2_readRecord_60 : decode cX2_readRecord 60 = .ok (.lmul, 1) := by decide +kernel
theorem dX2_readRecord_61 : decode cX2_readRecord 61 = .ok (.iload_n 3, 1) := by decide +kernel
theorem dX2_readRecord_62 : decode cX2_readRecord 62 = .ok (.i2l, 1) := by decide +kernel
theorem dX2_readRecord_63 : decode cX2_readRecord 63 = .ok (.ladd, 1) := by decide +kernel
theorem dX2_readRecord_64 : decode cX2_readRecord 64 = .ok (.lreturn, 1) := by decide +kernel
theorem dX2_hasCellsOf_0 : decode cX2_hasCellsOf 0 = .ok (.iconst 0, 1) := by decide +kernel
theorem dX2_hasCellsOf_1 : decode cX2_hasCellsOf 1 = .ok (.istore_n 2, 1) := by decide +kernel
theorem dX2_hasCellsOf_2 : decode cX2_hasCellsOf 2 = .ok (.iload_n 2, 1) := by decide +kernel
theorem dX2_hasCellsOf_3 : decode cX2_hasCellsOf 3 = .ok (.aload_n 0, 1) := by decide +kernel
theorem dX2_hasCellsOf_4 : decode cX2_hasCellsOf 4 = .ok (.getfield 23, 3) := by decide +kernel
theorem dX2_hasCellsOf_7 : decode cX2_hasCellsOf 7 = .ok (.getfield 27, 3) := by decide +kernel
theorem dX2_hasCellsOf_10 : decode cX2_hasCellsOf 10 = .ok (.if_icmp .ge 27, 3) := by decide +kernel
theorem dX2_hasCellsOf_13 : decode cX2_hasCellsOf 13 = .ok (.aload_n 0, 1) := by decide +kernel
theorem dX2_hasCellsOf_14 : decode cX2_hasCellsOf 14 = .ok (.getfield 9, 3) := by decide +kernel
theorem dX2_hasCellsOf_17 : decode cX2_hasCellsOf 17 = .ok (.iload_n 2, 1) := by decide +kernel
theorem dX2_hasCellsOf_18 : decode cX2_hasCellsOf 18 = .ok (.laload, 1) := by decide +kernel
theorem dX2_hasCellsOf_19 : decode cX2_hasCellsOf 19 = .ok (.aload_n 1, 1) := by decide +kernel
theorem dX2_hasCellsOf_20 : decode cX2_hasCellsOf 20 = .ok (.getfield 9, 3) := by decide +kernel
theorem dX2_hasCellsOf_23 : decode cX2_hasCellsOf 23 = .ok (.iload_n 2, 1) := by decide +kernel
theorem dX2_hasCellsOf_24 : decode cX2_hasCellsOf 24 = .ok (.laload, 1) := by decide +kernel
theorem dX2_hasCellsOf_25 : decode cX2_hasCellsOf 25 = .ok (.lcmp, 1) := by decide +kernel
theorem dX2_hasCellsOf_26 : decode cX2_hasCellsOf 26 = .ok (.ifCond .eq 5, 3) := by decide +kernel
theorem dX2_hasCellsOf_29 : decode cX2_hasCellsOf 29 = .ok (.iconst 0, 1) := by decide +kernel
theorem dX2_hasCellsOf_30 : decode cX2_hasCellsOf 30 = .ok (.ireturn, 1) := by decide +kernel
theorem dX2_hasCellsOf_31 : decode cX2_hasCellsOf 31 = .ok (.iinc 2 1, 3) := by decide +kernel
theorem dX2_hasCellsOf_34 : decode cX2_hasCellsOf 34 = .ok (.goto (-32), 3) := by decide +kernel
theorem dX2_hasCellsOf_37 : decode cX2_hasCellsOf 37 = .ok (.iconst 1, 1) := by decide +kernel
theorem dX2_hasCellsOf_38 : decode cX2_hasCellsOf 38 = .ok (.ireturn, 1) := by decide +kernel
set_option maxRecDepth 20000 in
theorem ggX3_init_X1_init : GoodIn wsX3_init wsX1_init := goodIn_r _ [24, 25, 2, 3, 13, 26, 27, 28, 29, 30, 50, 51, 52, 53] (by decide +kernel) (by decide +kernel)
set_option maxRecDepth 20000 in
theorem gX3_init_X1_init_n9 : GoodIn wsX3_init (wsX1_init) := ggX3_init_X1_init
set_option maxRecDepth 20000 in
theorem ggX3_init_X2_init : GoodIn wsX3_init wsX2_init := goodIn_r _ [33, 34, 2, 3, 13, 35, 27, 36, 37, 38, 63, 64, 65, 66] (by decide +kernel) (by decide +kernel)
set_option maxRecDepth 20000 in
theorem gX3_init_X2_init : GoodIn wsX3_init (wsX2_init) := ggX3_init_X2_init
set_option maxRecDepth 20000 in
theorem ggX3_init_X0_init : GoodIn wsX3_init wsX0_init := goodIn_r _ [40, 41, 2, 3, 42, 43, 27, 44, 45, 46, 13, 47, 48, 49, 67, 68, 69, 70, 71, 72, 73] (by decide +kernel) (by decide +kernel)
set_option maxRecDepth 20000 in
theorem gX3_init_X0_init_n34 : GoodIn wsX3_init (wsX0_init) := ggX3_init_X0_init
