def RX0 : String := "JobTests$Job"
def TX0 : u_T := fun k => match k with
  | 0 => ("JobTests$Job", "size", "I", false)
  | 1 => ("JobTests$Job", "signs", "[I", true)
  | 2 => ("JobTests$Job", "acts", "[I", true)
  | _ => ("JobTests$Job", "numbers", "[I", true)
def tyX0 : Nat → FieldType := fun k => match k with
  | 0 => .int
  | 1 => .array .int
  | 2 => .array .int
  | _ => .array .int
theorem nmX0 : ∀ a, a < 4 → ∀ b, b < 4 → a ≠ b → (TX0 a).2.1 ≠ (TX0 b).2.1 := by decide +kernel
theorem tyX0_ok : ∀ k, k < 4 → parseFieldDescriptor (TX0 k).2.2.1 = some (tyX0 k) := by decide +kernel
def RX1 : String := "JobTests$Judge"
def TX1 : u_T := fun k => match k with
  | 0 => ("JobTests$Judge", "sortedOuts", "LJobTests$Rows;", true)
  | _ => ("JobTests$Judge", "sortedTold", "LJobTests$Rows;", true)
def tyX1 : Nat → FieldType := fun k => match k with
  | 0 => .object "JobTests$Rows"
  | _ => .object "JobTests$Rows"
theorem nmX1 : ∀ a, a < 2 → ∀ b, b < 2 → a ≠ b → (TX1 a).2.1 ≠ (TX1 b).2.1 := by decide +kernel
theorem tyX1_ok : ∀ k, k < 2 → parseFieldDescriptor (TX1 k).2.2.1 = some (tyX1 k) := by decide +kernel
def RX2 : String := "JobTests$Memory"
def TX2 : u_T := fun k => match k with
  | 0 => ("JobTests$Memory", "ofA", "I", false)
  | 1 => ("JobTests$Memory", "ofB", "I", false)
  | 2 => ("JobTests$Memory", "w", "I", false)
  | 3 => ("JobTests$Memory", "side", "I", false)
  | _ => ("JobTests$Memory", "steps", "[LJobTests$StepMemory;", true)
def tyX2 : Nat → FieldType := fun k => match k with
  | 0 => .int
  | 1 => .int
  | 2 => .int
  | 3 => .int
  | _ => .array (.object "JobTests$StepMemory")
theorem nmX2 : ∀ a, a < 5 → ∀ b, b < 5 → a ≠ b → (TX2 a).2.1 ≠ (TX2 b).2.1 := by decide +kernel
theorem tyX2_ok : ∀ k, k < 5 → parseFieldDescriptor (TX2 k).2.2.1 = some (tyX2 k) := by decide +kernel
def RX3 : String := "JobTests$Order"
def TX3 : u_T := fun k => match k with
  | 0 => ("JobTests$Order", "places", "[I", true)
  | _ => ("JobTests$Order", "size", "I", false)
def tyX3 : Nat → FieldType := fun k => match k with
  | 0 => .array .int
  | _ => .int
theorem nmX3 : ∀ a, a < 2 → ∀ b, b < 2 → a ≠ b → (TX3 a).2.1 ≠ (TX3 b).2.1 := by decide +kernel
theorem tyX3_ok : ∀ k, k < 2 → parseFieldDescriptor (TX3 k).2.2.1 = some (tyX3 k) := by decide +kernel
def RX4 : String := "JobTests$Reader"
def TX4 : u_T := fun k => match k with
  | 0 => ("JobTests$Reader", "signs", "[C", false)
  | 1 => ("JobTests$Reader", "length", "I", false)
  | 2 => ("JobTests$Reader", "number", "I", false)
  | _ => ("JobTests$Reader", "place", "I", false)
def tyX4 : Nat → FieldType := fun k => match k with
  | 0 => .array .char
  | 1 => .int
  | 2 => .int
  | _ => .int
theorem nmX4 : ∀ a, a < 4 → ∀ b, b < 4 → a ≠ b → (TX4 a).2.1 ≠ (TX4 b).2.1 := by decide +kernel
theorem tyX4_ok : ∀ k, k < 4 → parseFieldDescriptor (TX4 k).2.2.1 = some (tyX4 k) := by decide +kernel
def RX5 : String := "JobTests$Rows"
def TX5 : u_T := fun k => match k with
  | 0 => ("JobTests$Rows", "packed", "[J", true)
  | _ => ("JobTests$Rows", "size", "I", false)
def tyX5 : Nat → FieldType := fun k => match k with
  | 0 => .array .long
  | _ => .int
theorem nmX5 : ∀ a, a < 2 → ∀ b, b < 2 → a ≠ b → (TX5 a).2.1 ≠ (TX5 b).2.1 := by decide +kernel
theorem tyX5_ok : ∀ k, k < 2 → parseFieldDescriptor (TX5 k).2.2.1 = some (tyX5 k) := by decide +kernel
def RX6 : String := "JobTests$Runner"
def TX6 : u_T := fun k => match k with
  | 0 => ("JobTests$Runner", "job", "LJobTests$Job;", false)
  | 1 => ("JobTests$Runner", "memory", "LJobTests$Memory;", true)
  | 2 => ("JobTests$Runner", "saved", "LJobTests$Memory;", true)
  | 3 => ("JobTests$Runner", "outs", "LJobTests$Rows;", true)
  | 4 => ("JobTests$Runner", "given", "I", false)
  | 5 => ("JobTests$Runner", "looksAtA", "Z", false)
  | 6 => ("JobTests$Runner", "looksAtB", "Z", false)
  | 7 => ("JobTests$Runner", "zeroStep", "I", false)
  | 8 => ("JobTests$Runner", "done", "I", false)
  | 9 => ("JobTests$Runner", "wholeOf", "I", false)
  | _ => ("JobTests$Runner", "tally", "[I", true)
def tyX6 : Nat → FieldType := fun k => match k with
  | 0 => .object "JobTests$Job"
  | 1 => .object "JobTests$Memory"
  | 2 => .object "JobTests$Memory"
  | 3 => .object "JobTests$Rows"
  | 4 => .int
  | 5 => .boolean
  | 6 => .boolean
  | 7 => .int
  | 8 => .int
  | 9 => .int
  | _ => .array .int
theorem nmX6 : ∀ a, a < 11 → ∀ b, b < 11 → a ≠ b → (TX6 a).2.1 ≠ (TX6 b).2.1 := by decide +kernel
theorem tyX6_ok : ∀ k, k < 11 → parseFieldDescriptor (TX6 k).2.2.1 = some (tyX6 k) := by decide +kernel
def RX7 : String := "JobTests$Schedules"
def TX7 : u_T := fun k => match k with
  | 0 => ("JobTests$Schedules", "bits", "[I", true)
  | 1 => ("JobTests$Schedules", "ends", "[I", true)
  | 2 => ("JobTests$Schedules", "size", "I", false)
  | 3 => ("JobTests$Schedules", "listedA", "I", false)
  | _ => ("JobTests$Schedules", "listedB", "I", false)
def tyX7 : Nat → FieldType := fun k => match k with
  | 0 => .array .int
  | 1 => .array .int
  | 2 => .int
  | 3 => .int
  | _ => .int
theorem nmX7 : ∀ a, a < 5 → ∀ b, b < 5 → a ≠ b → (TX7 a).2.1 ≠ (TX7 b).2.1 := by decide +kernel
theorem tyX7_ok : ∀ k, k < 5 → parseFieldDescriptor (TX7 k).2.2.1 = some (tyX7 k) := by decide +kernel
def RX8 : String := "JobTests$Script"
def TX8 : u_T := fun k => match k with
  | 0 => ("JobTests$Script", "job", "LJobTests$Job;", true)
  | 1 => ("JobTests$Script", "cases", "[LJobTests$TestCase;", true)
  | _ => ("JobTests$Script", "size", "I", false)
def tyX8 : Nat → FieldType := fun k => match k with
  | 0 => .object "JobTests$Job"
  | 1 => .array (.object "JobTests$TestCase")
  | _ => .int
theorem nmX8 : ∀ a, a < 3 → ∀ b, b < 3 → a ≠ b → (TX8 a).2.1 ≠ (TX8 b).2.1 := by decide +kernel
theorem tyX8_ok : ∀ k, k < 3 → parseFieldDescriptor (TX8 k).2.2.1 = some (tyX8 k) := by decide +kernel
def RX9 : String := "JobTests$StepMemory"
def TX9 : u_T := fun k => match k with
  | 0 => ("JobTests$StepMemory", "toldW", "I", false)
  | 1 => ("JobTests$StepMemory", "sums", "[I", true)
  | 2 => ("JobTests$StepMemory", "timers", "[I", true)
  | 3 => ("JobTests$StepMemory", "marks", "[J", true)
  | 4 => ("JobTests$StepMemory", "counts", "[I", true)
  | _ => ("JobTests$StepMemory", "size", "I", false)
def tyX9 : Nat → FieldType := fun k => match k with
  | 0 => .int
  | 1 => .array .int
  | 2 => .array .int
  | 3 => .array .long
  | 4 => .array .int
  | _ => .int
theorem nmX9 : ∀ a, a < 6 → ∀ b, b < 6 → a ≠ b → (TX9 a).2.1 ≠ (TX9 b).2.1 := by decide +kernel
theorem tyX9_ok : ∀ k, k < 6 → parseFieldDescriptor (TX9 k).2.2.1 = some (tyX9 k) := by decide +kernel
def RX10 : String := "JobTests$TestCase"
def TX10 : u_T := fun k => match k with
  | 0 => ("JobTests$TestCase", "size", "I", false)
  | 1 => ("JobTests$TestCase", "signs", "[I", true)
  | 2 => ("JobTests$TestCase", "keys", "[I", true)
  | 3 => ("JobTests$TestCase", "values", "[I", true)
  | 4 => ("JobTests$TestCase", "times", "[I", true)
  | 5 => ("JobTests$TestCase", "told", "LJobTests$Rows;", true)
  | 6 => ("JobTests$TestCase", "orderSign", "I", false)
  | 7 => ("JobTests$TestCase", "keptSize", "I", false)
  | 8 => ("JobTests$TestCase", "kept", "[I", true)
  | 9 => ("JobTests$TestCase", "checked", "I", false)
  | 10 => ("JobTests$TestCase", "unequalSize", "I", false)
  | _ => ("JobTests$TestCase", "unequal", "[I", true)
def tyX10 : Nat → FieldType := fun k => match k with
  | 0 => .int
  | 1 => .array .int
  | 2 => .array .int
  | 3 => .array .int
  | 4 => .array .int
  | 5 => .object "JobTests$Rows"
  | 6 => .int
  | 7 => .int
  | 8 => .array .int
  | 9 => .int
  | 10 => .int
  | _ => .array .int
theorem nmX10 : ∀ a, a < 12 → ∀ b, b < 12 → a ≠ b → (TX10 a).2.1 ≠ (TX10 b).2.1 := by decide +kernel
theorem tyX10_ok : ∀ k, k < 12 → parseFieldDescriptor (TX10 k).2.2.1 = some (tyX10 k) := by decide +kernel
def RX11 : String := "JobTests"
def TX11 : u_T := fun k => match k with
  | 0 => ("JobTests", "text", "[C", true)
  | 1 => ("JobTests", "length", "I", false)
  | 2 => ("JobTests", "script", "LJobTests$Script;", false)
  | 3 => ("JobTests", "draft", "LJobTests$Script;", false)
  | 4 => ("JobTests", "reader", "LJobTests$Reader;", true)
  | 5 => ("JobTests", "runner", "LJobTests$Runner;", true)
  | 6 => ("JobTests", "judge", "LJobTests$Judge;", true)
  | 7 => ("JobTests", "order", "LJobTests$Order;", true)
  | 8 => ("JobTests", "trial", "LJobTests$Order;", true)
  | 9 => ("JobTests", "lists", "LJobTests$Schedules;", true)
  | 10 => ("JobTests", "changed", "LJobTests$Job;", true)
  | 11 => ("JobTests", "plainRows", "LJobTests$Rows;", true)
  | 12 => ("JobTests", "plainZero", "Z", false)
  | 13 => ("JobTests", "kills", "[I", true)
  | 14 => ("JobTests", "killsKnown", "Z", false)
  | 15 => ("JobTests", "covered", "[I", true)
  | _ => ("JobTests", "coverKnown", "Z", false)
def tyX11 : Nat → FieldType := fun k => match k with
  | 0 => .array .char
  | 1 => .int
  | 2 => .object "JobTests$Script"
  | 3 => .object "JobTests$Script"
  | 4 => .object "JobTests$Reader"
  | 5 => .object "JobTests$Runner"
  | 6 => .object "JobTests$Judge"
  | 7 => .object "JobTests$Order"
  | 8 => .object "JobTests$Order"
  | 9 => .object "JobTests$Schedules"
  | 10 => .object "JobTests$Job"
  | 11 => .object "JobTests$Rows"
  | 12 => .boolean
  | 13 => .array .int
  | 14 => .boolean
  | 15 => .array .int
  | _ => .boolean
theorem nmX11 : ∀ a, a < 17 → ∀ b, b < 17 → a ≠ b → (TX11 a).2.1 ≠ (TX11 b).2.1 := by decide +kernel
theorem tyX11_ok : ∀ k, k < 17 → parseFieldDescriptor (TX11 k).2.2.1 = some (tyX11 k) := by decide +kernel
def RX12 : String := "JobTestsModel"
def TX12 : u_T := fun k => match k with
  | 0 => ("JobTestsModel", "text", "[C", true)
  | 1 => ("JobTestsModel", "length", "I", false)
  | 2 => ("JobTestsModel", "steps", "I", false)
  | 3 => ("JobTestsModel", "sign", "[C", true)
  | 4 => ("JobTestsModel", "act", "[C", true)
  | 5 => ("JobTestsModel", "number", "[I", true)
  | 6 => ("JobTestsModel", "cases", "I", false)
  | 7 => ("JobTestsModel", "eventMany", "[I", true)
  | 8 => ("JobTestsModel", "eventSign", "[C", true)
  | 9 => ("JobTestsModel", "eventKey", "[B", true)
  | 10 => ("JobTestsModel", "eventValue", "[S", true)
  | 11 => ("JobTestsModel", "eventTime", "[S", true)
  | 12 => ("JobTestsModel", "outMany", "[I", true)
  | 13 => ("JobTestsModel", "outKey", "[B", true)
  | 14 => ("JobTestsModel", "outValue", "[S", true)
  | 15 => ("JobTestsModel", "outTime", "[S", true)
  | 16 => ("JobTestsModel", "want", "[C", true)
  | 17 => ("JobTestsModel", "at", "I", false)
  | 18 => ("JobTestsModel", "keeps", "Z", false)
  | 19 => ("JobTestsModel", "wrong", "I", false)
  | 20 => ("JobTestsModel", "read", "I", false)
  | 21 => ("JobTestsModel", "readSteps", "I", false)
  | 22 => ("JobTestsModel", "readCases", "I", false)
  | 23 => ("JobTestsModel", "timers", "I", false)
  | 24 => ("JobTestsModel", "key", "I", false)
  | 25 => ("JobTestsModel", "value", "I", false)
  | 26 => ("JobTestsModel", "moment", "I", false)
  | 27 => ("JobTestsModel", "many", "I", false)
  | 28 => ("JobTestsModel", "nowSign", "[C", true)
  | 29 => ("JobTestsModel", "nowAct", "[C", true)
  | 30 => ("JobTestsModel", "nowNumber", "[I", true)
  | 31 => ("JobTestsModel", "state", "[I", true)
  | 32 => ("JobTestsModel", "aside", "[I", true)
  | 33 => ("JobTestsModel", "heldMany", "I", false)
  | 34 => ("JobTestsModel", "heldKey", "[B", true)
  | 35 => ("JobTestsModel", "heldValue", "[I", true)
  | 36 => ("JobTestsModel", "heldTime", "[I", true)
  | 37 => ("JobTestsModel", "givenMany", "I", false)
  | 38 => ("JobTestsModel", "givenKey", "[B", true)
  | 39 => ("JobTestsModel", "givenValue", "[I", true)
  | 40 => ("JobTestsModel", "givenTime", "[I", true)
  | 41 => ("JobTestsModel", "zero", "Z", false)
  | 42 => ("JobTestsModel", "zeroStep", "I", false)
  | 43 => ("JobTestsModel", "done", "I", false)
  | 44 => ("JobTestsModel", "looksA", "Z", false)
  | 45 => ("JobTestsModel", "looksB", "Z", false)
  | 46 => ("JobTestsModel", "covers", "Z", false)
  | 47 => ("JobTestsModel", "covered", "[I", true)
  | 48 => ("JobTestsModel", "rowKey", "I", false)
  | 49 => ("JobTestsModel", "rowValue", "I", false)
  | 50 => ("JobTestsModel", "rowTime", "I", false)
  | 51 => ("JobTestsModel", "plan", "[I", true)
  | 52 => ("JobTestsModel", "planned", "I", false)
  | 53 => ("JobTestsModel", "oneMany", "I", false)
  | 54 => ("JobTestsModel", "oneKey", "[B", true)
  | 55 => ("JobTestsModel", "oneValue", "[I", true)
  | 56 => ("JobTestsModel", "oneTime", "[I", true)
  | 57 => ("JobTestsModel", "otherMany", "I", false)
  | 58 => ("JobTestsModel", "otherKey", "[B", true)
  | 59 => ("JobTestsModel", "otherValue", "[I", true)
  | 60 => ("JobTestsModel", "otherTime", "[I", true)
  | 61 => ("JobTestsModel", "ofA", "I", false)
  | 62 => ("JobTestsModel", "ofB", "I", false)
  | 63 => ("JobTestsModel", "bits", "I", false)
  | 64 => ("JobTestsModel", "place", "I", false)
  | 65 => ("JobTestsModel", "left", "I", false)
  | 66 => ("JobTestsModel", "plainZero", "Z", false)
  | 67 => ("JobTestsModel", "keptMany", "I", false)
  | 68 => ("JobTestsModel", "kept", "[I", true)
  | 69 => ("JobTestsModel", "mutantStep", "I", false)
  | _ => ("JobTestsModel", "mutantPlace", "I", false)
def tyX12 : Nat → FieldType := fun k => match k with
  | 0 => .array .char
  | 1 => .int
  | 2 => .int
  | 3 => .array .char
  | 4 => .array .char
  | 5 => .array .int
  | 6 => .int
  | 7 => .array .int
  | 8 => .array .char
  | 9 => .array .byte
  | 10 => .array .short
  | 11 => .array .short
  | 12 => .array .int
  | 13 => .array .byte
  | 14 => .array .short
  | 15 => .array .short
  | 16 => .array .char
  | 17 => .int
  | 18 => .boolean
  | 19 => .int
  | 20 => .int
  | 21 => .int
  | 22 => .int
  | 23 => .int
  | 24 => .int
  | 25 => .int
  | 26 => .int
  | 27 => .int
  | 28 => .array .char
  | 29 => .array .char
  | 30 => .array .int
  | 31 => .array .int
  | 32 => .array .int
  | 33 => .int
  | 34 => .array .byte
  | 35 => .array .int
  | 36 => .array .int
  | 37 => .int
  | 38 => .array .byte
  | 39 => .array .int
  | 40 => .array .int
  | 41 => .boolean
  | 42 => .int
  | 43 => .int
  | 44 => .boolean
  | 45 => .boolean
  | 46 => .boolean
  | 47 => .array .int
  | 48 => .int
  | 49 => .int
  | 50 => .int
  | 51 => .array .int
  | 52 => .int
  | 53 => .int
  | 54 => .array .byte
  | 55 => .array .int
  | 56 => .array .int
  | 57 => .int
  | 58 => .array .byte
  | 59 => .array .int
  | 60 => .array .int
  | 61 => .int
  | 62 => .int
  | 63 => .int
  | 64 => .int
  | 65 => .int
  | 66 => .boolean
  | 67 => .int
  | 68 => .array .int
  | 69 => .int
  | _ => .int
theorem nmX12 : ∀ a, a < 71 → ∀ b, b < 71 → a ≠ b → (TX12 a).2.1 ≠ (TX12 b).2.1 := by decide +kernel
theorem tyX12_ok : ∀ k, k < 71 → parseFieldDescriptor (TX12 k).2.2.1 = some (tyX12 k) := by decide +kernel
def RL : String := "JobTestsLaw"
def RJ6 : String := "java/lang/Integer"
def RJ0 : String := "java/lang/String"
def RJ1 : String := "java/lang/StringLatin1"
def RJ3 : String := "jdk/internal/util/Preconditions"
abbrev vwCl : List vw_C := [(RX0, TX0, 4), (RX1, TX1, 2), (RX2, TX2, 5), (RX3, TX3, 2), (RX4, TX4, 4), (RX5, TX5, 2), (RX6, TX6, 11), (RX7, TX7, 5), (RX8, TX8, 3), (RX9, TX9, 6), (RX10, TX10, 12), (RX11, TX11, 17), (RX12, TX12, 71)]
def px_tys : List (Nat → FieldType) := [tyX0, tyX1, tyX2, tyX3, tyX4, tyX5, tyX6, tyX7, tyX8, tyX9, tyX10, tyX11, tyX12]
theorem inX0 : ∀ w ∈ u_ws RX0 TX0 4, w ∈ lw_tbl := by decide +kernel
theorem inX1 : ∀ w ∈ u_ws RX1 TX1 2, w ∈ lw_tbl := by decide +kernel
theorem inX2 : ∀ w ∈ u_ws RX2 TX2 5, w ∈ lw_tbl := by decide +kernel
theorem inX3 : ∀ w ∈ u_ws RX3 TX3 2, w ∈ lw_tbl := by decide +kernel
theorem inX4 : ∀ w ∈ u_ws RX4 TX4 4, w ∈ lw_tbl := by decide +kernel
theorem inX5 : ∀ w ∈ u_ws RX5 TX5 2, w ∈ lw_tbl := by decide +kernel
theorem inX6 : ∀ w ∈ u_ws RX6 TX6 11, w ∈ lw_tbl := by decide +kernel
theorem inX7 : ∀ w ∈ u_ws RX7 TX7 5, w ∈ lw_tbl := by decide +kernel
theorem inX8 : ∀ w ∈ u_ws RX8 TX8 3, w ∈ lw_tbl := by decide +kernel
theorem inX9 : ∀ w ∈ u_ws RX9 TX9 6, w ∈ lw_tbl := by decide +kernel
theorem inX10 : ∀ w ∈ u_ws RX10 TX10 12, w ∈ lw_tbl := by decide +kernel
theorem inX11 : ∀ w ∈ u_ws RX11 TX11 17, w ∈ lw_tbl := by decide +kernel
theorem inX12 : ∀ w ∈ u_ws RX12 TX12 71, w ∈ lw_tbl := by decide +kernel
