def RX7 : String := "QuantityQuarry"
def TX7 : u_T := fun k => match k with
  | 0 => ("QuantityQuarry", "protocol", "LQuantityQuarry$Protocol;", true)
  | 1 => ("QuantityQuarry", "parties", "[LQuantityQuarry$Party;", true)
  | 2 => ("QuantityQuarry", "checker", "LQuantityQuarry$Checker;", true)
  | 3 => ("QuantityQuarry", "live", "LQuantityQuarry$RunState;", true)
  | 4 => ("QuantityQuarry", "explorer", "LQuantityQuarry$Explorer;", true)
  | 5 => ("QuantityQuarry", "stepsBeforeBlame", "[I", true)
  | 6 => ("QuantityQuarry", "isInRun", "Z", false)
  | 7 => ("QuantityQuarry", "allWereAdmitted", "Z", false)
  | 8 => ("QuantityQuarry", "anyCancelCall", "Z", false)
  | 9 => ("QuantityQuarry", "stepsOfRun", "I", false)
  | _ => ("QuantityQuarry", "stepsOfAllRuns", "J", false)
def tyX7 : Nat → FieldType := fun k => match k with
  | 0 => .object "QuantityQuarry$Protocol"
  | 1 => .array (.object "QuantityQuarry$Party")
  | 2 => .object "QuantityQuarry$Checker"
  | 3 => .object "QuantityQuarry$RunState"
  | 4 => .object "QuantityQuarry$Explorer"
  | 5 => .array .int
  | 6 => .boolean
  | 7 => .boolean
  | 8 => .boolean
  | 9 => .int
  | _ => .long
theorem nmX7 : ∀ a, a < 11 → ∀ b, b < 11 → a ≠ b → (TX7 a).2.1 ≠ (TX7 b).2.1 := by decide +kernel
theorem tyX7_ok : ∀ k, k < 11 → parseFieldDescriptor (TX7 k).2.2.1 = some (tyX7 k) := by decide +kernel
def RX5 : String := "QuantityQuarry$Protocol"
def TX5 : u_T := fun k => match k with
  | 0 => ("QuantityQuarry$Protocol", "senders", "[I", true)
  | 1 => ("QuantityQuarry$Protocol", "receivers", "[I", true)
  | 2 => ("QuantityQuarry$Protocol", "labelSets", "[I", true)
  | 3 => ("QuantityQuarry$Protocol", "cellLabelSets", "[I", true)
  | 4 => ("QuantityQuarry$Protocol", "targetSets", "[I", true)
  | 5 => ("QuantityQuarry$Protocol", "targets", "[I", true)
  | 6 => ("QuantityQuarry$Protocol", "nodeCount", "I", false)
  | 7 => ("QuantityQuarry$Protocol", "start", "I", false)
  | _ => ("QuantityQuarry$Protocol", "version", "I", false)
def tyX5 : Nat → FieldType := fun k => match k with
  | 0 => .array .int
  | 1 => .array .int
  | 2 => .array .int
  | 3 => .array .int
  | 4 => .array .int
  | 5 => .array .int
  | 6 => .int
  | 7 => .int
  | _ => .int
theorem nmX5 : ∀ a, a < 9 → ∀ b, b < 9 → a ≠ b → (TX5 a).2.1 ≠ (TX5 b).2.1 := by decide +kernel
theorem tyX5_ok : ∀ k, k < 9 → parseFieldDescriptor (TX5 k).2.2.1 = some (tyX5 k) := by decide +kernel
def RX0 : String := "QuantityQuarry$Checker"
def TX0 : u_T := fun k => match k with
  | 0 => ("QuantityQuarry$Checker", "found", "[I", true)
  | 1 => ("QuantityQuarry$Checker", "seen", "[I", true)
  | 2 => ("QuantityQuarry$Checker", "takenCases", "[I", true)
  | _ => ("QuantityQuarry$Checker", "foundCount", "I", false)
def tyX0 : Nat → FieldType := fun k => match k with
  | 0 => .array .int
  | 1 => .array .int
  | 2 => .array .int
  | _ => .int
theorem nmX0 : ∀ a, a < 4 → ∀ b, b < 4 → a ≠ b → (TX0 a).2.1 ≠ (TX0 b).2.1 := by decide +kernel
theorem tyX0_ok : ∀ k, k < 4 → parseFieldDescriptor (TX0 k).2.2.1 = some (tyX0 k) := by decide +kernel
def RX6 : String := "QuantityQuarry$RunState"
def TX6 : u_T := fun k => match k with
  | 0 => ("QuantityQuarry$RunState", "row", "[I", true)
  | _ => ("QuantityQuarry$RunState", "holders", "[I", true)
def tyX6 : Nat → FieldType := fun k => match k with
  | 0 => .array .int
  | _ => .array .int
theorem nmX6 : ∀ a, a < 2 → ∀ b, b < 2 → a ≠ b → (TX6 a).2.1 ≠ (TX6 b).2.1 := by decide +kernel
theorem tyX6_ok : ∀ k, k < 2 → parseFieldDescriptor (TX6 k).2.2.1 = some (tyX6 k) := by decide +kernel
def RX1 : String := "QuantityQuarry$Explorer"
def TX1 : u_T := fun k => match k with
  | 0 => ("QuantityQuarry$Explorer", "rows", "[I", true)
  | 1 => ("QuantityQuarry$Explorer", "slots", "[I", true)
  | 2 => ("QuantityQuarry$Explorer", "trial", "LQuantityQuarry$RunState;", true)
  | 3 => ("QuantityQuarry$Explorer", "count", "I", false)
  | 4 => ("QuantityQuarry$Explorer", "stuckCount", "I", false)
  | 5 => ("QuantityQuarry$Explorer", "isTooMuch", "Z", false)
  | _ => ("QuantityQuarry$Explorer", "isFresh", "Z", false)
def tyX1 : Nat → FieldType := fun k => match k with
  | 0 => .array .int
  | 1 => .array .int
  | 2 => .object "QuantityQuarry$RunState"
  | 3 => .int
  | 4 => .int
  | 5 => .boolean
  | _ => .boolean
theorem nmX1 : ∀ a, a < 7 → ∀ b, b < 7 → a ≠ b → (TX1 a).2.1 ≠ (TX1 b).2.1 := by decide +kernel
theorem tyX1_ok : ∀ k, k < 7 → parseFieldDescriptor (TX1 k).2.2.1 = some (tyX1 k) := by decide +kernel
def RX2 : String := "QuantityQuarry$Party"
def TX2 : u_T := fun k => match k with
  | 0 => ("QuantityQuarry$Party", "number", "I", true)
  | 1 => ("QuantityQuarry$Party", "program", "LQuantityQuarry$Program;", true)
  | 2 => ("QuantityQuarry$Party", "projection", "LQuantityQuarry$Projection;", true)
  | 3 => ("QuantityQuarry$Party", "numbers", "[I", true)
  | 4 => ("QuantityQuarry$Party", "hasMonitor", "Z", false)
  | 5 => ("QuantityQuarry$Party", "checkedProtocol", "I", false)
  | 6 => ("QuantityQuarry$Party", "checkedProgram", "I", false)
  | 7 => ("QuantityQuarry$Party", "faultReason", "I", false)
  | 8 => ("QuantityQuarry$Party", "faultInstruction", "I", false)
  | 9 => ("QuantityQuarry$Party", "placeCount", "I", false)
  | _ => ("QuantityQuarry$Party", "idleCaseCount", "I", false)
def tyX2 : Nat → FieldType := fun k => match k with
  | 0 => .int
  | 1 => .object "QuantityQuarry$Program"
  | 2 => .object "QuantityQuarry$Projection"
  | 3 => .array .int
  | 4 => .boolean
  | 5 => .int
  | 6 => .int
  | 7 => .int
  | 8 => .int
  | 9 => .int
  | _ => .int
theorem nmX2 : ∀ a, a < 11 → ∀ b, b < 11 → a ≠ b → (TX2 a).2.1 ≠ (TX2 b).2.1 := by decide +kernel
theorem tyX2_ok : ∀ k, k < 11 → parseFieldDescriptor (TX2 k).2.2.1 = some (tyX2 k) := by decide +kernel
def RX3 : String := "QuantityQuarry$Program"
def TX3 : u_T := fun k => match k with
  | 0 => ("QuantityQuarry$Program", "kinds", "[I", true)
  | 1 => ("QuantityQuarry$Program", "firsts", "[I", true)
  | 2 => ("QuantityQuarry$Program", "seconds", "[I", true)
  | 3 => ("QuantityQuarry$Program", "thirds", "[I", true)
  | 4 => ("QuantityQuarry$Program", "caseSets", "[I", true)
  | 5 => ("QuantityQuarry$Program", "caseNames", "[I", true)
  | 6 => ("QuantityQuarry$Program", "caseNexts", "[I", true)
  | 7 => ("QuantityQuarry$Program", "instructionCount", "I", false)
  | _ => ("QuantityQuarry$Program", "version", "I", false)
def tyX3 : Nat → FieldType := fun k => match k with
  | 0 => .array .int
  | 1 => .array .int
  | 2 => .array .int
  | 3 => .array .int
  | 4 => .array .int
  | 5 => .array .int
  | 6 => .array .int
  | 7 => .int
  | _ => .int
theorem nmX3 : ∀ a, a < 9 → ∀ b, b < 9 → a ≠ b → (TX3 a).2.1 ≠ (TX3 b).2.1 := by decide +kernel
theorem tyX3_ok : ∀ k, k < 9 → parseFieldDescriptor (TX3 k).2.2.1 = some (tyX3 k) := by decide +kernel
def RX4 : String := "QuantityQuarry$Projection"
def TX4 : u_T := fun k => match k with
  | 0 => ("QuantityQuarry$Projection", "nodeSets", "[I", true)
  | 1 => ("QuantityQuarry$Projection", "kinds", "[I", true)
  | 2 => ("QuantityQuarry$Projection", "partners", "[I", true)
  | 3 => ("QuantityQuarry$Projection", "labelSets", "[I", true)
  | 4 => ("QuantityQuarry$Projection", "cellLabelSets", "[I", true)
  | 5 => ("QuantityQuarry$Projection", "followers", "[I", true)
  | 6 => ("QuantityQuarry$Projection", "stateCount", "I", false)
  | 7 => ("QuantityQuarry$Projection", "reason", "I", false)
  | _ => ("QuantityQuarry$Projection", "version", "I", false)
def tyX4 : Nat → FieldType := fun k => match k with
  | 0 => .array .int
  | 1 => .array .int
  | 2 => .array .int
  | 3 => .array .int
  | 4 => .array .int
  | 5 => .array .int
  | 6 => .int
  | 7 => .int
  | _ => .int
theorem nmX4 : ∀ a, a < 9 → ∀ b, b < 9 → a ≠ b → (TX4 a).2.1 ≠ (TX4 b).2.1 := by decide +kernel
theorem tyX4_ok : ∀ k, k < 9 → parseFieldDescriptor (TX4 k).2.2.1 = some (tyX4 k) := by decide +kernel
def RX12 : String := "QuantityQuarryModel"
def TX12 : u_T := fun k => match k with
  | 0 => ("QuantityQuarryModel", "thrown", "I", false)
  | 1 => ("QuantityQuarryModel", "from", "[I", true)
  | 2 => ("QuantityQuarryModel", "to", "[I", true)
  | 3 => ("QuantityQuarryModel", "branches", "[I", true)
  | 4 => ("QuantityQuarryModel", "labels", "[[I", true)
  | 5 => ("QuantityQuarryModel", "nexts", "[[I", true)
  | 6 => ("QuantityQuarryModel", "carries", "[[Z", true)
  | 7 => ("QuantityQuarryModel", "parties", "I", false)
  | 8 => ("QuantityQuarryModel", "nodes", "I", false)
  | 9 => ("QuantityQuarryModel", "start", "I", false)
  | 10 => ("QuantityQuarryModel", "programs", "Ljava/util/List;", true)
  | 11 => ("QuantityQuarryModel", "told", "[[I", true)
  | 12 => ("QuantityQuarryModel", "isWatched", "[Z", true)
  | 13 => ("QuantityQuarryModel", "row", "[I", false)
  | 14 => ("QuantityQuarryModel", "locals", "[LQuantityQuarryModel$Local;", true)
  | 15 => ("QuantityQuarryModel", "blamedAt", "[I", true)
  | 16 => ("QuantityQuarryModel", "capacity", "I", false)
  | 17 => ("QuantityQuarryModel", "made", "I", false)
  | 18 => ("QuantityQuarryModel", "all", "J", false)
  | _ => ("QuantityQuarryModel", "isSure", "Z", false)
def tyX12 : Nat → FieldType := fun k => match k with
  | 0 => .int
  | 1 => .array .int
  | 2 => .array .int
  | 3 => .array .int
  | 4 => .array (.array .int)
  | 5 => .array (.array .int)
  | 6 => .array (.array .boolean)
  | 7 => .int
  | 8 => .int
  | 9 => .int
  | 10 => .object "java/util/List"
  | 11 => .array (.array .int)
  | 12 => .array .boolean
  | 13 => .array .int
  | 14 => .array (.object "QuantityQuarryModel$Local")
  | 15 => .array .int
  | 16 => .int
  | 17 => .int
  | 18 => .long
  | _ => .boolean
theorem nmX12 : ∀ a, a < 20 → ∀ b, b < 20 → a ≠ b → (TX12 a).2.1 ≠ (TX12 b).2.1 := by decide +kernel
theorem tyX12_ok : ∀ k, k < 20 → parseFieldDescriptor (TX12 k).2.2.1 = some (tyX12 k) := by decide +kernel
def RJx4a65c : String := "java/util/ArrayList"
def TJx4a65c : u_T := fun k => match k with
  | 0 => ("java/util/AbstractList", "modCount", "I", false)
  | 1 => ("java/util/ArrayList", "elementData", "[Ljava/lang/Object;", false)
  | _ => ("java/util/ArrayList", "size", "I", false)
def tyJx4a65c : Nat → FieldType := fun k => match k with
  | 0 => .int
  | 1 => .array (.object "java/lang/Object")
  | _ => .int
theorem nmJx4a65c : ∀ a, a < 3 → ∀ b, b < 3 → a ≠ b → (TJx4a65c a).2.1 ≠ (TJx4a65c b).2.1 := by decide +kernel
theorem tyJx4a65c_ok : ∀ k, k < 3 → parseFieldDescriptor (TJx4a65c k).2.2.1 = some (tyJx4a65c k) := by decide +kernel
abbrev zq_cl : List vw_C := [(RX7, TX7, 11), (RX5, TX5, 9), (RX0, TX0, 4), (RX6, TX6, 2), (RX1, TX1, 7), (RX2, TX2, 11), (RX3, TX3, 9), (RX4, TX4, 9), (RX12, TX12, 20), (RJx4a65c, TJx4a65c, 3)]
