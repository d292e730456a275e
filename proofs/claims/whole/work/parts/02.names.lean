/-! ===== BEGIN printed: names, fields, word lists, decode rows ===== -/
def RX0 : String := "BlockCounter$Analysis"
def TX0 : u_T := fun k => match k with
  | 0 => ("BlockCounter$Analysis", "instruction", "LBlockCounter$Instruction;", true)
  | 1 => ("BlockCounter$Analysis", "found", "[I", true)
  | 2 => ("BlockCounter$Analysis", "isFound", "[Z", true)
  | 3 => ("BlockCounter$Analysis", "isHead", "[Z", true)
  | 4 => ("BlockCounter$Analysis", "isInTable", "[Z", true)
  | 5 => ("BlockCounter$Analysis", "numbers", "[I", true)
  | 6 => ("BlockCounter$Analysis", "heads", "[I", true)
  | 7 => ("BlockCounter$Analysis", "byteCounts", "[I", true)
  | 8 => ("BlockCounter$Analysis", "instructionCounts", "[I", true)
  | 9 => ("BlockCounter$Analysis", "foundCount", "I", false)
  | _ => ("BlockCounter$Analysis", "blockCount", "I", false)
def tyX0 : Nat → FieldType := fun k => match k with
  | 0 => .object "BlockCounter$Instruction"
  | 1 => .array .int
  | 2 => .array .boolean
  | 3 => .array .boolean
  | 4 => .array .boolean
  | 5 => .array .int
  | 6 => .array .int
  | 7 => .array .int
  | 8 => .array .int
  | 9 => .int
  | _ => .int
abbrev wsX00 : List Cond := u_ws RX0 TX0 11
theorem nmX0 : ∀ a, a < 11 → ∀ b, b < 11 → a ≠ b → (TX0 a).2.1 ≠ (TX0 b).2.1 := by decide +kernel
theorem tyX0_ok : ∀ k, k < 11 → parseFieldDescriptor (TX0 k).2.2.1 = some (tyX0 k) := by decide +kernel
abbrev cX0_init : ByteArray := prog_2_method_1_code
def yX0_init : MethodName := ⟨RX0, "<init>", "()V"⟩
abbrev cX0_exists : ByteArray := prog_2_method_3_code
def yX0_exists : MethodName := ⟨RX0, "exists", "()Z"⟩
abbrev cX0_numberAt : ByteArray := prog_2_method_8_code
def yX0_numberAt : MethodName := ⟨RX0, "numberAt", "(I)I"⟩
def RX1 : String := "BlockCounter$Instruction"
def TX1 : u_T := fun k => match k with
  | 0 => ("BlockCounter$Instruction", "address", "I", false)
  | 1 => ("BlockCounter$Instruction", "first", "I", false)
  | 2 => ("BlockCounter$Instruction", "kind", "I", false)
  | 3 => ("BlockCounter$Instruction", "n", "I", false)
  | _ => ("BlockCounter$Instruction", "m", "I", false)
def tyX1 : Nat → FieldType := fun k => match k with
  | 0 => .int
  | 1 => .int
  | 2 => .int
  | 3 => .int
  | _ => .int
abbrev wsX10 : List Cond := u_ws RX1 TX1 5
theorem nmX1 : ∀ a, a < 5 → ∀ b, b < 5 → a ≠ b → (TX1 a).2.1 ≠ (TX1 b).2.1 := by decide +kernel
theorem tyX1_ok : ∀ k, k < 5 → parseFieldDescriptor (TX1 k).2.2.1 = some (tyX1 k) := by decide +kernel
abbrev cX1_init : ByteArray := prog_3_method_1_code
def yX1_init : MethodName := ⟨RX1, "<init>", "()V"⟩
def RX2 : String := "BlockCounter$Machine"
def TX2 : u_T := fun k => match k with
  | 0 => ("BlockCounter$Machine", "instruction", "LBlockCounter$Instruction;", true)
  | 1 => ("BlockCounter$Machine", "registers", "[I", true)
  | 2 => ("BlockCounter$Machine", "cells", "[I", true)
  | 3 => ("BlockCounter$Machine", "stack", "[I", true)
  | 4 => ("BlockCounter$Machine", "numbers", "[I", true)
  | 5 => ("BlockCounter$Machine", "counts", "[J", true)
  | 6 => ("BlockCounter$Machine", "pc", "I", false)
  | 7 => ("BlockCounter$Machine", "stackCount", "I", false)
  | 8 => ("BlockCounter$Machine", "numberCount", "I", false)
  | _ => ("BlockCounter$Machine", "stepCount", "I", false)
def tyX2 : Nat → FieldType := fun k => match k with
  | 0 => .object "BlockCounter$Instruction"
  | 1 => .array .int
  | 2 => .array .int
  | 3 => .array .int
  | 4 => .array .int
  | 5 => .array .long
  | 6 => .int
  | 7 => .int
  | 8 => .int
  | _ => .int
abbrev wsX20 : List Cond := u_ws RX2 TX2 10
theorem nmX2 : ∀ a, a < 10 → ∀ b, b < 10 → a ≠ b → (TX2 a).2.1 ≠ (TX2 b).2.1 := by decide +kernel
theorem tyX2_ok : ∀ k, k < 10 → parseFieldDescriptor (TX2 k).2.2.1 = some (tyX2 k) := by decide +kernel
abbrev cX2_init : ByteArray := prog_4_method_1_code
def yX2_init : MethodName := ⟨RX2, "<init>", "()V"⟩
abbrev cX2_done : ByteArray := prog_4_method_9_code
def yX2_done : MethodName := ⟨RX2, "done", "()I"⟩
def RX3 : String := "BlockCounter$Program"
def TX3 : u_T := fun k => match k with
  | 0 => ("BlockCounter$Program", "bytes", "[I", true)
  | _ => ("BlockCounter$Program", "traps", "[I", true)
def tyX3 : Nat → FieldType := fun k => match k with
  | 0 => .array .int
  | _ => .array .int
abbrev wsX30 : List Cond := u_ws RX3 TX3 2
theorem nmX3 : ∀ a, a < 2 → ∀ b, b < 2 → a ≠ b → (TX3 a).2.1 ≠ (TX3 b).2.1 := by decide +kernel
theorem tyX3_ok : ∀ k, k < 2 → parseFieldDescriptor (TX3 k).2.2.1 = some (tyX3 k) := by decide +kernel
abbrev cX3_init : ByteArray := prog_5_method_1_code
def yX3_init : MethodName := ⟨RX3, "<init>", "()V"⟩
def RX4 : String := "BlockCounter$Rewriting"
def TX4 : u_T := fun k => match k with
  | 0 => ("BlockCounter$Rewriting", "instruction", "LBlockCounter$Instruction;", true)
  | 1 => ("BlockCounter$Rewriting", "program", "LBlockCounter$Program;", true)
  | 2 => ("BlockCounter$Rewriting", "free", "I", false)
  | _ => ("BlockCounter$Rewriting", "stands", "Z", false)
def tyX4 : Nat → FieldType := fun k => match k with
  | 0 => .object "BlockCounter$Instruction"
  | 1 => .object "BlockCounter$Program"
  | 2 => .int
  | _ => .boolean
abbrev wsX40 : List Cond := u_ws RX4 TX4 4
theorem nmX4 : ∀ a, a < 4 → ∀ b, b < 4 → a ≠ b → (TX4 a).2.1 ≠ (TX4 b).2.1 := by decide +kernel
theorem tyX4_ok : ∀ k, k < 4 → parseFieldDescriptor (TX4 k).2.2.1 = some (tyX4 k) := by decide +kernel
abbrev cX4_init : ByteArray := prog_6_method_1_code
def yX4_init : MethodName := ⟨RX4, "<init>", "()V"⟩
def RX5 : String := "BlockCounter$Tables"
def TX5 : u_T := fun k => match k with
  | 0 => ("BlockCounter$Tables", "bases", "[I", true)
  | 1 => ("BlockCounter$Tables", "counts", "[I", true)
  | _ => ("BlockCounter$Tables", "declared", "I", false)
def tyX5 : Nat → FieldType := fun k => match k with
  | 0 => .array .int
  | 1 => .array .int
  | _ => .int
abbrev wsX50 : List Cond := u_ws RX5 TX5 3
theorem nmX5 : ∀ a, a < 3 → ∀ b, b < 3 → a ≠ b → (TX5 a).2.1 ≠ (TX5 b).2.1 := by decide +kernel
theorem tyX5_ok : ∀ k, k < 3 → parseFieldDescriptor (TX5 k).2.2.1 = some (tyX5 k) := by decide +kernel
abbrev cX5_init : ByteArray := prog_7_method_1_code
def yX5_init : MethodName := ⟨RX5, "<init>", "()V"⟩
def RX6 : String := "BlockCounter"
def TX6 : u_T := fun k => match k with
  | 0 => ("BlockCounter", "original", "LBlockCounter$Program;", true)
  | 1 => ("BlockCounter", "tables", "LBlockCounter$Tables;", true)
  | 2 => ("BlockCounter", "startCells", "[I", true)
  | 3 => ("BlockCounter", "analysis", "LBlockCounter$Analysis;", true)
  | 4 => ("BlockCounter", "rewriting", "LBlockCounter$Rewriting;", true)
  | _ => ("BlockCounter", "machine", "LBlockCounter$Machine;", true)
def tyX6 : Nat → FieldType := fun k => match k with
  | 0 => .object "BlockCounter$Program"
  | 1 => .object "BlockCounter$Tables"
  | 2 => .array .int
  | 3 => .object "BlockCounter$Analysis"
  | 4 => .object "BlockCounter$Rewriting"
  | _ => .object "BlockCounter$Machine"
abbrev wsX60 : List Cond := u_ws RX6 TX6 6
theorem nmX6 : ∀ a, a < 6 → ∀ b, b < 6 → a ≠ b → (TX6 a).2.1 ≠ (TX6 b).2.1 := by decide +kernel
theorem tyX6_ok : ∀ k, k < 6 → parseFieldDescriptor (TX6 k).2.2.1 = some (tyX6 k) := by decide +kernel
abbrev cX6_init : ByteArray := prog_1_method_1_code
def yX6_init : MethodName := ⟨RX6, "<init>", "()V"⟩
abbrev cX6_poke : ByteArray := prog_1_method_2_code
def yX6_poke : MethodName := ⟨RX6, "poke", "(II)V"⟩
abbrev cX6_blockAt : ByteArray := prog_1_method_7_code
def yX6_blockAt : MethodName := ⟨RX6, "blockAt", "(I)I"⟩
abbrev cX6_steps : ByteArray := prog_1_method_11_code
def yX6_steps : MethodName := ⟨RX6, "steps", "()I"⟩
def RX7 : String := "BlockCounterModel"
def TX7 : u_T := fun k => match k with
  | _ => ("", "", "", false)
def tyX7 : Nat → FieldType := fun k => match k with
  | _ => .int
abbrev wsX70 : List Cond := u_ws RX7 TX7 0
theorem nmX7 : ∀ a, a < 0 → ∀ b, b < 0 → a ≠ b → (TX7 a).2.1 ≠ (TX7 b).2.1 := by decide +kernel
theorem tyX7_ok : ∀ k, k < 0 → parseFieldDescriptor (TX7 k).2.2.1 = some (tyX7 k) := by decide +kernel
def RJ9 : String := "java/lang/Math"
def TJ9 : u_T := fun k => match k with
  | _ => ("", "", "", false)
def tyJ9 : Nat → FieldType := fun k => match k with
  | _ => .int
abbrev wsJ90 : List Cond := u_ws RJ9 TJ9 0
theorem nmJ9 : ∀ a, a < 0 → ∀ b, b < 0 → a ≠ b → (TJ9 a).2.1 ≠ (TJ9 b).2.1 := by decide +kernel
theorem tyJ9_ok : ∀ k, k < 0 → parseFieldDescriptor (TJ9 k).2.2.1 = some (tyJ9 k) := by decide +kernel
def RJ0 : String := "java/lang/String"
def TJ0 : u_T := fun k => match k with
  | _ => ("", "", "", false)
def tyJ0 : Nat → FieldType := fun k => match k with
  | _ => .int
abbrev wsJ00 : List Cond := u_ws RJ0 TJ0 0
theorem nmJ0 : ∀ a, a < 0 → ∀ b, b < 0 → a ≠ b → (TJ0 a).2.1 ≠ (TJ0 b).2.1 := by decide +kernel
theorem tyJ0_ok : ∀ k, k < 0 → parseFieldDescriptor (TJ0 k).2.2.1 = some (tyJ0 k) := by decide +kernel
def RJ10 : String := "java/lang/System"
def TJ10 : u_T := fun k => match k with
  | _ => ("", "", "", false)
def tyJ10 : Nat → FieldType := fun k => match k with
  | _ => .int
abbrev wsJ100 : List Cond := u_ws RJ10 TJ10 0
theorem nmJ10 : ∀ a, a < 0 → ∀ b, b < 0 → a ≠ b → (TJ10 a).2.1 ≠ (TJ10 b).2.1 := by decide +kernel
theorem tyJ10_ok : ∀ k, k < 0 → parseFieldDescriptor (TJ10 k).2.2.1 = some (tyJ10 k) := by decide +kernel
def RJ7 : String := "java/util/Arrays"
def TJ7 : u_T := fun k => match k with
  | _ => ("", "", "", false)
def tyJ7 : Nat → FieldType := fun k => match k with
  | _ => .int
abbrev wsJ70 : List Cond := u_ws RJ7 TJ7 0
theorem nmJ7 : ∀ a, a < 0 → ∀ b, b < 0 → a ≠ b → (TJ7 a).2.1 ≠ (TJ7 b).2.1 := by decide +kernel
theorem tyJ7_ok : ∀ k, k < 0 → parseFieldDescriptor (TJ7 k).2.2.1 = some (tyJ7 k) := by decide +kernel
def RL : String := "BlockCounterLaw"
abbrev cL_poke : ByteArray := method_3_code
def yL_poke : MethodName := ⟨RL, "poke", "(LBlockCounter;II)I"⟩
abbrev cL_law : ByteArray := code
def yL_law : MethodName := ⟨RL, "law", "([I)Z"⟩
