/-! the cells: 0 the counter, 1 original (2 bytes, 3 traps), 4 tables (5, 6), 7 startCells, 8 analysis (9 instruction, 10 found, 11 isFound, 12 isHead, 13 isInTable, 14 numbers, 15 heads, 16 byteCounts, 17 instructionCounts), 18 rewriting (19 instruction, 20 program, 21 bytes, 22 traps), 23 machine (24 instruction, 25 registers, 26 cells, 27 stack, 28 numbers, 29 counts), 30 the model (31 memory, 32 traps, 33 tableBase, 34 tableCount, 35 data, 36 begins, 37 heads, 38 used, 39 tabled, 40 head, 41 bytes, 42 count, 43 registers, 44 cells, 45 stack, 46 output, 47 counters), 48 out -/
def evLY : List ev_D := [(3, 6, [some 1, some 4, some 7, some 8, some 18, some 23]),
  (3, 3, [some 2, some 3]),
  (0, 256, []),
  (0, 96, []),
  (3, 5, [some 5, some 6, none]),
  (0, 4, []),
  (0, 4, []),
  (0, 16, []),
  (3, 0, [some 9, some 10, some 11, some 12, some 13, some 14, some 15, some 16, some 17, none, none]),
  (3, 1, [none, none, none, none, none]),
  (0, 96, []),
  (1, 96, []),
  (1, 96, []),
  (1, 96, []),
  (0, 96, []),
  (0, 96, []),
  (0, 96, []),
  (0, 96, []),
  (3, 4, [some 19, some 20, none, none]),
  (3, 1, [none, none, none, none, none]),
  (3, 3, [some 21, some 22]),
  (0, 256, []),
  (0, 96, []),
  (3, 2, [some 24, some 25, some 26, some 27, some 28, some 29, none, none, none, none]),
  (3, 1, [none, none, none, none, none]),
  (0, 4, []),
  (0, 16, []),
  (0, 8, []),
  (0, 40, []),
  (2, 64, []),
  (3, 7, [none, some 31, some 32, none, some 33, some 34, some 35, none, none, some 36, some 37, some 38, some 39, none, none, none, some 40, some 41, some 42, none, some 43, some 44, none, none, none, none, none, some 45, some 46, some 47]),
  (0, 512, []),
  (0, 96, []),
  (0, 4, []),
  (0, 4, []),
  (0, 16, []),
  (1, 96, []),
  (1, 96, []),
  (1, 96, []),
  (1, 96, []),
  (0, 96, []),
  (0, 96, []),
  (0, 96, []),
  (0, 4, []),
  (0, 16, []),
  (0, 8, []),
  (0, 40, []),
  (2, 64, []),
  (2, 1, [])]
def RD : String := "BlockCounterModel"
def TD : u_T := fun k => match k with
  | 0 => ("BlockCounterModel", "code", "I", false)
  | 1 => ("BlockCounterModel", "memory", "[I", true)
  | 2 => ("BlockCounterModel", "traps", "[I", true)
  | 3 => ("BlockCounterModel", "tables", "I", false)
  | 4 => ("BlockCounterModel", "tableBase", "[I", true)
  | 5 => ("BlockCounterModel", "tableCount", "[I", true)
  | 6 => ("BlockCounterModel", "data", "[I", true)
  | 7 => ("BlockCounterModel", "analysed", "Z", false)
  | 8 => ("BlockCounterModel", "rewritten", "Z", false)
  | 9 => ("BlockCounterModel", "begins", "[Z", true)
  | 10 => ("BlockCounterModel", "heads", "[Z", true)
  | 11 => ("BlockCounterModel", "used", "[Z", true)
  | 12 => ("BlockCounterModel", "tabled", "[Z", true)
  | 13 => ("BlockCounterModel", "refused", "Z", false)
  | 14 => ("BlockCounterModel", "more", "Z", false)
  | 15 => ("BlockCounterModel", "blocks", "I", false)
  | 16 => ("BlockCounterModel", "head", "[I", true)
  | 17 => ("BlockCounterModel", "bytes", "[I", true)
  | 18 => ("BlockCounterModel", "count", "[I", true)
  | 19 => ("BlockCounterModel", "end", "I", false)
  | 20 => ("BlockCounterModel", "registers", "[I", true)
  | 21 => ("BlockCounterModel", "cells", "[I", true)
  | 22 => ("BlockCounterModel", "pc", "I", false)
  | 23 => ("BlockCounterModel", "height", "I", false)
  | 24 => ("BlockCounterModel", "shown", "I", false)
  | 25 => ("BlockCounterModel", "done", "I", false)
  | 26 => ("BlockCounterModel", "outcome", "I", false)
  | 27 => ("BlockCounterModel", "stack", "[I", true)
  | 28 => ("BlockCounterModel", "output", "[I", true)
  | _ => ("BlockCounterModel", "counters", "[J", true)
def tyD : Nat → FieldType := fun k => match k with
  | 0 => .int
  | 1 => .array .int
  | 2 => .array .int
  | 3 => .int
  | 4 => .array .int
  | 5 => .array .int
  | 6 => .array .int
  | 7 => .boolean
  | 8 => .boolean
  | 9 => .array .boolean
  | 10 => .array .boolean
  | 11 => .array .boolean
  | 12 => .array .boolean
  | 13 => .boolean
  | 14 => .boolean
  | 15 => .int
  | 16 => .array .int
  | 17 => .array .int
  | 18 => .array .int
  | 19 => .int
  | 20 => .array .int
  | 21 => .array .int
  | 22 => .int
  | 23 => .int
  | 24 => .int
  | 25 => .int
  | 26 => .int
  | 27 => .array .int
  | 28 => .array .int
  | _ => .array .long
theorem nmD : ∀ a, a < 30 → ∀ b, b < 30 → a ≠ b → (TD a).2.1 ≠ (TD b).2.1 := by decide +kernel
theorem tyD_ok : ∀ k, k < 30 → parseFieldDescriptor (TD k).2.2.1 = some (tyD k) := by decide +kernel
abbrev evCl : List vw_C := [(RX0, TX0, 11), (RX1, TX1, 5), (RX2, TX2, 10), (RX3, TX3, 2), (RX4, TX4, 4), (RX5, TX5, 3), (RX6, TX6, 6), (RD, TD, 30)]
set_option maxRecDepth 100000 in
theorem inE_A : ∀ w ∈ u_ws RX0 TX0 11, w ∈ evW := by decide +kernel
set_option maxRecDepth 100000 in
theorem inE_I : ∀ w ∈ u_ws RX1 TX1 5, w ∈ evW := by decide +kernel
set_option maxRecDepth 100000 in
theorem inE_M : ∀ w ∈ u_ws RX2 TX2 10, w ∈ evW := by decide +kernel
set_option maxRecDepth 100000 in
theorem inE_P : ∀ w ∈ u_ws RX3 TX3 2, w ∈ evW := by decide +kernel
set_option maxRecDepth 100000 in
theorem inE_R : ∀ w ∈ u_ws RX4 TX4 4, w ∈ evW := by decide +kernel
set_option maxRecDepth 100000 in
theorem inE_T : ∀ w ∈ u_ws RX5 TX5 3, w ∈ evW := by decide +kernel
set_option maxRecDepth 100000 in
theorem inE_B : ∀ w ∈ u_ws RX6 TX6 6, w ∈ evW := by decide +kernel
set_option maxRecDepth 100000 in
theorem inE_D : ∀ w ∈ u_ws RD TD 30, w ∈ evW := by decide +kernel
theorem evG {w0 : Cond} {ws : List Cond} (h : ∀ w ∈ ws, w ∈ evW) : GoodIn (w0 :: evW) ws := fun w hw => ⟨List.mem_cons_of_mem _ (h w hw), good_of_word (List.mem_filter.mp (h w hw)).2⟩
theorem evGV {w0 : Cond} {own C : String} {idx maxL : Nat} {y : MethodName} {c : ByteArray} {ret : Option FieldType} (h1 : Cond.methodLink own idx y ∈ evW) (h2 : Cond.instanceMethod y ∈ evW) (h3 : Cond.selects C y y ∈ evW) (h4 : Cond.initialized C ∈ evW) (h5 : Cond.code y c maxL ret ∈ evW) : GoodIn (w0 :: evW) (wsV own idx C y (.code y c maxL ret :: evW)) := evG (by
  intro w hw
  unfold wsV at hw
  simp only [List.cons_append, List.nil_append, List.mem_cons] at hw
  rcases hw with rfl | rfl | rfl | rfl | rfl | hw
  · exact h1
  · exact h2
  · exact h3
  · exact h4
  · exact h5
  · exact hw)
theorem evGS {w0 : Cond} {own : String} {idx maxL : Nat} {y : MethodName} {c : ByteArray} {ret : Option FieldType} (h1 : Cond.methodLink own idx y ∈ evW) (h2 : Cond.static y ∈ evW) (h4 : Cond.initialized y.cls ∈ evW) (h5 : Cond.code y c maxL ret ∈ evW) : GoodIn (w0 :: evW) (va_wsS own idx y (.code y c maxL ret :: evW)) := evG (by
  intro w hw
  unfold va_wsS at hw
  simp only [List.cons_append, List.nil_append, List.mem_cons] at hw
  rcases hw with rfl | rfl | rfl | rfl | hw
  · exact h1
  · exact h2
  · exact h4
  · exact h5
  · exact hw)
