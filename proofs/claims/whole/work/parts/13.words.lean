/-! the words of the tables that the methods need, by their places in lw_tbl -/
def evW : List Cond := lw_tbl.filter goodWord
theorem evm {w : Cond} (i : Nat) (h : tables_1[i]? = some w) (hg : goodWord w = true) : w ∈ evW := List.mem_filter.mpr ⟨List.mem_append_right _ (List.mem_of_getElem? h), hg⟩
theorem evp {w : Cond} (i : Nat) (h : (k2_sels lw_privs)[i]? = some w) (hg : goodWord w = true) : w ∈ evW := List.mem_filter.mpr ⟨List.mem_append_left _ (List.mem_of_getElem? h), hg⟩
set_option maxRecDepth 100000 in
theorem mp_47 : Cond.selects "BlockCounterModel" ⟨"BlockCounterModel", "select", "(II)Z"⟩ ⟨"BlockCounterModel", "select", "(II)Z"⟩ ∈ evW := evp 47 (by decide +kernel) rfl
set_option maxRecDepth 100000 in
theorem mp_46 : Cond.selects "BlockCounterModel" ⟨"BlockCounterModel", "push", "(II)Z"⟩ ⟨"BlockCounterModel", "push", "(II)Z"⟩ ∈ evW := evp 46 (by decide +kernel) rfl
set_option maxRecDepth 100000 in
theorem mp_45 : Cond.selects "BlockCounterModel" ⟨"BlockCounterModel", "branch", "(IZ)Z"⟩ ⟨"BlockCounterModel", "branch", "(IZ)Z"⟩ ∈ evW := evp 45 (by decide +kernel) rfl
set_option maxRecDepth 100000 in
theorem mp_44 : Cond.selects "BlockCounterModel" ⟨"BlockCounterModel", "go", "(I)Z"⟩ ⟨"BlockCounterModel", "go", "(I)Z"⟩ ∈ evW := evp 44 (by decide +kernel) rfl
set_option maxRecDepth 100000 in
theorem mp_43 : Cond.selects "BlockCounterModel" ⟨"BlockCounterModel", "doOne", "(II)Z"⟩ ⟨"BlockCounterModel", "doOne", "(II)Z"⟩ ∈ evW := evp 43 (by decide +kernel) rfl
set_option maxRecDepth 100000 in
theorem mp_42 : Cond.selects "BlockCounterModel" ⟨"BlockCounterModel", "fault", "()Z"⟩ ⟨"BlockCounterModel", "fault", "()Z"⟩ ∈ evW := evp 42 (by decide +kernel) rfl
set_option maxRecDepth 100000 in
theorem mp_41 : Cond.selects "BlockCounterModel" ⟨"BlockCounterModel", "at", "(II)I"⟩ ⟨"BlockCounterModel", "at", "(II)I"⟩ ∈ evW := evp 41 (by decide +kernel) rfl
set_option maxRecDepth 100000 in
theorem mp_40 : Cond.selects "BlockCounterModel" ⟨"BlockCounterModel", "step", "(I)Z"⟩ ⟨"BlockCounterModel", "step", "(I)Z"⟩ ∈ evW := evp 40 (by decide +kernel) rfl
set_option maxRecDepth 100000 in
theorem mp_39 : Cond.selects "BlockCounterModel" ⟨"BlockCounterModel", "begin", "()V"⟩ ⟨"BlockCounterModel", "begin", "()V"⟩ ∈ evW := evp 39 (by decide +kernel) rfl
set_option maxRecDepth 100000 in
theorem mp_38 : Cond.selects "BlockCounterModel" ⟨"BlockCounterModel", "jumpTo", "(I)V"⟩ ⟨"BlockCounterModel", "jumpTo", "(I)V"⟩ ∈ evW := evp 38 (by decide +kernel) rfl
set_option maxRecDepth 100000 in
theorem mp_37 : Cond.selects "BlockCounterModel" ⟨"BlockCounterModel", "renew", "(I)V"⟩ ⟨"BlockCounterModel", "renew", "(I)V"⟩ ∈ evW := evp 37 (by decide +kernel) rfl
set_option maxRecDepth 100000 in
theorem mp_36 : Cond.selects "BlockCounterModel" ⟨"BlockCounterModel", "emit", "(I)V"⟩ ⟨"BlockCounterModel", "emit", "(I)V"⟩ ∈ evW := evp 36 (by decide +kernel) rfl
set_option maxRecDepth 100000 in
theorem mp_35 : Cond.selects "BlockCounterModel" ⟨"BlockCounterModel", "renewBlock", "(I)V"⟩ ⟨"BlockCounterModel", "renewBlock", "(I)V"⟩ ∈ evW := evp 35 (by decide +kernel) rfl
set_option maxRecDepth 100000 in
theorem mp_34 : Cond.selects "BlockCounterModel" ⟨"BlockCounterModel", "cut", "()V"⟩ ⟨"BlockCounterModel", "cut", "()V"⟩ ∈ evW := evp 34 (by decide +kernel) rfl
set_option maxRecDepth 100000 in
theorem mp_33 : Cond.selects "BlockCounterModel" ⟨"BlockCounterModel", "occupy", "()V"⟩ ⟨"BlockCounterModel", "occupy", "()V"⟩ ∈ evW := evp 33 (by decide +kernel) rfl
set_option maxRecDepth 100000 in
theorem mp_32 : Cond.selects "BlockCounterModel" ⟨"BlockCounterModel", "isDeclared", "(II)Z"⟩ ⟨"BlockCounterModel", "isDeclared", "(II)Z"⟩ ∈ evW := evp 32 (by decide +kernel) rfl
set_option maxRecDepth 100000 in
theorem mp_31 : Cond.selects "BlockCounterModel" ⟨"BlockCounterModel", "followTable", "(II)V"⟩ ⟨"BlockCounterModel", "followTable", "(II)V"⟩ ∈ evW := evp 31 (by decide +kernel) rfl
set_option maxRecDepth 100000 in
theorem mp_30 : Cond.selects "BlockCounterModel" ⟨"BlockCounterModel", "target", "(I)I"⟩ ⟨"BlockCounterModel", "target", "(I)I"⟩ ∈ evW := evp 30 (by decide +kernel) rfl
set_option maxRecDepth 100000 in
theorem mp_29 : Cond.selects "BlockCounterModel" ⟨"BlockCounterModel", "follow", "(I)V"⟩ ⟨"BlockCounterModel", "follow", "(I)V"⟩ ∈ evW := evp 29 (by decide +kernel) rfl
set_option maxRecDepth 100000 in
theorem mp_28 : Cond.selects "BlockCounterModel" ⟨"BlockCounterModel", "come", "(IZ)V"⟩ ⟨"BlockCounterModel", "come", "(IZ)V"⟩ ∈ evW := evp 28 (by decide +kernel) rfl
set_option maxRecDepth 100000 in
theorem mp_27 : Cond.selects "BlockCounterModel" ⟨"BlockCounterModel", "fail", "(I)I"⟩ ⟨"BlockCounterModel", "fail", "(I)I"⟩ ∈ evW := evp 27 (by decide +kernel) rfl
set_option maxRecDepth 100000 in
theorem mp_26 : Cond.selects "BlockCounterModel" ⟨"BlockCounterModel", "forget", "()V"⟩ ⟨"BlockCounterModel", "forget", "()V"⟩ ∈ evW := evp 26 (by decide +kernel) rfl
set_option maxRecDepth 100000 in
theorem mp_25 : Cond.selects "BlockCounter$Machine" ⟨"BlockCounter$Machine", "grow", "(I)V"⟩ ⟨"BlockCounter$Machine", "grow", "(I)V"⟩ ∈ evW := evp 25 (by decide +kernel) rfl
set_option maxRecDepth 100000 in
theorem mp_24 : Cond.selects "BlockCounter$Machine" ⟨"BlockCounter$Machine", "calculate", "()V"⟩ ⟨"BlockCounter$Machine", "calculate", "()V"⟩ ∈ evW := evp 24 (by decide +kernel) rfl
set_option maxRecDepth 100000 in
theorem mp_23 : Cond.selects "BlockCounter$Machine" ⟨"BlockCounter$Machine", "print", "(I)Z"⟩ ⟨"BlockCounter$Machine", "print", "(I)Z"⟩ ∈ evW := evp 23 (by decide +kernel) rfl
set_option maxRecDepth 100000 in
theorem mp_22 : Cond.selects "BlockCounter$Machine" ⟨"BlockCounter$Machine", "lookUp", "(LBlockCounter$Program;I)I"⟩ ⟨"BlockCounter$Machine", "lookUp", "(LBlockCounter$Program;I)I"⟩ ∈ evW := evp 22 (by decide +kernel) rfl
set_option maxRecDepth 100000 in
theorem mp_21 : Cond.selects "BlockCounter$Machine" ⟨"BlockCounter$Machine", "push", "(I)Z"⟩ ⟨"BlockCounter$Machine", "push", "(I)Z"⟩ ∈ evW := evp 21 (by decide +kernel) rfl
set_option maxRecDepth 100000 in
theorem mp_20 : Cond.selects "BlockCounter$Machine" ⟨"BlockCounter$Machine", "branch", "()I"⟩ ⟨"BlockCounter$Machine", "branch", "()I"⟩ ∈ evW := evp 20 (by decide +kernel) rfl
set_option maxRecDepth 100000 in
theorem mp_19 : Cond.selects "BlockCounter$Machine" ⟨"BlockCounter$Machine", "pop", "()I"⟩ ⟨"BlockCounter$Machine", "pop", "()I"⟩ ∈ evW := evp 19 (by decide +kernel) rfl
set_option maxRecDepth 100000 in
theorem mp_18 : Cond.selects "BlockCounter$Machine" ⟨"BlockCounter$Machine", "trap", "(LBlockCounter$Program;)I"⟩ ⟨"BlockCounter$Machine", "trap", "(LBlockCounter$Program;)I"⟩ ∈ evW := evp 18 (by decide +kernel) rfl
set_option maxRecDepth 100000 in
theorem mp_17 : Cond.selects "BlockCounter$Machine" ⟨"BlockCounter$Machine", "perform", "(LBlockCounter$Program;)I"⟩ ⟨"BlockCounter$Machine", "perform", "(LBlockCounter$Program;)I"⟩ ∈ evW := evp 17 (by decide +kernel) rfl
set_option maxRecDepth 100000 in
theorem mp_16 : Cond.selects "BlockCounter$Machine" ⟨"BlockCounter$Machine", "step", "(LBlockCounter$Program;)I"⟩ ⟨"BlockCounter$Machine", "step", "(LBlockCounter$Program;)I"⟩ ∈ evW := evp 16 (by decide +kernel) rfl
set_option maxRecDepth 100000 in
theorem mp_15 : Cond.selects "BlockCounter$Rewriting" ⟨"BlockCounter$Rewriting", "hook", "(III)V"⟩ ⟨"BlockCounter$Rewriting", "hook", "(III)V"⟩ ∈ evW := evp 15 (by decide +kernel) rfl
set_option maxRecDepth 100000 in
theorem mp_14 : Cond.selects "BlockCounter$Rewriting" ⟨"BlockCounter$Rewriting", "copyInstruction", "()V"⟩ ⟨"BlockCounter$Rewriting", "copyInstruction", "()V"⟩ ∈ evW := evp 14 (by decide +kernel) rfl
set_option maxRecDepth 100000 in
theorem mp_13 : Cond.selects "BlockCounter$Rewriting" ⟨"BlockCounter$Rewriting", "appendJump", "(I)V"⟩ ⟨"BlockCounter$Rewriting", "appendJump", "(I)V"⟩ ∈ evW := evp 13 (by decide +kernel) rfl
set_option maxRecDepth 100000 in
theorem mp_12 : Cond.selects "BlockCounter$Rewriting" ⟨"BlockCounter$Rewriting", "moveInstruction", "()V"⟩ ⟨"BlockCounter$Rewriting", "moveInstruction", "()V"⟩ ∈ evW := evp 12 (by decide +kernel) rfl
set_option maxRecDepth 100000 in
theorem mp_11 : Cond.selects "BlockCounter$Rewriting" ⟨"BlockCounter$Rewriting", "moveFirst", "(LBlockCounter$Program;II)V"⟩ ⟨"BlockCounter$Rewriting", "moveFirst", "(LBlockCounter$Program;II)V"⟩ ∈ evW := evp 11 (by decide +kernel) rfl
set_option maxRecDepth 100000 in
theorem mp_10 : Cond.selects "BlockCounter$Rewriting" ⟨"BlockCounter$Rewriting", "append", "(I)V"⟩ ⟨"BlockCounter$Rewriting", "append", "(I)V"⟩ ∈ evW := evp 10 (by decide +kernel) rfl
set_option maxRecDepth 100000 in
theorem mp_9 : Cond.selects "BlockCounter$Analysis" ⟨"BlockCounter$Analysis", "addBlock", "(LBlockCounter$Program;I)V"⟩ ⟨"BlockCounter$Analysis", "addBlock", "(LBlockCounter$Program;I)V"⟩ ∈ evW := evp 9 (by decide +kernel) rfl
set_option maxRecDepth 100000 in
theorem mp_8 : Cond.selects "BlockCounter$Analysis" ⟨"BlockCounter$Analysis", "findBlocks", "(LBlockCounter$Program;)V"⟩ ⟨"BlockCounter$Analysis", "findBlocks", "(LBlockCounter$Program;)V"⟩ ∈ evW := evp 8 (by decide +kernel) rfl
set_option maxRecDepth 100000 in
theorem mp_7 : Cond.selects "BlockCounter$Analysis" ⟨"BlockCounter$Analysis", "isWithoutOverlap", "(LBlockCounter$Program;)Z"⟩ ⟨"BlockCounter$Analysis", "isWithoutOverlap", "(LBlockCounter$Program;)Z"⟩ ∈ evW := evp 7 (by decide +kernel) rfl
set_option maxRecDepth 100000 in
theorem mp_6 : Cond.selects "BlockCounter$Analysis" ⟨"BlockCounter$Analysis", "followTable", "(LBlockCounter$Program;II)Z"⟩ ⟨"BlockCounter$Analysis", "followTable", "(LBlockCounter$Program;II)Z"⟩ ∈ evW := evp 6 (by decide +kernel) rfl
set_option maxRecDepth 100000 in
theorem mp_5 : Cond.selects "BlockCounter$Analysis" ⟨"BlockCounter$Analysis", "follow", "(LBlockCounter$Program;LBlockCounter$Tables;I)Z"⟩ ⟨"BlockCounter$Analysis", "follow", "(LBlockCounter$Program;LBlockCounter$Tables;I)Z"⟩ ∈ evW := evp 5 (by decide +kernel) rfl
set_option maxRecDepth 100000 in
theorem mp_4 : Cond.selects "BlockCounter$Analysis" ⟨"BlockCounter$Analysis", "comeTo", "(I)Z"⟩ ⟨"BlockCounter$Analysis", "comeTo", "(I)Z"⟩ ∈ evW := evp 4 (by decide +kernel) rfl
set_option maxRecDepth 100000 in
theorem mp_3 : Cond.selects "BlockCounter$Analysis" ⟨"BlockCounter$Analysis", "comeToHead", "(I)Z"⟩ ⟨"BlockCounter$Analysis", "comeToHead", "(I)Z"⟩ ∈ evW := evp 3 (by decide +kernel) rfl
set_option maxRecDepth 100000 in
theorem mp_2 : Cond.selects "BlockCounter$Analysis" ⟨"BlockCounter$Analysis", "clear", "()V"⟩ ⟨"BlockCounter$Analysis", "clear", "()V"⟩ ∈ evW := evp 2 (by decide +kernel) rfl
set_option maxRecDepth 100000 in
theorem mp_1 : Cond.selects "BlockCounter" ⟨"BlockCounter", "forgetFindings", "()V"⟩ ⟨"BlockCounter", "forgetFindings", "()V"⟩ ∈ evW := evp 1 (by decide +kernel) rfl
set_option maxRecDepth 100000 in
theorem mp_0 : Cond.selects "java/lang/Throwable" ⟨"java/lang/Throwable", "fillInStackTrace", "(I)Ljava/lang/Throwable;"⟩ ⟨"java/lang/Throwable", "fillInStackTrace", "(I)Ljava/lang/Throwable;"⟩ ∈ evW := evp 0 (by decide +kernel) rfl
set_option maxRecDepth 100000 in
theorem mw_0 : (Jvm.Cond.initialized "BlockCounterLaw") ∈ evW := evm 0 (by decide +kernel) rfl
set_option maxRecDepth 100000 in
theorem mw_1 : (Jvm.Cond.initialized "BlockCounter") ∈ evW := evm 1 (by decide +kernel) rfl
set_option maxRecDepth 100000 in
theorem mw_2 : (Jvm.Cond.initialized "BlockCounter$Program") ∈ evW := evm 2 (by decide +kernel) rfl
set_option maxRecDepth 100000 in
theorem mw_3 : (Jvm.Cond.initialized "BlockCounter$Tables") ∈ evW := evm 3 (by decide +kernel) rfl
set_option maxRecDepth 100000 in
theorem mw_4 : (Jvm.Cond.initialized "BlockCounter$Analysis") ∈ evW := evm 4 (by decide +kernel) rfl
set_option maxRecDepth 100000 in
theorem mw_5 : (Jvm.Cond.initialized "BlockCounter$Instruction") ∈ evW := evm 5 (by decide +kernel) rfl
set_option maxRecDepth 100000 in
theorem mw_6 : (Jvm.Cond.initialized "BlockCounter$Rewriting") ∈ evW := evm 6 (by decide +kernel) rfl
set_option maxRecDepth 100000 in
theorem mw_7 : (Jvm.Cond.initialized "BlockCounter$Machine") ∈ evW := evm 7 (by decide +kernel) rfl
set_option maxRecDepth 100000 in
theorem mw_8 : (Jvm.Cond.initialized "BlockCounterModel") ∈ evW := evm 8 (by decide +kernel) rfl
set_option maxRecDepth 100000 in
theorem mw_9 : (Jvm.Cond.initialized "java/lang/Throwable") ∈ evW := evm 9 (by decide +kernel) rfl
set_option maxRecDepth 100000 in
theorem mw_10 : (Jvm.Cond.initialized "java/lang/Exception") ∈ evW := evm 10 (by decide +kernel) rfl
set_option maxRecDepth 100000 in
theorem mw_11 : (Jvm.Cond.initialized "java/lang/RuntimeException") ∈ evW := evm 11 (by decide +kernel) rfl
set_option maxRecDepth 100000 in
theorem mw_12 : (Jvm.Cond.initialized "java/lang/IndexOutOfBoundsException") ∈ evW := evm 12 (by decide +kernel) rfl
set_option maxRecDepth 100000 in
theorem mw_13 : (Jvm.Cond.initialized "java/lang/IllegalArgumentException") ∈ evW := evm 13 (by decide +kernel) rfl
set_option maxRecDepth 100000 in
theorem mw_14 : (Jvm.Cond.initialized "java/lang/IllegalStateException") ∈ evW := evm 14 (by decide +kernel) rfl
set_option maxRecDepth 100000 in
theorem mw_15 : (Jvm.Cond.initialized "java/util/Arrays") ∈ evW := evm 15 (by decide +kernel) rfl
set_option maxRecDepth 100000 in
theorem mw_16 : (Jvm.Cond.initialized "java/lang/UnsupportedOperationException") ∈ evW := evm 16 (by decide +kernel) rfl
set_option maxRecDepth 100000 in
theorem mw_17 : (Jvm.Cond.initialized "java/lang/System") ∈ evW := evm 17 (by decide +kernel) rfl
set_option maxRecDepth 100000 in
theorem mw_18 : (Jvm.Cond.initialized "java/lang/Math") ∈ evW := evm 18 (by decide +kernel) rfl
set_option maxRecDepth 100000 in
theorem mw_19 : (Jvm.Cond.classLink "BlockCounterLaw" (8 : Nat) "BlockCounter") ∈ evW := evm 19 (by decide +kernel) rfl
set_option maxRecDepth 100000 in
theorem mw_20 : (Jvm.Cond.instantiable "BlockCounter" (6 : Nat)) ∈ evW := evm 20 (by decide +kernel) rfl
set_option maxRecDepth 100000 in
theorem mw_21 : (Jvm.Cond.methodLink "BlockCounterLaw" (60 : Nat) ({ cls := "BlockCounter", name := "<init>", desc := "()V" } : Jvm.MethodName)) ∈ evW := evm 21 (by decide +kernel) rfl
set_option maxRecDepth 100000 in
theorem mw_22 : (Jvm.Cond.instanceMethod ({ cls := "BlockCounter", name := "<init>", desc := "()V" } : Jvm.MethodName)) ∈ evW := evm 22 (by decide +kernel) rfl
set_option maxRecDepth 100000 in
theorem mw_23 : (Jvm.Cond.code ({ cls := "BlockCounter", name := "<init>", desc := "()V" } : Jvm.MethodName) prog_1_method_1_code (1 : Nat) (Option.none : Option Jvm.ClassFile.FieldType)) ∈ evW := evm 23 rfl rfl
set_option maxRecDepth 100000 in
theorem mw_24 : (Jvm.Cond.methodLink "BlockCounter" (1 : Nat) ({ cls := "java/lang/Object", name := "<init>", desc := "()V" } : Jvm.MethodName)) ∈ evW := evm 24 (by decide +kernel) rfl
set_option maxRecDepth 100000 in
theorem mw_25 : (Jvm.Cond.instanceMethod ({ cls := "java/lang/Object", name := "<init>", desc := "()V" } : Jvm.MethodName)) ∈ evW := evm 25 (by decide +kernel) rfl
set_option maxRecDepth 100000 in
theorem mw_26 : (Jvm.Cond.code ({ cls := "java/lang/Object", name := "<init>", desc := "()V" } : Jvm.MethodName) object_method_1_code (1 : Nat) (Option.none : Option Jvm.ClassFile.FieldType)) ∈ evW := evm 26 rfl rfl
set_option maxRecDepth 100000 in
theorem mw_27 : (Jvm.Cond.classLink "BlockCounter" (7 : Nat) "BlockCounter$Program") ∈ evW := evm 27 (by decide +kernel) rfl
set_option maxRecDepth 100000 in
theorem mw_28 : (Jvm.Cond.instantiable "BlockCounter$Program" (2 : Nat)) ∈ evW := evm 28 (by decide +kernel) rfl
set_option maxRecDepth 100000 in
theorem mw_29 : (Jvm.Cond.methodLink "BlockCounter" (9 : Nat) ({ cls := "BlockCounter$Program", name := "<init>", desc := "()V" } : Jvm.MethodName)) ∈ evW := evm 29 (by decide +kernel) rfl
set_option maxRecDepth 100000 in
theorem mw_30 : (Jvm.Cond.instanceMethod ({ cls := "BlockCounter$Program", name := "<init>", desc := "()V" } : Jvm.MethodName)) ∈ evW := evm 30 (by decide +kernel) rfl
set_option maxRecDepth 100000 in
theorem mw_31 : (Jvm.Cond.code ({ cls := "BlockCounter$Program", name := "<init>", desc := "()V" } : Jvm.MethodName) prog_5_method_1_code (1 : Nat) (Option.none : Option Jvm.ClassFile.FieldType)) ∈ evW := evm 31 rfl rfl
set_option maxRecDepth 100000 in
theorem mw_32 : (Jvm.Cond.methodLink "BlockCounter$Program" (3 : Nat) ({ cls := "java/lang/Object", name := "<init>", desc := "()V" } : Jvm.MethodName)) ∈ evW := evm 32 (by decide +kernel) rfl
set_option maxRecDepth 100000 in
theorem mw_33 : (Jvm.Cond.fieldLink "BlockCounter$Program" (9 : Nat) "BlockCounter$Program" "bytes" "[I") ∈ evW := evm 33 (by decide +kernel) rfl
set_option maxRecDepth 100000 in
theorem mw_34 : (Jvm.Cond.fieldLink "BlockCounter$Program" (15 : Nat) "BlockCounter$Program" "traps" "[I") ∈ evW := evm 34 (by decide +kernel) rfl
set_option maxRecDepth 100000 in
theorem mw_40 : (Jvm.Cond.arrayClass Jvm.ClassFile.FieldType.int) ∈ evW := evm 40 (by decide +kernel) rfl
set_option maxRecDepth 100000 in
theorem mw_41 : (Jvm.Cond.classLink "BlockCounter" (16 : Nat) "BlockCounter$Tables") ∈ evW := evm 41 (by decide +kernel) rfl
set_option maxRecDepth 100000 in
theorem mw_42 : (Jvm.Cond.instantiable "BlockCounter$Tables" (3 : Nat)) ∈ evW := evm 42 (by decide +kernel) rfl
set_option maxRecDepth 100000 in
theorem mw_43 : (Jvm.Cond.methodLink "BlockCounter" (18 : Nat) ({ cls := "BlockCounter$Tables", name := "<init>", desc := "()V" } : Jvm.MethodName)) ∈ evW := evm 43 (by decide +kernel) rfl
set_option maxRecDepth 100000 in
theorem mw_44 : (Jvm.Cond.instanceMethod ({ cls := "BlockCounter$Tables", name := "<init>", desc := "()V" } : Jvm.MethodName)) ∈ evW := evm 44 (by decide +kernel) rfl
set_option maxRecDepth 100000 in
theorem mw_45 : (Jvm.Cond.code ({ cls := "BlockCounter$Tables", name := "<init>", desc := "()V" } : Jvm.MethodName) prog_7_method_1_code (1 : Nat) (Option.none : Option Jvm.ClassFile.FieldType)) ∈ evW := evm 45 rfl rfl
set_option maxRecDepth 100000 in
theorem mw_46 : (Jvm.Cond.methodLink "BlockCounter$Tables" (1 : Nat) ({ cls := "java/lang/Object", name := "<init>", desc := "()V" } : Jvm.MethodName)) ∈ evW := evm 46 (by decide +kernel) rfl
set_option maxRecDepth 100000 in
theorem mw_47 : (Jvm.Cond.fieldLink "BlockCounter$Tables" (9 : Nat) "BlockCounter$Tables" "bases" "[I") ∈ evW := evm 47 (by decide +kernel) rfl
set_option maxRecDepth 100000 in
theorem mw_48 : (Jvm.Cond.fieldLink "BlockCounter$Tables" (13 : Nat) "BlockCounter$Tables" "counts" "[I") ∈ evW := evm 48 (by decide +kernel) rfl
set_option maxRecDepth 100000 in
theorem mw_49 : (Jvm.Cond.fieldLink "BlockCounter$Tables" (16 : Nat) "BlockCounter$Tables" "declared" "I") ∈ evW := evm 49 (by decide +kernel) rfl
set_option maxRecDepth 100000 in
theorem mw_57 : (Jvm.Cond.classLink "BlockCounter" (27 : Nat) "BlockCounter$Analysis") ∈ evW := evm 57 (by decide +kernel) rfl
set_option maxRecDepth 100000 in
theorem mw_58 : (Jvm.Cond.instantiable "BlockCounter$Analysis" (11 : Nat)) ∈ evW := evm 58 (by decide +kernel) rfl
set_option maxRecDepth 100000 in
theorem mw_59 : (Jvm.Cond.methodLink "BlockCounter" (29 : Nat) ({ cls := "BlockCounter$Analysis", name := "<init>", desc := "()V" } : Jvm.MethodName)) ∈ evW := evm 59 (by decide +kernel) rfl
set_option maxRecDepth 100000 in
theorem mw_60 : (Jvm.Cond.instanceMethod ({ cls := "BlockCounter$Analysis", name := "<init>", desc := "()V" } : Jvm.MethodName)) ∈ evW := evm 60 (by decide +kernel) rfl
set_option maxRecDepth 100000 in
theorem mw_61 : (Jvm.Cond.code ({ cls := "BlockCounter$Analysis", name := "<init>", desc := "()V" } : Jvm.MethodName) prog_2_method_1_code (1 : Nat) (Option.none : Option Jvm.ClassFile.FieldType)) ∈ evW := evm 61 rfl rfl
set_option maxRecDepth 100000 in
theorem mw_62 : (Jvm.Cond.methodLink "BlockCounter$Analysis" (3 : Nat) ({ cls := "java/lang/Object", name := "<init>", desc := "()V" } : Jvm.MethodName)) ∈ evW := evm 62 (by decide +kernel) rfl
set_option maxRecDepth 100000 in
theorem mw_63 : (Jvm.Cond.classLink "BlockCounter$Analysis" (9 : Nat) "BlockCounter$Instruction") ∈ evW := evm 63 (by decide +kernel) rfl
set_option maxRecDepth 100000 in
theorem mw_64 : (Jvm.Cond.instantiable "BlockCounter$Instruction" (5 : Nat)) ∈ evW := evm 64 (by decide +kernel) rfl
set_option maxRecDepth 100000 in
theorem mw_66 : (Jvm.Cond.instanceMethod ({ cls := "BlockCounter$Instruction", name := "<init>", desc := "()V" } : Jvm.MethodName)) ∈ evW := evm 66 (by decide +kernel) rfl
set_option maxRecDepth 100000 in
theorem mw_67 : (Jvm.Cond.code ({ cls := "BlockCounter$Instruction", name := "<init>", desc := "()V" } : Jvm.MethodName) prog_3_method_1_code (1 : Nat) (Option.none : Option Jvm.ClassFile.FieldType)) ∈ evW := evm 67 rfl rfl
set_option maxRecDepth 100000 in
theorem mw_68 : (Jvm.Cond.methodLink "BlockCounter$Instruction" (1 : Nat) ({ cls := "java/lang/Object", name := "<init>", desc := "()V" } : Jvm.MethodName)) ∈ evW := evm 68 (by decide +kernel) rfl
set_option maxRecDepth 100000 in
theorem mw_69 : (Jvm.Cond.fieldLink "BlockCounter$Instruction" (7 : Nat) "BlockCounter$Instruction" "address" "I") ∈ evW := evm 69 (by decide +kernel) rfl
set_option maxRecDepth 100000 in
theorem mw_70 : (Jvm.Cond.fieldLink "BlockCounter$Instruction" (19 : Nat) "BlockCounter$Instruction" "first" "I") ∈ evW := evm 70 (by decide +kernel) rfl
set_option maxRecDepth 100000 in
theorem mw_71 : (Jvm.Cond.fieldLink "BlockCounter$Rewriting" (95 : Nat) "BlockCounter$Instruction" "first" "I") ∈ evW := evm 71 (by decide +kernel) rfl
set_option maxRecDepth 100000 in
theorem mw_72 : (Jvm.Cond.fieldLink "BlockCounter$Instruction" (25 : Nat) "BlockCounter$Instruction" "kind" "I") ∈ evW := evm 72 (by decide +kernel) rfl
set_option maxRecDepth 100000 in
theorem mw_73 : (Jvm.Cond.fieldLink "BlockCounter$Rewriting" (101 : Nat) "BlockCounter$Instruction" "kind" "I") ∈ evW := evm 73 (by decide +kernel) rfl
set_option maxRecDepth 100000 in
theorem mw_74 : (Jvm.Cond.fieldLink "BlockCounter$Machine" (81 : Nat) "BlockCounter$Instruction" "kind" "I") ∈ evW := evm 74 (by decide +kernel) rfl
set_option maxRecDepth 100000 in
theorem mw_75 : (Jvm.Cond.fieldLink "BlockCounter$Analysis" (97 : Nat) "BlockCounter$Instruction" "kind" "I") ∈ evW := evm 75 (by decide +kernel) rfl
set_option maxRecDepth 100000 in
theorem mw_76 : (Jvm.Cond.fieldLink "BlockCounter$Instruction" (32 : Nat) "BlockCounter$Instruction" "n" "I") ∈ evW := evm 76 (by decide +kernel) rfl
set_option maxRecDepth 100000 in
theorem mw_77 : (Jvm.Cond.fieldLink "BlockCounter$Rewriting" (104 : Nat) "BlockCounter$Instruction" "n" "I") ∈ evW := evm 77 (by decide +kernel) rfl
set_option maxRecDepth 100000 in
theorem mw_78 : (Jvm.Cond.fieldLink "BlockCounter$Analysis" (107 : Nat) "BlockCounter$Instruction" "n" "I") ∈ evW := evm 78 (by decide +kernel) rfl
set_option maxRecDepth 100000 in
theorem mw_79 : (Jvm.Cond.fieldLink "BlockCounter$Machine" (103 : Nat) "BlockCounter$Instruction" "n" "I") ∈ evW := evm 79 (by decide +kernel) rfl
set_option maxRecDepth 100000 in
theorem mw_80 : (Jvm.Cond.fieldLink "BlockCounter$Instruction" (35 : Nat) "BlockCounter$Instruction" "m" "I") ∈ evW := evm 80 (by decide +kernel) rfl
set_option maxRecDepth 100000 in
theorem mw_81 : (Jvm.Cond.fieldLink "BlockCounter$Rewriting" (113 : Nat) "BlockCounter$Instruction" "m" "I") ∈ evW := evm 81 (by decide +kernel) rfl
set_option maxRecDepth 100000 in
theorem mw_82 : (Jvm.Cond.fieldLink "BlockCounter$Machine" (110 : Nat) "BlockCounter$Instruction" "m" "I") ∈ evW := evm 82 (by decide +kernel) rfl
set_option maxRecDepth 100000 in
theorem mw_83 : (Jvm.Cond.fieldLink "BlockCounter$Analysis" (110 : Nat) "BlockCounter$Instruction" "m" "I") ∈ evW := evm 83 (by decide +kernel) rfl
set_option maxRecDepth 100000 in
theorem mw_95 : (Jvm.Cond.fieldLink "BlockCounter$Analysis" (12 : Nat) "BlockCounter$Analysis" "instruction" "LBlockCounter$Instruction;") ∈ evW := evm 95 (by decide +kernel) rfl
set_option maxRecDepth 100000 in
theorem mw_96 : (Jvm.Cond.fieldLink "BlockCounter$Analysis" (18 : Nat) "BlockCounter$Analysis" "found" "[I") ∈ evW := evm 96 (by decide +kernel) rfl
set_option maxRecDepth 100000 in
theorem mw_97 : (Jvm.Cond.fieldLink "BlockCounter$Analysis" (22 : Nat) "BlockCounter$Analysis" "isFound" "[Z") ∈ evW := evm 97 (by decide +kernel) rfl
set_option maxRecDepth 100000 in
theorem mw_98 : (Jvm.Cond.fieldLink "BlockCounter$Analysis" (26 : Nat) "BlockCounter$Analysis" "isHead" "[Z") ∈ evW := evm 98 (by decide +kernel) rfl
set_option maxRecDepth 100000 in
theorem mw_99 : (Jvm.Cond.fieldLink "BlockCounter$Analysis" (29 : Nat) "BlockCounter$Analysis" "isInTable" "[Z") ∈ evW := evm 99 (by decide +kernel) rfl
set_option maxRecDepth 100000 in
theorem mw_100 : (Jvm.Cond.fieldLink "BlockCounter$Analysis" (32 : Nat) "BlockCounter$Analysis" "numbers" "[I") ∈ evW := evm 100 (by decide +kernel) rfl
set_option maxRecDepth 100000 in
theorem mw_101 : (Jvm.Cond.fieldLink "BlockCounter$Analysis" (35 : Nat) "BlockCounter$Analysis" "heads" "[I") ∈ evW := evm 101 (by decide +kernel) rfl
set_option maxRecDepth 100000 in
theorem mw_102 : (Jvm.Cond.fieldLink "BlockCounter$Analysis" (38 : Nat) "BlockCounter$Analysis" "byteCounts" "[I") ∈ evW := evm 102 (by decide +kernel) rfl
set_option maxRecDepth 100000 in
theorem mw_103 : (Jvm.Cond.fieldLink "BlockCounter$Analysis" (41 : Nat) "BlockCounter$Analysis" "instructionCounts" "[I") ∈ evW := evm 103 (by decide +kernel) rfl
set_option maxRecDepth 100000 in
theorem mw_104 : (Jvm.Cond.fieldLink "BlockCounter$Analysis" (66 : Nat) "BlockCounter$Analysis" "foundCount" "I") ∈ evW := evm 104 (by decide +kernel) rfl
set_option maxRecDepth 100000 in
theorem mw_105 : (Jvm.Cond.fieldLink "BlockCounter$Analysis" (44 : Nat) "BlockCounter$Analysis" "blockCount" "I") ∈ evW := evm 105 (by decide +kernel) rfl
set_option maxRecDepth 100000 in
theorem mw_129 : (Jvm.Cond.arrayClass Jvm.ClassFile.FieldType.boolean) ∈ evW := evm 129 (by decide +kernel) rfl
set_option maxRecDepth 100000 in
theorem mw_130 : (Jvm.Cond.classLink "BlockCounter" (34 : Nat) "BlockCounter$Rewriting") ∈ evW := evm 130 (by decide +kernel) rfl
set_option maxRecDepth 100000 in
theorem mw_131 : (Jvm.Cond.instantiable "BlockCounter$Rewriting" (4 : Nat)) ∈ evW := evm 131 (by decide +kernel) rfl
set_option maxRecDepth 100000 in
theorem mw_132 : (Jvm.Cond.methodLink "BlockCounter" (36 : Nat) ({ cls := "BlockCounter$Rewriting", name := "<init>", desc := "()V" } : Jvm.MethodName)) ∈ evW := evm 132 (by decide +kernel) rfl
set_option maxRecDepth 100000 in
theorem mw_133 : (Jvm.Cond.instanceMethod ({ cls := "BlockCounter$Rewriting", name := "<init>", desc := "()V" } : Jvm.MethodName)) ∈ evW := evm 133 (by decide +kernel) rfl
set_option maxRecDepth 100000 in
theorem mw_134 : (Jvm.Cond.code ({ cls := "BlockCounter$Rewriting", name := "<init>", desc := "()V" } : Jvm.MethodName) prog_6_method_1_code (1 : Nat) (Option.none : Option Jvm.ClassFile.FieldType)) ∈ evW := evm 134 rfl rfl
set_option maxRecDepth 100000 in
theorem mw_135 : (Jvm.Cond.methodLink "BlockCounter$Rewriting" (3 : Nat) ({ cls := "java/lang/Object", name := "<init>", desc := "()V" } : Jvm.MethodName)) ∈ evW := evm 135 (by decide +kernel) rfl
set_option maxRecDepth 100000 in
theorem mw_136 : (Jvm.Cond.classLink "BlockCounter$Rewriting" (9 : Nat) "BlockCounter$Instruction") ∈ evW := evm 136 (by decide +kernel) rfl
set_option maxRecDepth 100000 in
theorem mw_138 : (Jvm.Cond.classLink "BlockCounter$Rewriting" (18 : Nat) "BlockCounter$Program") ∈ evW := evm 138 (by decide +kernel) rfl
set_option maxRecDepth 100000 in
theorem mw_139 : (Jvm.Cond.methodLink "BlockCounter$Rewriting" (20 : Nat) ({ cls := "BlockCounter$Program", name := "<init>", desc := "()V" } : Jvm.MethodName)) ∈ evW := evm 139 (by decide +kernel) rfl
set_option maxRecDepth 100000 in
theorem mw_140 : (Jvm.Cond.fieldLink "BlockCounter$Rewriting" (12 : Nat) "BlockCounter$Rewriting" "instruction" "LBlockCounter$Instruction;") ∈ evW := evm 140 (by decide +kernel) rfl
set_option maxRecDepth 100000 in
theorem mw_141 : (Jvm.Cond.fieldLink "BlockCounter$Rewriting" (21 : Nat) "BlockCounter$Rewriting" "program" "LBlockCounter$Program;") ∈ evW := evm 141 (by decide +kernel) rfl
set_option maxRecDepth 100000 in
theorem mw_142 : (Jvm.Cond.fieldLink "BlockCounter$Rewriting" (29 : Nat) "BlockCounter$Rewriting" "free" "I") ∈ evW := evm 142 (by decide +kernel) rfl
set_option maxRecDepth 100000 in
theorem mw_143 : (Jvm.Cond.fieldLink "BlockCounter$Rewriting" (25 : Nat) "BlockCounter$Rewriting" "stands" "Z") ∈ evW := evm 143 (by decide +kernel) rfl
set_option maxRecDepth 100000 in
theorem mw_153 : (Jvm.Cond.classLink "BlockCounter" (41 : Nat) "BlockCounter$Machine") ∈ evW := evm 153 (by decide +kernel) rfl
set_option maxRecDepth 100000 in
theorem mw_154 : (Jvm.Cond.instantiable "BlockCounter$Machine" (10 : Nat)) ∈ evW := evm 154 (by decide +kernel) rfl
set_option maxRecDepth 100000 in
theorem mw_155 : (Jvm.Cond.methodLink "BlockCounter" (43 : Nat) ({ cls := "BlockCounter$Machine", name := "<init>", desc := "()V" } : Jvm.MethodName)) ∈ evW := evm 155 (by decide +kernel) rfl
set_option maxRecDepth 100000 in
theorem mw_156 : (Jvm.Cond.instanceMethod ({ cls := "BlockCounter$Machine", name := "<init>", desc := "()V" } : Jvm.MethodName)) ∈ evW := evm 156 (by decide +kernel) rfl
set_option maxRecDepth 100000 in
theorem mw_157 : (Jvm.Cond.code ({ cls := "BlockCounter$Machine", name := "<init>", desc := "()V" } : Jvm.MethodName) prog_4_method_1_code (1 : Nat) (Option.none : Option Jvm.ClassFile.FieldType)) ∈ evW := evm 157 rfl rfl
set_option maxRecDepth 100000 in
theorem mw_158 : (Jvm.Cond.methodLink "BlockCounter$Machine" (3 : Nat) ({ cls := "java/lang/Object", name := "<init>", desc := "()V" } : Jvm.MethodName)) ∈ evW := evm 158 (by decide +kernel) rfl
set_option maxRecDepth 100000 in
theorem mw_159 : (Jvm.Cond.classLink "BlockCounter$Machine" (9 : Nat) "BlockCounter$Instruction") ∈ evW := evm 159 (by decide +kernel) rfl
set_option maxRecDepth 100000 in
theorem mw_161 : (Jvm.Cond.fieldLink "BlockCounter$Machine" (12 : Nat) "BlockCounter$Machine" "instruction" "LBlockCounter$Instruction;") ∈ evW := evm 161 (by decide +kernel) rfl
set_option maxRecDepth 100000 in
theorem mw_162 : (Jvm.Cond.fieldLink "BlockCounter$Machine" (18 : Nat) "BlockCounter$Machine" "registers" "[I") ∈ evW := evm 162 (by decide +kernel) rfl
set_option maxRecDepth 100000 in
theorem mw_163 : (Jvm.Cond.fieldLink "BlockCounter$Machine" (22 : Nat) "BlockCounter$Machine" "cells" "[I") ∈ evW := evm 163 (by decide +kernel) rfl
set_option maxRecDepth 100000 in
theorem mw_164 : (Jvm.Cond.fieldLink "BlockCounter$Machine" (25 : Nat) "BlockCounter$Machine" "stack" "[I") ∈ evW := evm 164 (by decide +kernel) rfl
set_option maxRecDepth 100000 in
theorem mw_165 : (Jvm.Cond.fieldLink "BlockCounter$Machine" (28 : Nat) "BlockCounter$Machine" "numbers" "[I") ∈ evW := evm 165 (by decide +kernel) rfl
set_option maxRecDepth 100000 in
theorem mw_166 : (Jvm.Cond.fieldLink "BlockCounter$Machine" (31 : Nat) "BlockCounter$Machine" "counts" "[J") ∈ evW := evm 166 (by decide +kernel) rfl
set_option maxRecDepth 100000 in
theorem mw_167 : (Jvm.Cond.fieldLink "BlockCounter$Machine" (42 : Nat) "BlockCounter$Machine" "pc" "I") ∈ evW := evm 167 (by decide +kernel) rfl
set_option maxRecDepth 100000 in
theorem mw_168 : (Jvm.Cond.fieldLink "BlockCounter$Machine" (39 : Nat) "BlockCounter$Machine" "stackCount" "I") ∈ evW := evm 168 (by decide +kernel) rfl
set_option maxRecDepth 100000 in
theorem mw_169 : (Jvm.Cond.fieldLink "BlockCounter$Machine" (35 : Nat) "BlockCounter$Machine" "numberCount" "I") ∈ evW := evm 169 (by decide +kernel) rfl
set_option maxRecDepth 100000 in
theorem mw_170 : (Jvm.Cond.fieldLink "BlockCounter$Machine" (45 : Nat) "BlockCounter$Machine" "stepCount" "I") ∈ evW := evm 170 (by decide +kernel) rfl
set_option maxRecDepth 100000 in
theorem mw_192 : (Jvm.Cond.arrayClass Jvm.ClassFile.FieldType.long) ∈ evW := evm 192 (by decide +kernel) rfl
set_option maxRecDepth 100000 in
theorem mw_193 : (Jvm.Cond.fieldLink "BlockCounter" (10 : Nat) "BlockCounter" "original" "LBlockCounter$Program;") ∈ evW := evm 193 (by decide +kernel) rfl
set_option maxRecDepth 100000 in
theorem mw_194 : (Jvm.Cond.fieldLink "BlockCounter" (19 : Nat) "BlockCounter" "tables" "LBlockCounter$Tables;") ∈ evW := evm 194 (by decide +kernel) rfl
set_option maxRecDepth 100000 in
theorem mw_195 : (Jvm.Cond.fieldLink "BlockCounter" (23 : Nat) "BlockCounter" "startCells" "[I") ∈ evW := evm 195 (by decide +kernel) rfl
set_option maxRecDepth 100000 in
theorem mw_196 : (Jvm.Cond.fieldLink "BlockCounter" (30 : Nat) "BlockCounter" "analysis" "LBlockCounter$Analysis;") ∈ evW := evm 196 (by decide +kernel) rfl
set_option maxRecDepth 100000 in
theorem mw_197 : (Jvm.Cond.fieldLink "BlockCounter" (37 : Nat) "BlockCounter" "rewriting" "LBlockCounter$Rewriting;") ∈ evW := evm 197 (by decide +kernel) rfl
set_option maxRecDepth 100000 in
theorem mw_198 : (Jvm.Cond.fieldLink "BlockCounter" (44 : Nat) "BlockCounter" "machine" "LBlockCounter$Machine;") ∈ evW := evm 198 (by decide +kernel) rfl
set_option maxRecDepth 100000 in
theorem mw_212 : (Jvm.Cond.methodLink "BlockCounterLaw" (87 : Nat) ({ cls := "BlockCounter", name := "blockAt", desc := "(I)I" } : Jvm.MethodName)) ∈ evW := evm 212 (by decide +kernel) rfl
set_option maxRecDepth 100000 in
theorem mw_213 : (Jvm.Cond.instanceMethod ({ cls := "BlockCounter", name := "blockAt", desc := "(I)I" } : Jvm.MethodName)) ∈ evW := evm 213 (by decide +kernel) rfl
set_option maxRecDepth 100000 in
theorem mw_214 : (Jvm.Cond.selects "BlockCounter" ({ cls := "BlockCounter", name := "blockAt", desc := "(I)I" } : Jvm.MethodName) ({ cls := "BlockCounter", name := "blockAt", desc := "(I)I" } : Jvm.MethodName)) ∈ evW := evm 214 (by decide +kernel) rfl
set_option maxRecDepth 100000 in
theorem mw_215 : (Jvm.Cond.code ({ cls := "BlockCounter", name := "blockAt", desc := "(I)I" } : Jvm.MethodName) prog_1_method_7_code (2 : Nat) (Option.some Jvm.ClassFile.FieldType.int)) ∈ evW := evm 215 rfl rfl
set_option maxRecDepth 100000 in
theorem mw_216 : (Jvm.Cond.methodLink "BlockCounter" (112 : Nat) ({ cls := "BlockCounter$Analysis", name := "numberAt", desc := "(I)I" } : Jvm.MethodName)) ∈ evW := evm 216 (by decide +kernel) rfl
set_option maxRecDepth 100000 in
theorem mw_217 : (Jvm.Cond.instanceMethod ({ cls := "BlockCounter$Analysis", name := "numberAt", desc := "(I)I" } : Jvm.MethodName)) ∈ evW := evm 217 (by decide +kernel) rfl
set_option maxRecDepth 100000 in
theorem mw_218 : (Jvm.Cond.selects "BlockCounter$Analysis" ({ cls := "BlockCounter$Analysis", name := "numberAt", desc := "(I)I" } : Jvm.MethodName) ({ cls := "BlockCounter$Analysis", name := "numberAt", desc := "(I)I" } : Jvm.MethodName)) ∈ evW := evm 218 (by decide +kernel) rfl
set_option maxRecDepth 100000 in
theorem mw_219 : (Jvm.Cond.code ({ cls := "BlockCounter$Analysis", name := "numberAt", desc := "(I)I" } : Jvm.MethodName) prog_2_method_8_code (2 : Nat) (Option.some Jvm.ClassFile.FieldType.int)) ∈ evW := evm 219 rfl rfl
set_option maxRecDepth 100000 in
theorem mw_220 : (Jvm.Cond.methodLink "BlockCounter$Analysis" (48 : Nat) ({ cls := "BlockCounter$Analysis", name := "exists", desc := "()Z" } : Jvm.MethodName)) ∈ evW := evm 220 (by decide +kernel) rfl
set_option maxRecDepth 100000 in
theorem mw_221 : (Jvm.Cond.instanceMethod ({ cls := "BlockCounter$Analysis", name := "exists", desc := "()Z" } : Jvm.MethodName)) ∈ evW := evm 221 (by decide +kernel) rfl
set_option maxRecDepth 100000 in
theorem mw_222 : (Jvm.Cond.selects "BlockCounter$Analysis" ({ cls := "BlockCounter$Analysis", name := "exists", desc := "()Z" } : Jvm.MethodName) ({ cls := "BlockCounter$Analysis", name := "exists", desc := "()Z" } : Jvm.MethodName)) ∈ evW := evm 222 (by decide +kernel) rfl
set_option maxRecDepth 100000 in
theorem mw_223 : (Jvm.Cond.code ({ cls := "BlockCounter$Analysis", name := "exists", desc := "()Z" } : Jvm.MethodName) prog_2_method_3_code (1 : Nat) (Option.some Jvm.ClassFile.FieldType.boolean)) ∈ evW := evm 223 rfl rfl
set_option maxRecDepth 100000 in
theorem mw_224 : (Jvm.Cond.methodLink "BlockCounterLaw" (102 : Nat) ({ cls := "BlockCounter", name := "steps", desc := "()I" } : Jvm.MethodName)) ∈ evW := evm 224 (by decide +kernel) rfl
set_option maxRecDepth 100000 in
theorem mw_225 : (Jvm.Cond.instanceMethod ({ cls := "BlockCounter", name := "steps", desc := "()I" } : Jvm.MethodName)) ∈ evW := evm 225 (by decide +kernel) rfl
set_option maxRecDepth 100000 in
theorem mw_226 : (Jvm.Cond.selects "BlockCounter" ({ cls := "BlockCounter", name := "steps", desc := "()I" } : Jvm.MethodName) ({ cls := "BlockCounter", name := "steps", desc := "()I" } : Jvm.MethodName)) ∈ evW := evm 226 (by decide +kernel) rfl
set_option maxRecDepth 100000 in
theorem mw_227 : (Jvm.Cond.code ({ cls := "BlockCounter", name := "steps", desc := "()I" } : Jvm.MethodName) prog_1_method_11_code (1 : Nat) (Option.some Jvm.ClassFile.FieldType.int)) ∈ evW := evm 227 rfl rfl
set_option maxRecDepth 100000 in
theorem mw_228 : (Jvm.Cond.methodLink "BlockCounter" (155 : Nat) ({ cls := "BlockCounter$Machine", name := "done", desc := "()I" } : Jvm.MethodName)) ∈ evW := evm 228 (by decide +kernel) rfl
set_option maxRecDepth 100000 in
theorem mw_229 : (Jvm.Cond.instanceMethod ({ cls := "BlockCounter$Machine", name := "done", desc := "()I" } : Jvm.MethodName)) ∈ evW := evm 229 (by decide +kernel) rfl
set_option maxRecDepth 100000 in
theorem mw_230 : (Jvm.Cond.selects "BlockCounter$Machine" ({ cls := "BlockCounter$Machine", name := "done", desc := "()I" } : Jvm.MethodName) ({ cls := "BlockCounter$Machine", name := "done", desc := "()I" } : Jvm.MethodName)) ∈ evW := evm 230 (by decide +kernel) rfl
set_option maxRecDepth 100000 in
theorem mw_231 : (Jvm.Cond.code ({ cls := "BlockCounter$Machine", name := "done", desc := "()I" } : Jvm.MethodName) prog_4_method_9_code (1 : Nat) (Option.some Jvm.ClassFile.FieldType.int)) ∈ evW := evm 231 rfl rfl
set_option maxRecDepth 100000 in
theorem mw_232 : (Jvm.Cond.methodLink "BlockCounterLaw" (64 : Nat) ({ cls := "BlockCounterLaw", name := "poke", desc := "(LBlockCounter;II)I" } : Jvm.MethodName)) ∈ evW := evm 232 (by decide +kernel) rfl
set_option maxRecDepth 100000 in
theorem mw_233 : (Jvm.Cond.static ({ cls := "BlockCounterLaw", name := "poke", desc := "(LBlockCounter;II)I" } : Jvm.MethodName)) ∈ evW := evm 233 (by decide +kernel) rfl
set_option maxRecDepth 100000 in
theorem mw_234 : (Jvm.Cond.codeWith ({ cls := "BlockCounterLaw", name := "poke", desc := "(LBlockCounter;II)I" } : Jvm.MethodName) method_3_code (4 : Nat) (Option.some Jvm.ClassFile.FieldType.int) [((0 : Nat), (6 : Nat), (9 : Nat), (13 : Nat))]) ∈ evW := evm 234 rfl rfl
set_option maxRecDepth 100000 in
theorem mw_235 : (Jvm.Cond.classLink "BlockCounterLaw" (13 : Nat) "java/lang/IndexOutOfBoundsException") ∈ evW := evm 235 (by decide +kernel) rfl
set_option maxRecDepth 100000 in
theorem mw_236 : (Jvm.Cond.methodLink "BlockCounterLaw" (7 : Nat) ({ cls := "BlockCounter", name := "poke", desc := "(II)V" } : Jvm.MethodName)) ∈ evW := evm 236 (by decide +kernel) rfl
set_option maxRecDepth 100000 in
theorem mw_237 : (Jvm.Cond.instanceMethod ({ cls := "BlockCounter", name := "poke", desc := "(II)V" } : Jvm.MethodName)) ∈ evW := evm 237 (by decide +kernel) rfl
set_option maxRecDepth 100000 in
theorem mw_238 : (Jvm.Cond.selects "BlockCounter" ({ cls := "BlockCounter", name := "poke", desc := "(II)V" } : Jvm.MethodName) ({ cls := "BlockCounter", name := "poke", desc := "(II)V" } : Jvm.MethodName)) ∈ evW := evm 238 (by decide +kernel) rfl
set_option maxRecDepth 100000 in
theorem mw_239 : (Jvm.Cond.code ({ cls := "BlockCounter", name := "poke", desc := "(II)V" } : Jvm.MethodName) prog_1_method_2_code (3 : Nat) (Option.none : Option Jvm.ClassFile.FieldType)) ∈ evW := evm 239 rfl rfl
set_option maxRecDepth 100000 in
theorem mw_240 : (Jvm.Cond.classLink "BlockCounter" (48 : Nat) "java/lang/IndexOutOfBoundsException") ∈ evW := evm 240 (by decide +kernel) rfl
set_option maxRecDepth 100000 in
theorem mw_241 : (Jvm.Cond.instantiable "java/lang/IndexOutOfBoundsException" (6 : Nat)) ∈ evW := evm 241 (by decide +kernel) rfl
set_option maxRecDepth 100000 in
theorem mw_249 : (Jvm.Cond.selects "java/lang/IndexOutOfBoundsException" ({ cls := "java/lang/Throwable", name := "fillInStackTrace", desc := "(I)Ljava/lang/Throwable;" } : Jvm.MethodName) ({ cls := "java/lang/Throwable", name := "fillInStackTrace", desc := "(I)Ljava/lang/Throwable;" } : Jvm.MethodName)) ∈ evW := evm 249 (by decide +kernel) rfl
set_option maxRecDepth 100000 in
theorem mw_250 : (Jvm.Cond.selects "java/lang/IndexOutOfBoundsException" ({ cls := "java/lang/Throwable", name := "fillInStackTrace", desc := "()Ljava/lang/Throwable;" } : Jvm.MethodName) ({ cls := "java/lang/Throwable", name := "fillInStackTrace", desc := "()Ljava/lang/Throwable;" } : Jvm.MethodName)) ∈ evW := evm 250 (by decide +kernel) rfl
set_option maxRecDepth 100000 in
theorem mw_261 : (Jvm.Cond.fieldLink "java/lang/Throwable" (198 : Nat) "java/lang/Throwable" "backtrace" "Ljava/lang/Object;") ∈ evW := evm 261 (by decide +kernel) rfl
set_option maxRecDepth 100000 in
theorem mw_263 : (Jvm.Cond.instanceMethod ({ cls := "java/lang/Throwable", name := "<init>", desc := "()V" } : Jvm.MethodName)) ∈ evW := evm 263 (by decide +kernel) rfl
set_option maxRecDepth 100000 in
theorem mw_264 : (Jvm.Cond.code ({ cls := "java/lang/Throwable", name := "<init>", desc := "()V" } : Jvm.MethodName) prog_18_method_1_code (1 : Nat) (Option.none : Option Jvm.ClassFile.FieldType)) ∈ evW := evm 264 rfl rfl
set_option maxRecDepth 100000 in
theorem mw_265 : (Jvm.Cond.methodLink "java/lang/Throwable" (1 : Nat) ({ cls := "java/lang/Object", name := "<init>", desc := "()V" } : Jvm.MethodName)) ∈ evW := evm 265 (by decide +kernel) rfl
set_option maxRecDepth 100000 in
theorem mw_266 : (Jvm.Cond.fieldLink "java/lang/Throwable" (13 : Nat) "java/lang/Throwable" "UNASSIGNED_STACK" "[Ljava/lang/StackTraceElement;") ∈ evW := evm 266 (by decide +kernel) rfl
set_option maxRecDepth 100000 in
theorem mw_268 : (Jvm.Cond.fieldLink "java/lang/Throwable" (20 : Nat) "java/lang/Throwable" "SUPPRESSED_SENTINEL" "Ljava/util/List;") ∈ evW := evm 268 (by decide +kernel) rfl
set_option maxRecDepth 100000 in
theorem mw_270 : (Jvm.Cond.methodLink "java/lang/Throwable" (27 : Nat) ({ cls := "java/lang/Throwable", name := "fillInStackTrace", desc := "()Ljava/lang/Throwable;" } : Jvm.MethodName)) ∈ evW := evm 270 (by decide +kernel) rfl
set_option maxRecDepth 100000 in
theorem mw_271 : (Jvm.Cond.instanceMethod ({ cls := "java/lang/Throwable", name := "fillInStackTrace", desc := "()Ljava/lang/Throwable;" } : Jvm.MethodName)) ∈ evW := evm 271 (by decide +kernel) rfl
set_option maxRecDepth 100000 in
theorem mw_273 : (Jvm.Cond.selects "java/lang/IllegalArgumentException" ({ cls := "java/lang/Throwable", name := "fillInStackTrace", desc := "()Ljava/lang/Throwable;" } : Jvm.MethodName) ({ cls := "java/lang/Throwable", name := "fillInStackTrace", desc := "()Ljava/lang/Throwable;" } : Jvm.MethodName)) ∈ evW := evm 273 (by decide +kernel) rfl
set_option maxRecDepth 100000 in
theorem mw_274 : (Jvm.Cond.selects "java/lang/IllegalStateException" ({ cls := "java/lang/Throwable", name := "fillInStackTrace", desc := "()Ljava/lang/Throwable;" } : Jvm.MethodName) ({ cls := "java/lang/Throwable", name := "fillInStackTrace", desc := "()Ljava/lang/Throwable;" } : Jvm.MethodName)) ∈ evW := evm 274 (by decide +kernel) rfl
set_option maxRecDepth 100000 in
theorem mw_275 : (Jvm.Cond.selects "java/lang/UnsupportedOperationException" ({ cls := "java/lang/Throwable", name := "fillInStackTrace", desc := "()Ljava/lang/Throwable;" } : Jvm.MethodName) ({ cls := "java/lang/Throwable", name := "fillInStackTrace", desc := "()Ljava/lang/Throwable;" } : Jvm.MethodName)) ∈ evW := evm 275 (by decide +kernel) rfl
set_option maxRecDepth 100000 in
theorem mw_277 : (Jvm.Cond.methodLink "java/lang/Throwable" (202 : Nat) ({ cls := "java/lang/Throwable", name := "fillInStackTrace", desc := "(I)Ljava/lang/Throwable;" } : Jvm.MethodName)) ∈ evW := evm 277 (by decide +kernel) rfl
set_option maxRecDepth 100000 in
theorem mw_279 : (Jvm.Cond.instanceMethod ({ cls := "java/lang/Throwable", name := "fillInStackTrace", desc := "(I)Ljava/lang/Throwable;" } : Jvm.MethodName)) ∈ evW := evm 279 (by decide +kernel) rfl
set_option maxRecDepth 100000 in
theorem mw_280 : (Jvm.Cond.instantiable "java/lang/Throwable" (6 : Nat)) ∈ evW := evm 280 (by decide +kernel) rfl
set_option maxRecDepth 100000 in
theorem mw_281 : (Jvm.Cond.native ({ cls := "java/lang/Throwable", name := "fillInStackTrace", desc := "(I)Ljava/lang/Throwable;" } : Jvm.MethodName)) ∈ evW := evm 281 (by decide +kernel) rfl
set_option maxRecDepth 100000 in
theorem mw_283 : (Jvm.Cond.methodLink "BlockCounter" (52 : Nat) ({ cls := "java/lang/IndexOutOfBoundsException", name := "<init>", desc := "(Ljava/lang/String;)V" } : Jvm.MethodName)) ∈ evW := evm 283 (by decide +kernel) rfl
set_option maxRecDepth 100000 in
theorem mw_284 : (Jvm.Cond.instanceMethod ({ cls := "java/lang/IndexOutOfBoundsException", name := "<init>", desc := "(Ljava/lang/String;)V" } : Jvm.MethodName)) ∈ evW := evm 284 (by decide +kernel) rfl
set_option maxRecDepth 100000 in
theorem mw_285 : (Jvm.Cond.code ({ cls := "java/lang/IndexOutOfBoundsException", name := "<init>", desc := "(Ljava/lang/String;)V" } : Jvm.MethodName) prog_13_method_2_code (2 : Nat) (Option.none : Option Jvm.ClassFile.FieldType)) ∈ evW := evm 285 rfl rfl
set_option maxRecDepth 100000 in
theorem mw_286 : (Jvm.Cond.methodLink "java/lang/IndexOutOfBoundsException" (7 : Nat) ({ cls := "java/lang/RuntimeException", name := "<init>", desc := "(Ljava/lang/String;)V" } : Jvm.MethodName)) ∈ evW := evm 286 (by decide +kernel) rfl
set_option maxRecDepth 100000 in
theorem mw_287 : (Jvm.Cond.instanceMethod ({ cls := "java/lang/RuntimeException", name := "<init>", desc := "(Ljava/lang/String;)V" } : Jvm.MethodName)) ∈ evW := evm 287 (by decide +kernel) rfl
set_option maxRecDepth 100000 in
theorem mw_288 : (Jvm.Cond.code ({ cls := "java/lang/RuntimeException", name := "<init>", desc := "(Ljava/lang/String;)V" } : Jvm.MethodName) prog_15_method_2_code (2 : Nat) (Option.none : Option Jvm.ClassFile.FieldType)) ∈ evW := evm 288 rfl rfl
set_option maxRecDepth 100000 in
theorem mw_289 : (Jvm.Cond.methodLink "java/lang/RuntimeException" (7 : Nat) ({ cls := "java/lang/Exception", name := "<init>", desc := "(Ljava/lang/String;)V" } : Jvm.MethodName)) ∈ evW := evm 289 (by decide +kernel) rfl
set_option maxRecDepth 100000 in
theorem mw_290 : (Jvm.Cond.instanceMethod ({ cls := "java/lang/Exception", name := "<init>", desc := "(Ljava/lang/String;)V" } : Jvm.MethodName)) ∈ evW := evm 290 (by decide +kernel) rfl
set_option maxRecDepth 100000 in
theorem mw_291 : (Jvm.Cond.code ({ cls := "java/lang/Exception", name := "<init>", desc := "(Ljava/lang/String;)V" } : Jvm.MethodName) prog_10_method_2_code (2 : Nat) (Option.none : Option Jvm.ClassFile.FieldType)) ∈ evW := evm 291 rfl rfl
set_option maxRecDepth 100000 in
theorem mw_292 : (Jvm.Cond.methodLink "java/lang/Exception" (7 : Nat) ({ cls := "java/lang/Throwable", name := "<init>", desc := "(Ljava/lang/String;)V" } : Jvm.MethodName)) ∈ evW := evm 292 (by decide +kernel) rfl
set_option maxRecDepth 100000 in
theorem mw_293 : (Jvm.Cond.instanceMethod ({ cls := "java/lang/Throwable", name := "<init>", desc := "(Ljava/lang/String;)V" } : Jvm.MethodName)) ∈ evW := evm 293 (by decide +kernel) rfl
set_option maxRecDepth 100000 in
theorem mw_294 : (Jvm.Cond.code ({ cls := "java/lang/Throwable", name := "<init>", desc := "(Ljava/lang/String;)V" } : Jvm.MethodName) prog_18_method_2_code (2 : Nat) (Option.none : Option Jvm.ClassFile.FieldType)) ∈ evW := evm 294 rfl rfl
set_option maxRecDepth 100000 in
theorem mw_295 : (Jvm.Cond.fieldLink "java/lang/Throwable" (198 : Nat) "java/lang/Throwable" "backtrace" "Ljava/lang/Object;") ∈ evW := evm 295 (by decide +kernel) rfl
set_option maxRecDepth 100000 in
theorem mw_296 : (Jvm.Cond.fieldLink "java/lang/Throwable" (31 : Nat) "java/lang/Throwable" "detailMessage" "Ljava/lang/String;") ∈ evW := evm 296 (by decide +kernel) rfl
set_option maxRecDepth 100000 in
theorem mw_297 : (Jvm.Cond.fieldLink "java/lang/Throwable" (7 : Nat) "java/lang/Throwable" "cause" "Ljava/lang/Throwable;") ∈ evW := evm 297 (by decide +kernel) rfl
set_option maxRecDepth 100000 in
theorem mw_298 : (Jvm.Cond.fieldLink "java/lang/Throwable" (17 : Nat) "java/lang/Throwable" "stackTrace" "[Ljava/lang/StackTraceElement;") ∈ evW := evm 298 (by decide +kernel) rfl
set_option maxRecDepth 100000 in
theorem mw_299 : (Jvm.Cond.fieldLink "java/lang/Throwable" (24 : Nat) "java/lang/Throwable" "suppressedExceptions" "Ljava/util/List;") ∈ evW := evm 299 (by decide +kernel) rfl
set_option maxRecDepth 100000 in
theorem mw_308 : (Jvm.Cond.arrayClass Jvm.ClassFile.FieldType.byte) ∈ evW := evm 308 (by decide +kernel) rfl
set_option maxRecDepth 100000 in
theorem mw_309 : (Jvm.Cond.methodLink "BlockCounter" (55 : Nat) ({ cls := "BlockCounter$Program", name := "put", desc := "(II)V" } : Jvm.MethodName)) ∈ evW := evm 309 (by decide +kernel) rfl
set_option maxRecDepth 100000 in
theorem mw_310 : (Jvm.Cond.instanceMethod ({ cls := "BlockCounter$Program", name := "put", desc := "(II)V" } : Jvm.MethodName)) ∈ evW := evm 310 (by decide +kernel) rfl
set_option maxRecDepth 100000 in
theorem mw_311 : (Jvm.Cond.selects "BlockCounter$Program" ({ cls := "BlockCounter$Program", name := "put", desc := "(II)V" } : Jvm.MethodName) ({ cls := "BlockCounter$Program", name := "put", desc := "(II)V" } : Jvm.MethodName)) ∈ evW := evm 311 (by decide +kernel) rfl
set_option maxRecDepth 100000 in
theorem mw_312 : (Jvm.Cond.code ({ cls := "BlockCounter$Program", name := "put", desc := "(II)V" } : Jvm.MethodName) prog_5_method_3_code (3 : Nat) (Option.none : Option Jvm.ClassFile.FieldType)) ∈ evW := evm 312 rfl rfl
set_option maxRecDepth 100000 in
theorem mw_313 : (Jvm.Cond.methodLink "BlockCounter" (59 : Nat) ({ cls := "BlockCounter", name := "forgetFindings", desc := "()V" } : Jvm.MethodName)) ∈ evW := evm 313 (by decide +kernel) rfl
set_option maxRecDepth 100000 in
theorem mw_315 : (Jvm.Cond.instanceMethod ({ cls := "BlockCounter", name := "forgetFindings", desc := "()V" } : Jvm.MethodName)) ∈ evW := evm 315 (by decide +kernel) rfl
set_option maxRecDepth 100000 in
theorem mw_316 : (Jvm.Cond.code ({ cls := "BlockCounter", name := "forgetFindings", desc := "()V" } : Jvm.MethodName) prog_1_method_16_code (1 : Nat) (Option.none : Option Jvm.ClassFile.FieldType)) ∈ evW := evm 316 rfl rfl
set_option maxRecDepth 100000 in
theorem mw_317 : (Jvm.Cond.methodLink "BlockCounter" (186 : Nat) ({ cls := "BlockCounter$Analysis", name := "forget", desc := "()V" } : Jvm.MethodName)) ∈ evW := evm 317 (by decide +kernel) rfl
set_option maxRecDepth 100000 in
theorem mw_318 : (Jvm.Cond.instanceMethod ({ cls := "BlockCounter$Analysis", name := "forget", desc := "()V" } : Jvm.MethodName)) ∈ evW := evm 318 (by decide +kernel) rfl
set_option maxRecDepth 100000 in
theorem mw_319 : (Jvm.Cond.selects "BlockCounter$Analysis" ({ cls := "BlockCounter$Analysis", name := "forget", desc := "()V" } : Jvm.MethodName) ({ cls := "BlockCounter$Analysis", name := "forget", desc := "()V" } : Jvm.MethodName)) ∈ evW := evm 319 (by decide +kernel) rfl
set_option maxRecDepth 100000 in
theorem mw_320 : (Jvm.Cond.code ({ cls := "BlockCounter$Analysis", name := "forget", desc := "()V" } : Jvm.MethodName) prog_2_method_2_code (1 : Nat) (Option.none : Option Jvm.ClassFile.FieldType)) ∈ evW := evm 320 rfl rfl
set_option maxRecDepth 100000 in
theorem mw_321 : (Jvm.Cond.methodLink "BlockCounter" (85 : Nat) ({ cls := "BlockCounter$Rewriting", name := "forget", desc := "()V" } : Jvm.MethodName)) ∈ evW := evm 321 (by decide +kernel) rfl
set_option maxRecDepth 100000 in
theorem mw_322 : (Jvm.Cond.instanceMethod ({ cls := "BlockCounter$Rewriting", name := "forget", desc := "()V" } : Jvm.MethodName)) ∈ evW := evm 322 (by decide +kernel) rfl
set_option maxRecDepth 100000 in
theorem mw_323 : (Jvm.Cond.selects "BlockCounter$Rewriting" ({ cls := "BlockCounter$Rewriting", name := "forget", desc := "()V" } : Jvm.MethodName) ({ cls := "BlockCounter$Rewriting", name := "forget", desc := "()V" } : Jvm.MethodName)) ∈ evW := evm 323 (by decide +kernel) rfl
set_option maxRecDepth 100000 in
theorem mw_324 : (Jvm.Cond.code ({ cls := "BlockCounter$Rewriting", name := "forget", desc := "()V" } : Jvm.MethodName) prog_6_method_2_code (1 : Nat) (Option.none : Option Jvm.ClassFile.FieldType)) ∈ evW := evm 324 rfl rfl
set_option maxRecDepth 100000 in
theorem mw_325 : (Jvm.Cond.methodLink "BlockCounterLaw" (73 : Nat) ({ cls := "BlockCounterLaw", name := "declare", desc := "(LBlockCounter;II[J)I" } : Jvm.MethodName)) ∈ evW := evm 325 (by decide +kernel) rfl
set_option maxRecDepth 100000 in
theorem mw_326 : (Jvm.Cond.static ({ cls := "BlockCounterLaw", name := "declare", desc := "(LBlockCounter;II[J)I" } : Jvm.MethodName)) ∈ evW := evm 326 (by decide +kernel) rfl
set_option maxRecDepth 100000 in
theorem mw_327 : (Jvm.Cond.codeWith ({ cls := "BlockCounterLaw", name := "declare", desc := "(LBlockCounter;II[J)I" } : Jvm.MethodName) method_4_code (5 : Nat) (Option.some Jvm.ClassFile.FieldType.int) [((0 : Nat), (10 : Nat), (13 : Nat), (19 : Nat)), ((0 : Nat), (10 : Nat), (17 : Nat), (21 : Nat))]) ∈ evW := evm 327 rfl rfl
set_option maxRecDepth 100000 in
theorem mw_328 : (Jvm.Cond.classLink "BlockCounterLaw" (19 : Nat) "java/lang/IllegalArgumentException") ∈ evW := evm 328 (by decide +kernel) rfl
set_option maxRecDepth 100000 in
theorem mw_329 : (Jvm.Cond.classLink "BlockCounterLaw" (21 : Nat) "java/lang/IllegalStateException") ∈ evW := evm 329 (by decide +kernel) rfl
set_option maxRecDepth 100000 in
theorem mw_330 : (Jvm.Cond.methodLink "BlockCounterLaw" (15 : Nat) ({ cls := "BlockCounter", name := "declare", desc := "(II)I" } : Jvm.MethodName)) ∈ evW := evm 330 (by decide +kernel) rfl
set_option maxRecDepth 100000 in
theorem mw_331 : (Jvm.Cond.instanceMethod ({ cls := "BlockCounter", name := "declare", desc := "(II)I" } : Jvm.MethodName)) ∈ evW := evm 331 (by decide +kernel) rfl
set_option maxRecDepth 100000 in
theorem mw_332 : (Jvm.Cond.selects "BlockCounter" ({ cls := "BlockCounter", name := "declare", desc := "(II)I" } : Jvm.MethodName) ({ cls := "BlockCounter", name := "declare", desc := "(II)I" } : Jvm.MethodName)) ∈ evW := evm 332 (by decide +kernel) rfl
set_option maxRecDepth 100000 in
theorem mw_333 : (Jvm.Cond.code ({ cls := "BlockCounter", name := "declare", desc := "(II)I" } : Jvm.MethodName) prog_1_method_3_code (3 : Nat) (Option.some Jvm.ClassFile.FieldType.int)) ∈ evW := evm 333 rfl rfl
set_option maxRecDepth 100000 in
theorem mw_334 : (Jvm.Cond.classLink "BlockCounter" (62 : Nat) "java/lang/IllegalArgumentException") ∈ evW := evm 334 (by decide +kernel) rfl
set_option maxRecDepth 100000 in
theorem mw_335 : (Jvm.Cond.instantiable "java/lang/IllegalArgumentException" (6 : Nat)) ∈ evW := evm 335 (by decide +kernel) rfl
set_option maxRecDepth 100000 in
theorem mw_337 : (Jvm.Cond.selects "java/lang/IllegalArgumentException" ({ cls := "java/lang/Throwable", name := "fillInStackTrace", desc := "(I)Ljava/lang/Throwable;" } : Jvm.MethodName) ({ cls := "java/lang/Throwable", name := "fillInStackTrace", desc := "(I)Ljava/lang/Throwable;" } : Jvm.MethodName)) ∈ evW := evm 337 (by decide +kernel) rfl
set_option maxRecDepth 100000 in
theorem mw_344 : (Jvm.Cond.methodLink "BlockCounter" (66 : Nat) ({ cls := "java/lang/IllegalArgumentException", name := "<init>", desc := "(Ljava/lang/String;)V" } : Jvm.MethodName)) ∈ evW := evm 344 (by decide +kernel) rfl
set_option maxRecDepth 100000 in
theorem mw_345 : (Jvm.Cond.instanceMethod ({ cls := "java/lang/IllegalArgumentException", name := "<init>", desc := "(Ljava/lang/String;)V" } : Jvm.MethodName)) ∈ evW := evm 345 (by decide +kernel) rfl
set_option maxRecDepth 100000 in
theorem mw_346 : (Jvm.Cond.code ({ cls := "java/lang/IllegalArgumentException", name := "<init>", desc := "(Ljava/lang/String;)V" } : Jvm.MethodName) prog_11_method_2_code (2 : Nat) (Option.none : Option Jvm.ClassFile.FieldType)) ∈ evW := evm 346 rfl rfl
set_option maxRecDepth 100000 in
theorem mw_347 : (Jvm.Cond.methodLink "java/lang/IllegalArgumentException" (7 : Nat) ({ cls := "java/lang/RuntimeException", name := "<init>", desc := "(Ljava/lang/String;)V" } : Jvm.MethodName)) ∈ evW := evm 347 (by decide +kernel) rfl
set_option maxRecDepth 100000 in
theorem mw_350 : (Jvm.Cond.methodLink "BlockCounter" (67 : Nat) ({ cls := "BlockCounter$Tables", name := "isFull", desc := "()Z" } : Jvm.MethodName)) ∈ evW := evm 350 (by decide +kernel) rfl
set_option maxRecDepth 100000 in
theorem mw_351 : (Jvm.Cond.instanceMethod ({ cls := "BlockCounter$Tables", name := "isFull", desc := "()Z" } : Jvm.MethodName)) ∈ evW := evm 351 (by decide +kernel) rfl
set_option maxRecDepth 100000 in
theorem mw_352 : (Jvm.Cond.selects "BlockCounter$Tables" ({ cls := "BlockCounter$Tables", name := "isFull", desc := "()Z" } : Jvm.MethodName) ({ cls := "BlockCounter$Tables", name := "isFull", desc := "()Z" } : Jvm.MethodName)) ∈ evW := evm 352 (by decide +kernel) rfl
set_option maxRecDepth 100000 in
theorem mw_353 : (Jvm.Cond.code ({ cls := "BlockCounter$Tables", name := "isFull", desc := "()Z" } : Jvm.MethodName) prog_7_method_3_code (1 : Nat) (Option.some Jvm.ClassFile.FieldType.boolean)) ∈ evW := evm 353 rfl rfl
set_option maxRecDepth 100000 in
theorem mw_354 : (Jvm.Cond.classLink "BlockCounter" (71 : Nat) "java/lang/IllegalStateException") ∈ evW := evm 354 (by decide +kernel) rfl
set_option maxRecDepth 100000 in
theorem mw_355 : (Jvm.Cond.instantiable "java/lang/IllegalStateException" (6 : Nat)) ∈ evW := evm 355 (by decide +kernel) rfl
set_option maxRecDepth 100000 in
theorem mw_357 : (Jvm.Cond.selects "java/lang/IllegalStateException" ({ cls := "java/lang/Throwable", name := "fillInStackTrace", desc := "(I)Ljava/lang/Throwable;" } : Jvm.MethodName) ({ cls := "java/lang/Throwable", name := "fillInStackTrace", desc := "(I)Ljava/lang/Throwable;" } : Jvm.MethodName)) ∈ evW := evm 357 (by decide +kernel) rfl
set_option maxRecDepth 100000 in
theorem mw_364 : (Jvm.Cond.methodLink "BlockCounter" (75 : Nat) ({ cls := "java/lang/IllegalStateException", name := "<init>", desc := "(Ljava/lang/String;)V" } : Jvm.MethodName)) ∈ evW := evm 364 (by decide +kernel) rfl
set_option maxRecDepth 100000 in
theorem mw_365 : (Jvm.Cond.instanceMethod ({ cls := "java/lang/IllegalStateException", name := "<init>", desc := "(Ljava/lang/String;)V" } : Jvm.MethodName)) ∈ evW := evm 365 (by decide +kernel) rfl
set_option maxRecDepth 100000 in
theorem mw_366 : (Jvm.Cond.code ({ cls := "java/lang/IllegalStateException", name := "<init>", desc := "(Ljava/lang/String;)V" } : Jvm.MethodName) prog_12_method_2_code (2 : Nat) (Option.none : Option Jvm.ClassFile.FieldType)) ∈ evW := evm 366 rfl rfl
set_option maxRecDepth 100000 in
theorem mw_367 : (Jvm.Cond.methodLink "java/lang/IllegalStateException" (7 : Nat) ({ cls := "java/lang/RuntimeException", name := "<init>", desc := "(Ljava/lang/String;)V" } : Jvm.MethodName)) ∈ evW := evm 367 (by decide +kernel) rfl
set_option maxRecDepth 100000 in
theorem mw_370 : (Jvm.Cond.methodLink "BlockCounter" (76 : Nat) ({ cls := "BlockCounter$Tables", name := "add", desc := "(II)V" } : Jvm.MethodName)) ∈ evW := evm 370 (by decide +kernel) rfl
set_option maxRecDepth 100000 in
theorem mw_371 : (Jvm.Cond.instanceMethod ({ cls := "BlockCounter$Tables", name := "add", desc := "(II)V" } : Jvm.MethodName)) ∈ evW := evm 371 (by decide +kernel) rfl
set_option maxRecDepth 100000 in
theorem mw_372 : (Jvm.Cond.selects "BlockCounter$Tables" ({ cls := "BlockCounter$Tables", name := "add", desc := "(II)V" } : Jvm.MethodName) ({ cls := "BlockCounter$Tables", name := "add", desc := "(II)V" } : Jvm.MethodName)) ∈ evW := evm 372 (by decide +kernel) rfl
set_option maxRecDepth 100000 in
theorem mw_373 : (Jvm.Cond.code ({ cls := "BlockCounter$Tables", name := "add", desc := "(II)V" } : Jvm.MethodName) prog_7_method_4_code (3 : Nat) (Option.none : Option Jvm.ClassFile.FieldType)) ∈ evW := evm 373 rfl rfl
set_option maxRecDepth 100000 in
theorem mw_374 : (Jvm.Cond.methodLink "BlockCounter$Tables" (20 : Nat) ({ cls := "BlockCounter$Tables", name := "isFull", desc := "()Z" } : Jvm.MethodName)) ∈ evW := evm 374 (by decide +kernel) rfl
set_option maxRecDepth 100000 in
theorem mw_375 : (Jvm.Cond.methodLink "BlockCounter" (79 : Nat) ({ cls := "BlockCounter$Tables", name := "size", desc := "()I" } : Jvm.MethodName)) ∈ evW := evm 375 (by decide +kernel) rfl
set_option maxRecDepth 100000 in
theorem mw_376 : (Jvm.Cond.instanceMethod ({ cls := "BlockCounter$Tables", name := "size", desc := "()I" } : Jvm.MethodName)) ∈ evW := evm 376 (by decide +kernel) rfl
set_option maxRecDepth 100000 in
theorem mw_377 : (Jvm.Cond.selects "BlockCounter$Tables" ({ cls := "BlockCounter$Tables", name := "size", desc := "()I" } : Jvm.MethodName) ({ cls := "BlockCounter$Tables", name := "size", desc := "()I" } : Jvm.MethodName)) ∈ evW := evm 377 (by decide +kernel) rfl
set_option maxRecDepth 100000 in
theorem mw_378 : (Jvm.Cond.code ({ cls := "BlockCounter$Tables", name := "size", desc := "()I" } : Jvm.MethodName) prog_7_method_2_code (1 : Nat) (Option.some Jvm.ClassFile.FieldType.int)) ∈ evW := evm 378 rfl rfl
set_option maxRecDepth 100000 in
theorem mw_379 : (Jvm.Cond.methodLink "BlockCounterLaw" (77 : Nat) ({ cls := "BlockCounterLaw", name := "data", desc := "(LBlockCounter;II)I" } : Jvm.MethodName)) ∈ evW := evm 379 (by decide +kernel) rfl
set_option maxRecDepth 100000 in
theorem mw_380 : (Jvm.Cond.static ({ cls := "BlockCounterLaw", name := "data", desc := "(LBlockCounter;II)I" } : Jvm.MethodName)) ∈ evW := evm 380 (by decide +kernel) rfl
set_option maxRecDepth 100000 in
theorem mw_381 : (Jvm.Cond.codeWith ({ cls := "BlockCounterLaw", name := "data", desc := "(LBlockCounter;II)I" } : Jvm.MethodName) method_5_code (4 : Nat) (Option.some Jvm.ClassFile.FieldType.int) [((0 : Nat), (6 : Nat), (9 : Nat), (13 : Nat))]) ∈ evW := evm 381 rfl rfl
set_option maxRecDepth 100000 in
theorem mw_382 : (Jvm.Cond.methodLink "BlockCounterLaw" (23 : Nat) ({ cls := "BlockCounter", name := "data", desc := "(II)V" } : Jvm.MethodName)) ∈ evW := evm 382 (by decide +kernel) rfl
set_option maxRecDepth 100000 in
theorem mw_383 : (Jvm.Cond.instanceMethod ({ cls := "BlockCounter", name := "data", desc := "(II)V" } : Jvm.MethodName)) ∈ evW := evm 383 (by decide +kernel) rfl
set_option maxRecDepth 100000 in
theorem mw_384 : (Jvm.Cond.selects "BlockCounter" ({ cls := "BlockCounter", name := "data", desc := "(II)V" } : Jvm.MethodName) ({ cls := "BlockCounter", name := "data", desc := "(II)V" } : Jvm.MethodName)) ∈ evW := evm 384 (by decide +kernel) rfl
set_option maxRecDepth 100000 in
theorem mw_385 : (Jvm.Cond.code ({ cls := "BlockCounter", name := "data", desc := "(II)V" } : Jvm.MethodName) prog_1_method_4_code (3 : Nat) (Option.none : Option Jvm.ClassFile.FieldType)) ∈ evW := evm 385 rfl rfl
set_option maxRecDepth 100000 in
theorem mw_387 : (Jvm.Cond.methodLink "BlockCounterLaw" (80 : Nat) ({ cls := "BlockCounterLaw", name := "analyse", desc := "(LBlockCounter;[J)I" } : Jvm.MethodName)) ∈ evW := evm 387 (by decide +kernel) rfl
set_option maxRecDepth 100000 in
theorem mw_388 : (Jvm.Cond.static ({ cls := "BlockCounterLaw", name := "analyse", desc := "(LBlockCounter;[J)I" } : Jvm.MethodName)) ∈ evW := evm 388 (by decide +kernel) rfl
set_option maxRecDepth 100000 in
theorem mw_389 : (Jvm.Cond.codeWith ({ cls := "BlockCounterLaw", name := "analyse", desc := "(LBlockCounter;[J)I" } : Jvm.MethodName) method_6_code (3 : Nat) (Option.some Jvm.ClassFile.FieldType.int) [((0 : Nat), (8 : Nat), (11 : Nat), (30 : Nat))]) ∈ evW := evm 389 rfl rfl
set_option maxRecDepth 100000 in
theorem mw_390 : (Jvm.Cond.classLink "BlockCounterLaw" (30 : Nat) "java/lang/UnsupportedOperationException") ∈ evW := evm 390 (by decide +kernel) rfl
set_option maxRecDepth 100000 in
theorem mw_391 : (Jvm.Cond.methodLink "BlockCounterLaw" (26 : Nat) ({ cls := "BlockCounter", name := "analyse", desc := "()I" } : Jvm.MethodName)) ∈ evW := evm 391 (by decide +kernel) rfl
set_option maxRecDepth 100000 in
theorem mw_392 : (Jvm.Cond.instanceMethod ({ cls := "BlockCounter", name := "analyse", desc := "()I" } : Jvm.MethodName)) ∈ evW := evm 392 (by decide +kernel) rfl
set_option maxRecDepth 100000 in
theorem mw_393 : (Jvm.Cond.selects "BlockCounter" ({ cls := "BlockCounter", name := "analyse", desc := "()I" } : Jvm.MethodName) ({ cls := "BlockCounter", name := "analyse", desc := "()I" } : Jvm.MethodName)) ∈ evW := evm 393 (by decide +kernel) rfl
set_option maxRecDepth 100000 in
theorem mw_394 : (Jvm.Cond.code ({ cls := "BlockCounter", name := "analyse", desc := "()I" } : Jvm.MethodName) prog_1_method_5_code (1 : Nat) (Option.some Jvm.ClassFile.FieldType.int)) ∈ evW := evm 394 rfl rfl
set_option maxRecDepth 100000 in
theorem mw_395 : (Jvm.Cond.methodLink "BlockCounter" (88 : Nat) ({ cls := "BlockCounter$Analysis", name := "explore", desc := "(LBlockCounter$Program;LBlockCounter$Tables;)Z" } : Jvm.MethodName)) ∈ evW := evm 395 (by decide +kernel) rfl
set_option maxRecDepth 100000 in
theorem mw_396 : (Jvm.Cond.instanceMethod ({ cls := "BlockCounter$Analysis", name := "explore", desc := "(LBlockCounter$Program;LBlockCounter$Tables;)Z" } : Jvm.MethodName)) ∈ evW := evm 396 (by decide +kernel) rfl
set_option maxRecDepth 100000 in
theorem mw_397 : (Jvm.Cond.selects "BlockCounter$Analysis" ({ cls := "BlockCounter$Analysis", name := "explore", desc := "(LBlockCounter$Program;LBlockCounter$Tables;)Z" } : Jvm.MethodName) ({ cls := "BlockCounter$Analysis", name := "explore", desc := "(LBlockCounter$Program;LBlockCounter$Tables;)Z" } : Jvm.MethodName)) ∈ evW := evm 397 (by decide +kernel) rfl
set_option maxRecDepth 100000 in
theorem mw_398 : (Jvm.Cond.code ({ cls := "BlockCounter$Analysis", name := "explore", desc := "(LBlockCounter$Program;LBlockCounter$Tables;)Z" } : Jvm.MethodName) prog_2_method_10_code (5 : Nat) (Option.some Jvm.ClassFile.FieldType.boolean)) ∈ evW := evm 398 rfl rfl
set_option maxRecDepth 100000 in
theorem mw_399 : (Jvm.Cond.methodLink "BlockCounter$Analysis" (59 : Nat) ({ cls := "BlockCounter$Analysis", name := "clear", desc := "()V" } : Jvm.MethodName)) ∈ evW := evm 399 (by decide +kernel) rfl
set_option maxRecDepth 100000 in
theorem mw_401 : (Jvm.Cond.instanceMethod ({ cls := "BlockCounter$Analysis", name := "clear", desc := "()V" } : Jvm.MethodName)) ∈ evW := evm 401 (by decide +kernel) rfl
set_option maxRecDepth 100000 in
theorem mw_402 : (Jvm.Cond.code ({ cls := "BlockCounter$Analysis", name := "clear", desc := "()V" } : Jvm.MethodName) prog_2_method_11_code (2 : Nat) (Option.none : Option Jvm.ClassFile.FieldType)) ∈ evW := evm 402 rfl rfl
set_option maxRecDepth 100000 in
theorem mw_403 : (Jvm.Cond.methodLink "BlockCounter$Analysis" (81 : Nat) ({ cls := "java/util/Arrays", name := "fill", desc := "([II)V" } : Jvm.MethodName)) ∈ evW := evm 403 (by decide +kernel) rfl
set_option maxRecDepth 100000 in
theorem mw_404 : (Jvm.Cond.static ({ cls := "java/util/Arrays", name := "fill", desc := "([II)V" } : Jvm.MethodName)) ∈ evW := evm 404 (by decide +kernel) rfl
set_option maxRecDepth 100000 in
theorem mw_405 : (Jvm.Cond.code ({ cls := "java/util/Arrays", name := "fill", desc := "([II)V" } : Jvm.MethodName) prog_20_method_103_code (4 : Nat) (Option.none : Option Jvm.ClassFile.FieldType)) ∈ evW := evm 405 rfl rfl
set_option maxRecDepth 100000 in
theorem mw_406 : (Jvm.Cond.methodLink "BlockCounter$Analysis" (62 : Nat) ({ cls := "BlockCounter$Analysis", name := "comeToHead", desc := "(I)Z" } : Jvm.MethodName)) ∈ evW := evm 406 (by decide +kernel) rfl
set_option maxRecDepth 100000 in
theorem mw_408 : (Jvm.Cond.instanceMethod ({ cls := "BlockCounter$Analysis", name := "comeToHead", desc := "(I)Z" } : Jvm.MethodName)) ∈ evW := evm 408 (by decide +kernel) rfl
set_option maxRecDepth 100000 in
theorem mw_409 : (Jvm.Cond.code ({ cls := "BlockCounter$Analysis", name := "comeToHead", desc := "(I)Z" } : Jvm.MethodName) prog_2_method_13_code (2 : Nat) (Option.some Jvm.ClassFile.FieldType.boolean)) ∈ evW := evm 409 rfl rfl
set_option maxRecDepth 100000 in
theorem mw_410 : (Jvm.Cond.methodLink "BlockCounter$Analysis" (87 : Nat) ({ cls := "BlockCounter$Analysis", name := "comeTo", desc := "(I)Z" } : Jvm.MethodName)) ∈ evW := evm 410 (by decide +kernel) rfl
set_option maxRecDepth 100000 in
theorem mw_412 : (Jvm.Cond.instanceMethod ({ cls := "BlockCounter$Analysis", name := "comeTo", desc := "(I)Z" } : Jvm.MethodName)) ∈ evW := evm 412 (by decide +kernel) rfl
set_option maxRecDepth 100000 in
theorem mw_413 : (Jvm.Cond.code ({ cls := "BlockCounter$Analysis", name := "comeTo", desc := "(I)Z" } : Jvm.MethodName) prog_2_method_12_code (2 : Nat) (Option.some Jvm.ClassFile.FieldType.boolean)) ∈ evW := evm 413 rfl rfl
set_option maxRecDepth 100000 in
theorem mw_414 : (Jvm.Cond.methodLink "BlockCounter$Analysis" (69 : Nat) ({ cls := "BlockCounter$Analysis", name := "follow", desc := "(LBlockCounter$Program;LBlockCounter$Tables;I)Z" } : Jvm.MethodName)) ∈ evW := evm 414 (by decide +kernel) rfl
set_option maxRecDepth 100000 in
theorem mw_416 : (Jvm.Cond.instanceMethod ({ cls := "BlockCounter$Analysis", name := "follow", desc := "(LBlockCounter$Program;LBlockCounter$Tables;I)Z" } : Jvm.MethodName)) ∈ evW := evm 416 (by decide +kernel) rfl
set_option maxRecDepth 100000 in
theorem mw_417 : (Jvm.Cond.code ({ cls := "BlockCounter$Analysis", name := "follow", desc := "(LBlockCounter$Program;LBlockCounter$Tables;I)Z" } : Jvm.MethodName) prog_2_method_14_code (4 : Nat) (Option.some Jvm.ClassFile.FieldType.boolean)) ∈ evW := evm 417 rfl rfl
set_option maxRecDepth 100000 in
theorem mw_418 : (Jvm.Cond.methodLink "BlockCounter$Analysis" (90 : Nat) ({ cls := "BlockCounter$Instruction", name := "read", desc := "(LBlockCounter$Program;II)Z" } : Jvm.MethodName)) ∈ evW := evm 418 (by decide +kernel) rfl
set_option maxRecDepth 100000 in
theorem mw_419 : (Jvm.Cond.instanceMethod ({ cls := "BlockCounter$Instruction", name := "read", desc := "(LBlockCounter$Program;II)Z" } : Jvm.MethodName)) ∈ evW := evm 419 (by decide +kernel) rfl
set_option maxRecDepth 100000 in
theorem mw_420 : (Jvm.Cond.selects "BlockCounter$Instruction" ({ cls := "BlockCounter$Instruction", name := "read", desc := "(LBlockCounter$Program;II)Z" } : Jvm.MethodName) ({ cls := "BlockCounter$Instruction", name := "read", desc := "(LBlockCounter$Program;II)Z" } : Jvm.MethodName)) ∈ evW := evm 420 (by decide +kernel) rfl
set_option maxRecDepth 100000 in
theorem mw_421 : (Jvm.Cond.code ({ cls := "BlockCounter$Instruction", name := "read", desc := "(LBlockCounter$Program;II)Z" } : Jvm.MethodName) prog_3_method_2_code (4 : Nat) (Option.some Jvm.ClassFile.FieldType.boolean)) ∈ evW := evm 421 rfl rfl
set_option maxRecDepth 100000 in
theorem mw_422 : (Jvm.Cond.methodLink "BlockCounter$Instruction" (13 : Nat) ({ cls := "BlockCounter$Program", name := "at", desc := "(I)I" } : Jvm.MethodName)) ∈ evW := evm 422 (by decide +kernel) rfl
set_option maxRecDepth 100000 in
theorem mw_423 : (Jvm.Cond.instanceMethod ({ cls := "BlockCounter$Program", name := "at", desc := "(I)I" } : Jvm.MethodName)) ∈ evW := evm 423 (by decide +kernel) rfl
set_option maxRecDepth 100000 in
theorem mw_424 : (Jvm.Cond.selects "BlockCounter$Program" ({ cls := "BlockCounter$Program", name := "at", desc := "(I)I" } : Jvm.MethodName) ({ cls := "BlockCounter$Program", name := "at", desc := "(I)I" } : Jvm.MethodName)) ∈ evW := evm 424 (by decide +kernel) rfl
set_option maxRecDepth 100000 in
theorem mw_425 : (Jvm.Cond.code ({ cls := "BlockCounter$Program", name := "at", desc := "(I)I" } : Jvm.MethodName) prog_5_method_2_code (2 : Nat) (Option.some Jvm.ClassFile.FieldType.int)) ∈ evW := evm 425 rfl rfl
set_option maxRecDepth 100000 in
theorem mw_426 : (Jvm.Cond.methodLink "BlockCounter$Instruction" (22 : Nat) ({ cls := "BlockCounter$Instruction", name := "kindOf", desc := "(I)I" } : Jvm.MethodName)) ∈ evW := evm 426 (by decide +kernel) rfl
set_option maxRecDepth 100000 in
theorem mw_427 : (Jvm.Cond.static ({ cls := "BlockCounter$Instruction", name := "kindOf", desc := "(I)I" } : Jvm.MethodName)) ∈ evW := evm 427 (by decide +kernel) rfl
set_option maxRecDepth 100000 in
theorem mw_428 : (Jvm.Cond.code ({ cls := "BlockCounter$Instruction", name := "kindOf", desc := "(I)I" } : Jvm.MethodName) prog_3_method_3_code (1 : Nat) (Option.some Jvm.ClassFile.FieldType.int)) ∈ evW := evm 428 rfl rfl
set_option maxRecDepth 100000 in
theorem mw_429 : (Jvm.Cond.methodLink "BlockCounter$Instruction" (28 : Nat) ({ cls := "BlockCounter$Instruction", name := "behind", desc := "()I" } : Jvm.MethodName)) ∈ evW := evm 429 (by decide +kernel) rfl
set_option maxRecDepth 100000 in
theorem mw_430 : (Jvm.Cond.instanceMethod ({ cls := "BlockCounter$Instruction", name := "behind", desc := "()I" } : Jvm.MethodName)) ∈ evW := evm 430 (by decide +kernel) rfl
set_option maxRecDepth 100000 in
theorem mw_431 : (Jvm.Cond.selects "BlockCounter$Instruction" ({ cls := "BlockCounter$Instruction", name := "behind", desc := "()I" } : Jvm.MethodName) ({ cls := "BlockCounter$Instruction", name := "behind", desc := "()I" } : Jvm.MethodName)) ∈ evW := evm 431 (by decide +kernel) rfl
set_option maxRecDepth 100000 in
theorem mw_432 : (Jvm.Cond.code ({ cls := "BlockCounter$Instruction", name := "behind", desc := "()I" } : Jvm.MethodName) prog_3_method_5_code (1 : Nat) (Option.some Jvm.ClassFile.FieldType.int)) ∈ evW := evm 432 rfl rfl
set_option maxRecDepth 100000 in
theorem mw_433 : (Jvm.Cond.methodLink "BlockCounter$Instruction" (38 : Nat) ({ cls := "BlockCounter$Instruction", name := "length", desc := "()I" } : Jvm.MethodName)) ∈ evW := evm 433 (by decide +kernel) rfl
set_option maxRecDepth 100000 in
theorem mw_434 : (Jvm.Cond.instanceMethod ({ cls := "BlockCounter$Instruction", name := "length", desc := "()I" } : Jvm.MethodName)) ∈ evW := evm 434 (by decide +kernel) rfl
set_option maxRecDepth 100000 in
theorem mw_435 : (Jvm.Cond.selects "BlockCounter$Instruction" ({ cls := "BlockCounter$Instruction", name := "length", desc := "()I" } : Jvm.MethodName) ({ cls := "BlockCounter$Instruction", name := "length", desc := "()I" } : Jvm.MethodName)) ∈ evW := evm 435 (by decide +kernel) rfl
set_option maxRecDepth 100000 in
theorem mw_436 : (Jvm.Cond.code ({ cls := "BlockCounter$Instruction", name := "length", desc := "()I" } : Jvm.MethodName) prog_3_method_4_code (1 : Nat) (Option.some Jvm.ClassFile.FieldType.int)) ∈ evW := evm 436 rfl rfl
set_option maxRecDepth 100000 in
theorem mw_437 : (Jvm.Cond.methodLink "BlockCounter$Analysis" (94 : Nat) ({ cls := "BlockCounter$Instruction", name := "isOfRewriting", desc := "()Z" } : Jvm.MethodName)) ∈ evW := evm 437 (by decide +kernel) rfl
set_option maxRecDepth 100000 in
theorem mw_438 : (Jvm.Cond.instanceMethod ({ cls := "BlockCounter$Instruction", name := "isOfRewriting", desc := "()Z" } : Jvm.MethodName)) ∈ evW := evm 438 (by decide +kernel) rfl
set_option maxRecDepth 100000 in
theorem mw_439 : (Jvm.Cond.selects "BlockCounter$Instruction" ({ cls := "BlockCounter$Instruction", name := "isOfRewriting", desc := "()Z" } : Jvm.MethodName) ({ cls := "BlockCounter$Instruction", name := "isOfRewriting", desc := "()Z" } : Jvm.MethodName)) ∈ evW := evm 439 (by decide +kernel) rfl
set_option maxRecDepth 100000 in
theorem mw_440 : (Jvm.Cond.code ({ cls := "BlockCounter$Instruction", name := "isOfRewriting", desc := "()Z" } : Jvm.MethodName) prog_3_method_11_code (1 : Nat) (Option.some Jvm.ClassFile.FieldType.boolean)) ∈ evW := evm 440 rfl rfl
set_option maxRecDepth 100000 in
theorem mw_441 : (Jvm.Cond.methodLink "BlockCounter$Analysis" (100 : Nat) ({ cls := "BlockCounter$Instruction", name := "behind", desc := "()I" } : Jvm.MethodName)) ∈ evW := evm 441 (by decide +kernel) rfl
set_option maxRecDepth 100000 in
theorem mw_442 : (Jvm.Cond.methodLink "BlockCounter$Analysis" (104 : Nat) ({ cls := "BlockCounter$Instruction", name := "branchTarget", desc := "()I" } : Jvm.MethodName)) ∈ evW := evm 442 (by decide +kernel) rfl
set_option maxRecDepth 100000 in
theorem mw_443 : (Jvm.Cond.instanceMethod ({ cls := "BlockCounter$Instruction", name := "branchTarget", desc := "()I" } : Jvm.MethodName)) ∈ evW := evm 443 (by decide +kernel) rfl
set_option maxRecDepth 100000 in
theorem mw_444 : (Jvm.Cond.selects "BlockCounter$Instruction" ({ cls := "BlockCounter$Instruction", name := "branchTarget", desc := "()I" } : Jvm.MethodName) ({ cls := "BlockCounter$Instruction", name := "branchTarget", desc := "()I" } : Jvm.MethodName)) ∈ evW := evm 444 (by decide +kernel) rfl
set_option maxRecDepth 100000 in
theorem mw_445 : (Jvm.Cond.code ({ cls := "BlockCounter$Instruction", name := "branchTarget", desc := "()I" } : Jvm.MethodName) prog_3_method_6_code (1 : Nat) (Option.some Jvm.ClassFile.FieldType.int)) ∈ evW := evm 445 rfl rfl
set_option maxRecDepth 100000 in
theorem mw_446 : (Jvm.Cond.methodLink "BlockCounter$Analysis" (113 : Nat) ({ cls := "BlockCounter$Tables", name := "has", desc := "(II)Z" } : Jvm.MethodName)) ∈ evW := evm 446 (by decide +kernel) rfl
set_option maxRecDepth 100000 in
theorem mw_447 : (Jvm.Cond.instanceMethod ({ cls := "BlockCounter$Tables", name := "has", desc := "(II)Z" } : Jvm.MethodName)) ∈ evW := evm 447 (by decide +kernel) rfl
set_option maxRecDepth 100000 in
theorem mw_448 : (Jvm.Cond.selects "BlockCounter$Tables" ({ cls := "BlockCounter$Tables", name := "has", desc := "(II)Z" } : Jvm.MethodName) ({ cls := "BlockCounter$Tables", name := "has", desc := "(II)Z" } : Jvm.MethodName)) ∈ evW := evm 448 (by decide +kernel) rfl
set_option maxRecDepth 100000 in
theorem mw_449 : (Jvm.Cond.code ({ cls := "BlockCounter$Tables", name := "has", desc := "(II)Z" } : Jvm.MethodName) prog_7_method_5_code (4 : Nat) (Option.some Jvm.ClassFile.FieldType.boolean)) ∈ evW := evm 449 rfl rfl
set_option maxRecDepth 100000 in
theorem mw_450 : (Jvm.Cond.methodLink "BlockCounter$Analysis" (119 : Nat) ({ cls := "BlockCounter$Analysis", name := "followTable", desc := "(LBlockCounter$Program;II)Z" } : Jvm.MethodName)) ∈ evW := evm 450 (by decide +kernel) rfl
set_option maxRecDepth 100000 in
theorem mw_452 : (Jvm.Cond.instanceMethod ({ cls := "BlockCounter$Analysis", name := "followTable", desc := "(LBlockCounter$Program;II)Z" } : Jvm.MethodName)) ∈ evW := evm 452 (by decide +kernel) rfl
set_option maxRecDepth 100000 in
theorem mw_453 : (Jvm.Cond.code ({ cls := "BlockCounter$Analysis", name := "followTable", desc := "(LBlockCounter$Program;II)Z" } : Jvm.MethodName) prog_2_method_15_code (5 : Nat) (Option.some Jvm.ClassFile.FieldType.boolean)) ∈ evW := evm 453 rfl rfl
set_option maxRecDepth 100000 in
theorem mw_454 : (Jvm.Cond.methodLink "BlockCounter$Analysis" (122 : Nat) ({ cls := "BlockCounter$Program", name := "at", desc := "(I)I" } : Jvm.MethodName)) ∈ evW := evm 454 (by decide +kernel) rfl
set_option maxRecDepth 100000 in
theorem mw_455 : (Jvm.Cond.methodLink "BlockCounter$Analysis" (73 : Nat) ({ cls := "BlockCounter$Analysis", name := "isWithoutOverlap", desc := "(LBlockCounter$Program;)Z" } : Jvm.MethodName)) ∈ evW := evm 455 (by decide +kernel) rfl
set_option maxRecDepth 100000 in
theorem mw_457 : (Jvm.Cond.instanceMethod ({ cls := "BlockCounter$Analysis", name := "isWithoutOverlap", desc := "(LBlockCounter$Program;)Z" } : Jvm.MethodName)) ∈ evW := evm 457 (by decide +kernel) rfl
set_option maxRecDepth 100000 in
theorem mw_458 : (Jvm.Cond.code ({ cls := "BlockCounter$Analysis", name := "isWithoutOverlap", desc := "(LBlockCounter$Program;)Z" } : Jvm.MethodName) prog_2_method_16_code (4 : Nat) (Option.some Jvm.ClassFile.FieldType.boolean)) ∈ evW := evm 458 rfl rfl
set_option maxRecDepth 100000 in
theorem mw_459 : (Jvm.Cond.methodLink "BlockCounter$Analysis" (77 : Nat) ({ cls := "BlockCounter$Analysis", name := "findBlocks", desc := "(LBlockCounter$Program;)V" } : Jvm.MethodName)) ∈ evW := evm 459 (by decide +kernel) rfl
set_option maxRecDepth 100000 in
theorem mw_461 : (Jvm.Cond.instanceMethod ({ cls := "BlockCounter$Analysis", name := "findBlocks", desc := "(LBlockCounter$Program;)V" } : Jvm.MethodName)) ∈ evW := evm 461 (by decide +kernel) rfl
set_option maxRecDepth 100000 in
theorem mw_462 : (Jvm.Cond.code ({ cls := "BlockCounter$Analysis", name := "findBlocks", desc := "(LBlockCounter$Program;)V" } : Jvm.MethodName) prog_2_method_17_code (3 : Nat) (Option.none : Option Jvm.ClassFile.FieldType)) ∈ evW := evm 462 rfl rfl
set_option maxRecDepth 100000 in
theorem mw_463 : (Jvm.Cond.methodLink "BlockCounter$Analysis" (127 : Nat) ({ cls := "BlockCounter$Analysis", name := "addBlock", desc := "(LBlockCounter$Program;I)V" } : Jvm.MethodName)) ∈ evW := evm 463 (by decide +kernel) rfl
set_option maxRecDepth 100000 in
theorem mw_465 : (Jvm.Cond.instanceMethod ({ cls := "BlockCounter$Analysis", name := "addBlock", desc := "(LBlockCounter$Program;I)V" } : Jvm.MethodName)) ∈ evW := evm 465 (by decide +kernel) rfl
set_option maxRecDepth 100000 in
theorem mw_466 : (Jvm.Cond.code ({ cls := "BlockCounter$Analysis", name := "addBlock", desc := "(LBlockCounter$Program;I)V" } : Jvm.MethodName) prog_2_method_18_code (7 : Nat) (Option.none : Option Jvm.ClassFile.FieldType)) ∈ evW := evm 466 rfl rfl
set_option maxRecDepth 100000 in
theorem mw_467 : (Jvm.Cond.methodLink "BlockCounter$Analysis" (131 : Nat) ({ cls := "BlockCounter$Instruction", name := "endsBlock", desc := "()Z" } : Jvm.MethodName)) ∈ evW := evm 467 (by decide +kernel) rfl
set_option maxRecDepth 100000 in
theorem mw_468 : (Jvm.Cond.instanceMethod ({ cls := "BlockCounter$Instruction", name := "endsBlock", desc := "()Z" } : Jvm.MethodName)) ∈ evW := evm 468 (by decide +kernel) rfl
set_option maxRecDepth 100000 in
theorem mw_469 : (Jvm.Cond.selects "BlockCounter$Instruction" ({ cls := "BlockCounter$Instruction", name := "endsBlock", desc := "()Z" } : Jvm.MethodName) ({ cls := "BlockCounter$Instruction", name := "endsBlock", desc := "()Z" } : Jvm.MethodName)) ∈ evW := evm 469 (by decide +kernel) rfl
set_option maxRecDepth 100000 in
theorem mw_470 : (Jvm.Cond.code ({ cls := "BlockCounter$Instruction", name := "endsBlock", desc := "()Z" } : Jvm.MethodName) prog_3_method_10_code (1 : Nat) (Option.some Jvm.ClassFile.FieldType.boolean)) ∈ evW := evm 470 rfl rfl
set_option maxRecDepth 100000 in
theorem mw_471 : (Jvm.Cond.classLink "BlockCounter" (92 : Nat) "java/lang/UnsupportedOperationException") ∈ evW := evm 471 (by decide +kernel) rfl
set_option maxRecDepth 100000 in
theorem mw_472 : (Jvm.Cond.instantiable "java/lang/UnsupportedOperationException" (6 : Nat)) ∈ evW := evm 472 (by decide +kernel) rfl
set_option maxRecDepth 100000 in
theorem mw_474 : (Jvm.Cond.selects "java/lang/UnsupportedOperationException" ({ cls := "java/lang/Throwable", name := "fillInStackTrace", desc := "(I)Ljava/lang/Throwable;" } : Jvm.MethodName) ({ cls := "java/lang/Throwable", name := "fillInStackTrace", desc := "(I)Ljava/lang/Throwable;" } : Jvm.MethodName)) ∈ evW := evm 474 (by decide +kernel) rfl
set_option maxRecDepth 100000 in
theorem mw_481 : (Jvm.Cond.methodLink "BlockCounter" (96 : Nat) ({ cls := "java/lang/UnsupportedOperationException", name := "<init>", desc := "(Ljava/lang/String;)V" } : Jvm.MethodName)) ∈ evW := evm 481 (by decide +kernel) rfl
set_option maxRecDepth 100000 in
theorem mw_482 : (Jvm.Cond.instanceMethod ({ cls := "java/lang/UnsupportedOperationException", name := "<init>", desc := "(Ljava/lang/String;)V" } : Jvm.MethodName)) ∈ evW := evm 482 (by decide +kernel) rfl
set_option maxRecDepth 100000 in
theorem mw_483 : (Jvm.Cond.code ({ cls := "java/lang/UnsupportedOperationException", name := "<init>", desc := "(Ljava/lang/String;)V" } : Jvm.MethodName) prog_19_method_2_code (2 : Nat) (Option.none : Option Jvm.ClassFile.FieldType)) ∈ evW := evm 483 rfl rfl
set_option maxRecDepth 100000 in
theorem mw_484 : (Jvm.Cond.methodLink "java/lang/UnsupportedOperationException" (7 : Nat) ({ cls := "java/lang/RuntimeException", name := "<init>", desc := "(Ljava/lang/String;)V" } : Jvm.MethodName)) ∈ evW := evm 484 (by decide +kernel) rfl
set_option maxRecDepth 100000 in
theorem mw_487 : (Jvm.Cond.methodLink "BlockCounter" (97 : Nat) ({ cls := "BlockCounter$Analysis", name := "size", desc := "()I" } : Jvm.MethodName)) ∈ evW := evm 487 (by decide +kernel) rfl
set_option maxRecDepth 100000 in
theorem mw_488 : (Jvm.Cond.instanceMethod ({ cls := "BlockCounter$Analysis", name := "size", desc := "()I" } : Jvm.MethodName)) ∈ evW := evm 488 (by decide +kernel) rfl
set_option maxRecDepth 100000 in
theorem mw_489 : (Jvm.Cond.selects "BlockCounter$Analysis" ({ cls := "BlockCounter$Analysis", name := "size", desc := "()I" } : Jvm.MethodName) ({ cls := "BlockCounter$Analysis", name := "size", desc := "()I" } : Jvm.MethodName)) ∈ evW := evm 489 (by decide +kernel) rfl
set_option maxRecDepth 100000 in
theorem mw_490 : (Jvm.Cond.code ({ cls := "BlockCounter$Analysis", name := "size", desc := "()I" } : Jvm.MethodName) prog_2_method_4_code (1 : Nat) (Option.some Jvm.ClassFile.FieldType.int)) ∈ evW := evm 490 rfl rfl
set_option maxRecDepth 100000 in
theorem mw_491 : (Jvm.Cond.methodLink "BlockCounterLaw" (84 : Nat) ({ cls := "BlockCounterLaw", name := "block", desc := "(LBlockCounter;II[J)I" } : Jvm.MethodName)) ∈ evW := evm 491 (by decide +kernel) rfl
set_option maxRecDepth 100000 in
theorem mw_492 : (Jvm.Cond.static ({ cls := "BlockCounterLaw", name := "block", desc := "(LBlockCounter;II[J)I" } : Jvm.MethodName)) ∈ evW := evm 492 (by decide +kernel) rfl
set_option maxRecDepth 100000 in
theorem mw_493 : (Jvm.Cond.codeWith ({ cls := "BlockCounterLaw", name := "block", desc := "(LBlockCounter;II[J)I" } : Jvm.MethodName) method_7_code (5 : Nat) (Option.some Jvm.ClassFile.FieldType.int) [((0 : Nat), (10 : Nat), (13 : Nat), (13 : Nat)), ((0 : Nat), (10 : Nat), (17 : Nat), (19 : Nat))]) ∈ evW := evm 493 rfl rfl
set_option maxRecDepth 100000 in
theorem mw_494 : (Jvm.Cond.methodLink "BlockCounterLaw" (32 : Nat) ({ cls := "BlockCounter", name := "block", desc := "(II)I" } : Jvm.MethodName)) ∈ evW := evm 494 (by decide +kernel) rfl
set_option maxRecDepth 100000 in
theorem mw_495 : (Jvm.Cond.instanceMethod ({ cls := "BlockCounter", name := "block", desc := "(II)I" } : Jvm.MethodName)) ∈ evW := evm 495 (by decide +kernel) rfl
set_option maxRecDepth 100000 in
theorem mw_496 : (Jvm.Cond.selects "BlockCounter" ({ cls := "BlockCounter", name := "block", desc := "(II)I" } : Jvm.MethodName) ({ cls := "BlockCounter", name := "block", desc := "(II)I" } : Jvm.MethodName)) ∈ evW := evm 496 (by decide +kernel) rfl
set_option maxRecDepth 100000 in
theorem mw_497 : (Jvm.Cond.code ({ cls := "BlockCounter", name := "block", desc := "(II)I" } : Jvm.MethodName) prog_1_method_6_code (3 : Nat) (Option.some Jvm.ClassFile.FieldType.int)) ∈ evW := evm 497 rfl rfl
set_option maxRecDepth 100000 in
theorem mw_499 : (Jvm.Cond.methodLink "BlockCounter" (100 : Nat) ({ cls := "BlockCounter$Analysis", name := "headOf", desc := "(I)I" } : Jvm.MethodName)) ∈ evW := evm 499 (by decide +kernel) rfl
set_option maxRecDepth 100000 in
theorem mw_500 : (Jvm.Cond.instanceMethod ({ cls := "BlockCounter$Analysis", name := "headOf", desc := "(I)I" } : Jvm.MethodName)) ∈ evW := evm 500 (by decide +kernel) rfl
set_option maxRecDepth 100000 in
theorem mw_501 : (Jvm.Cond.selects "BlockCounter$Analysis" ({ cls := "BlockCounter$Analysis", name := "headOf", desc := "(I)I" } : Jvm.MethodName) ({ cls := "BlockCounter$Analysis", name := "headOf", desc := "(I)I" } : Jvm.MethodName)) ∈ evW := evm 501 (by decide +kernel) rfl
set_option maxRecDepth 100000 in
theorem mw_502 : (Jvm.Cond.code ({ cls := "BlockCounter$Analysis", name := "headOf", desc := "(I)I" } : Jvm.MethodName) prog_2_method_5_code (2 : Nat) (Option.some Jvm.ClassFile.FieldType.int)) ∈ evW := evm 502 rfl rfl
set_option maxRecDepth 100000 in
theorem mw_503 : (Jvm.Cond.methodLink "BlockCounter" (104 : Nat) ({ cls := "BlockCounter$Analysis", name := "bytesOf", desc := "(I)I" } : Jvm.MethodName)) ∈ evW := evm 503 (by decide +kernel) rfl
set_option maxRecDepth 100000 in
theorem mw_504 : (Jvm.Cond.instanceMethod ({ cls := "BlockCounter$Analysis", name := "bytesOf", desc := "(I)I" } : Jvm.MethodName)) ∈ evW := evm 504 (by decide +kernel) rfl
set_option maxRecDepth 100000 in
theorem mw_505 : (Jvm.Cond.selects "BlockCounter$Analysis" ({ cls := "BlockCounter$Analysis", name := "bytesOf", desc := "(I)I" } : Jvm.MethodName) ({ cls := "BlockCounter$Analysis", name := "bytesOf", desc := "(I)I" } : Jvm.MethodName)) ∈ evW := evm 505 (by decide +kernel) rfl
set_option maxRecDepth 100000 in
theorem mw_506 : (Jvm.Cond.code ({ cls := "BlockCounter$Analysis", name := "bytesOf", desc := "(I)I" } : Jvm.MethodName) prog_2_method_6_code (2 : Nat) (Option.some Jvm.ClassFile.FieldType.int)) ∈ evW := evm 506 rfl rfl
set_option maxRecDepth 100000 in
theorem mw_507 : (Jvm.Cond.methodLink "BlockCounter" (107 : Nat) ({ cls := "BlockCounter$Analysis", name := "instructionsOf", desc := "(I)I" } : Jvm.MethodName)) ∈ evW := evm 507 (by decide +kernel) rfl
set_option maxRecDepth 100000 in
theorem mw_508 : (Jvm.Cond.instanceMethod ({ cls := "BlockCounter$Analysis", name := "instructionsOf", desc := "(I)I" } : Jvm.MethodName)) ∈ evW := evm 508 (by decide +kernel) rfl
set_option maxRecDepth 100000 in
theorem mw_509 : (Jvm.Cond.selects "BlockCounter$Analysis" ({ cls := "BlockCounter$Analysis", name := "instructionsOf", desc := "(I)I" } : Jvm.MethodName) ({ cls := "BlockCounter$Analysis", name := "instructionsOf", desc := "(I)I" } : Jvm.MethodName)) ∈ evW := evm 509 (by decide +kernel) rfl
set_option maxRecDepth 100000 in
theorem mw_510 : (Jvm.Cond.code ({ cls := "BlockCounter$Analysis", name := "instructionsOf", desc := "(I)I" } : Jvm.MethodName) prog_2_method_7_code (2 : Nat) (Option.some Jvm.ClassFile.FieldType.int)) ∈ evW := evm 510 rfl rfl
set_option maxRecDepth 100000 in
theorem mw_512 : (Jvm.Cond.methodLink "BlockCounterLaw" (91 : Nat) ({ cls := "BlockCounterLaw", name := "rewrite", desc := "(LBlockCounter;[J)I" } : Jvm.MethodName)) ∈ evW := evm 512 (by decide +kernel) rfl
set_option maxRecDepth 100000 in
theorem mw_513 : (Jvm.Cond.static ({ cls := "BlockCounterLaw", name := "rewrite", desc := "(LBlockCounter;[J)I" } : Jvm.MethodName)) ∈ evW := evm 513 (by decide +kernel) rfl
set_option maxRecDepth 100000 in
theorem mw_514 : (Jvm.Cond.codeWith ({ cls := "BlockCounterLaw", name := "rewrite", desc := "(LBlockCounter;[J)I" } : Jvm.MethodName) method_8_code (3 : Nat) (Option.some Jvm.ClassFile.FieldType.int) [((0 : Nat), (8 : Nat), (11 : Nat), (21 : Nat)), ((0 : Nat), (8 : Nat), (14 : Nat), (30 : Nat))]) ∈ evW := evm 514 rfl rfl
set_option maxRecDepth 100000 in
theorem mw_515 : (Jvm.Cond.methodLink "BlockCounterLaw" (35 : Nat) ({ cls := "BlockCounter", name := "rewrite", desc := "()I" } : Jvm.MethodName)) ∈ evW := evm 515 (by decide +kernel) rfl
set_option maxRecDepth 100000 in
theorem mw_516 : (Jvm.Cond.instanceMethod ({ cls := "BlockCounter", name := "rewrite", desc := "()I" } : Jvm.MethodName)) ∈ evW := evm 516 (by decide +kernel) rfl
set_option maxRecDepth 100000 in
theorem mw_517 : (Jvm.Cond.selects "BlockCounter" ({ cls := "BlockCounter", name := "rewrite", desc := "()I" } : Jvm.MethodName) ({ cls := "BlockCounter", name := "rewrite", desc := "()I" } : Jvm.MethodName)) ∈ evW := evm 517 (by decide +kernel) rfl
set_option maxRecDepth 100000 in
theorem mw_518 : (Jvm.Cond.code ({ cls := "BlockCounter", name := "rewrite", desc := "()I" } : Jvm.MethodName) prog_1_method_8_code (1 : Nat) (Option.some Jvm.ClassFile.FieldType.int)) ∈ evW := evm 518 rfl rfl
set_option maxRecDepth 100000 in
theorem mw_519 : (Jvm.Cond.methodLink "BlockCounter" (115 : Nat) ({ cls := "BlockCounter$Analysis", name := "exists", desc := "()Z" } : Jvm.MethodName)) ∈ evW := evm 519 (by decide +kernel) rfl
set_option maxRecDepth 100000 in
theorem mw_521 : (Jvm.Cond.methodLink "BlockCounter" (120 : Nat) ({ cls := "BlockCounter$Rewriting", name := "build", desc := "(LBlockCounter$Program;LBlockCounter$Analysis;)Z" } : Jvm.MethodName)) ∈ evW := evm 521 (by decide +kernel) rfl
set_option maxRecDepth 100000 in
theorem mw_522 : (Jvm.Cond.instanceMethod ({ cls := "BlockCounter$Rewriting", name := "build", desc := "(LBlockCounter$Program;LBlockCounter$Analysis;)Z" } : Jvm.MethodName)) ∈ evW := evm 522 (by decide +kernel) rfl
set_option maxRecDepth 100000 in
theorem mw_523 : (Jvm.Cond.selects "BlockCounter$Rewriting" ({ cls := "BlockCounter$Rewriting", name := "build", desc := "(LBlockCounter$Program;LBlockCounter$Analysis;)Z" } : Jvm.MethodName) ({ cls := "BlockCounter$Rewriting", name := "build", desc := "(LBlockCounter$Program;LBlockCounter$Analysis;)Z" } : Jvm.MethodName)) ∈ evW := evm 523 (by decide +kernel) rfl
set_option maxRecDepth 100000 in
theorem mw_524 : (Jvm.Cond.code ({ cls := "BlockCounter$Rewriting", name := "build", desc := "(LBlockCounter$Program;LBlockCounter$Analysis;)Z" } : Jvm.MethodName) prog_6_method_6_code (7 : Nat) (Option.some Jvm.ClassFile.FieldType.boolean)) ∈ evW := evm 524 rfl rfl
set_option maxRecDepth 100000 in
theorem mw_525 : (Jvm.Cond.methodLink "BlockCounter$Rewriting" (33 : Nat) ({ cls := "BlockCounter$Program", name := "becomeCopyOf", desc := "(LBlockCounter$Program;)V" } : Jvm.MethodName)) ∈ evW := evm 525 (by decide +kernel) rfl
set_option maxRecDepth 100000 in
theorem mw_526 : (Jvm.Cond.instanceMethod ({ cls := "BlockCounter$Program", name := "becomeCopyOf", desc := "(LBlockCounter$Program;)V" } : Jvm.MethodName)) ∈ evW := evm 526 (by decide +kernel) rfl
set_option maxRecDepth 100000 in
theorem mw_527 : (Jvm.Cond.selects "BlockCounter$Program" ({ cls := "BlockCounter$Program", name := "becomeCopyOf", desc := "(LBlockCounter$Program;)V" } : Jvm.MethodName) ({ cls := "BlockCounter$Program", name := "becomeCopyOf", desc := "(LBlockCounter$Program;)V" } : Jvm.MethodName)) ∈ evW := evm 527 (by decide +kernel) rfl
set_option maxRecDepth 100000 in
theorem mw_528 : (Jvm.Cond.code ({ cls := "BlockCounter$Program", name := "becomeCopyOf", desc := "(LBlockCounter$Program;)V" } : Jvm.MethodName) prog_5_method_6_code (2 : Nat) (Option.none : Option Jvm.ClassFile.FieldType)) ∈ evW := evm 528 rfl rfl
set_option maxRecDepth 100000 in
theorem mw_529 : (Jvm.Cond.methodLink "BlockCounter$Program" (18 : Nat) ({ cls := "java/lang/System", name := "arraycopy", desc := "(Ljava/lang/Object;ILjava/lang/Object;II)V" } : Jvm.MethodName)) ∈ evW := evm 529 (by decide +kernel) rfl
set_option maxRecDepth 100000 in
theorem mw_530 : (Jvm.Cond.static ({ cls := "java/lang/System", name := "arraycopy", desc := "(Ljava/lang/Object;ILjava/lang/Object;II)V" } : Jvm.MethodName)) ∈ evW := evm 530 (by decide +kernel) rfl
set_option maxRecDepth 100000 in
theorem mw_531 : (Jvm.Cond.native ({ cls := "java/lang/System", name := "arraycopy", desc := "(Ljava/lang/Object;ILjava/lang/Object;II)V" } : Jvm.MethodName)) ∈ evW := evm 531 (by decide +kernel) rfl
set_option maxRecDepth 100000 in
theorem mw_532 : (Jvm.Cond.methodLink "BlockCounter$Rewriting" (37 : Nat) ({ cls := "BlockCounter$Analysis", name := "size", desc := "()I" } : Jvm.MethodName)) ∈ evW := evm 532 (by decide +kernel) rfl
set_option maxRecDepth 100000 in
theorem mw_533 : (Jvm.Cond.methodLink "BlockCounter$Rewriting" (43 : Nat) ({ cls := "BlockCounter$Analysis", name := "headOf", desc := "(I)I" } : Jvm.MethodName)) ∈ evW := evm 533 (by decide +kernel) rfl
set_option maxRecDepth 100000 in
theorem mw_534 : (Jvm.Cond.methodLink "BlockCounter$Rewriting" (47 : Nat) ({ cls := "BlockCounter$Analysis", name := "bytesOf", desc := "(I)I" } : Jvm.MethodName)) ∈ evW := evm 534 (by decide +kernel) rfl
set_option maxRecDepth 100000 in
theorem mw_535 : (Jvm.Cond.methodLink "BlockCounter$Rewriting" (50 : Nat) ({ cls := "BlockCounter$Rewriting", name := "append", desc := "(I)V" } : Jvm.MethodName)) ∈ evW := evm 535 (by decide +kernel) rfl
set_option maxRecDepth 100000 in
theorem mw_537 : (Jvm.Cond.instanceMethod ({ cls := "BlockCounter$Rewriting", name := "append", desc := "(I)V" } : Jvm.MethodName)) ∈ evW := evm 537 (by decide +kernel) rfl
set_option maxRecDepth 100000 in
theorem mw_538 : (Jvm.Cond.code ({ cls := "BlockCounter$Rewriting", name := "append", desc := "(I)V" } : Jvm.MethodName) prog_6_method_12_code (2 : Nat) (Option.none : Option Jvm.ClassFile.FieldType)) ∈ evW := evm 538 rfl rfl
set_option maxRecDepth 100000 in
theorem mw_539 : (Jvm.Cond.methodLink "BlockCounter$Rewriting" (68 : Nat) ({ cls := "BlockCounter$Program", name := "put", desc := "(II)V" } : Jvm.MethodName)) ∈ evW := evm 539 (by decide +kernel) rfl
set_option maxRecDepth 100000 in
theorem mw_540 : (Jvm.Cond.methodLink "BlockCounter$Rewriting" (54 : Nat) ({ cls := "java/lang/Math", name := "min", desc := "(II)I" } : Jvm.MethodName)) ∈ evW := evm 540 (by decide +kernel) rfl
set_option maxRecDepth 100000 in
theorem mw_541 : (Jvm.Cond.static ({ cls := "java/lang/Math", name := "min", desc := "(II)I" } : Jvm.MethodName)) ∈ evW := evm 541 (by decide +kernel) rfl
set_option maxRecDepth 100000 in
theorem mw_542 : (Jvm.Cond.code ({ cls := "java/lang/Math", name := "min", desc := "(II)I" } : Jvm.MethodName) prog_14_method_69_code (2 : Nat) (Option.some Jvm.ClassFile.FieldType.int)) ∈ evW := evm 542 rfl rfl
set_option maxRecDepth 100000 in
theorem mw_543 : (Jvm.Cond.methodLink "BlockCounter$Rewriting" (60 : Nat) ({ cls := "BlockCounter$Rewriting", name := "moveFirst", desc := "(LBlockCounter$Program;II)V" } : Jvm.MethodName)) ∈ evW := evm 543 (by decide +kernel) rfl
set_option maxRecDepth 100000 in
theorem mw_545 : (Jvm.Cond.instanceMethod ({ cls := "BlockCounter$Rewriting", name := "moveFirst", desc := "(LBlockCounter$Program;II)V" } : Jvm.MethodName)) ∈ evW := evm 545 (by decide +kernel) rfl
set_option maxRecDepth 100000 in
theorem mw_546 : (Jvm.Cond.code ({ cls := "BlockCounter$Rewriting", name := "moveFirst", desc := "(LBlockCounter$Program;II)V" } : Jvm.MethodName) prog_6_method_8_code (6 : Nat) (Option.none : Option Jvm.ClassFile.FieldType)) ∈ evW := evm 546 rfl rfl
set_option maxRecDepth 100000 in
theorem mw_547 : (Jvm.Cond.methodLink "BlockCounter$Rewriting" (75 : Nat) ({ cls := "BlockCounter$Instruction", name := "read", desc := "(LBlockCounter$Program;II)Z" } : Jvm.MethodName)) ∈ evW := evm 547 (by decide +kernel) rfl
set_option maxRecDepth 100000 in
theorem mw_548 : (Jvm.Cond.methodLink "BlockCounter$Rewriting" (79 : Nat) ({ cls := "BlockCounter$Rewriting", name := "moveInstruction", desc := "()V" } : Jvm.MethodName)) ∈ evW := evm 548 (by decide +kernel) rfl
set_option maxRecDepth 100000 in
theorem mw_550 : (Jvm.Cond.instanceMethod ({ cls := "BlockCounter$Rewriting", name := "moveInstruction", desc := "()V" } : Jvm.MethodName)) ∈ evW := evm 550 (by decide +kernel) rfl
set_option maxRecDepth 100000 in
theorem mw_551 : (Jvm.Cond.code ({ cls := "BlockCounter$Rewriting", name := "moveInstruction", desc := "()V" } : Jvm.MethodName) prog_6_method_9_code (1 : Nat) (Option.none : Option Jvm.ClassFile.FieldType)) ∈ evW := evm 551 rfl rfl
set_option maxRecDepth 100000 in
theorem mw_552 : (Jvm.Cond.methodLink "BlockCounter$Rewriting" (92 : Nat) ({ cls := "BlockCounter$Instruction", name := "isConditional", desc := "()Z" } : Jvm.MethodName)) ∈ evW := evm 552 (by decide +kernel) rfl
set_option maxRecDepth 100000 in
theorem mw_553 : (Jvm.Cond.instanceMethod ({ cls := "BlockCounter$Instruction", name := "isConditional", desc := "()Z" } : Jvm.MethodName)) ∈ evW := evm 553 (by decide +kernel) rfl
set_option maxRecDepth 100000 in
theorem mw_554 : (Jvm.Cond.selects "BlockCounter$Instruction" ({ cls := "BlockCounter$Instruction", name := "isConditional", desc := "()Z" } : Jvm.MethodName) ({ cls := "BlockCounter$Instruction", name := "isConditional", desc := "()Z" } : Jvm.MethodName)) ∈ evW := evm 554 (by decide +kernel) rfl
set_option maxRecDepth 100000 in
theorem mw_555 : (Jvm.Cond.code ({ cls := "BlockCounter$Instruction", name := "isConditional", desc := "()Z" } : Jvm.MethodName) prog_3_method_9_code (1 : Nat) (Option.some Jvm.ClassFile.FieldType.boolean)) ∈ evW := evm 555 rfl rfl
set_option maxRecDepth 100000 in
theorem mw_556 : (Jvm.Cond.methodLink "BlockCounter$Rewriting" (82 : Nat) ({ cls := "BlockCounter$Instruction", name := "behind", desc := "()I" } : Jvm.MethodName)) ∈ evW := evm 556 (by decide +kernel) rfl
set_option maxRecDepth 100000 in
theorem mw_557 : (Jvm.Cond.methodLink "BlockCounter$Rewriting" (89 : Nat) ({ cls := "BlockCounter$Rewriting", name := "appendJump", desc := "(I)V" } : Jvm.MethodName)) ∈ evW := evm 557 (by decide +kernel) rfl
set_option maxRecDepth 100000 in
theorem mw_559 : (Jvm.Cond.instanceMethod ({ cls := "BlockCounter$Rewriting", name := "appendJump", desc := "(I)V" } : Jvm.MethodName)) ∈ evW := evm 559 (by decide +kernel) rfl
set_option maxRecDepth 100000 in
theorem mw_560 : (Jvm.Cond.code ({ cls := "BlockCounter$Rewriting", name := "appendJump", desc := "(I)V" } : Jvm.MethodName) prog_6_method_11_code (2 : Nat) (Option.none : Option Jvm.ClassFile.FieldType)) ∈ evW := evm 560 rfl rfl
set_option maxRecDepth 100000 in
theorem mw_561 : (Jvm.Cond.methodLink "BlockCounter$Rewriting" (98 : Nat) ({ cls := "BlockCounter$Instruction", name := "branchTarget", desc := "()I" } : Jvm.MethodName)) ∈ evW := evm 561 (by decide +kernel) rfl
set_option maxRecDepth 100000 in
theorem mw_562 : (Jvm.Cond.methodLink "BlockCounter$Rewriting" (107 : Nat) ({ cls := "BlockCounter$Rewriting", name := "copyInstruction", desc := "()V" } : Jvm.MethodName)) ∈ evW := evm 562 (by decide +kernel) rfl
set_option maxRecDepth 100000 in
theorem mw_564 : (Jvm.Cond.instanceMethod ({ cls := "BlockCounter$Rewriting", name := "copyInstruction", desc := "()V" } : Jvm.MethodName)) ∈ evW := evm 564 (by decide +kernel) rfl
set_option maxRecDepth 100000 in
theorem mw_565 : (Jvm.Cond.code ({ cls := "BlockCounter$Rewriting", name := "copyInstruction", desc := "()V" } : Jvm.MethodName) prog_6_method_10_code (1 : Nat) (Option.none : Option Jvm.ClassFile.FieldType)) ∈ evW := evm 565 rfl rfl
set_option maxRecDepth 100000 in
theorem mw_566 : (Jvm.Cond.methodLink "BlockCounter$Rewriting" (110 : Nat) ({ cls := "BlockCounter$Instruction", name := "length", desc := "()I" } : Jvm.MethodName)) ∈ evW := evm 566 (by decide +kernel) rfl
set_option maxRecDepth 100000 in
theorem mw_567 : (Jvm.Cond.methodLink "BlockCounter$Rewriting" (85 : Nat) ({ cls := "BlockCounter$Instruction", name := "endsBlock", desc := "()Z" } : Jvm.MethodName)) ∈ evW := evm 567 (by decide +kernel) rfl
set_option maxRecDepth 100000 in
theorem mw_568 : (Jvm.Cond.methodLink "BlockCounter$Rewriting" (64 : Nat) ({ cls := "BlockCounter$Rewriting", name := "hook", desc := "(III)V" } : Jvm.MethodName)) ∈ evW := evm 568 (by decide +kernel) rfl
set_option maxRecDepth 100000 in
theorem mw_570 : (Jvm.Cond.instanceMethod ({ cls := "BlockCounter$Rewriting", name := "hook", desc := "(III)V" } : Jvm.MethodName)) ∈ evW := evm 570 (by decide +kernel) rfl
set_option maxRecDepth 100000 in
theorem mw_571 : (Jvm.Cond.code ({ cls := "BlockCounter$Rewriting", name := "hook", desc := "(III)V" } : Jvm.MethodName) prog_6_method_7_code (4 : Nat) (Option.none : Option Jvm.ClassFile.FieldType)) ∈ evW := evm 571 rfl rfl
set_option maxRecDepth 100000 in
theorem mw_572 : (Jvm.Cond.methodLink "BlockCounter$Rewriting" (72 : Nat) ({ cls := "BlockCounter$Program", name := "putTrap", desc := "(II)V" } : Jvm.MethodName)) ∈ evW := evm 572 (by decide +kernel) rfl
set_option maxRecDepth 100000 in
theorem mw_573 : (Jvm.Cond.instanceMethod ({ cls := "BlockCounter$Program", name := "putTrap", desc := "(II)V" } : Jvm.MethodName)) ∈ evW := evm 573 (by decide +kernel) rfl
set_option maxRecDepth 100000 in
theorem mw_574 : (Jvm.Cond.selects "BlockCounter$Program" ({ cls := "BlockCounter$Program", name := "putTrap", desc := "(II)V" } : Jvm.MethodName) ({ cls := "BlockCounter$Program", name := "putTrap", desc := "(II)V" } : Jvm.MethodName)) ∈ evW := evm 574 (by decide +kernel) rfl
set_option maxRecDepth 100000 in
theorem mw_575 : (Jvm.Cond.code ({ cls := "BlockCounter$Program", name := "putTrap", desc := "(II)V" } : Jvm.MethodName) prog_5_method_5_code (3 : Nat) (Option.none : Option Jvm.ClassFile.FieldType)) ∈ evW := evm 575 rfl rfl
set_option maxRecDepth 100000 in
theorem mw_577 : (Jvm.Cond.methodLink "BlockCounter" (126 : Nat) ({ cls := "BlockCounter$Rewriting", name := "used", desc := "()I" } : Jvm.MethodName)) ∈ evW := evm 577 (by decide +kernel) rfl
set_option maxRecDepth 100000 in
theorem mw_578 : (Jvm.Cond.instanceMethod ({ cls := "BlockCounter$Rewriting", name := "used", desc := "()I" } : Jvm.MethodName)) ∈ evW := evm 578 (by decide +kernel) rfl
set_option maxRecDepth 100000 in
theorem mw_579 : (Jvm.Cond.selects "BlockCounter$Rewriting" ({ cls := "BlockCounter$Rewriting", name := "used", desc := "()I" } : Jvm.MethodName) ({ cls := "BlockCounter$Rewriting", name := "used", desc := "()I" } : Jvm.MethodName)) ∈ evW := evm 579 (by decide +kernel) rfl
set_option maxRecDepth 100000 in
theorem mw_580 : (Jvm.Cond.code ({ cls := "BlockCounter$Rewriting", name := "used", desc := "()I" } : Jvm.MethodName) prog_6_method_5_code (1 : Nat) (Option.some Jvm.ClassFile.FieldType.int)) ∈ evW := evm 580 rfl rfl
set_option maxRecDepth 100000 in
theorem mw_581 : (Jvm.Cond.methodLink "BlockCounterLaw" (94 : Nat) ({ cls := "BlockCounterLaw", name := "code", desc := "(LBlockCounter;IZ[J)I" } : Jvm.MethodName)) ∈ evW := evm 581 (by decide +kernel) rfl
set_option maxRecDepth 100000 in
theorem mw_582 : (Jvm.Cond.static ({ cls := "BlockCounterLaw", name := "code", desc := "(LBlockCounter;IZ[J)I" } : Jvm.MethodName)) ∈ evW := evm 582 (by decide +kernel) rfl
set_option maxRecDepth 100000 in
theorem mw_583 : (Jvm.Cond.codeWith ({ cls := "BlockCounterLaw", name := "code", desc := "(LBlockCounter;IZ[J)I" } : Jvm.MethodName) method_9_code (5 : Nat) (Option.some Jvm.ClassFile.FieldType.int) [((0 : Nat), (10 : Nat), (13 : Nat), (13 : Nat)), ((0 : Nat), (10 : Nat), (17 : Nat), (21 : Nat))]) ∈ evW := evm 583 rfl rfl
set_option maxRecDepth 100000 in
theorem mw_584 : (Jvm.Cond.methodLink "BlockCounterLaw" (38 : Nat) ({ cls := "BlockCounter", name := "code", desc := "(IZ)I" } : Jvm.MethodName)) ∈ evW := evm 584 (by decide +kernel) rfl
set_option maxRecDepth 100000 in
theorem mw_585 : (Jvm.Cond.instanceMethod ({ cls := "BlockCounter", name := "code", desc := "(IZ)I" } : Jvm.MethodName)) ∈ evW := evm 585 (by decide +kernel) rfl
set_option maxRecDepth 100000 in
theorem mw_586 : (Jvm.Cond.selects "BlockCounter" ({ cls := "BlockCounter", name := "code", desc := "(IZ)I" } : Jvm.MethodName) ({ cls := "BlockCounter", name := "code", desc := "(IZ)I" } : Jvm.MethodName)) ∈ evW := evm 586 (by decide +kernel) rfl
set_option maxRecDepth 100000 in
theorem mw_587 : (Jvm.Cond.code ({ cls := "BlockCounter", name := "code", desc := "(IZ)I" } : Jvm.MethodName) prog_1_method_9_code (3 : Nat) (Option.some Jvm.ClassFile.FieldType.int)) ∈ evW := evm 587 rfl rfl
set_option maxRecDepth 100000 in
theorem mw_589 : (Jvm.Cond.methodLink "BlockCounter" (131 : Nat) ({ cls := "BlockCounter$Rewriting", name := "exists", desc := "()Z" } : Jvm.MethodName)) ∈ evW := evm 589 (by decide +kernel) rfl
set_option maxRecDepth 100000 in
theorem mw_590 : (Jvm.Cond.instanceMethod ({ cls := "BlockCounter$Rewriting", name := "exists", desc := "()Z" } : Jvm.MethodName)) ∈ evW := evm 590 (by decide +kernel) rfl
set_option maxRecDepth 100000 in
theorem mw_591 : (Jvm.Cond.selects "BlockCounter$Rewriting" ({ cls := "BlockCounter$Rewriting", name := "exists", desc := "()Z" } : Jvm.MethodName) ({ cls := "BlockCounter$Rewriting", name := "exists", desc := "()Z" } : Jvm.MethodName)) ∈ evW := evm 591 (by decide +kernel) rfl
set_option maxRecDepth 100000 in
theorem mw_592 : (Jvm.Cond.code ({ cls := "BlockCounter$Rewriting", name := "exists", desc := "()Z" } : Jvm.MethodName) prog_6_method_3_code (1 : Nat) (Option.some Jvm.ClassFile.FieldType.boolean)) ∈ evW := evm 592 rfl rfl
set_option maxRecDepth 100000 in
theorem mw_594 : (Jvm.Cond.methodLink "BlockCounter" (134 : Nat) ({ cls := "BlockCounter$Rewriting", name := "result", desc := "()LBlockCounter$Program;" } : Jvm.MethodName)) ∈ evW := evm 594 (by decide +kernel) rfl
set_option maxRecDepth 100000 in
theorem mw_595 : (Jvm.Cond.instanceMethod ({ cls := "BlockCounter$Rewriting", name := "result", desc := "()LBlockCounter$Program;" } : Jvm.MethodName)) ∈ evW := evm 595 (by decide +kernel) rfl
set_option maxRecDepth 100000 in
theorem mw_596 : (Jvm.Cond.selects "BlockCounter$Rewriting" ({ cls := "BlockCounter$Rewriting", name := "result", desc := "()LBlockCounter$Program;" } : Jvm.MethodName) ({ cls := "BlockCounter$Rewriting", name := "result", desc := "()LBlockCounter$Program;" } : Jvm.MethodName)) ∈ evW := evm 596 (by decide +kernel) rfl
set_option maxRecDepth 100000 in
theorem mw_597 : (Jvm.Cond.code ({ cls := "BlockCounter$Rewriting", name := "result", desc := "()LBlockCounter$Program;" } : Jvm.MethodName) prog_6_method_4_code (1 : Nat) (Option.some (Jvm.ClassFile.FieldType.object "BlockCounter$Program"))) ∈ evW := evm 597 rfl rfl
set_option maxRecDepth 100000 in
theorem mw_598 : (Jvm.Cond.methodLink "BlockCounter" (138 : Nat) ({ cls := "BlockCounter$Program", name := "at", desc := "(I)I" } : Jvm.MethodName)) ∈ evW := evm 598 (by decide +kernel) rfl
set_option maxRecDepth 100000 in
theorem mw_599 : (Jvm.Cond.methodLink "BlockCounterLaw" (98 : Nat) ({ cls := "BlockCounterLaw", name := "run", desc := "(LBlockCounter;ZI[J)I" } : Jvm.MethodName)) ∈ evW := evm 599 (by decide +kernel) rfl
set_option maxRecDepth 100000 in
theorem mw_600 : (Jvm.Cond.static ({ cls := "BlockCounterLaw", name := "run", desc := "(LBlockCounter;ZI[J)I" } : Jvm.MethodName)) ∈ evW := evm 600 (by decide +kernel) rfl
set_option maxRecDepth 100000 in
theorem mw_601 : (Jvm.Cond.codeWith ({ cls := "BlockCounterLaw", name := "run", desc := "(LBlockCounter;ZI[J)I" } : Jvm.MethodName) method_10_code (5 : Nat) (Option.some Jvm.ClassFile.FieldType.int) [((0 : Nat), (10 : Nat), (13 : Nat), (19 : Nat)), ((0 : Nat), (10 : Nat), (17 : Nat), (21 : Nat))]) ∈ evW := evm 601 rfl rfl
set_option maxRecDepth 100000 in
theorem mw_602 : (Jvm.Cond.methodLink "BlockCounterLaw" (42 : Nat) ({ cls := "BlockCounter", name := "run", desc := "(ZI)I" } : Jvm.MethodName)) ∈ evW := evm 602 (by decide +kernel) rfl
set_option maxRecDepth 100000 in
theorem mw_603 : (Jvm.Cond.instanceMethod ({ cls := "BlockCounter", name := "run", desc := "(ZI)I" } : Jvm.MethodName)) ∈ evW := evm 603 (by decide +kernel) rfl
set_option maxRecDepth 100000 in
theorem mw_604 : (Jvm.Cond.selects "BlockCounter" ({ cls := "BlockCounter", name := "run", desc := "(ZI)I" } : Jvm.MethodName) ({ cls := "BlockCounter", name := "run", desc := "(ZI)I" } : Jvm.MethodName)) ∈ evW := evm 604 (by decide +kernel) rfl
set_option maxRecDepth 100000 in
theorem mw_605 : (Jvm.Cond.code ({ cls := "BlockCounter", name := "run", desc := "(ZI)I" } : Jvm.MethodName) prog_1_method_10_code (3 : Nat) (Option.some Jvm.ClassFile.FieldType.int)) ∈ evW := evm 605 rfl rfl
set_option maxRecDepth 100000 in
theorem mw_607 : (Jvm.Cond.methodLink "BlockCounter" (143 : Nat) ({ cls := "BlockCounter$Machine", name := "start", desc := "([I)V" } : Jvm.MethodName)) ∈ evW := evm 607 (by decide +kernel) rfl
set_option maxRecDepth 100000 in
theorem mw_608 : (Jvm.Cond.instanceMethod ({ cls := "BlockCounter$Machine", name := "start", desc := "([I)V" } : Jvm.MethodName)) ∈ evW := evm 608 (by decide +kernel) rfl
set_option maxRecDepth 100000 in
theorem mw_609 : (Jvm.Cond.selects "BlockCounter$Machine" ({ cls := "BlockCounter$Machine", name := "start", desc := "([I)V" } : Jvm.MethodName) ({ cls := "BlockCounter$Machine", name := "start", desc := "([I)V" } : Jvm.MethodName)) ∈ evW := evm 609 (by decide +kernel) rfl
set_option maxRecDepth 100000 in
theorem mw_610 : (Jvm.Cond.code ({ cls := "BlockCounter$Machine", name := "start", desc := "([I)V" } : Jvm.MethodName) prog_4_method_10_code (2 : Nat) (Option.none : Option Jvm.ClassFile.FieldType)) ∈ evW := evm 610 rfl rfl
set_option maxRecDepth 100000 in
theorem mw_611 : (Jvm.Cond.methodLink "BlockCounter$Machine" (48 : Nat) ({ cls := "java/util/Arrays", name := "fill", desc := "([II)V" } : Jvm.MethodName)) ∈ evW := evm 611 (by decide +kernel) rfl
set_option maxRecDepth 100000 in
theorem mw_612 : (Jvm.Cond.methodLink "BlockCounter$Machine" (54 : Nat) ({ cls := "java/util/Arrays", name := "fill", desc := "([JJ)V" } : Jvm.MethodName)) ∈ evW := evm 612 (by decide +kernel) rfl
set_option maxRecDepth 100000 in
theorem mw_613 : (Jvm.Cond.static ({ cls := "java/util/Arrays", name := "fill", desc := "([JJ)V" } : Jvm.MethodName)) ∈ evW := evm 613 (by decide +kernel) rfl
set_option maxRecDepth 100000 in
theorem mw_614 : (Jvm.Cond.code ({ cls := "java/util/Arrays", name := "fill", desc := "([JJ)V" } : Jvm.MethodName) prog_20_method_101_code (5 : Nat) (Option.none : Option Jvm.ClassFile.FieldType)) ∈ evW := evm 614 rfl rfl
set_option maxRecDepth 100000 in
theorem mw_615 : (Jvm.Cond.methodLink "BlockCounter$Machine" (57 : Nat) ({ cls := "java/lang/System", name := "arraycopy", desc := "(Ljava/lang/Object;ILjava/lang/Object;II)V" } : Jvm.MethodName)) ∈ evW := evm 615 (by decide +kernel) rfl
set_option maxRecDepth 100000 in
theorem mw_616 : (Jvm.Cond.methodLink "BlockCounter" (147 : Nat) ({ cls := "BlockCounter$Machine", name := "execute", desc := "(LBlockCounter$Program;I)I" } : Jvm.MethodName)) ∈ evW := evm 616 (by decide +kernel) rfl
set_option maxRecDepth 100000 in
theorem mw_617 : (Jvm.Cond.instanceMethod ({ cls := "BlockCounter$Machine", name := "execute", desc := "(LBlockCounter$Program;I)I" } : Jvm.MethodName)) ∈ evW := evm 617 (by decide +kernel) rfl
set_option maxRecDepth 100000 in
theorem mw_618 : (Jvm.Cond.selects "BlockCounter$Machine" ({ cls := "BlockCounter$Machine", name := "execute", desc := "(LBlockCounter$Program;I)I" } : Jvm.MethodName) ({ cls := "BlockCounter$Machine", name := "execute", desc := "(LBlockCounter$Program;I)I" } : Jvm.MethodName)) ∈ evW := evm 618 (by decide +kernel) rfl
set_option maxRecDepth 100000 in
theorem mw_619 : (Jvm.Cond.code ({ cls := "BlockCounter$Machine", name := "execute", desc := "(LBlockCounter$Program;I)I" } : Jvm.MethodName) prog_4_method_11_code (5 : Nat) (Option.some Jvm.ClassFile.FieldType.int)) ∈ evW := evm 619 rfl rfl
set_option maxRecDepth 100000 in
theorem mw_620 : (Jvm.Cond.methodLink "BlockCounter$Machine" (63 : Nat) ({ cls := "BlockCounter$Machine", name := "step", desc := "(LBlockCounter$Program;)I" } : Jvm.MethodName)) ∈ evW := evm 620 (by decide +kernel) rfl
set_option maxRecDepth 100000 in
theorem mw_622 : (Jvm.Cond.instanceMethod ({ cls := "BlockCounter$Machine", name := "step", desc := "(LBlockCounter$Program;)I" } : Jvm.MethodName)) ∈ evW := evm 622 (by decide +kernel) rfl
set_option maxRecDepth 100000 in
theorem mw_623 : (Jvm.Cond.code ({ cls := "BlockCounter$Machine", name := "step", desc := "(LBlockCounter$Program;)I" } : Jvm.MethodName) prog_4_method_13_code (3 : Nat) (Option.some Jvm.ClassFile.FieldType.int)) ∈ evW := evm 623 rfl rfl
set_option maxRecDepth 100000 in
theorem mw_624 : (Jvm.Cond.methodLink "BlockCounter$Machine" (77 : Nat) ({ cls := "BlockCounter$Instruction", name := "read", desc := "(LBlockCounter$Program;II)Z" } : Jvm.MethodName)) ∈ evW := evm 624 (by decide +kernel) rfl
set_option maxRecDepth 100000 in
theorem mw_625 : (Jvm.Cond.methodLink "BlockCounter$Machine" (84 : Nat) ({ cls := "BlockCounter$Machine", name := "perform", desc := "(LBlockCounter$Program;)I" } : Jvm.MethodName)) ∈ evW := evm 625 (by decide +kernel) rfl
set_option maxRecDepth 100000 in
theorem mw_627 : (Jvm.Cond.instanceMethod ({ cls := "BlockCounter$Machine", name := "perform", desc := "(LBlockCounter$Program;)I" } : Jvm.MethodName)) ∈ evW := evm 627 (by decide +kernel) rfl
set_option maxRecDepth 100000 in
theorem mw_628 : (Jvm.Cond.code ({ cls := "BlockCounter$Machine", name := "perform", desc := "(LBlockCounter$Program;)I" } : Jvm.MethodName) prog_4_method_14_code (3 : Nat) (Option.some Jvm.ClassFile.FieldType.int)) ∈ evW := evm 628 rfl rfl
set_option maxRecDepth 100000 in
theorem mw_629 : (Jvm.Cond.methodLink "BlockCounter$Machine" (87 : Nat) ({ cls := "BlockCounter$Instruction", name := "registerNumber", desc := "()I" } : Jvm.MethodName)) ∈ evW := evm 629 (by decide +kernel) rfl
set_option maxRecDepth 100000 in
theorem mw_630 : (Jvm.Cond.instanceMethod ({ cls := "BlockCounter$Instruction", name := "registerNumber", desc := "()I" } : Jvm.MethodName)) ∈ evW := evm 630 (by decide +kernel) rfl
set_option maxRecDepth 100000 in
theorem mw_631 : (Jvm.Cond.selects "BlockCounter$Instruction" ({ cls := "BlockCounter$Instruction", name := "registerNumber", desc := "()I" } : Jvm.MethodName) ({ cls := "BlockCounter$Instruction", name := "registerNumber", desc := "()I" } : Jvm.MethodName)) ∈ evW := evm 631 (by decide +kernel) rfl
set_option maxRecDepth 100000 in
theorem mw_632 : (Jvm.Cond.code ({ cls := "BlockCounter$Instruction", name := "registerNumber", desc := "()I" } : Jvm.MethodName) prog_3_method_7_code (1 : Nat) (Option.some Jvm.ClassFile.FieldType.int)) ∈ evW := evm 632 rfl rfl
set_option maxRecDepth 100000 in
theorem mw_633 : (Jvm.Cond.methodLink "BlockCounter$Machine" (91 : Nat) ({ cls := "BlockCounter$Machine", name := "trap", desc := "(LBlockCounter$Program;)I" } : Jvm.MethodName)) ∈ evW := evm 633 (by decide +kernel) rfl
set_option maxRecDepth 100000 in
theorem mw_635 : (Jvm.Cond.instanceMethod ({ cls := "BlockCounter$Machine", name := "trap", desc := "(LBlockCounter$Program;)I" } : Jvm.MethodName)) ∈ evW := evm 635 (by decide +kernel) rfl
set_option maxRecDepth 100000 in
theorem mw_636 : (Jvm.Cond.code ({ cls := "BlockCounter$Machine", name := "trap", desc := "(LBlockCounter$Program;)I" } : Jvm.MethodName) prog_4_method_17_code (3 : Nat) (Option.some Jvm.ClassFile.FieldType.int)) ∈ evW := evm 636 rfl rfl
set_option maxRecDepth 100000 in
theorem mw_637 : (Jvm.Cond.methodLink "BlockCounter$Machine" (126 : Nat) ({ cls := "BlockCounter$Program", name := "trapAt", desc := "(I)I" } : Jvm.MethodName)) ∈ evW := evm 637 (by decide +kernel) rfl
set_option maxRecDepth 100000 in
theorem mw_638 : (Jvm.Cond.instanceMethod ({ cls := "BlockCounter$Program", name := "trapAt", desc := "(I)I" } : Jvm.MethodName)) ∈ evW := evm 638 (by decide +kernel) rfl
set_option maxRecDepth 100000 in
theorem mw_639 : (Jvm.Cond.selects "BlockCounter$Program" ({ cls := "BlockCounter$Program", name := "trapAt", desc := "(I)I" } : Jvm.MethodName) ({ cls := "BlockCounter$Program", name := "trapAt", desc := "(I)I" } : Jvm.MethodName)) ∈ evW := evm 639 (by decide +kernel) rfl
set_option maxRecDepth 100000 in
theorem mw_640 : (Jvm.Cond.code ({ cls := "BlockCounter$Program", name := "trapAt", desc := "(I)I" } : Jvm.MethodName) prog_5_method_4_code (2 : Nat) (Option.some Jvm.ClassFile.FieldType.int)) ∈ evW := evm 640 rfl rfl
set_option maxRecDepth 100000 in
theorem mw_641 : (Jvm.Cond.methodLink "BlockCounter$Machine" (94 : Nat) ({ cls := "BlockCounter$Machine", name := "pop", desc := "()I" } : Jvm.MethodName)) ∈ evW := evm 641 (by decide +kernel) rfl
set_option maxRecDepth 100000 in
theorem mw_643 : (Jvm.Cond.instanceMethod ({ cls := "BlockCounter$Machine", name := "pop", desc := "()I" } : Jvm.MethodName)) ∈ evW := evm 643 (by decide +kernel) rfl
set_option maxRecDepth 100000 in
theorem mw_644 : (Jvm.Cond.code ({ cls := "BlockCounter$Machine", name := "pop", desc := "()I" } : Jvm.MethodName) prog_4_method_21_code (1 : Nat) (Option.some Jvm.ClassFile.FieldType.int)) ∈ evW := evm 644 rfl rfl
set_option maxRecDepth 100000 in
theorem mw_645 : (Jvm.Cond.methodLink "BlockCounter$Machine" (97 : Nat) ({ cls := "BlockCounter$Machine", name := "branch", desc := "()I" } : Jvm.MethodName)) ∈ evW := evm 645 (by decide +kernel) rfl
set_option maxRecDepth 100000 in
theorem mw_647 : (Jvm.Cond.instanceMethod ({ cls := "BlockCounter$Machine", name := "branch", desc := "()I" } : Jvm.MethodName)) ∈ evW := evm 647 (by decide +kernel) rfl
set_option maxRecDepth 100000 in
theorem mw_648 : (Jvm.Cond.code ({ cls := "BlockCounter$Machine", name := "branch", desc := "()I" } : Jvm.MethodName) prog_4_method_18_code (2 : Nat) (Option.some Jvm.ClassFile.FieldType.int)) ∈ evW := evm 648 rfl rfl
set_option maxRecDepth 100000 in
theorem mw_649 : (Jvm.Cond.methodLink "BlockCounter$Machine" (131 : Nat) ({ cls := "BlockCounter$Instruction", name := "branchTarget", desc := "()I" } : Jvm.MethodName)) ∈ evW := evm 649 (by decide +kernel) rfl
set_option maxRecDepth 100000 in
theorem mw_650 : (Jvm.Cond.methodLink "BlockCounter$Machine" (100 : Nat) ({ cls := "BlockCounter$Instruction", name := "behind", desc := "()I" } : Jvm.MethodName)) ∈ evW := evm 650 (by decide +kernel) rfl
set_option maxRecDepth 100000 in
theorem mw_651 : (Jvm.Cond.methodLink "BlockCounter$Machine" (106 : Nat) ({ cls := "BlockCounter$Machine", name := "push", desc := "(I)Z" } : Jvm.MethodName)) ∈ evW := evm 651 (by decide +kernel) rfl
set_option maxRecDepth 100000 in
theorem mw_653 : (Jvm.Cond.instanceMethod ({ cls := "BlockCounter$Machine", name := "push", desc := "(I)Z" } : Jvm.MethodName)) ∈ evW := evm 653 (by decide +kernel) rfl
set_option maxRecDepth 100000 in
theorem mw_654 : (Jvm.Cond.code ({ cls := "BlockCounter$Machine", name := "push", desc := "(I)Z" } : Jvm.MethodName) prog_4_method_20_code (2 : Nat) (Option.some Jvm.ClassFile.FieldType.boolean)) ∈ evW := evm 654 rfl rfl
set_option maxRecDepth 100000 in
theorem mw_655 : (Jvm.Cond.methodLink "BlockCounter$Machine" (113 : Nat) ({ cls := "BlockCounter$Machine", name := "lookUp", desc := "(LBlockCounter$Program;I)I" } : Jvm.MethodName)) ∈ evW := evm 655 (by decide +kernel) rfl
set_option maxRecDepth 100000 in
theorem mw_657 : (Jvm.Cond.instanceMethod ({ cls := "BlockCounter$Machine", name := "lookUp", desc := "(LBlockCounter$Program;I)I" } : Jvm.MethodName)) ∈ evW := evm 657 (by decide +kernel) rfl
set_option maxRecDepth 100000 in
theorem mw_658 : (Jvm.Cond.code ({ cls := "BlockCounter$Machine", name := "lookUp", desc := "(LBlockCounter$Program;I)I" } : Jvm.MethodName) prog_4_method_19_code (4 : Nat) (Option.some Jvm.ClassFile.FieldType.int)) ∈ evW := evm 658 rfl rfl
set_option maxRecDepth 100000 in
theorem mw_659 : (Jvm.Cond.methodLink "BlockCounter$Machine" (134 : Nat) ({ cls := "java/lang/Math", name := "floorMod", desc := "(II)I" } : Jvm.MethodName)) ∈ evW := evm 659 (by decide +kernel) rfl
set_option maxRecDepth 100000 in
theorem mw_660 : (Jvm.Cond.static ({ cls := "java/lang/Math", name := "floorMod", desc := "(II)I" } : Jvm.MethodName)) ∈ evW := evm 660 (by decide +kernel) rfl
set_option maxRecDepth 100000 in
theorem mw_661 : (Jvm.Cond.code ({ cls := "java/lang/Math", name := "floorMod", desc := "(II)I" } : Jvm.MethodName) prog_14_method_50_code (3 : Nat) (Option.some Jvm.ClassFile.FieldType.int)) ∈ evW := evm 661 rfl rfl
set_option maxRecDepth 100000 in
theorem mw_662 : (Jvm.Cond.methodLink "BlockCounter$Machine" (140 : Nat) ({ cls := "BlockCounter$Program", name := "at", desc := "(I)I" } : Jvm.MethodName)) ∈ evW := evm 662 (by decide +kernel) rfl
set_option maxRecDepth 100000 in
theorem mw_663 : (Jvm.Cond.methodLink "BlockCounter$Machine" (117 : Nat) ({ cls := "BlockCounter$Machine", name := "print", desc := "(I)Z" } : Jvm.MethodName)) ∈ evW := evm 663 (by decide +kernel) rfl
set_option maxRecDepth 100000 in
theorem mw_665 : (Jvm.Cond.instanceMethod ({ cls := "BlockCounter$Machine", name := "print", desc := "(I)Z" } : Jvm.MethodName)) ∈ evW := evm 665 (by decide +kernel) rfl
set_option maxRecDepth 100000 in
theorem mw_666 : (Jvm.Cond.code ({ cls := "BlockCounter$Machine", name := "print", desc := "(I)Z" } : Jvm.MethodName) prog_4_method_22_code (2 : Nat) (Option.some Jvm.ClassFile.FieldType.boolean)) ∈ evW := evm 666 rfl rfl
set_option maxRecDepth 100000 in
theorem mw_667 : (Jvm.Cond.methodLink "BlockCounter$Machine" (120 : Nat) ({ cls := "BlockCounter$Machine", name := "calculate", desc := "()V" } : Jvm.MethodName)) ∈ evW := evm 667 (by decide +kernel) rfl
set_option maxRecDepth 100000 in
theorem mw_669 : (Jvm.Cond.instanceMethod ({ cls := "BlockCounter$Machine", name := "calculate", desc := "()V" } : Jvm.MethodName)) ∈ evW := evm 669 (by decide +kernel) rfl
set_option maxRecDepth 100000 in
theorem mw_670 : (Jvm.Cond.code ({ cls := "BlockCounter$Machine", name := "calculate", desc := "()V" } : Jvm.MethodName) prog_4_method_15_code (2 : Nat) (Option.none : Option Jvm.ClassFile.FieldType)) ∈ evW := evm 670 rfl rfl
set_option maxRecDepth 100000 in
theorem mw_671 : (Jvm.Cond.methodLink "BlockCounter$Machine" (123 : Nat) ({ cls := "BlockCounter$Instruction", name := "otherRegister", desc := "()I" } : Jvm.MethodName)) ∈ evW := evm 671 (by decide +kernel) rfl
set_option maxRecDepth 100000 in
theorem mw_672 : (Jvm.Cond.instanceMethod ({ cls := "BlockCounter$Instruction", name := "otherRegister", desc := "()I" } : Jvm.MethodName)) ∈ evW := evm 672 (by decide +kernel) rfl
set_option maxRecDepth 100000 in
theorem mw_673 : (Jvm.Cond.selects "BlockCounter$Instruction" ({ cls := "BlockCounter$Instruction", name := "otherRegister", desc := "()I" } : Jvm.MethodName) ({ cls := "BlockCounter$Instruction", name := "otherRegister", desc := "()I" } : Jvm.MethodName)) ∈ evW := evm 673 (by decide +kernel) rfl
set_option maxRecDepth 100000 in
theorem mw_674 : (Jvm.Cond.code ({ cls := "BlockCounter$Instruction", name := "otherRegister", desc := "()I" } : Jvm.MethodName) prog_3_method_8_code (1 : Nat) (Option.some Jvm.ClassFile.FieldType.int)) ∈ evW := evm 674 rfl rfl
set_option maxRecDepth 100000 in
theorem mw_675 : (Jvm.Cond.methodLink "BlockCounter$Machine" (73 : Nat) ({ cls := "BlockCounter$Machine", name := "grow", desc := "(I)V" } : Jvm.MethodName)) ∈ evW := evm 675 (by decide +kernel) rfl
set_option maxRecDepth 100000 in
theorem mw_677 : (Jvm.Cond.instanceMethod ({ cls := "BlockCounter$Machine", name := "grow", desc := "(I)V" } : Jvm.MethodName)) ∈ evW := evm 677 (by decide +kernel) rfl
set_option maxRecDepth 100000 in
theorem mw_678 : (Jvm.Cond.code ({ cls := "BlockCounter$Machine", name := "grow", desc := "(I)V" } : Jvm.MethodName) prog_4_method_16_code (2 : Nat) (Option.none : Option Jvm.ClassFile.FieldType)) ∈ evW := evm 678 rfl rfl
set_option maxRecDepth 100000 in
theorem mw_679 : (Jvm.Cond.methodLink "BlockCounter" (151 : Nat) ({ cls := "BlockCounter$Machine", name := "executeWatched", desc := "(LBlockCounter$Program;ILBlockCounter$Analysis;)I" } : Jvm.MethodName)) ∈ evW := evm 679 (by decide +kernel) rfl
set_option maxRecDepth 100000 in
theorem mw_680 : (Jvm.Cond.instanceMethod ({ cls := "BlockCounter$Machine", name := "executeWatched", desc := "(LBlockCounter$Program;ILBlockCounter$Analysis;)I" } : Jvm.MethodName)) ∈ evW := evm 680 (by decide +kernel) rfl
set_option maxRecDepth 100000 in
theorem mw_681 : (Jvm.Cond.selects "BlockCounter$Machine" ({ cls := "BlockCounter$Machine", name := "executeWatched", desc := "(LBlockCounter$Program;ILBlockCounter$Analysis;)I" } : Jvm.MethodName) ({ cls := "BlockCounter$Machine", name := "executeWatched", desc := "(LBlockCounter$Program;ILBlockCounter$Analysis;)I" } : Jvm.MethodName)) ∈ evW := evm 681 (by decide +kernel) rfl
set_option maxRecDepth 100000 in
theorem mw_682 : (Jvm.Cond.code ({ cls := "BlockCounter$Machine", name := "executeWatched", desc := "(LBlockCounter$Program;ILBlockCounter$Analysis;)I" } : Jvm.MethodName) prog_4_method_12_code (7 : Nat) (Option.some Jvm.ClassFile.FieldType.int)) ∈ evW := evm 682 rfl rfl
set_option maxRecDepth 100000 in
theorem mw_683 : (Jvm.Cond.methodLink "BlockCounter$Machine" (67 : Nat) ({ cls := "BlockCounter$Analysis", name := "numberOfHead", desc := "(I)I" } : Jvm.MethodName)) ∈ evW := evm 683 (by decide +kernel) rfl
set_option maxRecDepth 100000 in
theorem mw_684 : (Jvm.Cond.instanceMethod ({ cls := "BlockCounter$Analysis", name := "numberOfHead", desc := "(I)I" } : Jvm.MethodName)) ∈ evW := evm 684 (by decide +kernel) rfl
set_option maxRecDepth 100000 in
theorem mw_685 : (Jvm.Cond.selects "BlockCounter$Analysis" ({ cls := "BlockCounter$Analysis", name := "numberOfHead", desc := "(I)I" } : Jvm.MethodName) ({ cls := "BlockCounter$Analysis", name := "numberOfHead", desc := "(I)I" } : Jvm.MethodName)) ∈ evW := evm 685 (by decide +kernel) rfl
set_option maxRecDepth 100000 in
theorem mw_686 : (Jvm.Cond.code ({ cls := "BlockCounter$Analysis", name := "numberOfHead", desc := "(I)I" } : Jvm.MethodName) prog_2_method_9_code (3 : Nat) (Option.some Jvm.ClassFile.FieldType.int)) ∈ evW := evm 686 rfl rfl
set_option maxRecDepth 100000 in
theorem mw_687 : (Jvm.Cond.methodLink "BlockCounter$Analysis" (52 : Nat) ({ cls := "BlockCounter$Analysis", name := "numberAt", desc := "(I)I" } : Jvm.MethodName)) ∈ evW := evm 687 (by decide +kernel) rfl
set_option maxRecDepth 100000 in
theorem mw_688 : (Jvm.Cond.methodLink "BlockCounter$Analysis" (56 : Nat) ({ cls := "BlockCounter$Analysis", name := "headOf", desc := "(I)I" } : Jvm.MethodName)) ∈ evW := evm 688 (by decide +kernel) rfl
set_option maxRecDepth 100000 in
theorem mw_689 : (Jvm.Cond.methodLink "BlockCounterLaw" (106 : Nat) ({ cls := "BlockCounterLaw", name := "register", desc := "(LBlockCounter;I[J)I" } : Jvm.MethodName)) ∈ evW := evm 689 (by decide +kernel) rfl
set_option maxRecDepth 100000 in
theorem mw_690 : (Jvm.Cond.static ({ cls := "BlockCounterLaw", name := "register", desc := "(LBlockCounter;I[J)I" } : Jvm.MethodName)) ∈ evW := evm 690 (by decide +kernel) rfl
set_option maxRecDepth 100000 in
theorem mw_691 : (Jvm.Cond.codeWith ({ cls := "BlockCounterLaw", name := "register", desc := "(LBlockCounter;I[J)I" } : Jvm.MethodName) method_11_code (4 : Nat) (Option.some Jvm.ClassFile.FieldType.int) [((0 : Nat), (9 : Nat), (12 : Nat), (13 : Nat))]) ∈ evW := evm 691 rfl rfl
set_option maxRecDepth 100000 in
theorem mw_692 : (Jvm.Cond.methodLink "BlockCounterLaw" (46 : Nat) ({ cls := "BlockCounter", name := "register", desc := "(I)I" } : Jvm.MethodName)) ∈ evW := evm 692 (by decide +kernel) rfl
set_option maxRecDepth 100000 in
theorem mw_693 : (Jvm.Cond.instanceMethod ({ cls := "BlockCounter", name := "register", desc := "(I)I" } : Jvm.MethodName)) ∈ evW := evm 693 (by decide +kernel) rfl
set_option maxRecDepth 100000 in
theorem mw_694 : (Jvm.Cond.selects "BlockCounter" ({ cls := "BlockCounter", name := "register", desc := "(I)I" } : Jvm.MethodName) ({ cls := "BlockCounter", name := "register", desc := "(I)I" } : Jvm.MethodName)) ∈ evW := evm 694 (by decide +kernel) rfl
set_option maxRecDepth 100000 in
theorem mw_695 : (Jvm.Cond.code ({ cls := "BlockCounter", name := "register", desc := "(I)I" } : Jvm.MethodName) prog_1_method_12_code (2 : Nat) (Option.some Jvm.ClassFile.FieldType.int)) ∈ evW := evm 695 rfl rfl
set_option maxRecDepth 100000 in
theorem mw_696 : (Jvm.Cond.methodLink "BlockCounter" (158 : Nat) ({ cls := "BlockCounter$Machine", name := "registerValue", desc := "(I)I" } : Jvm.MethodName)) ∈ evW := evm 696 (by decide +kernel) rfl
set_option maxRecDepth 100000 in
theorem mw_697 : (Jvm.Cond.instanceMethod ({ cls := "BlockCounter$Machine", name := "registerValue", desc := "(I)I" } : Jvm.MethodName)) ∈ evW := evm 697 (by decide +kernel) rfl
set_option maxRecDepth 100000 in
theorem mw_698 : (Jvm.Cond.selects "BlockCounter$Machine" ({ cls := "BlockCounter$Machine", name := "registerValue", desc := "(I)I" } : Jvm.MethodName) ({ cls := "BlockCounter$Machine", name := "registerValue", desc := "(I)I" } : Jvm.MethodName)) ∈ evW := evm 698 (by decide +kernel) rfl
set_option maxRecDepth 100000 in
theorem mw_699 : (Jvm.Cond.code ({ cls := "BlockCounter$Machine", name := "registerValue", desc := "(I)I" } : Jvm.MethodName) prog_4_method_2_code (2 : Nat) (Option.some Jvm.ClassFile.FieldType.int)) ∈ evW := evm 699 rfl rfl
set_option maxRecDepth 100000 in
theorem mw_700 : (Jvm.Cond.methodLink "BlockCounter" (161 : Nat) ({ cls := "BlockCounter$Machine", name := "position", desc := "()I" } : Jvm.MethodName)) ∈ evW := evm 700 (by decide +kernel) rfl
set_option maxRecDepth 100000 in
theorem mw_701 : (Jvm.Cond.instanceMethod ({ cls := "BlockCounter$Machine", name := "position", desc := "()I" } : Jvm.MethodName)) ∈ evW := evm 701 (by decide +kernel) rfl
set_option maxRecDepth 100000 in
theorem mw_702 : (Jvm.Cond.selects "BlockCounter$Machine" ({ cls := "BlockCounter$Machine", name := "position", desc := "()I" } : Jvm.MethodName) ({ cls := "BlockCounter$Machine", name := "position", desc := "()I" } : Jvm.MethodName)) ∈ evW := evm 702 (by decide +kernel) rfl
set_option maxRecDepth 100000 in
theorem mw_703 : (Jvm.Cond.code ({ cls := "BlockCounter$Machine", name := "position", desc := "()I" } : Jvm.MethodName) prog_4_method_8_code (1 : Nat) (Option.some Jvm.ClassFile.FieldType.int)) ∈ evW := evm 703 rfl rfl
set_option maxRecDepth 100000 in
theorem mw_704 : (Jvm.Cond.methodLink "BlockCounter" (164 : Nat) ({ cls := "BlockCounter$Machine", name := "pushed", desc := "()I" } : Jvm.MethodName)) ∈ evW := evm 704 (by decide +kernel) rfl
set_option maxRecDepth 100000 in
theorem mw_705 : (Jvm.Cond.instanceMethod ({ cls := "BlockCounter$Machine", name := "pushed", desc := "()I" } : Jvm.MethodName)) ∈ evW := evm 705 (by decide +kernel) rfl
set_option maxRecDepth 100000 in
theorem mw_706 : (Jvm.Cond.selects "BlockCounter$Machine" ({ cls := "BlockCounter$Machine", name := "pushed", desc := "()I" } : Jvm.MethodName) ({ cls := "BlockCounter$Machine", name := "pushed", desc := "()I" } : Jvm.MethodName)) ∈ evW := evm 706 (by decide +kernel) rfl
set_option maxRecDepth 100000 in
theorem mw_707 : (Jvm.Cond.code ({ cls := "BlockCounter$Machine", name := "pushed", desc := "()I" } : Jvm.MethodName) prog_4_method_7_code (1 : Nat) (Option.some Jvm.ClassFile.FieldType.int)) ∈ evW := evm 707 rfl rfl
set_option maxRecDepth 100000 in
theorem mw_708 : (Jvm.Cond.methodLink "BlockCounter" (167 : Nat) ({ cls := "BlockCounter$Machine", name := "printed", desc := "()I" } : Jvm.MethodName)) ∈ evW := evm 708 (by decide +kernel) rfl
set_option maxRecDepth 100000 in
theorem mw_709 : (Jvm.Cond.instanceMethod ({ cls := "BlockCounter$Machine", name := "printed", desc := "()I" } : Jvm.MethodName)) ∈ evW := evm 709 (by decide +kernel) rfl
set_option maxRecDepth 100000 in
theorem mw_710 : (Jvm.Cond.selects "BlockCounter$Machine" ({ cls := "BlockCounter$Machine", name := "printed", desc := "()I" } : Jvm.MethodName) ({ cls := "BlockCounter$Machine", name := "printed", desc := "()I" } : Jvm.MethodName)) ∈ evW := evm 710 (by decide +kernel) rfl
set_option maxRecDepth 100000 in
theorem mw_711 : (Jvm.Cond.code ({ cls := "BlockCounter$Machine", name := "printed", desc := "()I" } : Jvm.MethodName) prog_4_method_6_code (1 : Nat) (Option.some Jvm.ClassFile.FieldType.int)) ∈ evW := evm 711 rfl rfl
set_option maxRecDepth 100000 in
theorem mw_713 : (Jvm.Cond.methodLink "BlockCounterLaw" (110 : Nat) ({ cls := "BlockCounterLaw", name := "cell", desc := "(LBlockCounter;I[J)I" } : Jvm.MethodName)) ∈ evW := evm 713 (by decide +kernel) rfl
set_option maxRecDepth 100000 in
theorem mw_714 : (Jvm.Cond.static ({ cls := "BlockCounterLaw", name := "cell", desc := "(LBlockCounter;I[J)I" } : Jvm.MethodName)) ∈ evW := evm 714 (by decide +kernel) rfl
set_option maxRecDepth 100000 in
theorem mw_715 : (Jvm.Cond.codeWith ({ cls := "BlockCounterLaw", name := "cell", desc := "(LBlockCounter;I[J)I" } : Jvm.MethodName) method_12_code (4 : Nat) (Option.some Jvm.ClassFile.FieldType.int) [((0 : Nat), (9 : Nat), (12 : Nat), (13 : Nat))]) ∈ evW := evm 715 rfl rfl
set_option maxRecDepth 100000 in
theorem mw_716 : (Jvm.Cond.methodLink "BlockCounterLaw" (50 : Nat) ({ cls := "BlockCounter", name := "cell", desc := "(I)I" } : Jvm.MethodName)) ∈ evW := evm 716 (by decide +kernel) rfl
set_option maxRecDepth 100000 in
theorem mw_717 : (Jvm.Cond.instanceMethod ({ cls := "BlockCounter", name := "cell", desc := "(I)I" } : Jvm.MethodName)) ∈ evW := evm 717 (by decide +kernel) rfl
set_option maxRecDepth 100000 in
theorem mw_718 : (Jvm.Cond.selects "BlockCounter" ({ cls := "BlockCounter", name := "cell", desc := "(I)I" } : Jvm.MethodName) ({ cls := "BlockCounter", name := "cell", desc := "(I)I" } : Jvm.MethodName)) ∈ evW := evm 718 (by decide +kernel) rfl
set_option maxRecDepth 100000 in
theorem mw_719 : (Jvm.Cond.code ({ cls := "BlockCounter", name := "cell", desc := "(I)I" } : Jvm.MethodName) prog_1_method_13_code (2 : Nat) (Option.some Jvm.ClassFile.FieldType.int)) ∈ evW := evm 719 rfl rfl
set_option maxRecDepth 100000 in
theorem mw_720 : (Jvm.Cond.methodLink "BlockCounter" (172 : Nat) ({ cls := "BlockCounter$Machine", name := "cellValue", desc := "(I)I" } : Jvm.MethodName)) ∈ evW := evm 720 (by decide +kernel) rfl
set_option maxRecDepth 100000 in
theorem mw_721 : (Jvm.Cond.instanceMethod ({ cls := "BlockCounter$Machine", name := "cellValue", desc := "(I)I" } : Jvm.MethodName)) ∈ evW := evm 721 (by decide +kernel) rfl
set_option maxRecDepth 100000 in
theorem mw_722 : (Jvm.Cond.selects "BlockCounter$Machine" ({ cls := "BlockCounter$Machine", name := "cellValue", desc := "(I)I" } : Jvm.MethodName) ({ cls := "BlockCounter$Machine", name := "cellValue", desc := "(I)I" } : Jvm.MethodName)) ∈ evW := evm 722 (by decide +kernel) rfl
set_option maxRecDepth 100000 in
theorem mw_723 : (Jvm.Cond.code ({ cls := "BlockCounter$Machine", name := "cellValue", desc := "(I)I" } : Jvm.MethodName) prog_4_method_3_code (2 : Nat) (Option.some Jvm.ClassFile.FieldType.int)) ∈ evW := evm 723 rfl rfl
set_option maxRecDepth 100000 in
theorem mw_724 : (Jvm.Cond.methodLink "BlockCounterLaw" (113 : Nat) ({ cls := "BlockCounterLaw", name := "output", desc := "(LBlockCounter;I[J)I" } : Jvm.MethodName)) ∈ evW := evm 724 (by decide +kernel) rfl
set_option maxRecDepth 100000 in
theorem mw_725 : (Jvm.Cond.static ({ cls := "BlockCounterLaw", name := "output", desc := "(LBlockCounter;I[J)I" } : Jvm.MethodName)) ∈ evW := evm 725 (by decide +kernel) rfl
set_option maxRecDepth 100000 in
theorem mw_726 : (Jvm.Cond.codeWith ({ cls := "BlockCounterLaw", name := "output", desc := "(LBlockCounter;I[J)I" } : Jvm.MethodName) method_13_code (4 : Nat) (Option.some Jvm.ClassFile.FieldType.int) [((0 : Nat), (9 : Nat), (12 : Nat), (13 : Nat))]) ∈ evW := evm 726 rfl rfl
set_option maxRecDepth 100000 in
theorem mw_727 : (Jvm.Cond.methodLink "BlockCounterLaw" (53 : Nat) ({ cls := "BlockCounter", name := "output", desc := "(I)I" } : Jvm.MethodName)) ∈ evW := evm 727 (by decide +kernel) rfl
set_option maxRecDepth 100000 in
theorem mw_728 : (Jvm.Cond.instanceMethod ({ cls := "BlockCounter", name := "output", desc := "(I)I" } : Jvm.MethodName)) ∈ evW := evm 728 (by decide +kernel) rfl
set_option maxRecDepth 100000 in
theorem mw_729 : (Jvm.Cond.selects "BlockCounter" ({ cls := "BlockCounter", name := "output", desc := "(I)I" } : Jvm.MethodName) ({ cls := "BlockCounter", name := "output", desc := "(I)I" } : Jvm.MethodName)) ∈ evW := evm 729 (by decide +kernel) rfl
set_option maxRecDepth 100000 in
theorem mw_730 : (Jvm.Cond.code ({ cls := "BlockCounter", name := "output", desc := "(I)I" } : Jvm.MethodName) prog_1_method_14_code (2 : Nat) (Option.some Jvm.ClassFile.FieldType.int)) ∈ evW := evm 730 rfl rfl
set_option maxRecDepth 100000 in
theorem mw_732 : (Jvm.Cond.methodLink "BlockCounter" (177 : Nat) ({ cls := "BlockCounter$Machine", name := "printedValue", desc := "(I)I" } : Jvm.MethodName)) ∈ evW := evm 732 (by decide +kernel) rfl
set_option maxRecDepth 100000 in
theorem mw_733 : (Jvm.Cond.instanceMethod ({ cls := "BlockCounter$Machine", name := "printedValue", desc := "(I)I" } : Jvm.MethodName)) ∈ evW := evm 733 (by decide +kernel) rfl
set_option maxRecDepth 100000 in
theorem mw_734 : (Jvm.Cond.selects "BlockCounter$Machine" ({ cls := "BlockCounter$Machine", name := "printedValue", desc := "(I)I" } : Jvm.MethodName) ({ cls := "BlockCounter$Machine", name := "printedValue", desc := "(I)I" } : Jvm.MethodName)) ∈ evW := evm 734 (by decide +kernel) rfl
set_option maxRecDepth 100000 in
theorem mw_735 : (Jvm.Cond.code ({ cls := "BlockCounter$Machine", name := "printedValue", desc := "(I)I" } : Jvm.MethodName) prog_4_method_5_code (2 : Nat) (Option.some Jvm.ClassFile.FieldType.int)) ∈ evW := evm 735 rfl rfl
set_option maxRecDepth 100000 in
theorem mw_736 : (Jvm.Cond.methodLink "BlockCounterLaw" (116 : Nat) ({ cls := "BlockCounterLaw", name := "counter", desc := "(LBlockCounter;I[J)I" } : Jvm.MethodName)) ∈ evW := evm 736 (by decide +kernel) rfl
set_option maxRecDepth 100000 in
theorem mw_737 : (Jvm.Cond.static ({ cls := "BlockCounterLaw", name := "counter", desc := "(LBlockCounter;I[J)I" } : Jvm.MethodName)) ∈ evW := evm 737 (by decide +kernel) rfl
set_option maxRecDepth 100000 in
theorem mw_738 : (Jvm.Cond.codeWith ({ cls := "BlockCounterLaw", name := "counter", desc := "(LBlockCounter;I[J)I" } : Jvm.MethodName) method_14_code (4 : Nat) (Option.some Jvm.ClassFile.FieldType.int) [((0 : Nat), (8 : Nat), (11 : Nat), (13 : Nat))]) ∈ evW := evm 738 rfl rfl
set_option maxRecDepth 100000 in
theorem mw_739 : (Jvm.Cond.methodLink "BlockCounterLaw" (56 : Nat) ({ cls := "BlockCounter", name := "counter", desc := "(I)J" } : Jvm.MethodName)) ∈ evW := evm 739 (by decide +kernel) rfl
set_option maxRecDepth 100000 in
theorem mw_740 : (Jvm.Cond.instanceMethod ({ cls := "BlockCounter", name := "counter", desc := "(I)J" } : Jvm.MethodName)) ∈ evW := evm 740 (by decide +kernel) rfl
set_option maxRecDepth 100000 in
theorem mw_741 : (Jvm.Cond.selects "BlockCounter" ({ cls := "BlockCounter", name := "counter", desc := "(I)J" } : Jvm.MethodName) ({ cls := "BlockCounter", name := "counter", desc := "(I)J" } : Jvm.MethodName)) ∈ evW := evm 741 (by decide +kernel) rfl
set_option maxRecDepth 100000 in
theorem mw_742 : (Jvm.Cond.code ({ cls := "BlockCounter", name := "counter", desc := "(I)J" } : Jvm.MethodName) prog_1_method_15_code (2 : Nat) (Option.some Jvm.ClassFile.FieldType.long)) ∈ evW := evm 742 rfl rfl
set_option maxRecDepth 100000 in
theorem mw_744 : (Jvm.Cond.methodLink "BlockCounter" (182 : Nat) ({ cls := "BlockCounter$Machine", name := "count", desc := "(I)J" } : Jvm.MethodName)) ∈ evW := evm 744 (by decide +kernel) rfl
set_option maxRecDepth 100000 in
theorem mw_745 : (Jvm.Cond.instanceMethod ({ cls := "BlockCounter$Machine", name := "count", desc := "(I)J" } : Jvm.MethodName)) ∈ evW := evm 745 (by decide +kernel) rfl
set_option maxRecDepth 100000 in
theorem mw_746 : (Jvm.Cond.selects "BlockCounter$Machine" ({ cls := "BlockCounter$Machine", name := "count", desc := "(I)J" } : Jvm.MethodName) ({ cls := "BlockCounter$Machine", name := "count", desc := "(I)J" } : Jvm.MethodName)) ∈ evW := evm 746 (by decide +kernel) rfl
set_option maxRecDepth 100000 in
theorem mw_747 : (Jvm.Cond.code ({ cls := "BlockCounter$Machine", name := "count", desc := "(I)J" } : Jvm.MethodName) prog_4_method_4_code (2 : Nat) (Option.some Jvm.ClassFile.FieldType.long)) ∈ evW := evm 747 rfl rfl
set_option maxRecDepth 100000 in
theorem mw_748 : (Jvm.Cond.classLink "BlockCounterLaw" (61 : Nat) "BlockCounterModel") ∈ evW := evm 748 (by decide +kernel) rfl
set_option maxRecDepth 100000 in
theorem mw_749 : (Jvm.Cond.instantiable "BlockCounterModel" (30 : Nat)) ∈ evW := evm 749 (by decide +kernel) rfl
set_option maxRecDepth 100000 in
theorem mw_750 : (Jvm.Cond.methodLink "BlockCounterLaw" (63 : Nat) ({ cls := "BlockCounterModel", name := "<init>", desc := "()V" } : Jvm.MethodName)) ∈ evW := evm 750 (by decide +kernel) rfl
set_option maxRecDepth 100000 in
theorem mw_751 : (Jvm.Cond.instanceMethod ({ cls := "BlockCounterModel", name := "<init>", desc := "()V" } : Jvm.MethodName)) ∈ evW := evm 751 (by decide +kernel) rfl
set_option maxRecDepth 100000 in
theorem mw_752 : (Jvm.Cond.code ({ cls := "BlockCounterModel", name := "<init>", desc := "()V" } : Jvm.MethodName) prog_9_method_1_code (1 : Nat) (Option.none : Option Jvm.ClassFile.FieldType)) ∈ evW := evm 752 rfl rfl
set_option maxRecDepth 100000 in
theorem mw_753 : (Jvm.Cond.methodLink "BlockCounterModel" (1 : Nat) ({ cls := "java/lang/Object", name := "<init>", desc := "()V" } : Jvm.MethodName)) ∈ evW := evm 753 (by decide +kernel) rfl
set_option maxRecDepth 100000 in
theorem mw_754 : (Jvm.Cond.fieldLink "BlockCounterModel" (63 : Nat) "BlockCounterModel" "code" "I") ∈ evW := evm 754 (by decide +kernel) rfl
set_option maxRecDepth 100000 in
theorem mw_755 : (Jvm.Cond.fieldLink "BlockCounterModel" (7 : Nat) "BlockCounterModel" "memory" "[I") ∈ evW := evm 755 (by decide +kernel) rfl
set_option maxRecDepth 100000 in
theorem mw_756 : (Jvm.Cond.fieldLink "BlockCounterModel" (13 : Nat) "BlockCounterModel" "traps" "[I") ∈ evW := evm 756 (by decide +kernel) rfl
set_option maxRecDepth 100000 in
theorem mw_757 : (Jvm.Cond.fieldLink "BlockCounterModel" (81 : Nat) "BlockCounterModel" "tables" "I") ∈ evW := evm 757 (by decide +kernel) rfl
set_option maxRecDepth 100000 in
theorem mw_758 : (Jvm.Cond.fieldLink "BlockCounterModel" (16 : Nat) "BlockCounterModel" "tableBase" "[I") ∈ evW := evm 758 (by decide +kernel) rfl
set_option maxRecDepth 100000 in
theorem mw_759 : (Jvm.Cond.fieldLink "BlockCounterModel" (19 : Nat) "BlockCounterModel" "tableCount" "[I") ∈ evW := evm 759 (by decide +kernel) rfl
set_option maxRecDepth 100000 in
theorem mw_760 : (Jvm.Cond.fieldLink "BlockCounterModel" (22 : Nat) "BlockCounterModel" "data" "[I") ∈ evW := evm 760 (by decide +kernel) rfl
set_option maxRecDepth 100000 in
theorem mw_761 : (Jvm.Cond.fieldLink "BlockCounterModel" (67 : Nat) "BlockCounterModel" "analysed" "Z") ∈ evW := evm 761 (by decide +kernel) rfl
set_option maxRecDepth 100000 in
theorem mw_762 : (Jvm.Cond.fieldLink "BlockCounterModel" (71 : Nat) "BlockCounterModel" "rewritten" "Z") ∈ evW := evm 762 (by decide +kernel) rfl
set_option maxRecDepth 100000 in
theorem mw_763 : (Jvm.Cond.fieldLink "BlockCounterModel" (25 : Nat) "BlockCounterModel" "begins" "[Z") ∈ evW := evm 763 (by decide +kernel) rfl
set_option maxRecDepth 100000 in
theorem mw_764 : (Jvm.Cond.fieldLink "BlockCounterModel" (29 : Nat) "BlockCounterModel" "heads" "[Z") ∈ evW := evm 764 (by decide +kernel) rfl
set_option maxRecDepth 100000 in
theorem mw_765 : (Jvm.Cond.fieldLink "BlockCounterModel" (32 : Nat) "BlockCounterModel" "used" "[Z") ∈ evW := evm 765 (by decide +kernel) rfl
set_option maxRecDepth 100000 in
theorem mw_766 : (Jvm.Cond.fieldLink "BlockCounterModel" (35 : Nat) "BlockCounterModel" "tabled" "[Z") ∈ evW := evm 766 (by decide +kernel) rfl
set_option maxRecDepth 100000 in
theorem mw_767 : (Jvm.Cond.fieldLink "BlockCounterModel" (91 : Nat) "BlockCounterModel" "refused" "Z") ∈ evW := evm 767 (by decide +kernel) rfl
set_option maxRecDepth 100000 in
theorem mw_768 : (Jvm.Cond.fieldLink "BlockCounterModel" (94 : Nat) "BlockCounterModel" "more" "Z") ∈ evW := evm 768 (by decide +kernel) rfl
set_option maxRecDepth 100000 in
theorem mw_769 : (Jvm.Cond.fieldLink "BlockCounterModel" (121 : Nat) "BlockCounterModel" "blocks" "I") ∈ evW := evm 769 (by decide +kernel) rfl
set_option maxRecDepth 100000 in
theorem mw_770 : (Jvm.Cond.fieldLink "BlockCounterModel" (38 : Nat) "BlockCounterModel" "head" "[I") ∈ evW := evm 770 (by decide +kernel) rfl
set_option maxRecDepth 100000 in
theorem mw_771 : (Jvm.Cond.fieldLink "BlockCounterModel" (41 : Nat) "BlockCounterModel" "bytes" "[I") ∈ evW := evm 771 (by decide +kernel) rfl
set_option maxRecDepth 100000 in
theorem mw_772 : (Jvm.Cond.fieldLink "BlockCounterModel" (44 : Nat) "BlockCounterModel" "count" "[I") ∈ evW := evm 772 (by decide +kernel) rfl
set_option maxRecDepth 100000 in
theorem mw_773 : (Jvm.Cond.fieldLink "BlockCounterModel" (137 : Nat) "BlockCounterModel" "end" "I") ∈ evW := evm 773 (by decide +kernel) rfl
set_option maxRecDepth 100000 in
theorem mw_774 : (Jvm.Cond.fieldLink "BlockCounterModel" (47 : Nat) "BlockCounterModel" "registers" "[I") ∈ evW := evm 774 (by decide +kernel) rfl
set_option maxRecDepth 100000 in
theorem mw_775 : (Jvm.Cond.fieldLink "BlockCounterModel" (50 : Nat) "BlockCounterModel" "cells" "[I") ∈ evW := evm 775 (by decide +kernel) rfl
set_option maxRecDepth 100000 in
theorem mw_776 : (Jvm.Cond.fieldLink "BlockCounterModel" (155 : Nat) "BlockCounterModel" "pc" "I") ∈ evW := evm 776 (by decide +kernel) rfl
set_option maxRecDepth 100000 in
theorem mw_777 : (Jvm.Cond.fieldLink "BlockCounterModel" (169 : Nat) "BlockCounterModel" "height" "I") ∈ evW := evm 777 (by decide +kernel) rfl
set_option maxRecDepth 100000 in
theorem mw_778 : (Jvm.Cond.fieldLink "BlockCounterModel" (172 : Nat) "BlockCounterModel" "shown" "I") ∈ evW := evm 778 (by decide +kernel) rfl
set_option maxRecDepth 100000 in
theorem mw_779 : (Jvm.Cond.fieldLink "BlockCounterModel" (188 : Nat) "BlockCounterModel" "done" "I") ∈ evW := evm 779 (by decide +kernel) rfl
set_option maxRecDepth 100000 in
theorem mw_780 : (Jvm.Cond.fieldLink "BlockCounterModel" (152 : Nat) "BlockCounterModel" "outcome" "I") ∈ evW := evm 780 (by decide +kernel) rfl
set_option maxRecDepth 100000 in
theorem mw_781 : (Jvm.Cond.fieldLink "BlockCounterModel" (53 : Nat) "BlockCounterModel" "stack" "[I") ∈ evW := evm 781 (by decide +kernel) rfl
set_option maxRecDepth 100000 in
theorem mw_782 : (Jvm.Cond.fieldLink "BlockCounterModel" (56 : Nat) "BlockCounterModel" "output" "[I") ∈ evW := evm 782 (by decide +kernel) rfl
set_option maxRecDepth 100000 in
theorem mw_783 : (Jvm.Cond.fieldLink "BlockCounterModel" (59 : Nat) "BlockCounterModel" "counters" "[J") ∈ evW := evm 783 (by decide +kernel) rfl
set_option maxRecDepth 100000 in
theorem mw_845 : (Jvm.Cond.methodLink "BlockCounterLaw" (70 : Nat) ({ cls := "BlockCounterModel", name := "thrown", desc := "()I" } : Jvm.MethodName)) ∈ evW := evm 845 (by decide +kernel) rfl
set_option maxRecDepth 100000 in
theorem mw_846 : (Jvm.Cond.instanceMethod ({ cls := "BlockCounterModel", name := "thrown", desc := "()I" } : Jvm.MethodName)) ∈ evW := evm 846 (by decide +kernel) rfl
set_option maxRecDepth 100000 in
theorem mw_847 : (Jvm.Cond.selects "BlockCounterModel" ({ cls := "BlockCounterModel", name := "thrown", desc := "()I" } : Jvm.MethodName) ({ cls := "BlockCounterModel", name := "thrown", desc := "()I" } : Jvm.MethodName)) ∈ evW := evm 847 (by decide +kernel) rfl
set_option maxRecDepth 100000 in
theorem mw_848 : (Jvm.Cond.code ({ cls := "BlockCounterModel", name := "thrown", desc := "()I" } : Jvm.MethodName) prog_9_method_2_code (1 : Nat) (Option.some Jvm.ClassFile.FieldType.int)) ∈ evW := evm 848 rfl rfl
set_option maxRecDepth 100000 in
theorem mw_849 : (Jvm.Cond.methodLink "BlockCounterLaw" (69 : Nat) ({ cls := "BlockCounterModel", name := "poke", desc := "(II)V" } : Jvm.MethodName)) ∈ evW := evm 849 (by decide +kernel) rfl
set_option maxRecDepth 100000 in
theorem mw_850 : (Jvm.Cond.instanceMethod ({ cls := "BlockCounterModel", name := "poke", desc := "(II)V" } : Jvm.MethodName)) ∈ evW := evm 850 (by decide +kernel) rfl
set_option maxRecDepth 100000 in
theorem mw_851 : (Jvm.Cond.selects "BlockCounterModel" ({ cls := "BlockCounterModel", name := "poke", desc := "(II)V" } : Jvm.MethodName) ({ cls := "BlockCounterModel", name := "poke", desc := "(II)V" } : Jvm.MethodName)) ∈ evW := evm 851 (by decide +kernel) rfl
set_option maxRecDepth 100000 in
theorem mw_852 : (Jvm.Cond.code ({ cls := "BlockCounterModel", name := "poke", desc := "(II)V" } : Jvm.MethodName) prog_9_method_5_code (3 : Nat) (Option.none : Option Jvm.ClassFile.FieldType)) ∈ evW := evm 852 rfl rfl
set_option maxRecDepth 100000 in
theorem mw_853 : (Jvm.Cond.methodLink "BlockCounterModel" (74 : Nat) ({ cls := "BlockCounterModel", name := "forget", desc := "()V" } : Jvm.MethodName)) ∈ evW := evm 853 (by decide +kernel) rfl
set_option maxRecDepth 100000 in
theorem mw_855 : (Jvm.Cond.instanceMethod ({ cls := "BlockCounterModel", name := "forget", desc := "()V" } : Jvm.MethodName)) ∈ evW := evm 855 (by decide +kernel) rfl
set_option maxRecDepth 100000 in
theorem mw_856 : (Jvm.Cond.code ({ cls := "BlockCounterModel", name := "forget", desc := "()V" } : Jvm.MethodName) prog_9_method_4_code (1 : Nat) (Option.none : Option Jvm.ClassFile.FieldType)) ∈ evW := evm 856 rfl rfl
set_option maxRecDepth 100000 in
theorem mw_857 : (Jvm.Cond.methodLink "BlockCounterLaw" (76 : Nat) ({ cls := "BlockCounterModel", name := "declare", desc := "(II)I" } : Jvm.MethodName)) ∈ evW := evm 857 (by decide +kernel) rfl
set_option maxRecDepth 100000 in
theorem mw_858 : (Jvm.Cond.instanceMethod ({ cls := "BlockCounterModel", name := "declare", desc := "(II)I" } : Jvm.MethodName)) ∈ evW := evm 858 (by decide +kernel) rfl
set_option maxRecDepth 100000 in
theorem mw_859 : (Jvm.Cond.selects "BlockCounterModel" ({ cls := "BlockCounterModel", name := "declare", desc := "(II)I" } : Jvm.MethodName) ({ cls := "BlockCounterModel", name := "declare", desc := "(II)I" } : Jvm.MethodName)) ∈ evW := evm 859 (by decide +kernel) rfl
set_option maxRecDepth 100000 in
theorem mw_860 : (Jvm.Cond.code ({ cls := "BlockCounterModel", name := "declare", desc := "(II)I" } : Jvm.MethodName) prog_9_method_6_code (3 : Nat) (Option.some Jvm.ClassFile.FieldType.int)) ∈ evW := evm 860 rfl rfl
set_option maxRecDepth 100000 in
theorem mw_861 : (Jvm.Cond.methodLink "BlockCounterModel" (77 : Nat) ({ cls := "BlockCounterModel", name := "fail", desc := "(I)I" } : Jvm.MethodName)) ∈ evW := evm 861 (by decide +kernel) rfl
set_option maxRecDepth 100000 in
theorem mw_863 : (Jvm.Cond.instanceMethod ({ cls := "BlockCounterModel", name := "fail", desc := "(I)I" } : Jvm.MethodName)) ∈ evW := evm 863 (by decide +kernel) rfl
set_option maxRecDepth 100000 in
theorem mw_864 : (Jvm.Cond.code ({ cls := "BlockCounterModel", name := "fail", desc := "(I)I" } : Jvm.MethodName) prog_9_method_3_code (2 : Nat) (Option.some Jvm.ClassFile.FieldType.int)) ∈ evW := evm 864 rfl rfl
set_option maxRecDepth 100000 in
theorem mw_865 : (Jvm.Cond.methodLink "BlockCounterLaw" (79 : Nat) ({ cls := "BlockCounterModel", name := "data", desc := "(II)V" } : Jvm.MethodName)) ∈ evW := evm 865 (by decide +kernel) rfl
set_option maxRecDepth 100000 in
theorem mw_866 : (Jvm.Cond.instanceMethod ({ cls := "BlockCounterModel", name := "data", desc := "(II)V" } : Jvm.MethodName)) ∈ evW := evm 866 (by decide +kernel) rfl
set_option maxRecDepth 100000 in
theorem mw_867 : (Jvm.Cond.selects "BlockCounterModel" ({ cls := "BlockCounterModel", name := "data", desc := "(II)V" } : Jvm.MethodName) ({ cls := "BlockCounterModel", name := "data", desc := "(II)V" } : Jvm.MethodName)) ∈ evW := evm 867 (by decide +kernel) rfl
set_option maxRecDepth 100000 in
theorem mw_868 : (Jvm.Cond.code ({ cls := "BlockCounterModel", name := "data", desc := "(II)V" } : Jvm.MethodName) prog_9_method_7_code (3 : Nat) (Option.none : Option Jvm.ClassFile.FieldType)) ∈ evW := evm 868 rfl rfl
set_option maxRecDepth 100000 in
theorem mw_869 : (Jvm.Cond.methodLink "BlockCounterLaw" (83 : Nat) ({ cls := "BlockCounterModel", name := "analyse", desc := "()I" } : Jvm.MethodName)) ∈ evW := evm 869 (by decide +kernel) rfl
set_option maxRecDepth 100000 in
theorem mw_870 : (Jvm.Cond.instanceMethod ({ cls := "BlockCounterModel", name := "analyse", desc := "()I" } : Jvm.MethodName)) ∈ evW := evm 870 (by decide +kernel) rfl
set_option maxRecDepth 100000 in
theorem mw_871 : (Jvm.Cond.selects "BlockCounterModel" ({ cls := "BlockCounterModel", name := "analyse", desc := "()I" } : Jvm.MethodName) ({ cls := "BlockCounterModel", name := "analyse", desc := "()I" } : Jvm.MethodName)) ∈ evW := evm 871 (by decide +kernel) rfl
set_option maxRecDepth 100000 in
theorem mw_872 : (Jvm.Cond.code ({ cls := "BlockCounterModel", name := "analyse", desc := "()I" } : Jvm.MethodName) prog_9_method_21_code (2 : Nat) (Option.some Jvm.ClassFile.FieldType.int)) ∈ evW := evm 872 rfl rfl
set_option maxRecDepth 100000 in
theorem mw_873 : (Jvm.Cond.methodLink "BlockCounterModel" (103 : Nat) ({ cls := "BlockCounterModel", name := "come", desc := "(IZ)V" } : Jvm.MethodName)) ∈ evW := evm 873 (by decide +kernel) rfl
set_option maxRecDepth 100000 in
theorem mw_875 : (Jvm.Cond.instanceMethod ({ cls := "BlockCounterModel", name := "come", desc := "(IZ)V" } : Jvm.MethodName)) ∈ evW := evm 875 (by decide +kernel) rfl
set_option maxRecDepth 100000 in
theorem mw_876 : (Jvm.Cond.code ({ cls := "BlockCounterModel", name := "come", desc := "(IZ)V" } : Jvm.MethodName) prog_9_method_15_code (3 : Nat) (Option.none : Option Jvm.ClassFile.FieldType)) ∈ evW := evm 876 rfl rfl
set_option maxRecDepth 100000 in
theorem mw_877 : (Jvm.Cond.methodLink "BlockCounterModel" (127 : Nat) ({ cls := "BlockCounterModel", name := "follow", desc := "(I)V" } : Jvm.MethodName)) ∈ evW := evm 877 (by decide +kernel) rfl
set_option maxRecDepth 100000 in
theorem mw_879 : (Jvm.Cond.instanceMethod ({ cls := "BlockCounterModel", name := "follow", desc := "(I)V" } : Jvm.MethodName)) ∈ evW := evm 879 (by decide +kernel) rfl
set_option maxRecDepth 100000 in
theorem mw_880 : (Jvm.Cond.code ({ cls := "BlockCounterModel", name := "follow", desc := "(I)V" } : Jvm.MethodName) prog_9_method_17_code (4 : Nat) (Option.none : Option Jvm.ClassFile.FieldType)) ∈ evW := evm 880 rfl rfl
set_option maxRecDepth 100000 in
theorem mw_881 : (Jvm.Cond.methodLink "BlockCounterModel" (97 : Nat) ({ cls := "BlockCounterModel", name := "sizeOf", desc := "(I)I" } : Jvm.MethodName)) ∈ evW := evm 881 (by decide +kernel) rfl
set_option maxRecDepth 100000 in
theorem mw_882 : (Jvm.Cond.static ({ cls := "BlockCounterModel", name := "sizeOf", desc := "(I)I" } : Jvm.MethodName)) ∈ evW := evm 882 (by decide +kernel) rfl
set_option maxRecDepth 100000 in
theorem mw_883 : (Jvm.Cond.code ({ cls := "BlockCounterModel", name := "sizeOf", desc := "(I)I" } : Jvm.MethodName) prog_9_method_8_code (1 : Nat) (Option.some Jvm.ClassFile.FieldType.int)) ∈ evW := evm 883 rfl rfl
set_option maxRecDepth 100000 in
theorem mw_884 : (Jvm.Cond.methodLink "BlockCounterModel" (84 : Nat) ({ cls := "BlockCounterModel", name := "branches", desc := "(I)Z" } : Jvm.MethodName)) ∈ evW := evm 884 (by decide +kernel) rfl
set_option maxRecDepth 100000 in
theorem mw_885 : (Jvm.Cond.static ({ cls := "BlockCounterModel", name := "branches", desc := "(I)Z" } : Jvm.MethodName)) ∈ evW := evm 885 (by decide +kernel) rfl
set_option maxRecDepth 100000 in
theorem mw_886 : (Jvm.Cond.code ({ cls := "BlockCounterModel", name := "branches", desc := "(I)Z" } : Jvm.MethodName) prog_9_method_9_code (1 : Nat) (Option.some Jvm.ClassFile.FieldType.boolean)) ∈ evW := evm 886 rfl rfl
set_option maxRecDepth 100000 in
theorem mw_887 : (Jvm.Cond.methodLink "BlockCounterModel" (100 : Nat) ({ cls := "BlockCounterModel", name := "target", desc := "(I)I" } : Jvm.MethodName)) ∈ evW := evm 887 (by decide +kernel) rfl
set_option maxRecDepth 100000 in
theorem mw_889 : (Jvm.Cond.instanceMethod ({ cls := "BlockCounterModel", name := "target", desc := "(I)I" } : Jvm.MethodName)) ∈ evW := evm 889 (by decide +kernel) rfl
set_option maxRecDepth 100000 in
theorem mw_890 : (Jvm.Cond.code ({ cls := "BlockCounterModel", name := "target", desc := "(I)I" } : Jvm.MethodName) prog_9_method_14_code (3 : Nat) (Option.some Jvm.ClassFile.FieldType.int)) ∈ evW := evm 890 rfl rfl
set_option maxRecDepth 100000 in
theorem mw_891 : (Jvm.Cond.methodLink "BlockCounterModel" (88 : Nat) ({ cls := "BlockCounterModel", name := "isSwitch", desc := "(I)Z" } : Jvm.MethodName)) ∈ evW := evm 891 (by decide +kernel) rfl
set_option maxRecDepth 100000 in
theorem mw_892 : (Jvm.Cond.static ({ cls := "BlockCounterModel", name := "isSwitch", desc := "(I)Z" } : Jvm.MethodName)) ∈ evW := evm 892 (by decide +kernel) rfl
set_option maxRecDepth 100000 in
theorem mw_893 : (Jvm.Cond.code ({ cls := "BlockCounterModel", name := "isSwitch", desc := "(I)Z" } : Jvm.MethodName) prog_9_method_11_code (1 : Nat) (Option.some Jvm.ClassFile.FieldType.boolean)) ∈ evW := evm 893 rfl rfl
set_option maxRecDepth 100000 in
theorem mw_894 : (Jvm.Cond.methodLink "BlockCounterModel" (107 : Nat) ({ cls := "BlockCounterModel", name := "followTable", desc := "(II)V" } : Jvm.MethodName)) ∈ evW := evm 894 (by decide +kernel) rfl
set_option maxRecDepth 100000 in
theorem mw_896 : (Jvm.Cond.instanceMethod ({ cls := "BlockCounterModel", name := "followTable", desc := "(II)V" } : Jvm.MethodName)) ∈ evW := evm 896 (by decide +kernel) rfl
set_option maxRecDepth 100000 in
theorem mw_897 : (Jvm.Cond.code ({ cls := "BlockCounterModel", name := "followTable", desc := "(II)V" } : Jvm.MethodName) prog_9_method_18_code (4 : Nat) (Option.none : Option Jvm.ClassFile.FieldType)) ∈ evW := evm 897 rfl rfl
set_option maxRecDepth 100000 in
theorem mw_898 : (Jvm.Cond.methodLink "BlockCounterModel" (117 : Nat) ({ cls := "BlockCounterModel", name := "isDeclared", desc := "(II)Z" } : Jvm.MethodName)) ∈ evW := evm 898 (by decide +kernel) rfl
set_option maxRecDepth 100000 in
theorem mw_900 : (Jvm.Cond.instanceMethod ({ cls := "BlockCounterModel", name := "isDeclared", desc := "(II)Z" } : Jvm.MethodName)) ∈ evW := evm 900 (by decide +kernel) rfl
set_option maxRecDepth 100000 in
theorem mw_901 : (Jvm.Cond.code ({ cls := "BlockCounterModel", name := "isDeclared", desc := "(II)Z" } : Jvm.MethodName) prog_9_method_16_code (5 : Nat) (Option.some Jvm.ClassFile.FieldType.boolean)) ∈ evW := evm 901 rfl rfl
set_option maxRecDepth 100000 in
theorem mw_902 : (Jvm.Cond.methodLink "BlockCounterModel" (111 : Nat) ({ cls := "BlockCounterModel", name := "goesOn", desc := "(I)Z" } : Jvm.MethodName)) ∈ evW := evm 902 (by decide +kernel) rfl
set_option maxRecDepth 100000 in
theorem mw_903 : (Jvm.Cond.static ({ cls := "BlockCounterModel", name := "goesOn", desc := "(I)Z" } : Jvm.MethodName)) ∈ evW := evm 903 (by decide +kernel) rfl
set_option maxRecDepth 100000 in
theorem mw_904 : (Jvm.Cond.code ({ cls := "BlockCounterModel", name := "goesOn", desc := "(I)Z" } : Jvm.MethodName) prog_9_method_13_code (1 : Nat) (Option.some Jvm.ClassFile.FieldType.boolean)) ∈ evW := evm 904 rfl rfl
set_option maxRecDepth 100000 in
theorem mw_905 : (Jvm.Cond.methodLink "BlockCounterModel" (114 : Nat) ({ cls := "BlockCounterModel", name := "isConditional", desc := "(I)Z" } : Jvm.MethodName)) ∈ evW := evm 905 (by decide +kernel) rfl
set_option maxRecDepth 100000 in
theorem mw_906 : (Jvm.Cond.static ({ cls := "BlockCounterModel", name := "isConditional", desc := "(I)Z" } : Jvm.MethodName)) ∈ evW := evm 906 (by decide +kernel) rfl
set_option maxRecDepth 100000 in
theorem mw_907 : (Jvm.Cond.code ({ cls := "BlockCounterModel", name := "isConditional", desc := "(I)Z" } : Jvm.MethodName) prog_9_method_10_code (1 : Nat) (Option.some Jvm.ClassFile.FieldType.boolean)) ∈ evW := evm 907 rfl rfl
set_option maxRecDepth 100000 in
theorem mw_908 : (Jvm.Cond.methodLink "BlockCounterModel" (131 : Nat) ({ cls := "BlockCounterModel", name := "occupy", desc := "()V" } : Jvm.MethodName)) ∈ evW := evm 908 (by decide +kernel) rfl
set_option maxRecDepth 100000 in
theorem mw_910 : (Jvm.Cond.instanceMethod ({ cls := "BlockCounterModel", name := "occupy", desc := "()V" } : Jvm.MethodName)) ∈ evW := evm 910 (by decide +kernel) rfl
set_option maxRecDepth 100000 in
theorem mw_911 : (Jvm.Cond.code ({ cls := "BlockCounterModel", name := "occupy", desc := "()V" } : Jvm.MethodName) prog_9_method_19_code (3 : Nat) (Option.none : Option Jvm.ClassFile.FieldType)) ∈ evW := evm 911 rfl rfl
set_option maxRecDepth 100000 in
theorem mw_912 : (Jvm.Cond.methodLink "BlockCounterModel" (134 : Nat) ({ cls := "BlockCounterModel", name := "cut", desc := "()V" } : Jvm.MethodName)) ∈ evW := evm 912 (by decide +kernel) rfl
set_option maxRecDepth 100000 in
theorem mw_914 : (Jvm.Cond.instanceMethod ({ cls := "BlockCounterModel", name := "cut", desc := "()V" } : Jvm.MethodName)) ∈ evW := evm 914 (by decide +kernel) rfl
set_option maxRecDepth 100000 in
theorem mw_915 : (Jvm.Cond.code ({ cls := "BlockCounterModel", name := "cut", desc := "()V" } : Jvm.MethodName) prog_9_method_20_code (5 : Nat) (Option.none : Option Jvm.ClassFile.FieldType)) ∈ evW := evm 915 rfl rfl
set_option maxRecDepth 100000 in
theorem mw_916 : (Jvm.Cond.methodLink "BlockCounterModel" (124 : Nat) ({ cls := "BlockCounterModel", name := "ends", desc := "(I)Z" } : Jvm.MethodName)) ∈ evW := evm 916 (by decide +kernel) rfl
set_option maxRecDepth 100000 in
theorem mw_917 : (Jvm.Cond.static ({ cls := "BlockCounterModel", name := "ends", desc := "(I)Z" } : Jvm.MethodName)) ∈ evW := evm 917 (by decide +kernel) rfl
set_option maxRecDepth 100000 in
theorem mw_918 : (Jvm.Cond.code ({ cls := "BlockCounterModel", name := "ends", desc := "(I)Z" } : Jvm.MethodName) prog_9_method_12_code (1 : Nat) (Option.some Jvm.ClassFile.FieldType.boolean)) ∈ evW := evm 918 rfl rfl
set_option maxRecDepth 100000 in
theorem mw_919 : (Jvm.Cond.methodLink "BlockCounterLaw" (86 : Nat) ({ cls := "BlockCounterModel", name := "block", desc := "(II)I" } : Jvm.MethodName)) ∈ evW := evm 919 (by decide +kernel) rfl
set_option maxRecDepth 100000 in
theorem mw_920 : (Jvm.Cond.instanceMethod ({ cls := "BlockCounterModel", name := "block", desc := "(II)I" } : Jvm.MethodName)) ∈ evW := evm 920 (by decide +kernel) rfl
set_option maxRecDepth 100000 in
theorem mw_921 : (Jvm.Cond.selects "BlockCounterModel" ({ cls := "BlockCounterModel", name := "block", desc := "(II)I" } : Jvm.MethodName) ({ cls := "BlockCounterModel", name := "block", desc := "(II)I" } : Jvm.MethodName)) ∈ evW := evm 921 (by decide +kernel) rfl
set_option maxRecDepth 100000 in
theorem mw_922 : (Jvm.Cond.code ({ cls := "BlockCounterModel", name := "block", desc := "(II)I" } : Jvm.MethodName) prog_9_method_22_code (3 : Nat) (Option.some Jvm.ClassFile.FieldType.int)) ∈ evW := evm 922 rfl rfl
set_option maxRecDepth 100000 in
theorem mw_923 : (Jvm.Cond.methodLink "BlockCounterLaw" (90 : Nat) ({ cls := "BlockCounterModel", name := "blockAt", desc := "(I)I" } : Jvm.MethodName)) ∈ evW := evm 923 (by decide +kernel) rfl
set_option maxRecDepth 100000 in
theorem mw_924 : (Jvm.Cond.instanceMethod ({ cls := "BlockCounterModel", name := "blockAt", desc := "(I)I" } : Jvm.MethodName)) ∈ evW := evm 924 (by decide +kernel) rfl
set_option maxRecDepth 100000 in
theorem mw_925 : (Jvm.Cond.selects "BlockCounterModel" ({ cls := "BlockCounterModel", name := "blockAt", desc := "(I)I" } : Jvm.MethodName) ({ cls := "BlockCounterModel", name := "blockAt", desc := "(I)I" } : Jvm.MethodName)) ∈ evW := evm 925 (by decide +kernel) rfl
set_option maxRecDepth 100000 in
theorem mw_926 : (Jvm.Cond.code ({ cls := "BlockCounterModel", name := "blockAt", desc := "(I)I" } : Jvm.MethodName) prog_9_method_23_code (4 : Nat) (Option.some Jvm.ClassFile.FieldType.int)) ∈ evW := evm 926 rfl rfl
set_option maxRecDepth 100000 in
theorem mw_927 : (Jvm.Cond.methodLink "BlockCounterLaw" (93 : Nat) ({ cls := "BlockCounterModel", name := "rewrite", desc := "()I" } : Jvm.MethodName)) ∈ evW := evm 927 (by decide +kernel) rfl
set_option maxRecDepth 100000 in
theorem mw_928 : (Jvm.Cond.instanceMethod ({ cls := "BlockCounterModel", name := "rewrite", desc := "()I" } : Jvm.MethodName)) ∈ evW := evm 928 (by decide +kernel) rfl
set_option maxRecDepth 100000 in
theorem mw_929 : (Jvm.Cond.selects "BlockCounterModel" ({ cls := "BlockCounterModel", name := "rewrite", desc := "()I" } : Jvm.MethodName) ({ cls := "BlockCounterModel", name := "rewrite", desc := "()I" } : Jvm.MethodName)) ∈ evW := evm 929 (by decide +kernel) rfl
set_option maxRecDepth 100000 in
theorem mw_930 : (Jvm.Cond.code ({ cls := "BlockCounterModel", name := "rewrite", desc := "()I" } : Jvm.MethodName) prog_9_method_28_code (2 : Nat) (Option.some Jvm.ClassFile.FieldType.int)) ∈ evW := evm 930 rfl rfl
set_option maxRecDepth 100000 in
theorem mw_931 : (Jvm.Cond.methodLink "BlockCounterModel" (149 : Nat) ({ cls := "BlockCounterModel", name := "renewBlock", desc := "(I)V" } : Jvm.MethodName)) ∈ evW := evm 931 (by decide +kernel) rfl
set_option maxRecDepth 100000 in
theorem mw_933 : (Jvm.Cond.instanceMethod ({ cls := "BlockCounterModel", name := "renewBlock", desc := "(I)V" } : Jvm.MethodName)) ∈ evW := evm 933 (by decide +kernel) rfl
set_option maxRecDepth 100000 in
theorem mw_934 : (Jvm.Cond.code ({ cls := "BlockCounterModel", name := "renewBlock", desc := "(I)V" } : Jvm.MethodName) prog_9_method_27_code (6 : Nat) (Option.none : Option Jvm.ClassFile.FieldType)) ∈ evW := evm 934 rfl rfl
set_option maxRecDepth 100000 in
theorem mw_935 : (Jvm.Cond.methodLink "BlockCounterModel" (140 : Nat) ({ cls := "BlockCounterModel", name := "emit", desc := "(I)V" } : Jvm.MethodName)) ∈ evW := evm 935 (by decide +kernel) rfl
set_option maxRecDepth 100000 in
theorem mw_937 : (Jvm.Cond.instanceMethod ({ cls := "BlockCounterModel", name := "emit", desc := "(I)V" } : Jvm.MethodName)) ∈ evW := evm 937 (by decide +kernel) rfl
set_option maxRecDepth 100000 in
theorem mw_938 : (Jvm.Cond.code ({ cls := "BlockCounterModel", name := "emit", desc := "(I)V" } : Jvm.MethodName) prog_9_method_24_code (2 : Nat) (Option.none : Option Jvm.ClassFile.FieldType)) ∈ evW := evm 938 rfl rfl
set_option maxRecDepth 100000 in
theorem mw_939 : (Jvm.Cond.methodLink "BlockCounterModel" (146 : Nat) ({ cls := "BlockCounterModel", name := "renew", desc := "(I)V" } : Jvm.MethodName)) ∈ evW := evm 939 (by decide +kernel) rfl
set_option maxRecDepth 100000 in
theorem mw_941 : (Jvm.Cond.instanceMethod ({ cls := "BlockCounterModel", name := "renew", desc := "(I)V" } : Jvm.MethodName)) ∈ evW := evm 941 (by decide +kernel) rfl
set_option maxRecDepth 100000 in
theorem mw_942 : (Jvm.Cond.code ({ cls := "BlockCounterModel", name := "renew", desc := "(I)V" } : Jvm.MethodName) prog_9_method_26_code (5 : Nat) (Option.none : Option Jvm.ClassFile.FieldType)) ∈ evW := evm 942 rfl rfl
set_option maxRecDepth 100000 in
theorem mw_943 : (Jvm.Cond.methodLink "BlockCounterModel" (143 : Nat) ({ cls := "BlockCounterModel", name := "jumpTo", desc := "(I)V" } : Jvm.MethodName)) ∈ evW := evm 943 (by decide +kernel) rfl
set_option maxRecDepth 100000 in
theorem mw_945 : (Jvm.Cond.instanceMethod ({ cls := "BlockCounterModel", name := "jumpTo", desc := "(I)V" } : Jvm.MethodName)) ∈ evW := evm 945 (by decide +kernel) rfl
set_option maxRecDepth 100000 in
theorem mw_946 : (Jvm.Cond.code ({ cls := "BlockCounterModel", name := "jumpTo", desc := "(I)V" } : Jvm.MethodName) prog_9_method_25_code (2 : Nat) (Option.none : Option Jvm.ClassFile.FieldType)) ∈ evW := evm 946 rfl rfl
set_option maxRecDepth 100000 in
theorem mw_947 : (Jvm.Cond.methodLink "BlockCounterLaw" (97 : Nat) ({ cls := "BlockCounterModel", name := "code", desc := "(IZ)I" } : Jvm.MethodName)) ∈ evW := evm 947 (by decide +kernel) rfl
set_option maxRecDepth 100000 in
theorem mw_948 : (Jvm.Cond.instanceMethod ({ cls := "BlockCounterModel", name := "code", desc := "(IZ)I" } : Jvm.MethodName)) ∈ evW := evm 948 (by decide +kernel) rfl
set_option maxRecDepth 100000 in
theorem mw_949 : (Jvm.Cond.selects "BlockCounterModel" ({ cls := "BlockCounterModel", name := "code", desc := "(IZ)I" } : Jvm.MethodName) ({ cls := "BlockCounterModel", name := "code", desc := "(IZ)I" } : Jvm.MethodName)) ∈ evW := evm 949 (by decide +kernel) rfl
set_option maxRecDepth 100000 in
theorem mw_950 : (Jvm.Cond.code ({ cls := "BlockCounterModel", name := "code", desc := "(IZ)I" } : Jvm.MethodName) prog_9_method_29_code (3 : Nat) (Option.some Jvm.ClassFile.FieldType.int)) ∈ evW := evm 950 rfl rfl
set_option maxRecDepth 100000 in
theorem mw_951 : (Jvm.Cond.methodLink "BlockCounterLaw" (101 : Nat) ({ cls := "BlockCounterModel", name := "run", desc := "(ZI)I" } : Jvm.MethodName)) ∈ evW := evm 951 (by decide +kernel) rfl
set_option maxRecDepth 100000 in
theorem mw_952 : (Jvm.Cond.instanceMethod ({ cls := "BlockCounterModel", name := "run", desc := "(ZI)I" } : Jvm.MethodName)) ∈ evW := evm 952 (by decide +kernel) rfl
set_option maxRecDepth 100000 in
theorem mw_953 : (Jvm.Cond.selects "BlockCounterModel" ({ cls := "BlockCounterModel", name := "run", desc := "(ZI)I" } : Jvm.MethodName) ({ cls := "BlockCounterModel", name := "run", desc := "(ZI)I" } : Jvm.MethodName)) ∈ evW := evm 953 (by decide +kernel) rfl
set_option maxRecDepth 100000 in
theorem mw_954 : (Jvm.Cond.code ({ cls := "BlockCounterModel", name := "run", desc := "(ZI)I" } : Jvm.MethodName) prog_9_method_39_code (4 : Nat) (Option.some Jvm.ClassFile.FieldType.int)) ∈ evW := evm 954 rfl rfl
set_option maxRecDepth 100000 in
theorem mw_955 : (Jvm.Cond.methodLink "BlockCounterModel" (191 : Nat) ({ cls := "BlockCounterModel", name := "begin", desc := "()V" } : Jvm.MethodName)) ∈ evW := evm 955 (by decide +kernel) rfl
set_option maxRecDepth 100000 in
theorem mw_957 : (Jvm.Cond.instanceMethod ({ cls := "BlockCounterModel", name := "begin", desc := "()V" } : Jvm.MethodName)) ∈ evW := evm 957 (by decide +kernel) rfl
set_option maxRecDepth 100000 in
theorem mw_958 : (Jvm.Cond.code ({ cls := "BlockCounterModel", name := "begin", desc := "()V" } : Jvm.MethodName) prog_9_method_38_code (2 : Nat) (Option.none : Option Jvm.ClassFile.FieldType)) ∈ evW := evm 958 rfl rfl
set_option maxRecDepth 100000 in
theorem mw_959 : (Jvm.Cond.methodLink "BlockCounterModel" (194 : Nat) ({ cls := "BlockCounterModel", name := "blockAt", desc := "(I)I" } : Jvm.MethodName)) ∈ evW := evm 959 (by decide +kernel) rfl
set_option maxRecDepth 100000 in
theorem mw_960 : (Jvm.Cond.methodLink "BlockCounterModel" (197 : Nat) ({ cls := "BlockCounterModel", name := "step", desc := "(I)Z" } : Jvm.MethodName)) ∈ evW := evm 960 (by decide +kernel) rfl
set_option maxRecDepth 100000 in
theorem mw_962 : (Jvm.Cond.instanceMethod ({ cls := "BlockCounterModel", name := "step", desc := "(I)Z" } : Jvm.MethodName)) ∈ evW := evm 962 (by decide +kernel) rfl
set_option maxRecDepth 100000 in
theorem mw_963 : (Jvm.Cond.code ({ cls := "BlockCounterModel", name := "step", desc := "(I)Z" } : Jvm.MethodName) prog_9_method_37_code (6 : Nat) (Option.some Jvm.ClassFile.FieldType.boolean)) ∈ evW := evm 963 rfl rfl
set_option maxRecDepth 100000 in
theorem mw_964 : (Jvm.Cond.methodLink "BlockCounterModel" (158 : Nat) ({ cls := "BlockCounterModel", name := "at", desc := "(II)I" } : Jvm.MethodName)) ∈ evW := evm 964 (by decide +kernel) rfl
set_option maxRecDepth 100000 in
theorem mw_966 : (Jvm.Cond.instanceMethod ({ cls := "BlockCounterModel", name := "at", desc := "(II)I" } : Jvm.MethodName)) ∈ evW := evm 966 (by decide +kernel) rfl
set_option maxRecDepth 100000 in
theorem mw_967 : (Jvm.Cond.code ({ cls := "BlockCounterModel", name := "at", desc := "(II)I" } : Jvm.MethodName) prog_9_method_30_code (3 : Nat) (Option.some Jvm.ClassFile.FieldType.int)) ∈ evW := evm 967 rfl rfl
set_option maxRecDepth 100000 in
theorem mw_968 : (Jvm.Cond.methodLink "BlockCounterModel" (165 : Nat) ({ cls := "BlockCounterModel", name := "fault", desc := "()Z" } : Jvm.MethodName)) ∈ evW := evm 968 (by decide +kernel) rfl
set_option maxRecDepth 100000 in
theorem mw_970 : (Jvm.Cond.instanceMethod ({ cls := "BlockCounterModel", name := "fault", desc := "()Z" } : Jvm.MethodName)) ∈ evW := evm 970 (by decide +kernel) rfl
set_option maxRecDepth 100000 in
theorem mw_971 : (Jvm.Cond.code ({ cls := "BlockCounterModel", name := "fault", desc := "()Z" } : Jvm.MethodName) prog_9_method_31_code (1 : Nat) (Option.some Jvm.ClassFile.FieldType.boolean)) ∈ evW := evm 971 rfl rfl
set_option maxRecDepth 100000 in
theorem mw_972 : (Jvm.Cond.methodLink "BlockCounterModel" (175 : Nat) ({ cls := "BlockCounterModel", name := "doOne", desc := "(II)Z" } : Jvm.MethodName)) ∈ evW := evm 972 (by decide +kernel) rfl
set_option maxRecDepth 100000 in
theorem mw_974 : (Jvm.Cond.instanceMethod ({ cls := "BlockCounterModel", name := "doOne", desc := "(II)Z" } : Jvm.MethodName)) ∈ evW := evm 974 (by decide +kernel) rfl
set_option maxRecDepth 100000 in
theorem mw_975 : (Jvm.Cond.code ({ cls := "BlockCounterModel", name := "doOne", desc := "(II)Z" } : Jvm.MethodName) prog_9_method_36_code (5 : Nat) (Option.some Jvm.ClassFile.FieldType.boolean)) ∈ evW := evm 975 rfl rfl
set_option maxRecDepth 100000 in
theorem mw_976 : (Jvm.Cond.methodLink "BlockCounterModel" (162 : Nat) ({ cls := "BlockCounterModel", name := "go", desc := "(I)Z" } : Jvm.MethodName)) ∈ evW := evm 976 (by decide +kernel) rfl
set_option maxRecDepth 100000 in
theorem mw_978 : (Jvm.Cond.instanceMethod ({ cls := "BlockCounterModel", name := "go", desc := "(I)Z" } : Jvm.MethodName)) ∈ evW := evm 978 (by decide +kernel) rfl
set_option maxRecDepth 100000 in
theorem mw_979 : (Jvm.Cond.code ({ cls := "BlockCounterModel", name := "go", desc := "(I)Z" } : Jvm.MethodName) prog_9_method_32_code (2 : Nat) (Option.some Jvm.ClassFile.FieldType.boolean)) ∈ evW := evm 979 rfl rfl
set_option maxRecDepth 100000 in
theorem mw_980 : (Jvm.Cond.methodLink "BlockCounterModel" (178 : Nat) ({ cls := "BlockCounterModel", name := "branch", desc := "(IZ)Z" } : Jvm.MethodName)) ∈ evW := evm 980 (by decide +kernel) rfl
set_option maxRecDepth 100000 in
theorem mw_982 : (Jvm.Cond.instanceMethod ({ cls := "BlockCounterModel", name := "branch", desc := "(IZ)Z" } : Jvm.MethodName)) ∈ evW := evm 982 (by decide +kernel) rfl
set_option maxRecDepth 100000 in
theorem mw_983 : (Jvm.Cond.code ({ cls := "BlockCounterModel", name := "branch", desc := "(IZ)Z" } : Jvm.MethodName) prog_9_method_33_code (4 : Nat) (Option.some Jvm.ClassFile.FieldType.boolean)) ∈ evW := evm 983 rfl rfl
set_option maxRecDepth 100000 in
theorem mw_984 : (Jvm.Cond.methodLink "BlockCounterModel" (182 : Nat) ({ cls := "BlockCounterModel", name := "push", desc := "(II)Z" } : Jvm.MethodName)) ∈ evW := evm 984 (by decide +kernel) rfl
set_option maxRecDepth 100000 in
theorem mw_986 : (Jvm.Cond.instanceMethod ({ cls := "BlockCounterModel", name := "push", desc := "(II)Z" } : Jvm.MethodName)) ∈ evW := evm 986 (by decide +kernel) rfl
set_option maxRecDepth 100000 in
theorem mw_987 : (Jvm.Cond.code ({ cls := "BlockCounterModel", name := "push", desc := "(II)Z" } : Jvm.MethodName) prog_9_method_34_code (3 : Nat) (Option.some Jvm.ClassFile.FieldType.boolean)) ∈ evW := evm 987 rfl rfl
set_option maxRecDepth 100000 in
theorem mw_988 : (Jvm.Cond.methodLink "BlockCounterModel" (185 : Nat) ({ cls := "BlockCounterModel", name := "select", desc := "(II)Z" } : Jvm.MethodName)) ∈ evW := evm 988 (by decide +kernel) rfl
set_option maxRecDepth 100000 in
theorem mw_990 : (Jvm.Cond.instanceMethod ({ cls := "BlockCounterModel", name := "select", desc := "(II)Z" } : Jvm.MethodName)) ∈ evW := evm 990 (by decide +kernel) rfl
set_option maxRecDepth 100000 in
theorem mw_991 : (Jvm.Cond.code ({ cls := "BlockCounterModel", name := "select", desc := "(II)Z" } : Jvm.MethodName) prog_9_method_35_code (6 : Nat) (Option.some Jvm.ClassFile.FieldType.boolean)) ∈ evW := evm 991 rfl rfl
set_option maxRecDepth 100000 in
theorem mw_992 : (Jvm.Cond.methodLink "BlockCounterLaw" (105 : Nat) ({ cls := "BlockCounterModel", name := "steps", desc := "()I" } : Jvm.MethodName)) ∈ evW := evm 992 (by decide +kernel) rfl
set_option maxRecDepth 100000 in
theorem mw_993 : (Jvm.Cond.instanceMethod ({ cls := "BlockCounterModel", name := "steps", desc := "()I" } : Jvm.MethodName)) ∈ evW := evm 993 (by decide +kernel) rfl
set_option maxRecDepth 100000 in
theorem mw_994 : (Jvm.Cond.selects "BlockCounterModel" ({ cls := "BlockCounterModel", name := "steps", desc := "()I" } : Jvm.MethodName) ({ cls := "BlockCounterModel", name := "steps", desc := "()I" } : Jvm.MethodName)) ∈ evW := evm 994 (by decide +kernel) rfl
set_option maxRecDepth 100000 in
theorem mw_995 : (Jvm.Cond.code ({ cls := "BlockCounterModel", name := "steps", desc := "()I" } : Jvm.MethodName) prog_9_method_40_code (1 : Nat) (Option.some Jvm.ClassFile.FieldType.int)) ∈ evW := evm 995 rfl rfl
set_option maxRecDepth 100000 in
theorem mw_996 : (Jvm.Cond.methodLink "BlockCounterLaw" (109 : Nat) ({ cls := "BlockCounterModel", name := "register", desc := "(I)I" } : Jvm.MethodName)) ∈ evW := evm 996 (by decide +kernel) rfl
set_option maxRecDepth 100000 in
theorem mw_997 : (Jvm.Cond.instanceMethod ({ cls := "BlockCounterModel", name := "register", desc := "(I)I" } : Jvm.MethodName)) ∈ evW := evm 997 (by decide +kernel) rfl
set_option maxRecDepth 100000 in
theorem mw_998 : (Jvm.Cond.selects "BlockCounterModel" ({ cls := "BlockCounterModel", name := "register", desc := "(I)I" } : Jvm.MethodName) ({ cls := "BlockCounterModel", name := "register", desc := "(I)I" } : Jvm.MethodName)) ∈ evW := evm 998 (by decide +kernel) rfl
set_option maxRecDepth 100000 in
theorem mw_999 : (Jvm.Cond.code ({ cls := "BlockCounterModel", name := "register", desc := "(I)I" } : Jvm.MethodName) prog_9_method_41_code (2 : Nat) (Option.some Jvm.ClassFile.FieldType.int)) ∈ evW := evm 999 rfl rfl
set_option maxRecDepth 100000 in
theorem mw_1000 : (Jvm.Cond.methodLink "BlockCounterLaw" (112 : Nat) ({ cls := "BlockCounterModel", name := "cell", desc := "(I)I" } : Jvm.MethodName)) ∈ evW := evm 1000 (by decide +kernel) rfl
set_option maxRecDepth 100000 in
theorem mw_1001 : (Jvm.Cond.instanceMethod ({ cls := "BlockCounterModel", name := "cell", desc := "(I)I" } : Jvm.MethodName)) ∈ evW := evm 1001 (by decide +kernel) rfl
set_option maxRecDepth 100000 in
theorem mw_1002 : (Jvm.Cond.selects "BlockCounterModel" ({ cls := "BlockCounterModel", name := "cell", desc := "(I)I" } : Jvm.MethodName) ({ cls := "BlockCounterModel", name := "cell", desc := "(I)I" } : Jvm.MethodName)) ∈ evW := evm 1002 (by decide +kernel) rfl
set_option maxRecDepth 100000 in
theorem mw_1003 : (Jvm.Cond.code ({ cls := "BlockCounterModel", name := "cell", desc := "(I)I" } : Jvm.MethodName) prog_9_method_42_code (2 : Nat) (Option.some Jvm.ClassFile.FieldType.int)) ∈ evW := evm 1003 rfl rfl
set_option maxRecDepth 100000 in
theorem mw_1004 : (Jvm.Cond.methodLink "BlockCounterLaw" (115 : Nat) ({ cls := "BlockCounterModel", name := "output", desc := "(I)I" } : Jvm.MethodName)) ∈ evW := evm 1004 (by decide +kernel) rfl
set_option maxRecDepth 100000 in
theorem mw_1005 : (Jvm.Cond.instanceMethod ({ cls := "BlockCounterModel", name := "output", desc := "(I)I" } : Jvm.MethodName)) ∈ evW := evm 1005 (by decide +kernel) rfl
set_option maxRecDepth 100000 in
theorem mw_1006 : (Jvm.Cond.selects "BlockCounterModel" ({ cls := "BlockCounterModel", name := "output", desc := "(I)I" } : Jvm.MethodName) ({ cls := "BlockCounterModel", name := "output", desc := "(I)I" } : Jvm.MethodName)) ∈ evW := evm 1006 (by decide +kernel) rfl
set_option maxRecDepth 100000 in
theorem mw_1007 : (Jvm.Cond.code ({ cls := "BlockCounterModel", name := "output", desc := "(I)I" } : Jvm.MethodName) prog_9_method_43_code (2 : Nat) (Option.some Jvm.ClassFile.FieldType.int)) ∈ evW := evm 1007 rfl rfl
set_option maxRecDepth 100000 in
theorem mw_1008 : (Jvm.Cond.methodLink "BlockCounterLaw" (118 : Nat) ({ cls := "BlockCounterModel", name := "counter", desc := "(I)J" } : Jvm.MethodName)) ∈ evW := evm 1008 (by decide +kernel) rfl
set_option maxRecDepth 100000 in
theorem mw_1009 : (Jvm.Cond.instanceMethod ({ cls := "BlockCounterModel", name := "counter", desc := "(I)J" } : Jvm.MethodName)) ∈ evW := evm 1009 (by decide +kernel) rfl
set_option maxRecDepth 100000 in
theorem mw_1010 : (Jvm.Cond.selects "BlockCounterModel" ({ cls := "BlockCounterModel", name := "counter", desc := "(I)J" } : Jvm.MethodName) ({ cls := "BlockCounterModel", name := "counter", desc := "(I)J" } : Jvm.MethodName)) ∈ evW := evm 1010 (by decide +kernel) rfl
set_option maxRecDepth 100000 in
theorem mw_1011 : (Jvm.Cond.code ({ cls := "BlockCounterModel", name := "counter", desc := "(I)J" } : Jvm.MethodName) prog_9_method_44_code (2 : Nat) (Option.some Jvm.ClassFile.FieldType.long)) ∈ evW := evm 1011 rfl rfl
