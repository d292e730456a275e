section
-- ===== PART A: goes FIRST, ahead of the names: the tables' words, and 'selects' of the private methods out of them =====
/-- a private method of a class that the tables say can be made, by its rows of tables_1 -/
def lw_okq (q : MethodName × Nat) : Prop := (q.1.cls ≠ "java/lang/invoke/MethodHandle" ∧ q.1.cls ≠ "java/lang/invoke/VarHandle") ∧ Cond.instantiable q.1.cls q.2 ∈ tables_1 ∧ Cond.privateMethod q.1 ∈ tables_1 ∧ Cond.instanceMethod q.1 ∈ tables_1
theorem lw_p0 : lw_okq (⟨"java/lang/Throwable", "fillInStackTrace", "(I)Ljava/lang/Throwable;"⟩, 6) := ⟨⟨by decide +kernel, by decide +kernel⟩, List.mem_of_getElem? (i := 280) (by decide +kernel), List.mem_of_getElem? (i := 278) (by decide +kernel), List.mem_of_getElem? (i := 279) (by decide +kernel)⟩
theorem lw_p1 : lw_okq (⟨"BlockCounter", "forgetFindings", "()V"⟩, 6) := ⟨⟨by decide +kernel, by decide +kernel⟩, List.mem_of_getElem? (i := 20) (by decide +kernel), List.mem_of_getElem? (i := 314) (by decide +kernel), List.mem_of_getElem? (i := 315) (by decide +kernel)⟩
theorem lw_p2 : lw_okq (⟨"BlockCounter$Analysis", "clear", "()V"⟩, 11) := ⟨⟨by decide +kernel, by decide +kernel⟩, List.mem_of_getElem? (i := 58) (by decide +kernel), List.mem_of_getElem? (i := 400) (by decide +kernel), List.mem_of_getElem? (i := 401) (by decide +kernel)⟩
theorem lw_p3 : lw_okq (⟨"BlockCounter$Analysis", "comeToHead", "(I)Z"⟩, 11) := ⟨⟨by decide +kernel, by decide +kernel⟩, List.mem_of_getElem? (i := 58) (by decide +kernel), List.mem_of_getElem? (i := 407) (by decide +kernel), List.mem_of_getElem? (i := 408) (by decide +kernel)⟩
theorem lw_p4 : lw_okq (⟨"BlockCounter$Analysis", "comeTo", "(I)Z"⟩, 11) := ⟨⟨by decide +kernel, by decide +kernel⟩, List.mem_of_getElem? (i := 58) (by decide +kernel), List.mem_of_getElem? (i := 411) (by decide +kernel), List.mem_of_getElem? (i := 412) (by decide +kernel)⟩
theorem lw_p5 : lw_okq (⟨"BlockCounter$Analysis", "follow", "(LBlockCounter$Program;LBlockCounter$Tables;I)Z"⟩, 11) := ⟨⟨by decide +kernel, by decide +kernel⟩, List.mem_of_getElem? (i := 58) (by decide +kernel), List.mem_of_getElem? (i := 415) (by decide +kernel), List.mem_of_getElem? (i := 416) (by decide +kernel)⟩
theorem lw_p6 : lw_okq (⟨"BlockCounter$Analysis", "followTable", "(LBlockCounter$Program;II)Z"⟩, 11) := ⟨⟨by decide +kernel, by decide +kernel⟩, List.mem_of_getElem? (i := 58) (by decide +kernel), List.mem_of_getElem? (i := 451) (by decide +kernel), List.mem_of_getElem? (i := 452) (by decide +kernel)⟩
theorem lw_p7 : lw_okq (⟨"BlockCounter$Analysis", "isWithoutOverlap", "(LBlockCounter$Program;)Z"⟩, 11) := ⟨⟨by decide +kernel, by decide +kernel⟩, List.mem_of_getElem? (i := 58) (by decide +kernel), List.mem_of_getElem? (i := 456) (by decide +kernel), List.mem_of_getElem? (i := 457) (by decide +kernel)⟩
theorem lw_p8 : lw_okq (⟨"BlockCounter$Analysis", "findBlocks", "(LBlockCounter$Program;)V"⟩, 11) := ⟨⟨by decide +kernel, by decide +kernel⟩, List.mem_of_getElem? (i := 58) (by decide +kernel), List.mem_of_getElem? (i := 460) (by decide +kernel), List.mem_of_getElem? (i := 461) (by decide +kernel)⟩
theorem lw_p9 : lw_okq (⟨"BlockCounter$Analysis", "addBlock", "(LBlockCounter$Program;I)V"⟩, 11) := ⟨⟨by decide +kernel, by decide +kernel⟩, List.mem_of_getElem? (i := 58) (by decide +kernel), List.mem_of_getElem? (i := 464) (by decide +kernel), List.mem_of_getElem? (i := 465) (by decide +kernel)⟩
theorem lw_p10 : lw_okq (⟨"BlockCounter$Rewriting", "append", "(I)V"⟩, 4) := ⟨⟨by decide +kernel, by decide +kernel⟩, List.mem_of_getElem? (i := 131) (by decide +kernel), List.mem_of_getElem? (i := 536) (by decide +kernel), List.mem_of_getElem? (i := 537) (by decide +kernel)⟩
theorem lw_p11 : lw_okq (⟨"BlockCounter$Rewriting", "moveFirst", "(LBlockCounter$Program;II)V"⟩, 4) := ⟨⟨by decide +kernel, by decide +kernel⟩, List.mem_of_getElem? (i := 131) (by decide +kernel), List.mem_of_getElem? (i := 544) (by decide +kernel), List.mem_of_getElem? (i := 545) (by decide +kernel)⟩
theorem lw_p12 : lw_okq (⟨"BlockCounter$Rewriting", "moveInstruction", "()V"⟩, 4) := ⟨⟨by decide +kernel, by decide +kernel⟩, List.mem_of_getElem? (i := 131) (by decide +kernel), List.mem_of_getElem? (i := 549) (by decide +kernel), List.mem_of_getElem? (i := 550) (by decide +kernel)⟩
theorem lw_p13 : lw_okq (⟨"BlockCounter$Rewriting", "appendJump", "(I)V"⟩, 4) := ⟨⟨by decide +kernel, by decide +kernel⟩, List.mem_of_getElem? (i := 131) (by decide +kernel), List.mem_of_getElem? (i := 558) (by decide +kernel), List.mem_of_getElem? (i := 559) (by decide +kernel)⟩
theorem lw_p14 : lw_okq (⟨"BlockCounter$Rewriting", "copyInstruction", "()V"⟩, 4) := ⟨⟨by decide +kernel, by decide +kernel⟩, List.mem_of_getElem? (i := 131) (by decide +kernel), List.mem_of_getElem? (i := 563) (by decide +kernel), List.mem_of_getElem? (i := 564) (by decide +kernel)⟩
theorem lw_p15 : lw_okq (⟨"BlockCounter$Rewriting", "hook", "(III)V"⟩, 4) := ⟨⟨by decide +kernel, by decide +kernel⟩, List.mem_of_getElem? (i := 131) (by decide +kernel), List.mem_of_getElem? (i := 569) (by decide +kernel), List.mem_of_getElem? (i := 570) (by decide +kernel)⟩
def lw_privs_1 : List (MethodName × Nat) := [(⟨"java/lang/Throwable", "fillInStackTrace", "(I)Ljava/lang/Throwable;"⟩, 6), (⟨"BlockCounter", "forgetFindings", "()V"⟩, 6), (⟨"BlockCounter$Analysis", "clear", "()V"⟩, 11), (⟨"BlockCounter$Analysis", "comeToHead", "(I)Z"⟩, 11), (⟨"BlockCounter$Analysis", "comeTo", "(I)Z"⟩, 11), (⟨"BlockCounter$Analysis", "follow", "(LBlockCounter$Program;LBlockCounter$Tables;I)Z"⟩, 11), (⟨"BlockCounter$Analysis", "followTable", "(LBlockCounter$Program;II)Z"⟩, 11), (⟨"BlockCounter$Analysis", "isWithoutOverlap", "(LBlockCounter$Program;)Z"⟩, 11), (⟨"BlockCounter$Analysis", "findBlocks", "(LBlockCounter$Program;)V"⟩, 11), (⟨"BlockCounter$Analysis", "addBlock", "(LBlockCounter$Program;I)V"⟩, 11), (⟨"BlockCounter$Rewriting", "append", "(I)V"⟩, 4), (⟨"BlockCounter$Rewriting", "moveFirst", "(LBlockCounter$Program;II)V"⟩, 4), (⟨"BlockCounter$Rewriting", "moveInstruction", "()V"⟩, 4), (⟨"BlockCounter$Rewriting", "appendJump", "(I)V"⟩, 4), (⟨"BlockCounter$Rewriting", "copyInstruction", "()V"⟩, 4), (⟨"BlockCounter$Rewriting", "hook", "(III)V"⟩, 4)]
theorem lw_r1 : ∀ q ∈ lw_privs_1, lw_okq q := List.forall_mem_cons.mpr ⟨lw_p0, List.forall_mem_cons.mpr ⟨lw_p1, List.forall_mem_cons.mpr ⟨lw_p2, List.forall_mem_cons.mpr ⟨lw_p3, List.forall_mem_cons.mpr ⟨lw_p4, List.forall_mem_cons.mpr ⟨lw_p5, List.forall_mem_cons.mpr ⟨lw_p6, List.forall_mem_cons.mpr ⟨lw_p7, List.forall_mem_cons.mpr ⟨lw_p8, List.forall_mem_cons.mpr ⟨lw_p9, List.forall_mem_cons.mpr ⟨lw_p10, List.forall_mem_cons.mpr ⟨lw_p11, List.forall_mem_cons.mpr ⟨lw_p12, List.forall_mem_cons.mpr ⟨lw_p13, List.forall_mem_cons.mpr ⟨lw_p14, List.forall_mem_cons.mpr ⟨lw_p15, fun _ h => absurd h List.not_mem_nil⟩⟩⟩⟩⟩⟩⟩⟩⟩⟩⟩⟩⟩⟩⟩⟩
theorem lw_p16 : lw_okq (⟨"BlockCounter$Machine", "step", "(LBlockCounter$Program;)I"⟩, 10) := ⟨⟨by decide +kernel, by decide +kernel⟩, List.mem_of_getElem? (i := 154) (by decide +kernel), List.mem_of_getElem? (i := 621) (by decide +kernel), List.mem_of_getElem? (i := 622) (by decide +kernel)⟩
theorem lw_p17 : lw_okq (⟨"BlockCounter$Machine", "perform", "(LBlockCounter$Program;)I"⟩, 10) := ⟨⟨by decide +kernel, by decide +kernel⟩, List.mem_of_getElem? (i := 154) (by decide +kernel), List.mem_of_getElem? (i := 626) (by decide +kernel), List.mem_of_getElem? (i := 627) (by decide +kernel)⟩
theorem lw_p18 : lw_okq (⟨"BlockCounter$Machine", "trap", "(LBlockCounter$Program;)I"⟩, 10) := ⟨⟨by decide +kernel, by decide +kernel⟩, List.mem_of_getElem? (i := 154) (by decide +kernel), List.mem_of_getElem? (i := 634) (by decide +kernel), List.mem_of_getElem? (i := 635) (by decide +kernel)⟩
theorem lw_p19 : lw_okq (⟨"BlockCounter$Machine", "pop", "()I"⟩, 10) := ⟨⟨by decide +kernel, by decide +kernel⟩, List.mem_of_getElem? (i := 154) (by decide +kernel), List.mem_of_getElem? (i := 642) (by decide +kernel), List.mem_of_getElem? (i := 643) (by decide +kernel)⟩
theorem lw_p20 : lw_okq (⟨"BlockCounter$Machine", "branch", "()I"⟩, 10) := ⟨⟨by decide +kernel, by decide +kernel⟩, List.mem_of_getElem? (i := 154) (by decide +kernel), List.mem_of_getElem? (i := 646) (by decide +kernel), List.mem_of_getElem? (i := 647) (by decide +kernel)⟩
theorem lw_p21 : lw_okq (⟨"BlockCounter$Machine", "push", "(I)Z"⟩, 10) := ⟨⟨by decide +kernel, by decide +kernel⟩, List.mem_of_getElem? (i := 154) (by decide +kernel), List.mem_of_getElem? (i := 652) (by decide +kernel), List.mem_of_getElem? (i := 653) (by decide +kernel)⟩
theorem lw_p22 : lw_okq (⟨"BlockCounter$Machine", "lookUp", "(LBlockCounter$Program;I)I"⟩, 10) := ⟨⟨by decide +kernel, by decide +kernel⟩, List.mem_of_getElem? (i := 154) (by decide +kernel), List.mem_of_getElem? (i := 656) (by decide +kernel), List.mem_of_getElem? (i := 657) (by decide +kernel)⟩
theorem lw_p23 : lw_okq (⟨"BlockCounter$Machine", "print", "(I)Z"⟩, 10) := ⟨⟨by decide +kernel, by decide +kernel⟩, List.mem_of_getElem? (i := 154) (by decide +kernel), List.mem_of_getElem? (i := 664) (by decide +kernel), List.mem_of_getElem? (i := 665) (by decide +kernel)⟩
theorem lw_p24 : lw_okq (⟨"BlockCounter$Machine", "calculate", "()V"⟩, 10) := ⟨⟨by decide +kernel, by decide +kernel⟩, List.mem_of_getElem? (i := 154) (by decide +kernel), List.mem_of_getElem? (i := 668) (by decide +kernel), List.mem_of_getElem? (i := 669) (by decide +kernel)⟩
theorem lw_p25 : lw_okq (⟨"BlockCounter$Machine", "grow", "(I)V"⟩, 10) := ⟨⟨by decide +kernel, by decide +kernel⟩, List.mem_of_getElem? (i := 154) (by decide +kernel), List.mem_of_getElem? (i := 676) (by decide +kernel), List.mem_of_getElem? (i := 677) (by decide +kernel)⟩
theorem lw_p26 : lw_okq (⟨"BlockCounterModel", "forget", "()V"⟩, 30) := ⟨⟨by decide +kernel, by decide +kernel⟩, List.mem_of_getElem? (i := 749) (by decide +kernel), List.mem_of_getElem? (i := 854) (by decide +kernel), List.mem_of_getElem? (i := 855) (by decide +kernel)⟩
theorem lw_p27 : lw_okq (⟨"BlockCounterModel", "fail", "(I)I"⟩, 30) := ⟨⟨by decide +kernel, by decide +kernel⟩, List.mem_of_getElem? (i := 749) (by decide +kernel), List.mem_of_getElem? (i := 862) (by decide +kernel), List.mem_of_getElem? (i := 863) (by decide +kernel)⟩
theorem lw_p28 : lw_okq (⟨"BlockCounterModel", "come", "(IZ)V"⟩, 30) := ⟨⟨by decide +kernel, by decide +kernel⟩, List.mem_of_getElem? (i := 749) (by decide +kernel), List.mem_of_getElem? (i := 874) (by decide +kernel), List.mem_of_getElem? (i := 875) (by decide +kernel)⟩
theorem lw_p29 : lw_okq (⟨"BlockCounterModel", "follow", "(I)V"⟩, 30) := ⟨⟨by decide +kernel, by decide +kernel⟩, List.mem_of_getElem? (i := 749) (by decide +kernel), List.mem_of_getElem? (i := 878) (by decide +kernel), List.mem_of_getElem? (i := 879) (by decide +kernel)⟩
theorem lw_p30 : lw_okq (⟨"BlockCounterModel", "target", "(I)I"⟩, 30) := ⟨⟨by decide +kernel, by decide +kernel⟩, List.mem_of_getElem? (i := 749) (by decide +kernel), List.mem_of_getElem? (i := 888) (by decide +kernel), List.mem_of_getElem? (i := 889) (by decide +kernel)⟩
theorem lw_p31 : lw_okq (⟨"BlockCounterModel", "followTable", "(II)V"⟩, 30) := ⟨⟨by decide +kernel, by decide +kernel⟩, List.mem_of_getElem? (i := 749) (by decide +kernel), List.mem_of_getElem? (i := 895) (by decide +kernel), List.mem_of_getElem? (i := 896) (by decide +kernel)⟩
def lw_privs_2 : List (MethodName × Nat) := [(⟨"BlockCounter$Machine", "step", "(LBlockCounter$Program;)I"⟩, 10), (⟨"BlockCounter$Machine", "perform", "(LBlockCounter$Program;)I"⟩, 10), (⟨"BlockCounter$Machine", "trap", "(LBlockCounter$Program;)I"⟩, 10), (⟨"BlockCounter$Machine", "pop", "()I"⟩, 10), (⟨"BlockCounter$Machine", "branch", "()I"⟩, 10), (⟨"BlockCounter$Machine", "push", "(I)Z"⟩, 10), (⟨"BlockCounter$Machine", "lookUp", "(LBlockCounter$Program;I)I"⟩, 10), (⟨"BlockCounter$Machine", "print", "(I)Z"⟩, 10), (⟨"BlockCounter$Machine", "calculate", "()V"⟩, 10), (⟨"BlockCounter$Machine", "grow", "(I)V"⟩, 10), (⟨"BlockCounterModel", "forget", "()V"⟩, 30), (⟨"BlockCounterModel", "fail", "(I)I"⟩, 30), (⟨"BlockCounterModel", "come", "(IZ)V"⟩, 30), (⟨"BlockCounterModel", "follow", "(I)V"⟩, 30), (⟨"BlockCounterModel", "target", "(I)I"⟩, 30), (⟨"BlockCounterModel", "followTable", "(II)V"⟩, 30)]
theorem lw_r2 : ∀ q ∈ lw_privs_2, lw_okq q := List.forall_mem_cons.mpr ⟨lw_p16, List.forall_mem_cons.mpr ⟨lw_p17, List.forall_mem_cons.mpr ⟨lw_p18, List.forall_mem_cons.mpr ⟨lw_p19, List.forall_mem_cons.mpr ⟨lw_p20, List.forall_mem_cons.mpr ⟨lw_p21, List.forall_mem_cons.mpr ⟨lw_p22, List.forall_mem_cons.mpr ⟨lw_p23, List.forall_mem_cons.mpr ⟨lw_p24, List.forall_mem_cons.mpr ⟨lw_p25, List.forall_mem_cons.mpr ⟨lw_p26, List.forall_mem_cons.mpr ⟨lw_p27, List.forall_mem_cons.mpr ⟨lw_p28, List.forall_mem_cons.mpr ⟨lw_p29, List.forall_mem_cons.mpr ⟨lw_p30, List.forall_mem_cons.mpr ⟨lw_p31, fun _ h => absurd h List.not_mem_nil⟩⟩⟩⟩⟩⟩⟩⟩⟩⟩⟩⟩⟩⟩⟩⟩
theorem lw_p32 : lw_okq (⟨"BlockCounterModel", "isDeclared", "(II)Z"⟩, 30) := ⟨⟨by decide +kernel, by decide +kernel⟩, List.mem_of_getElem? (i := 749) (by decide +kernel), List.mem_of_getElem? (i := 899) (by decide +kernel), List.mem_of_getElem? (i := 900) (by decide +kernel)⟩
theorem lw_p33 : lw_okq (⟨"BlockCounterModel", "occupy", "()V"⟩, 30) := ⟨⟨by decide +kernel, by decide +kernel⟩, List.mem_of_getElem? (i := 749) (by decide +kernel), List.mem_of_getElem? (i := 909) (by decide +kernel), List.mem_of_getElem? (i := 910) (by decide +kernel)⟩
theorem lw_p34 : lw_okq (⟨"BlockCounterModel", "cut", "()V"⟩, 30) := ⟨⟨by decide +kernel, by decide +kernel⟩, List.mem_of_getElem? (i := 749) (by decide +kernel), List.mem_of_getElem? (i := 913) (by decide +kernel), List.mem_of_getElem? (i := 914) (by decide +kernel)⟩
theorem lw_p35 : lw_okq (⟨"BlockCounterModel", "renewBlock", "(I)V"⟩, 30) := ⟨⟨by decide +kernel, by decide +kernel⟩, List.mem_of_getElem? (i := 749) (by decide +kernel), List.mem_of_getElem? (i := 932) (by decide +kernel), List.mem_of_getElem? (i := 933) (by decide +kernel)⟩
theorem lw_p36 : lw_okq (⟨"BlockCounterModel", "emit", "(I)V"⟩, 30) := ⟨⟨by decide +kernel, by decide +kernel⟩, List.mem_of_getElem? (i := 749) (by decide +kernel), List.mem_of_getElem? (i := 936) (by decide +kernel), List.mem_of_getElem? (i := 937) (by decide +kernel)⟩
theorem lw_p37 : lw_okq (⟨"BlockCounterModel", "renew", "(I)V"⟩, 30) := ⟨⟨by decide +kernel, by decide +kernel⟩, List.mem_of_getElem? (i := 749) (by decide +kernel), List.mem_of_getElem? (i := 940) (by decide +kernel), List.mem_of_getElem? (i := 941) (by decide +kernel)⟩
theorem lw_p38 : lw_okq (⟨"BlockCounterModel", "jumpTo", "(I)V"⟩, 30) := ⟨⟨by decide +kernel, by decide +kernel⟩, List.mem_of_getElem? (i := 749) (by decide +kernel), List.mem_of_getElem? (i := 944) (by decide +kernel), List.mem_of_getElem? (i := 945) (by decide +kernel)⟩
theorem lw_p39 : lw_okq (⟨"BlockCounterModel", "begin", "()V"⟩, 30) := ⟨⟨by decide +kernel, by decide +kernel⟩, List.mem_of_getElem? (i := 749) (by decide +kernel), List.mem_of_getElem? (i := 956) (by decide +kernel), List.mem_of_getElem? (i := 957) (by decide +kernel)⟩
theorem lw_p40 : lw_okq (⟨"BlockCounterModel", "step", "(I)Z"⟩, 30) := ⟨⟨by decide +kernel, by decide +kernel⟩, List.mem_of_getElem? (i := 749) (by decide +kernel), List.mem_of_getElem? (i := 961) (by decide +kernel), List.mem_of_getElem? (i := 962) (by decide +kernel)⟩
theorem lw_p41 : lw_okq (⟨"BlockCounterModel", "at", "(II)I"⟩, 30) := ⟨⟨by decide +kernel, by decide +kernel⟩, List.mem_of_getElem? (i := 749) (by decide +kernel), List.mem_of_getElem? (i := 965) (by decide +kernel), List.mem_of_getElem? (i := 966) (by decide +kernel)⟩
theorem lw_p42 : lw_okq (⟨"BlockCounterModel", "fault", "()Z"⟩, 30) := ⟨⟨by decide +kernel, by decide +kernel⟩, List.mem_of_getElem? (i := 749) (by decide +kernel), List.mem_of_getElem? (i := 969) (by decide +kernel), List.mem_of_getElem? (i := 970) (by decide +kernel)⟩
theorem lw_p43 : lw_okq (⟨"BlockCounterModel", "doOne", "(II)Z"⟩, 30) := ⟨⟨by decide +kernel, by decide +kernel⟩, List.mem_of_getElem? (i := 749) (by decide +kernel), List.mem_of_getElem? (i := 973) (by decide +kernel), List.mem_of_getElem? (i := 974) (by decide +kernel)⟩
theorem lw_p44 : lw_okq (⟨"BlockCounterModel", "go", "(I)Z"⟩, 30) := ⟨⟨by decide +kernel, by decide +kernel⟩, List.mem_of_getElem? (i := 749) (by decide +kernel), List.mem_of_getElem? (i := 977) (by decide +kernel), List.mem_of_getElem? (i := 978) (by decide +kernel)⟩
theorem lw_p45 : lw_okq (⟨"BlockCounterModel", "branch", "(IZ)Z"⟩, 30) := ⟨⟨by decide +kernel, by decide +kernel⟩, List.mem_of_getElem? (i := 749) (by decide +kernel), List.mem_of_getElem? (i := 981) (by decide +kernel), List.mem_of_getElem? (i := 982) (by decide +kernel)⟩
theorem lw_p46 : lw_okq (⟨"BlockCounterModel", "push", "(II)Z"⟩, 30) := ⟨⟨by decide +kernel, by decide +kernel⟩, List.mem_of_getElem? (i := 749) (by decide +kernel), List.mem_of_getElem? (i := 985) (by decide +kernel), List.mem_of_getElem? (i := 986) (by decide +kernel)⟩
theorem lw_p47 : lw_okq (⟨"BlockCounterModel", "select", "(II)Z"⟩, 30) := ⟨⟨by decide +kernel, by decide +kernel⟩, List.mem_of_getElem? (i := 749) (by decide +kernel), List.mem_of_getElem? (i := 989) (by decide +kernel), List.mem_of_getElem? (i := 990) (by decide +kernel)⟩
def lw_privs_3 : List (MethodName × Nat) := [(⟨"BlockCounterModel", "isDeclared", "(II)Z"⟩, 30), (⟨"BlockCounterModel", "occupy", "()V"⟩, 30), (⟨"BlockCounterModel", "cut", "()V"⟩, 30), (⟨"BlockCounterModel", "renewBlock", "(I)V"⟩, 30), (⟨"BlockCounterModel", "emit", "(I)V"⟩, 30), (⟨"BlockCounterModel", "renew", "(I)V"⟩, 30), (⟨"BlockCounterModel", "jumpTo", "(I)V"⟩, 30), (⟨"BlockCounterModel", "begin", "()V"⟩, 30), (⟨"BlockCounterModel", "step", "(I)Z"⟩, 30), (⟨"BlockCounterModel", "at", "(II)I"⟩, 30), (⟨"BlockCounterModel", "fault", "()Z"⟩, 30), (⟨"BlockCounterModel", "doOne", "(II)Z"⟩, 30), (⟨"BlockCounterModel", "go", "(I)Z"⟩, 30), (⟨"BlockCounterModel", "branch", "(IZ)Z"⟩, 30), (⟨"BlockCounterModel", "push", "(II)Z"⟩, 30), (⟨"BlockCounterModel", "select", "(II)Z"⟩, 30)]
theorem lw_r3 : ∀ q ∈ lw_privs_3, lw_okq q := List.forall_mem_cons.mpr ⟨lw_p32, List.forall_mem_cons.mpr ⟨lw_p33, List.forall_mem_cons.mpr ⟨lw_p34, List.forall_mem_cons.mpr ⟨lw_p35, List.forall_mem_cons.mpr ⟨lw_p36, List.forall_mem_cons.mpr ⟨lw_p37, List.forall_mem_cons.mpr ⟨lw_p38, List.forall_mem_cons.mpr ⟨lw_p39, List.forall_mem_cons.mpr ⟨lw_p40, List.forall_mem_cons.mpr ⟨lw_p41, List.forall_mem_cons.mpr ⟨lw_p42, List.forall_mem_cons.mpr ⟨lw_p43, List.forall_mem_cons.mpr ⟨lw_p44, List.forall_mem_cons.mpr ⟨lw_p45, List.forall_mem_cons.mpr ⟨lw_p46, List.forall_mem_cons.mpr ⟨lw_p47, fun _ h => absurd h List.not_mem_nil⟩⟩⟩⟩⟩⟩⟩⟩⟩⟩⟩⟩⟩⟩⟩⟩
def lw_privs : List (MethodName × Nat) := lw_privs_1 ++ (lw_privs_2 ++ (lw_privs_3))
def lw_tbl : List Cond := k2_sels lw_privs ++ tables_1
theorem lw_privs_ok : ∀ q ∈ lw_privs, lw_okq q := by
  show ∀ q ∈ lw_privs_1 ++ (lw_privs_2 ++ (lw_privs_3)), lw_okq q
  exact List.forall_mem_append.mpr ⟨lw_r1, List.forall_mem_append.mpr ⟨lw_r2, lw_r3⟩⟩
end
section
/-! ===== BEGIN printed: names, fields, word lists, decode rows ===== -/
def RX0 : String := "BlockCounter$Analysis"
def TX0 : u_T := fun k => match k with
  | 0 => ("BlockCounter$Analysis", "instruction", "LBlockCounter$Instruction;", true)
  | 1 => ("BlockCounter$Analysis", "found", "[I", true)
  | 2 => ("BlockCounter$Analysis", "isFound", "[Z", true)
  | 3 => ("BlockCounter$Analysis", "isHead", "[Z", true)
  | 4 => ("BlockCounter$Analysis", "isInTable", "[Z", true)
  | 5 => ("BlockCounter$Analysis", "numbers", "[I", true)
  | 6 => ("BlockCounter$Analysis", "heads", "[I", true)
  | 7 => ("BlockCounter$Analysis", "byteCounts", "[I", true)
  | 8 => ("BlockCounter$Analysis", "instructionCounts", "[I", true)
  | 9 => ("BlockCounter$Analysis", "foundCount", "I", false)
  | _ => ("BlockCounter$Analysis", "blockCount", "I", false)
def tyX0 : Nat → FieldType := fun k => match k with
  | 0 => .object "BlockCounter$Instruction"
  | 1 => .array .int
  | 2 => .array .boolean
  | 3 => .array .boolean
  | 4 => .array .boolean
  | 5 => .array .int
  | 6 => .array .int
  | 7 => .array .int
  | 8 => .array .int
  | 9 => .int
  | _ => .int
abbrev wsX00 : List Cond := u_ws RX0 TX0 11
theorem nmX0 : ∀ a, a < 11 → ∀ b, b < 11 → a ≠ b → (TX0 a).2.1 ≠ (TX0 b).2.1 := by decide +kernel
theorem tyX0_ok : ∀ k, k < 11 → parseFieldDescriptor (TX0 k).2.2.1 = some (tyX0 k) := by decide +kernel
abbrev cX0_init : ByteArray := prog_2_method_1_code
def yX0_init : MethodName := ⟨RX0, "<init>", "()V"⟩
abbrev cX0_exists : ByteArray := prog_2_method_3_code
def yX0_exists : MethodName := ⟨RX0, "exists", "()Z"⟩
abbrev cX0_numberAt : ByteArray := prog_2_method_8_code
def yX0_numberAt : MethodName := ⟨RX0, "numberAt", "(I)I"⟩
def RX1 : String := "BlockCounter$Instruction"
def TX1 : u_T := fun k => match k with
  | 0 => ("BlockCounter$Instruction", "address", "I", false)
  | 1 => ("BlockCounter$Instruction", "first", "I", false)
  | 2 => ("BlockCounter$Instruction", "kind", "I", false)
  | 3 => ("BlockCounter$Instruction", "n", "I", false)
  | _ => ("BlockCounter$Instruction", "m", "I", false)
def tyX1 : Nat → FieldType := fun k => match k with
  | 0 => .int
  | 1 => .int
  | 2 => .int
  | 3 => .int
  | _ => .int
abbrev wsX10 : List Cond := u_ws RX1 TX1 5
theorem nmX1 : ∀ a, a < 5 → ∀ b, b < 5 → a ≠ b → (TX1 a).2.1 ≠ (TX1 b).2.1 := by decide +kernel
theorem tyX1_ok : ∀ k, k < 5 → parseFieldDescriptor (TX1 k).2.2.1 = some (tyX1 k) := by decide +kernel
abbrev cX1_init : ByteArray := prog_3_method_1_code
def yX1_init : MethodName := ⟨RX1, "<init>", "()V"⟩
def RX2 : String := "BlockCounter$Machine"
def TX2 : u_T := fun k => match k with
  | 0 => ("BlockCounter$Machine", "instruction", "LBlockCounter$Instruction;", true)
  | 1 => ("BlockCounter$Machine", "registers", "[I", true)
  | 2 => ("BlockCounter$Machine", "cells", "[I", true)
  | 3 => ("BlockCounter$Machine", "stack", "[I", true)
  | 4 => ("BlockCounter$Machine", "numbers", "[I", true)
  | 5 => ("BlockCounter$Machine", "counts", "[J", true)
  | 6 => ("BlockCounter$Machine", "pc", "I", false)
  | 7 => ("BlockCounter$Machine", "stackCount", "I", false)
  | 8 => ("BlockCounter$Machine", "numberCount", "I", false)
  | _ => ("BlockCounter$Machine", "stepCount", "I", false)
def tyX2 : Nat → FieldType := fun k => match k with
  | 0 => .object "BlockCounter$Instruction"
  | 1 => .array .int
  | 2 => .array .int
  | 3 => .array .int
  | 4 => .array .int
  | 5 => .array .long
  | 6 => .int
  | 7 => .int
  | 8 => .int
  | _ => .int
abbrev wsX20 : List Cond := u_ws RX2 TX2 10
theorem nmX2 : ∀ a, a < 10 → ∀ b, b < 10 → a ≠ b → (TX2 a).2.1 ≠ (TX2 b).2.1 := by decide +kernel
theorem tyX2_ok : ∀ k, k < 10 → parseFieldDescriptor (TX2 k).2.2.1 = some (tyX2 k) := by decide +kernel
abbrev cX2_init : ByteArray := prog_4_method_1_code
def yX2_init : MethodName := ⟨RX2, "<init>", "()V"⟩
abbrev cX2_done : ByteArray := prog_4_method_9_code
def yX2_done : MethodName := ⟨RX2, "done", "()I"⟩
def RX3 : String := "BlockCounter$Program"
def TX3 : u_T := fun k => match k with
  | 0 => ("BlockCounter$Program", "bytes", "[I", true)
  | _ => ("BlockCounter$Program", "traps", "[I", true)
def tyX3 : Nat → FieldType := fun k => match k with
  | 0 => .array .int
  | _ => .array .int
abbrev wsX30 : List Cond := u_ws RX3 TX3 2
theorem nmX3 : ∀ a, a < 2 → ∀ b, b < 2 → a ≠ b → (TX3 a).2.1 ≠ (TX3 b).2.1 := by decide +kernel
theorem tyX3_ok : ∀ k, k < 2 → parseFieldDescriptor (TX3 k).2.2.1 = some (tyX3 k) := by decide +kernel
abbrev cX3_init : ByteArray := prog_5_method_1_code
def yX3_init : MethodName := ⟨RX3, "<init>", "()V"⟩
def RX4 : String := "BlockCounter$Rewriting"
def TX4 : u_T := fun k => match k with
  | 0 => ("BlockCounter$Rewriting", "instruction", "LBlockCounter$Instruction;", true)
  | 1 => ("BlockCounter$Rewriting", "program", "LBlockCounter$Program;", true)
  | 2 => ("BlockCounter$Rewriting", "free", "I", false)
  | _ => ("BlockCounter$Rewriting", "stands", "Z", false)
def tyX4 : Nat → FieldType := fun k => match k with
  | 0 => .object "BlockCounter$Instruction"
  | 1 => .object "BlockCounter$Program"
  | 2 => .int
  | _ => .boolean
abbrev wsX40 : List Cond := u_ws RX4 TX4 4
theorem nmX4 : ∀ a, a < 4 → ∀ b, b < 4 → a ≠ b → (TX4 a).2.1 ≠ (TX4 b).2.1 := by decide +kernel
theorem tyX4_ok : ∀ k, k < 4 → parseFieldDescriptor (TX4 k).2.2.1 = some (tyX4 k) := by decide +kernel
abbrev cX4_init : ByteArray := prog_6_method_1_code
def yX4_init : MethodName := ⟨RX4, "<init>", "()V"⟩
def RX5 : String := "BlockCounter$Tables"
def TX5 : u_T := fun k => match k with
  | 0 => ("BlockCounter$Tables", "bases", "[I", true)
  | 1 => ("BlockCounter$Tables", "counts", "[I", true)
  | _ => ("BlockCounter$Tables", "declared", "I", false)
def tyX5 : Nat → FieldType := fun k => match k with
  | 0 => .array .int
  | 1 => .array .int
  | _ => .int
abbrev wsX50 : List Cond := u_ws RX5 TX5 3
theorem nmX5 : ∀ a, a < 3 → ∀ b, b < 3 → a ≠ b → (TX5 a).2.1 ≠ (TX5 b).2.1 := by decide +kernel
theorem tyX5_ok : ∀ k, k < 3 → parseFieldDescriptor (TX5 k).2.2.1 = some (tyX5 k) := by decide +kernel
abbrev cX5_init : ByteArray := prog_7_method_1_code
def yX5_init : MethodName := ⟨RX5, "<init>", "()V"⟩
def RX6 : String := "BlockCounter"
def TX6 : u_T := fun k => match k with
  | 0 => ("BlockCounter", "original", "LBlockCounter$Program;", true)
  | 1 => ("BlockCounter", "tables", "LBlockCounter$Tables;", true)
  | 2 => ("BlockCounter", "startCells", "[I", true)
  | 3 => ("BlockCounter", "analysis", "LBlockCounter$Analysis;", true)
  | 4 => ("BlockCounter", "rewriting", "LBlockCounter$Rewriting;", true)
  | _ => ("BlockCounter", "machine", "LBlockCounter$Machine;", true)
def tyX6 : Nat → FieldType := fun k => match k with
  | 0 => .object "BlockCounter$Program"
  | 1 => .object "BlockCounter$Tables"
  | 2 => .array .int
  | 3 => .object "BlockCounter$Analysis"
  | 4 => .object "BlockCounter$Rewriting"
  | _ => .object "BlockCounter$Machine"
abbrev wsX60 : List Cond := u_ws RX6 TX6 6
theorem nmX6 : ∀ a, a < 6 → ∀ b, b < 6 → a ≠ b → (TX6 a).2.1 ≠ (TX6 b).2.1 := by decide +kernel
theorem tyX6_ok : ∀ k, k < 6 → parseFieldDescriptor (TX6 k).2.2.1 = some (tyX6 k) := by decide +kernel
abbrev cX6_init : ByteArray := prog_1_method_1_code
def yX6_init : MethodName := ⟨RX6, "<init>", "()V"⟩
abbrev cX6_poke : ByteArray := prog_1_method_2_code
def yX6_poke : MethodName := ⟨RX6, "poke", "(II)V"⟩
abbrev cX6_blockAt : ByteArray := prog_1_method_7_code
def yX6_blockAt : MethodName := ⟨RX6, "blockAt", "(I)I"⟩
abbrev cX6_steps : ByteArray := prog_1_method_11_code
def yX6_steps : MethodName := ⟨RX6, "steps", "()I"⟩
def RX7 : String := "BlockCounterModel"
def TX7 : u_T := fun k => match k with
  | _ => ("", "", "", false)
def tyX7 : Nat → FieldType := fun k => match k with
  | _ => .int
abbrev wsX70 : List Cond := u_ws RX7 TX7 0
theorem nmX7 : ∀ a, a < 0 → ∀ b, b < 0 → a ≠ b → (TX7 a).2.1 ≠ (TX7 b).2.1 := by decide +kernel
theorem tyX7_ok : ∀ k, k < 0 → parseFieldDescriptor (TX7 k).2.2.1 = some (tyX7 k) := by decide +kernel
def RJ9 : String := "java/lang/Math"
def TJ9 : u_T := fun k => match k with
  | _ => ("", "", "", false)
def tyJ9 : Nat → FieldType := fun k => match k with
  | _ => .int
abbrev wsJ90 : List Cond := u_ws RJ9 TJ9 0
theorem nmJ9 : ∀ a, a < 0 → ∀ b, b < 0 → a ≠ b → (TJ9 a).2.1 ≠ (TJ9 b).2.1 := by decide +kernel
theorem tyJ9_ok : ∀ k, k < 0 → parseFieldDescriptor (TJ9 k).2.2.1 = some (tyJ9 k) := by decide +kernel
def RJ0 : String := "java/lang/String"
def TJ0 : u_T := fun k => match k with
  | _ => ("", "", "", false)
def tyJ0 : Nat → FieldType := fun k => match k with
  | _ => .int
abbrev wsJ00 : List Cond := u_ws RJ0 TJ0 0
theorem nmJ0 : ∀ a, a < 0 → ∀ b, b < 0 → a ≠ b → (TJ0 a).2.1 ≠ (TJ0 b).2.1 := by decide +kernel
theorem tyJ0_ok : ∀ k, k < 0 → parseFieldDescriptor (TJ0 k).2.2.1 = some (tyJ0 k) := by decide +kernel
def RJ10 : String := "java/lang/System"
def TJ10 : u_T := fun k => match k with
  | _ => ("", "", "", false)
def tyJ10 : Nat → FieldType := fun k => match k with
  | _ => .int
abbrev wsJ100 : List Cond := u_ws RJ10 TJ10 0
theorem nmJ10 : ∀ a, a < 0 → ∀ b, b < 0 → a ≠ b → (TJ10 a).2.1 ≠ (TJ10 b).2.1 := by decide +kernel
theorem tyJ10_ok : ∀ k, k < 0 → parseFieldDescriptor (TJ10 k).2.2.1 = some (tyJ10 k) := by decide +kernel
def RJ7 : String := "java/util/Arrays"
def TJ7 : u_T := fun k => match k with
  | _ => ("", "", "", false)
def tyJ7 : Nat → FieldType := fun k => match k with
  | _ => .int
abbrev wsJ70 : List Cond := u_ws RJ7 TJ7 0
theorem nmJ7 : ∀ a, a < 0 → ∀ b, b < 0 → a ≠ b → (TJ7 a).2.1 ≠ (TJ7 b).2.1 := by decide +kernel
theorem tyJ7_ok : ∀ k, k < 0 → parseFieldDescriptor (TJ7 k).2.2.1 = some (tyJ7 k) := by decide +kernel
def RL : String := "BlockCounterLaw"
abbrev cL_poke : ByteArray := method_3_code
def yL_poke : MethodName := ⟨RL, "poke", "(LBlockCounter;II)I"⟩
abbrev cL_law : ByteArray := code
def yL_law : MethodName := ⟨RL, "law", "([I)Z"⟩
end
section
/-! A store of places, and an evaluator of instructions over it. A place is a number: the k-th of a fixed list LY of cells, at the address 'ad k'. A cell holds the ints 'σ k' or the longs 'τ k'; the references in its fields are fixed. An instruction is a predicate transformer over (locals, stack, σ, τ, n); 'ev_ok' says that it is right for the machine; 'ev_wp' strings them together, up to cut points. -/
abbrev ev_M : Type := Nat → Nat → Int32
abbrev ev_L : Type := Nat → Nat → Int64
abbrev ev_D : Type := Nat × Nat × List (Option Nat)
abbrev ev_K : Type := Nat → List Value → List Value → ev_M → ev_L → Nat → Prop
abbrev ev_T : Type := List Value → List Value → ev_M → ev_L → Nat → ev_K → Prop
abbrev ev_3 : Type := ClassId × ClassId × ClassId
/-- a value over places, over addresses -/
def ev_v (ad : Nat → Nat) : Value → Value
  | .ref q => .ref (ad q)
  | v => v
theorem ev_v_cat (ad : Nat → Nat) (v : Value) : (ev_v ad v).category = v.category := by cases v <;> rfl
theorem ev_cats (ad : Nat → Nat) (r : List Value) : ((r.map (ev_v ad)).map fun v => v.category) = r.map fun v => v.category := by
  rw [List.map_map]
  exact List.map_congr_left (fun v _ => ev_v_cat ad v)
/-- an object's fields -/
def ev_f (ad : Nat → Nat) (f : Nat → Int32) : Nat → List (Option Nat) → List Value
  | _, [] => []
  | j, none :: r => .int (f j) :: ev_f ad f (j + 1) r
  | j, some q :: r => .ref (ad q) :: ev_f ad f (j + 1) r
def ev_o (ad : Nat → Nat) (x : Int32) : Option Nat → Value
  | none => .int x
  | some q => .ref (ad q)
theorem ev_f_at (ad : Nat → Nat) (f : Nat → Int32) : ∀ (r : List (Option Nat)) (b j : Nat), (ev_f ad f b r)[j]? = (r[j]?).map (ev_o ad (f (b + j)))
  | [], b, j => by simp [ev_f]
  | none :: r, b, 0 => by simp [ev_f, ev_o]
  | some q :: r, b, 0 => by simp [ev_f, ev_o]
  | none :: r, b, j + 1 => by
    have h := ev_f_at ad f r (b + 1) j
    rw [show b + 1 + j = b + (j + 1) by omega] at h
    simpa [ev_f] using h
  | some q :: r, b, j + 1 => by
    have h := ev_f_at ad f r (b + 1) j
    rw [show b + 1 + j = b + (j + 1) by omega] at h
    simpa [ev_f] using h
theorem ev_f_set (ad : Nat → Nat) (f : Nat → Int32) (r : List (Option Nat)) (j : Nat) (x : Int32) (h : r[j]? = some none) : (ev_f ad f 0 r).set j (.int x) = ev_f ad (upd f j x) 0 r := by
  apply List.ext_getElem?
  intro i
  have h1 := ev_f_at ad f r 0 j
  rw [h] at h1
  have hl : j < (ev_f ad f 0 r).length := (List.getElem?_eq_some_iff.mp h1).1
  by_cases hij : j = i
  · subst hij
    rw [List.getElem?_set_self hl, ev_f_at, h]
    simp [upd, ev_o]
  · rw [List.getElem?_set_ne hij, ev_f_at, ev_f_at]
    have hne : ¬ (0 + i = j) := by omega
    simp only [upd, if_neg hne]
theorem ev_f_len (ad : Nat → Nat) (f : Nat → Int32) : ∀ (r : List (Option Nat)) (b : Nat), (ev_f ad f b r).length = r.length
  | [], b => rfl
  | none :: r, b => by simp [ev_f, ev_f_len ad f r (b + 1)]
  | some q :: r, b => by simp [ev_f, ev_f_len ad f r (b + 1)]
/-- a cell: 0 ints, 1 booleans, 2 longs, else an object -/
def ev_e (K3 : ev_3) (ad : Nat → Nat) (d : ev_D) (f : Nat → Int32) (g : Nat → Int64) : va_E := match d with
  | (0, n, _) => .inl (K3.1, n, .inl f)
  | (1, n, _) => .inl (K3.2.1, n, .inl f)
  | (2, n, _) => .inl (K3.2.2, n, .inr (.inl g))
  | (_, c, fs) => .inr (c, ev_f ad f 0 fs)
def ev_lay (LY : List ev_D) (K3 : ev_3) (ad : Nat → Nat) (σ : ev_M) (τ : ev_L) : va_W := LY.zipIdx.map (fun q => (ad q.2, ev_e K3 ad q.1 (σ q.2) (τ q.2)))
theorem ev_lay_get (LY : List ev_D) (K3 : ev_3) (ad : Nat → Nat) (σ : ev_M) (τ : ev_L) (k : Nat) : (ev_lay LY K3 ad σ τ)[k]? = (LY[k]?).map (fun d => (ad k, ev_e K3 ad d (σ k) (τ k))) := by
  unfold ev_lay
  rw [List.getElem?_map, List.getElem?_zipIdx]
  cases LY[k]? <;> simp
def ev_p {α : Type} (σ : Nat → Nat → α) (k : Nat) (f : Nat → α) : Nat → Nat → α := fun q => if q = k then f else σ q
def ev_u (σ : ev_M) (k j : Nat) (x : Int32) : ev_M := ev_p σ k (upd (σ k) j x)
def ev_w (τ : ev_L) (k j : Nat) (x : Int64) : ev_L := ev_p τ k (vp_updL (τ k) j x)
theorem ev_p_same {α : Type} (σ : Nat → Nat → α) (k : Nat) : ev_p σ k (σ k) = σ := by
  funext q
  unfold ev_p
  by_cases h : q = k
  · rw [if_pos h, h]
  · rw [if_neg h]
theorem ev_lay_set {LY : List ev_D} {K3 : ev_3} {ad : Nat → Nat} {σ : ev_M} {τ : ev_L} {k : Nat} {d : ev_D} (f : Nat → Int32) (g : Nat → Int64) (h : LY[k]? = some d) : (ev_lay LY K3 ad σ τ).set k (ad k, ev_e K3 ad d f g) = ev_lay LY K3 ad (ev_p σ k f) (ev_p τ k g) := by
  apply List.ext_getElem?
  intro i
  have h1 := ev_lay_get LY K3 ad σ τ k
  rw [h] at h1
  have hl : k < (ev_lay LY K3 ad σ τ).length := (List.getElem?_eq_some_iff.mp h1).1
  by_cases hi : k = i
  · subst hi
    rw [List.getElem?_set_self hl, ev_lay_get, h]
    simp [ev_p]
  · rw [List.getElem?_set_ne hi, ev_lay_get, ev_lay_get]
    simp only [ev_p, if_neg (fun q => hi q.symm : ¬ i = k)]
theorem ev_lay_setI {LY : List ev_D} {K3 : ev_3} {ad : Nat → Nat} {σ : ev_M} {τ : ev_L} {k : Nat} {d : ev_D} (j : Nat) (x : Int32) (h : LY[k]? = some d) : (ev_lay LY K3 ad σ τ).set k (ad k, ev_e K3 ad d (upd (σ k) j x) (τ k)) = ev_lay LY K3 ad (ev_u σ k j x) τ := by
  rw [ev_lay_set _ _ h, ev_p_same]; rfl
theorem ev_lay_setL {LY : List ev_D} {K3 : ev_3} {ad : Nat → Nat} {σ : ev_M} {τ : ev_L} {k : Nat} {d : ev_D} (j : Nat) (x : Int64) (h : LY[k]? = some d) : (ev_lay LY K3 ad σ τ).set k (ad k, ev_e K3 ad d (σ k) (vp_updL (τ k) j x)) = ev_lay LY K3 ad σ (ev_w τ k j x) := by
  rw [ev_lay_set _ _ h, ev_p_same]; rfl
theorem ev_D_any {A : Nat → Prop} {LY : List ev_D} {K3 : ev_3} {ad : Nat → Nat} {σ σ' : ev_M} {τ τ' : ev_L} (h : va_D A (ev_lay LY K3 ad σ τ)) : va_D A (ev_lay LY K3 ad σ' τ') := by
  have key : ∀ (k : Nat) (q : Nat × va_E), (ev_lay LY K3 ad σ' τ')[k]? = some q → ∃ q0, (ev_lay LY K3 ad σ τ)[k]? = some q0 ∧ q0.1 = q.1 := by
    intro k q hq
    rw [ev_lay_get] at hq
    cases hd : LY[k]? with
    | none => rw [hd] at hq; cases hq
    | some d =>
      rw [hd] at hq
      cases hq
      exact ⟨(ad k, ev_e K3 ad d (σ k) (τ k)), by rw [ev_lay_get, hd]; rfl, rfl⟩
  refine ⟨fun i j x y hx hy hxy => ?_, fun k q hq => ?_⟩
  · obtain ⟨x0, h1, h2⟩ := key i x hx
    obtain ⟨y0, h3, h4⟩ := key j y hy
    exact h.1 i j x0 y0 h1 h3 (by rw [h2, h4]; exact hxy)
  · obtain ⟨q0, h1, h2⟩ := key k q hq
    rw [← h2]
    exact h.2 k q0 h1
theorem ev_A_any {LY : List ev_D} {K3 : ev_3} {ad : Nat → Nat} {σ σ' : ev_M} {τ τ' : ev_L} {sz : Nat} {q : Nat} (h : va_A (ev_lay LY K3 ad σ τ) sz q) : va_A (ev_lay LY K3 ad σ' τ') sz q := by
  rcases h with ⟨k, x, h⟩ | h
  · rw [ev_lay_get] at h
    cases hd : LY[k]? with
    | none => rw [hd] at h; cases h
    | some d =>
      rw [hd] at h
      cases h
      exact Or.inl ⟨k, _, by rw [ev_lay_get, hd]; rfl⟩
  · exact Or.inr h
/-! locals: a list of values over places; null: nothing is known -/
def ev_ps (ad : Nat → Nat) (lv : List Value) : List (Nat × Value) := lv.zipIdx.filterMap (fun q => if q.1 = .null then none else some (q.2, ev_v ad q.1))
theorem ev_ps_mem {ad : Nat → Nat} {lv : List Value} {q : Nat × Value} : q ∈ ev_ps ad lv ↔ ∃ v, lv[q.1]? = some v ∧ v ≠ .null ∧ q.2 = ev_v ad v := by
  unfold ev_ps
  rw [List.mem_filterMap]
  constructor
  · rintro ⟨⟨v, i⟩, hm, hq⟩
    have hv := List.mem_zipIdx_iff_getElem?.mp hm
    by_cases hn : v = .null
    · rw [if_pos hn] at hq; cases hq
    · rw [if_neg hn] at hq
      cases hq
      exact ⟨v, hv, hn, rfl⟩
  · rintro ⟨v, hv, hn, hq⟩
    refine ⟨(v, q.1), List.mem_zipIdx_iff_getElem?.mpr hv, ?_⟩
    rw [if_neg hn, ← hq]
def ev_h (ad : Nat → Nat) (ls : Array Slot) (nL : Nat) (lv : List Value) : Prop := lv_has ls nL (ev_ps ad lv)
def ev_nth : List Value → Nat → Value
  | [], _ => .null
  | v :: _, 0 => v
  | _ :: r, k + 1 => ev_nth r k
theorem ev_nth_get : ∀ {lv : List Value} {i : Nat} {v : Value}, ev_nth lv i = v → v ≠ .null → lv[i]? = some v
  | [], i, v, h, hn => absurd h.symm hn
  | w :: r, 0, v, h, _ => by simpa [ev_nth] using h
  | w :: r, i + 1, v, h, hn => by
    have := ev_nth_get (lv := r) (i := i) h hn
    simpa using this
theorem ev_h_at {ad : Nat → Nat} {ls : Array Slot} {nL : Nat} {lv : List Value} {i : Nat} {v : Value} (h : ev_h ad ls nL lv) (hv : ev_nth lv i = v) (hn : v ≠ .null) : ls[i]? = some (.val (ev_v ad v)) := h.2.2 (i, ev_v ad v) (ev_ps_mem.mpr ⟨v, ev_nth_get hv hn, hn, rfl⟩)
def ev_setK : List Value → Nat → Value → (List Value → Prop) → Prop
  | [], _, _, k => k []
  | _ :: r, 0, v, k => k (v :: r)
  | x :: r, i + 1, v, k => ev_setK r i v (fun r' => k (x :: r'))
theorem ev_setK_eq : ∀ (lv : List Value) (i : Nat) (v : Value) (k : List Value → Prop), ev_setK lv i v k = k (lv.set i v)
  | [], i, v, k => by simp [ev_setK]
  | x :: r, 0, v, k => by simp [ev_setK]
  | x :: r, i + 1, v, k => by simp [ev_setK, ev_setK_eq r i v]
/-- no long stands just ahead of the place -/
def ev_st : List Value → Nat → Prop → Prop
  | .long _ :: _, 1, _ => False
  | .double _ :: _, 1, _ => False
  | _ :: r, i + 2, k => ev_st r (i + 1) k
  | _, _, k => k
theorem ev_st_k : ∀ {lv : List Value} {i : Nat} {k : Prop}, ev_st lv i k → k ∧ ∀ (j : Nat) (v : Value), j + 1 = i → lv[j]? = some v → ¬ v.category = 2
  | [], i, k, h => by
    refine ⟨?_, fun j v _ hv => by simp at hv⟩
    unfold ev_st at h; exact h
  | x :: r, 0, k, h => by
    refine ⟨?_, fun j v hj _ => by omega⟩
    cases x <;> exact h
  | x :: r, 1, k, h => by
    cases x with
    | long z => exact h.elim
    | double z => exact h.elim
    | _ =>
      refine ⟨h, fun j v hj hv => ?_⟩
      have : j = 0 := by omega
      subst this
      cases hv
      simp [Value.category]
  | x :: r, i + 2, k, h => by
    have h1 : ev_st r (i + 1) k := by cases x <;> exact h
    obtain ⟨h2, h3⟩ := ev_st_k h1
    refine ⟨h2, fun j v hj hv => ?_⟩
    cases j with
    | zero => omega
    | succ j => exact h3 j v (by omega) (by simpa using hv)
theorem ev_h_set1 {ad : Nat → Nat} {ls' : Array Slot} {nL : Nat} {lv : List Value} {i : Nat} {v : Value} (hst : ∀ (j : Nat) (w : Value), j + 1 = i → lv[j]? = some w → ¬ w.category = 2)
    (h : lv_has ls' nL ((i, ev_v ad v) :: (ev_ps ad lv).filter (fun q => !(q.1 == i) && !(q.1 + 1 == i && q.2.category == 2)))) : ev_h ad ls' nL (lv.set i v) := by
  refine ⟨h.1, h.2.1, fun q hq => h.2.2 q ?_⟩
  obtain ⟨w, hw, hn, he⟩ := ev_ps_mem.mp hq
  by_cases hi : i = q.1
  · rw [← hi] at hw
    have hl : i < lv.length := by
      have := (List.getElem?_eq_some_iff.mp hw).1
      simpa using this
    rw [List.getElem?_set_self hl] at hw
    cases hw
    have : q = (i, ev_v ad v) := by rw [← he, hi]
    rw [this]; exact List.mem_cons_self
  · rw [List.getElem?_set_ne hi] at hw
    refine List.mem_cons_of_mem _ (List.mem_filter.mpr ⟨ev_ps_mem.mpr ⟨w, hw, hn, he⟩, ?_⟩)
    have h1 : (q.1 == i) = false := by simpa using fun h => hi h.symm
    have h2 : (q.1 + 1 == i && q.2.category == 2) = false := by
      by_cases hj : q.1 + 1 = i
      · have := hst q.1 w hj hw
        rw [he, ev_v_cat]
        simp [this]
      · simp [hj]
    rw [h1, h2]; rfl
theorem ev_h_set2 {ad : Nat → Nat} {ls' : Array Slot} {nL : Nat} {lv : List Value} {i : Nat} {v : Value} (hst : ∀ (j : Nat) (w : Value), j + 1 = i → lv[j]? = some w → ¬ w.category = 2)
    (h : lv_has ls' nL ((i, ev_v ad v) :: (ev_ps ad lv).filter (fun q => !(q.1 == i) && (!(q.1 == i + 1) && !(q.1 + 1 == i && q.2.category == 2))))) : ev_h ad ls' nL ((lv.set i v).set (i + 1) .null) := by
  refine ⟨h.1, h.2.1, fun q hq => h.2.2 q ?_⟩
  obtain ⟨w, hw, hn, he⟩ := ev_ps_mem.mp hq
  by_cases h2 : i + 1 = q.1
  · rw [← h2] at hw
    have hl : i + 1 < (lv.set i v).length := by
      have := (List.getElem?_eq_some_iff.mp hw).1
      simpa using this
    rw [List.getElem?_set_self hl] at hw
    cases hw
    exact absurd rfl hn
  rw [List.getElem?_set_ne h2] at hw
  by_cases hi : i = q.1
  · rw [← hi] at hw
    have hl : i < lv.length := by
      have := (List.getElem?_eq_some_iff.mp hw).1
      simpa using this
    rw [List.getElem?_set_self hl] at hw
    cases hw
    have : q = (i, ev_v ad v) := by rw [← he, hi]
    rw [this]; exact List.mem_cons_self
  · rw [List.getElem?_set_ne hi] at hw
    refine List.mem_cons_of_mem _ (List.mem_filter.mpr ⟨ev_ps_mem.mpr ⟨w, hw, hn, he⟩, ?_⟩)
    have h1 : (q.1 == i) = false := by simpa using fun h => hi h.symm
    have h3 : (q.1 == i + 1) = false := by simpa using fun h => h2 h.symm
    have h4 : (q.1 + 1 == i && q.2.category == 2) = false := by
      by_cases hj : q.1 + 1 = i
      · have := hst q.1 w hj hw
        rw [he, ev_v_cat]
        simp [this]
      · simp [hj]
    rw [h1, h3, h4]; rfl
/-- the locals at a method's entry -/
def ev_in : Nat → List Value → List Value
  | 0, _ => []
  | n + 1, .long x :: r => .long x :: (match n with | 0 => [] | k + 1 => .null :: ev_in k r)
  | n + 1, .double x :: r => .double x :: (match n with | 0 => [] | k + 1 => .null :: ev_in k r)
  | n + 1, v :: r => v :: ev_in n r
  | n + 1, [] => .null :: ev_in n []
theorem ev_in_nil : ∀ (n i : Nat) (v : Value), (ev_in n [])[i]? = some v → v = .null
  | 0, i, v, h => by simp [ev_in] at h
  | n + 1, 0, v, h => by simp [ev_in] at h; exact h.symm
  | n + 1, i + 1, v, h => by
    simp [ev_in] at h
    exact ev_in_nil n i v h
theorem ev_in_at : ∀ (n : Nat) (as : List Value) (b i : Nat) (v : Value) (ad : Nat → Nat), (ev_in n as)[i]? = some v → v ≠ .null → (b + i, ev_v ad v) ∈ lv_args b (as.map (ev_v ad)) := by
  intro n
  induction n using Nat.strongRecOn with
  | ind n ih =>
    intro as b i v ad h hn
    cases n with
    | zero => simp [ev_in] at h
    | succ n =>
      cases as with
      | nil => exact absurd (ev_in_nil _ _ _ h) hn
      | cons w r =>
        have one : ¬ w.category = 2 → ev_in (n + 1) (w :: r) = w :: ev_in n r → (b + i, ev_v ad v) ∈ lv_args b ((w :: r).map (ev_v ad)) := by
          intro hc he
          rw [he] at h
          rw [List.map_cons]
          unfold lv_args
          cases i with
          | zero =>
            simp at h
            subst h
            exact List.mem_cons_self
          | succ i =>
            have h' : (ev_in n r)[i]? = some v := by simpa using h
            have := ih n (by omega) r (b + 1) i v ad h' hn
            refine List.mem_cons_of_mem _ ?_
            rw [if_neg (by rw [ev_v_cat]; exact hc)]
            rw [show b + (i + 1) = b + 1 + i by omega]
            exact this
        have two : w.category = 2 → (ev_in (n + 1) (w :: r))[0]? = some w → (∀ j, (ev_in (n + 1) (w :: r))[j + 1]? = some v → ∃ k i2, n = k + 1 ∧ j = i2 + 1 ∧ (ev_in k r)[i2]? = some v) → (b + i, ev_v ad v) ∈ lv_args b ((w :: r).map (ev_v ad)) := by
          intro hc h0 h1
          rw [List.map_cons]
          unfold lv_args
          cases i with
          | zero =>
            rw [h0] at h
            cases h
            exact List.mem_cons_self
          | succ i =>
            obtain ⟨k, i2, rfl, rfl, h'⟩ := h1 i h
            have := ih k (by omega) r (b + 2) i2 v ad h' hn
            refine List.mem_cons_of_mem _ ?_
            rw [if_pos (by rw [ev_v_cat]; exact hc)]
            rw [show b + (i2 + 1 + 1) = b + 2 + i2 by omega]
            exact this
        cases w with
        | long x =>
          refine two rfl (by cases n <;> simp [ev_in]) (fun j hj => ?_)
          cases n with
          | zero => simp [ev_in] at hj
          | succ k =>
            cases j with
            | zero => simp [ev_in] at hj; exact absurd hj.symm hn
            | succ i2 => exact ⟨k, i2, rfl, rfl, by simpa [ev_in] using hj⟩
        | double x =>
          refine two rfl (by cases n <;> simp [ev_in]) (fun j hj => ?_)
          cases n with
          | zero => simp [ev_in] at hj
          | succ k =>
            cases j with
            | zero => simp [ev_in] at hj; exact absurd hj.symm hn
            | succ i2 => exact ⟨k, i2, rfl, rfl, by simpa [ev_in] using hj⟩
        | _ => exact one (by simp [Value.category]) (by simp [ev_in])
end
section
/-! the judgement, and each instruction over places -/
def ev_tys (K3 : ev_3) : List (ClassId × FieldType) := [(K3.1, .int), (K3.2.1, .boolean), (K3.2.2, .long)]
def ev_WS (p : Program) (l : Launch) (e : Env) (R : Room) (s : State) (m : MethodId) (args : Array Value) (below : List Frame) (meth : Method) (c : Code) (Q : State → Prop) (nL : Nat) (D : va_G) (cl : List vw_C) (LY : List ev_D) (K3 : ev_3) (ad : Nat → Nat) (A : Nat → Prop) (b0 b1 : Nat) : ev_K := fun pc lv st σ τ n =>
  ∀ (H : Heap) (locs : List Loc) (ls : Array Slot), va_P D cl (ev_lay LY K3 ad σ τ) H → va_S A s.heap H locs → ev_h ad ls nL lv → W p l e R s m args below meth c H locs (b0 + n) (b1 + 6 * n) Q (F0 m pc ls (st.map (ev_v ad)))
/-- a method's walk, seen from inside: the launch, the room, the cells, the words, its code, its locals, its class -/
def ev_X (l : Launch) (R : Room) (LY : List ev_D) (cl : List vw_C) (Ts : List Cond) (cc : ByteArray) (nL : Nat) (own : String) (J : ev_K) : Prop :=
  ∃ (p : Program) (e : Env) (s : State) (m : MethodId) (args : Array Value) (below : List Frame) (meth : Method) (c : Code) (Q : State → Prop) (D : va_G) (K3 : ev_3) (ad : Nat → Nat) (A : Nat → Prop) (b0 b1 : Nat),
    J = ev_WS p l e R s m args below meth c Q nL D cl LY K3 ad A b0 b1 ∧ p.tables.exec = Jvm.exec ∧ c.code = cc ∧ c.maxLocals = nL ∧ s.vm.findClass own = some m.cls ∧ (∀ w ∈ Ts, w.before args s = true) ∧ va_K D cl (ev_tys K3) s ∧ (∀ (σ : ev_M) (τ : ev_L), va_D A (ev_lay LY K3 ad σ τ)) ∧ (∀ q, s.heap.size ≤ q → A q) ∧ b0 ≤ R.cells ∧ b1 ≤ R.slots
def ev_ok (J : ev_K) (pc : Nat) (t : ev_T) : Prop := ∀ (lv st : List Value) (σ : ev_M) (τ : ev_L) (n : Nat) (K : ev_K), t lv st σ τ n K → (∀ (pc' : Nat) (lv' st' : List Value) (σ' : ev_M) (τ' : ev_L) (n' : Nat), K pc' lv' st' σ' τ' n' → J pc' lv' st' σ' τ' n') → J pc lv st σ τ n
def ev_oks (J : ev_K) : List (Nat × ev_T) → Prop
  | [] => True
  | (pc, t) :: r => ev_ok J pc t ∧ ev_oks J r
def ev_at : List (Nat × ev_T) → Nat → (ev_T → Prop) → Prop
  | [], _, _ => False
  | (a, t) :: r, pc, k => cond (Nat.beq a pc) (k t) (ev_at r pc k)
def ev_cut : List Nat → Nat → Prop → Prop → Prop
  | [], _, _, q => q
  | a :: r, pc, x, q => cond (Nat.beq a pc) x (ev_cut r pc x q)
def ev_wp (I : List (Nat × ev_T)) (cut : List Nat) : Nat → Nat → List Value → List Value → ev_M → ev_L → Nat → ev_K → Prop
  | 0, _, _, _, _, _, _, _ => False
  | f + 1, pc, lv, st, σ, τ, n, K => ev_at I pc (fun t => t lv st σ τ n (fun pc' lv' st' σ' τ' n' => ev_cut cut pc' (K pc' lv' st' σ' τ' n') (ev_wp I cut f pc' lv' st' σ' τ' n' K)))
theorem ev_at_ok {J : ev_K} : ∀ {I : List (Nat × ev_T)} {pc : Nat} {k : ev_T → Prop}, ev_oks J I → ev_at I pc k → ∃ t, ev_ok J pc t ∧ k t
  | [], _, _, _, h => h.elim
  | (a, t) :: r, pc, k, ho, h => by
    unfold ev_at at h
    cases hb : Nat.beq a pc with
    | true =>
      rw [hb] at h
      have : a = pc := Nat.eq_of_beq_eq_true hb
      subst this
      exact ⟨t, ho.1, h⟩
    | false =>
      rw [hb] at h
      exact ev_at_ok ho.2 h
theorem ev_cut_or : ∀ {cut : List Nat} {pc : Nat} {x q : Prop}, ev_cut cut pc x q → x ∨ q
  | [], _, _, _, h => Or.inr h
  | a :: r, pc, x, q, h => by
    unfold ev_cut at h
    cases hb : Nat.beq a pc with
    | true => rw [hb] at h; exact Or.inl h
    | false => rw [hb] at h; exact ev_cut_or h
theorem ev_sound {J : ev_K} {I : List (Nat × ev_T)} {cut : List Nat} (ho : ev_oks J I) {K : ev_K} (hK : ∀ (pc' : Nat) (lv' st' : List Value) (σ' : ev_M) (τ' : ev_L) (n' : Nat), K pc' lv' st' σ' τ' n' → J pc' lv' st' σ' τ' n') : ∀ {f pc : Nat} {lv st : List Value} {σ : ev_M} {τ : ev_L} {n : Nat}, ev_wp I cut f pc lv st σ τ n K → J pc lv st σ τ n
  | 0, _, _, _, _, _, _, h => h.elim
  | f + 1, pc, lv, st, σ, τ, n, h => by
    unfold ev_wp at h
    obtain ⟨t, h1, h2⟩ := ev_at_ok ho h
    refine h1 lv st σ τ n _ h2 (fun pc' lv' st' σ' τ' n' h3 => ?_)
    rcases ev_cut_or h3 with h4 | h4
    · exact hK _ _ _ _ _ _ h4
    · exact ev_sound ho hK h4
/-- loops: an invariant at the cut points, and a measure that falls -/
theorem ev_loop {J : ev_K} {I : List (Nat × ev_T)} {cut : List Nat} (ho : ev_oks J I) (f : Nat) (Inv : Nat → ev_K)
    (hs : ∀ (μ pc : Nat) (lv st : List Value) (σ : ev_M) (τ : ev_L) (n : Nat), Inv μ pc lv st σ τ n → ev_wp I cut f pc lv st σ τ n (fun pc' lv' st' σ' τ' n' => ∃ μ', μ' < μ ∧ Inv μ' pc' lv' st' σ' τ' n')) : ∀ (μ pc : Nat) (lv st : List Value) (σ : ev_M) (τ : ev_L) (n : Nat), Inv μ pc lv st σ τ n → J pc lv st σ τ n := by
  intro μ
  induction μ using Nat.strongRecOn with
  | ind μ ih =>
    intro pc lv st σ τ n h
    exact ev_sound ho (fun pc' lv' st' σ' τ' n' ⟨μ', h1, h2⟩ => ih μ' h1 pc' lv' st' σ' τ' n' h2) (hs μ pc lv st σ τ n h)
section EV
variable {l : Launch} {R : Room} {LY : List ev_D} {cl : List vw_C} {Ts : List Cond} {cc : ByteArray} {nL : Nat} {own : String} {J : ev_K} {pc : Nat}

def tt_k (x : Int32) (nx : Nat) : ev_T := fun lv st σ τ n K => K nx lv (.int x :: st) σ τ n
theorem qq_ic (X : ev_X l R LY cl Ts cc nL own J) {z : Int} (x : Int32) (hx9 : Int32.ofInt z = x) (d : decode cc pc = .ok (.iconst z, 1)) : ev_ok J pc (tt_k x (pc + 1)) := by
  obtain ⟨p, e, s, m, args, below, meth, c, Q, D, K3, ad, A, b0, b1, rfl, hx, hb, hml, hown, hts, hK, hD, hA, hc0, hc1⟩ := X
  intro lv st σ τ n K h hK2 H locs ls hP hS hL
  refine lv_iconst hx hb d hx9 ?_
  exact hK2 _ _ _ _ _ _ h H locs ls hP hS hL
theorem qq_bp (X : ev_X l R LY cl Ts cc nL own J) {z : Int} (x : Int32) (hx9 : (Int8.ofInt z).toInt32 = x) (d : decode cc pc = .ok (.bipush z, 2)) : ev_ok J pc (tt_k x (pc + 2)) := by
  obtain ⟨p, e, s, m, args, below, meth, c, Q, D, K3, ad, A, b0, b1, rfl, hx, hb, hml, hown, hts, hK, hD, hA, hc0, hc1⟩ := X
  intro lv st σ τ n K h hK2 H locs ls hP hS hL
  refine lv_bipush hx hb d hx9 ?_
  exact hK2 _ _ _ _ _ _ h H locs ls hP hS hL
theorem qq_sp (X : ev_X l R LY cl Ts cc nL own J) {z : Int} (x : Int32) (hx9 : (Int16.ofInt z).toInt32 = x) (d : decode cc pc = .ok (.sipush z, 3)) : ev_ok J pc (tt_k x (pc + 3)) := by
  obtain ⟨p, e, s, m, args, below, meth, c, Q, D, K3, ad, A, b0, b1, rfl, hx, hb, hml, hown, hts, hK, hD, hA, hc0, hc1⟩ := X
  intro lv st σ τ n K h hK2 H locs ls hP hS hL
  refine lv_sipush hx hb d hx9 ?_
  exact hK2 _ _ _ _ _ _ h H locs ls hP hS hL
def tt_lk (x : Int64) (nx : Nat) : ev_T := fun lv st σ τ n K => K nx lv (.long x :: st) σ τ n
theorem qq_lc (X : ev_X l R LY cl Ts cc nL own J) {z : Fin 2} (x : Int64) (hx9 : Int64.ofNat (z : Nat) = x) (d : decode cc pc = .ok (.lconst z, 1)) : ev_ok J pc (tt_lk x (pc + 1)) := by
  obtain ⟨p, e, s, m, args, below, meth, c, Q, D, K3, ad, A, b0, b1, rfl, hx, hb, hml, hown, hts, hK, hD, hA, hc0, hc1⟩ := X
  intro lv st σ τ n K h hK2 H locs ls hP hS hL
  refine lv_lconst hx hb d hx9 ?_
  exact hK2 _ _ _ _ _ _ h H locs ls hP hS hL
def tt_il (i nx : Nat) : ev_T := fun lv st σ τ n K => match ev_nth lv i with
  | .int x => K nx lv (.int x :: st) σ τ n
  | _ => False
theorem qq_iln (X : ev_X l R LY cl Ts cc nL own J) {k : Fin 4} (i : Nat) (hi : (k : Nat) = i) (d : decode cc pc = .ok (.iload_n k, 1)) : ev_ok J pc (tt_il i (pc + 1)) := by
  obtain ⟨p, e, s, m, args, below, meth, c, Q, D, K3, ad, A, b0, b1, rfl, hx, hb, hml, hown, hts, hK, hD, hA, hc0, hc1⟩ := X
  intro lv st σ τ n K h hK2 H locs ls hP hS hL
  unfold tt_il at h
  split at h
  · rename_i x hv
    refine lv_iload_n hx hb d hi (ev_h_at hL hv (by intro q; cases q)) ?_
    exact hK2 _ _ _ _ _ _ h H locs ls hP hS hL
  · exact h.elim
theorem qq_il (X : ev_X l R LY cl Ts cc nL own J) (i : Nat) (d : decode cc pc = .ok (.iload i, 2)) : ev_ok J pc (tt_il i (pc + 2)) := by
  obtain ⟨p, e, s, m, args, below, meth, c, Q, D, K3, ad, A, b0, b1, rfl, hx, hb, hml, hown, hts, hK, hD, hA, hc0, hc1⟩ := X
  intro lv st σ τ n K h hK2 H locs ls hP hS hL
  unfold tt_il at h
  split at h
  · rename_i x hv
    refine lv_iload hx hb d (ev_h_at hL hv (by intro q; cases q)) ?_
    exact hK2 _ _ _ _ _ _ h H locs ls hP hS hL
  · exact h.elim
def tt_al (i nx : Nat) : ev_T := fun lv st σ τ n K => match ev_nth lv i with
  | .ref x => K nx lv (.ref x :: st) σ τ n
  | _ => False
theorem qq_aln (X : ev_X l R LY cl Ts cc nL own J) {k : Fin 4} (i : Nat) (hi : (k : Nat) = i) (d : decode cc pc = .ok (.aload_n k, 1)) : ev_ok J pc (tt_al i (pc + 1)) := by
  obtain ⟨p, e, s, m, args, below, meth, c, Q, D, K3, ad, A, b0, b1, rfl, hx, hb, hml, hown, hts, hK, hD, hA, hc0, hc1⟩ := X
  intro lv st σ τ n K h hK2 H locs ls hP hS hL
  unfold tt_al at h
  split at h
  · rename_i x hv
    refine lv_aload_n hx hb d hi (ev_h_at hL hv (by intro q; cases q)) ?_
    exact hK2 _ _ _ _ _ _ h H locs ls hP hS hL
  · exact h.elim
theorem qq_al (X : ev_X l R LY cl Ts cc nL own J) (i : Nat) (d : decode cc pc = .ok (.aload i, 2)) : ev_ok J pc (tt_al i (pc + 2)) := by
  obtain ⟨p, e, s, m, args, below, meth, c, Q, D, K3, ad, A, b0, b1, rfl, hx, hb, hml, hown, hts, hK, hD, hA, hc0, hc1⟩ := X
  intro lv st σ τ n K h hK2 H locs ls hP hS hL
  unfold tt_al at h
  split at h
  · rename_i x hv
    refine lv_aload hx hb d (ev_h_at hL hv (by intro q; cases q)) ?_
    exact hK2 _ _ _ _ _ _ h H locs ls hP hS hL
  · exact h.elim
def tt_ll (i nx : Nat) : ev_T := fun lv st σ τ n K => match ev_nth lv i with
  | .long x => K nx lv (.long x :: st) σ τ n
  | _ => False
theorem qq_lln (X : ev_X l R LY cl Ts cc nL own J) {k : Fin 4} (i : Nat) (hi : (k : Nat) = i) (d : decode cc pc = .ok (.lload_n k, 1)) : ev_ok J pc (tt_ll i (pc + 1)) := by
  obtain ⟨p, e, s, m, args, below, meth, c, Q, D, K3, ad, A, b0, b1, rfl, hx, hb, hml, hown, hts, hK, hD, hA, hc0, hc1⟩ := X
  intro lv st σ τ n K h hK2 H locs ls hP hS hL
  unfold tt_ll at h
  split at h
  · rename_i x hv
    refine lv_lload_n hx hb d hi (ev_h_at hL hv (by intro q; cases q)) ?_
    exact hK2 _ _ _ _ _ _ h H locs ls hP hS hL
  · exact h.elim
theorem qq_ll (X : ev_X l R LY cl Ts cc nL own J) (i : Nat) (d : decode cc pc = .ok (.lload i, 2)) : ev_ok J pc (tt_ll i (pc + 2)) := by
  obtain ⟨p, e, s, m, args, below, meth, c, Q, D, K3, ad, A, b0, b1, rfl, hx, hb, hml, hown, hts, hK, hD, hA, hc0, hc1⟩ := X
  intro lv st σ τ n K h hK2 H locs ls hP hS hL
  unfold tt_ll at h
  split at h
  · rename_i x hv
    refine lv_lload hx hb d (ev_h_at hL hv (by intro q; cases q)) ?_
    exact hK2 _ _ _ _ _ _ h H locs ls hP hS hL
  · exact h.elim
def tt_is (i nx : Nat) : ev_T := fun lv st σ τ n K => match st with
  | .int x :: r => ev_st lv i (ev_setK lv i (.int x) (fun lv' => K nx lv' r σ τ n))
  | _ => False
theorem qq_isn (X : ev_X l R LY cl Ts cc nL own J) {k : Fin 4} (i : Nat) (hi : (k : Nat) = i) (hn : i < nL) (d : decode cc pc = .ok (.istore_n k, 1)) : ev_ok J pc (tt_is i (pc + 1)) := by
  obtain ⟨p, e, s, m, args, below, meth, c, Q, D, K3, ad, A, b0, b1, rfl, hx, hb, hml, hown, hts, hK, hD, hA, hc0, hc1⟩ := X
  intro lv st σ τ n K h hK2 H locs ls hP hS hL
  unfold tt_is at h
  split at h
  · rename_i x r
    obtain ⟨h, hst⟩ := ev_st_k h
    rw [ev_setK_eq] at h
    refine lv_istore_n hx hb d hi hL hn rfl (fun ls' hL' => ?_)
    exact hK2 _ _ _ _ _ _ h H locs ls' hP hS (ev_h_set1 (v := .int x) hst hL')
  · exact h.elim
theorem qq_is (X : ev_X l R LY cl Ts cc nL own J) (i : Nat) (hn : i < nL) (d : decode cc pc = .ok (.istore i, 2)) : ev_ok J pc (tt_is i (pc + 2)) := by
  obtain ⟨p, e, s, m, args, below, meth, c, Q, D, K3, ad, A, b0, b1, rfl, hx, hb, hml, hown, hts, hK, hD, hA, hc0, hc1⟩ := X
  intro lv st σ τ n K h hK2 H locs ls hP hS hL
  unfold tt_is at h
  split at h
  · rename_i x r
    obtain ⟨h, hst⟩ := ev_st_k h
    rw [ev_setK_eq] at h
    refine lv_istore hx hb d hL hn rfl (fun ls' hL' => ?_)
    exact hK2 _ _ _ _ _ _ h H locs ls' hP hS (ev_h_set1 (v := .int x) hst hL')
  · exact h.elim
def tt_as (i nx : Nat) : ev_T := fun lv st σ τ n K => match st with
  | .ref x :: r => ev_st lv i (ev_setK lv i (.ref x) (fun lv' => K nx lv' r σ τ n))
  | _ => False
theorem qq_asn (X : ev_X l R LY cl Ts cc nL own J) {k : Fin 4} (i : Nat) (hi : (k : Nat) = i) (hn : i < nL) (d : decode cc pc = .ok (.astore_n k, 1)) : ev_ok J pc (tt_as i (pc + 1)) := by
  obtain ⟨p, e, s, m, args, below, meth, c, Q, D, K3, ad, A, b0, b1, rfl, hx, hb, hml, hown, hts, hK, hD, hA, hc0, hc1⟩ := X
  intro lv st σ τ n K h hK2 H locs ls hP hS hL
  unfold tt_as at h
  split at h
  · rename_i x r
    obtain ⟨h, hst⟩ := ev_st_k h
    rw [ev_setK_eq] at h
    refine lv_astore_n hx hb d hi hL hn rfl (fun ls' hL' => ?_)
    exact hK2 _ _ _ _ _ _ h H locs ls' hP hS (ev_h_set1 (v := .ref x) hst hL')
  · exact h.elim
theorem qq_as (X : ev_X l R LY cl Ts cc nL own J) (i : Nat) (hn : i < nL) (d : decode cc pc = .ok (.astore i, 2)) : ev_ok J pc (tt_as i (pc + 2)) := by
  obtain ⟨p, e, s, m, args, below, meth, c, Q, D, K3, ad, A, b0, b1, rfl, hx, hb, hml, hown, hts, hK, hD, hA, hc0, hc1⟩ := X
  intro lv st σ τ n K h hK2 H locs ls hP hS hL
  unfold tt_as at h
  split at h
  · rename_i x r
    obtain ⟨h, hst⟩ := ev_st_k h
    rw [ev_setK_eq] at h
    refine lv_astore hx hb d hL hn rfl (fun ls' hL' => ?_)
    exact hK2 _ _ _ _ _ _ h H locs ls' hP hS (ev_h_set1 (v := .ref x) hst hL')
  · exact h.elim
def tt_ls (i nx : Nat) : ev_T := fun lv st σ τ n K => match st with
  | .long x :: r => ev_st lv i (ev_setK lv i (.long x) (fun lv' => ev_setK lv' (i + 1) .null (fun lv'' => K nx lv'' r σ τ n)))
  | _ => False
theorem qq_lsn (X : ev_X l R LY cl Ts cc nL own J) {k : Fin 4} (i : Nat) (hi : (k : Nat) = i) (hn : i + 1 < nL) (d : decode cc pc = .ok (.lstore_n k, 1)) : ev_ok J pc (tt_ls i (pc + 1)) := by
  obtain ⟨p, e, s, m, args, below, meth, c, Q, D, K3, ad, A, b0, b1, rfl, hx, hb, hml, hown, hts, hK, hD, hA, hc0, hc1⟩ := X
  intro lv st σ τ n K h hK2 H locs ls hP hS hL
  unfold tt_ls at h
  split at h
  · rename_i x r
    obtain ⟨h, hst⟩ := ev_st_k h
    rw [ev_setK_eq, ev_setK_eq] at h
    refine lv_lstore_n hx hb d hi hL hn rfl (fun ls' hL' => ?_)
    exact hK2 _ _ _ _ _ _ h H locs ls' hP hS (ev_h_set2 (v := .long x) hst hL')
  · exact h.elim
theorem qq_ls (X : ev_X l R LY cl Ts cc nL own J) (i : Nat) (hn : i + 1 < nL) (d : decode cc pc = .ok (.lstore i, 2)) : ev_ok J pc (tt_ls i (pc + 2)) := by
  obtain ⟨p, e, s, m, args, below, meth, c, Q, D, K3, ad, A, b0, b1, rfl, hx, hb, hml, hown, hts, hK, hD, hA, hc0, hc1⟩ := X
  intro lv st σ τ n K h hK2 H locs ls hP hS hL
  unfold tt_ls at h
  split at h
  · rename_i x r
    obtain ⟨h, hst⟩ := ev_st_k h
    rw [ev_setK_eq, ev_setK_eq] at h
    refine lv_lstore hx hb d hL hn rfl (fun ls' hL' => ?_)
    exact hK2 _ _ _ _ _ _ h H locs ls' hP hS (ev_h_set2 (v := .long x) hst hL')
  · exact h.elim
def tt_ii (i : Nat) (z : Int32) (nx : Nat) : ev_T := fun lv st σ τ n K => match ev_nth lv i with
  | .int x => ev_st lv i (ev_setK lv i (.int (x + z)) (fun lv' => K nx lv' st σ τ n))
  | _ => False
theorem qq_ii (X : ev_X l R LY cl Ts cc nL own J) (i : Nat) {y : Int} (z : Int32) (hz : Int32.ofInt y = z) (hn : i < nL) (d : decode cc pc = .ok (.iinc i y, 3)) : ev_ok J pc (tt_ii i z (pc + 3)) := by
  obtain ⟨p, e, s, m, args, below, meth, c, Q, D, K3, ad, A, b0, b1, rfl, hx, hb, hml, hown, hts, hK, hD, hA, hc0, hc1⟩ := X
  intro lv st σ τ n K h hK2 H locs ls hP hS hL
  unfold tt_ii at h
  split at h
  · rename_i x hv
    obtain ⟨h, hst⟩ := ev_st_k h
    rw [ev_setK_eq] at h
    have hm : (i, Value.int x) ∈ ev_ps ad lv := ev_ps_mem.mpr ⟨.int x, ev_nth_get hv (by intro q; cases q), (by intro q; cases q), rfl⟩
    obtain ⟨k, hk⟩ := List.getElem?_of_mem hm
    refine lv_iinc hx hb d hL hk (by rw [hz]) hn rfl (fun ls' hL' => ?_)
    exact hK2 _ _ _ _ _ _ h H locs ls' hP hS (ev_h_set1 (v := .int (x + z)) hst hL')
  · exact h.elim
def tt_iadd (nx : Nat) : ev_T := fun lv st σ τ n K => match st with
  | .int y :: .int x :: r => K nx lv (.int (x + y) :: r) σ τ n
  | _ => False
theorem qq_iadd (X : ev_X l R LY cl Ts cc nL own J) (d : decode cc pc = .ok (.iadd, 1)) : ev_ok J pc (tt_iadd (pc + 1)) := by
  obtain ⟨p, e, s, m, args, below, meth, c, Q, D, K3, ad, A, b0, b1, rfl, hx, hb, hml, hown, hts, hK, hD, hA, hc0, hc1⟩ := X
  intro lv st σ τ n K h hK2 H locs ls hP hS hL
  unfold tt_iadd at h
  split at h
  · refine lv_iadd hx hb d ?_
    exact hK2 _ _ _ _ _ _ h H locs ls hP hS hL
  · exact h.elim
def tt_isub (nx : Nat) : ev_T := fun lv st σ τ n K => match st with
  | .int y :: .int x :: r => K nx lv (.int (x - y) :: r) σ τ n
  | _ => False
theorem qq_isub (X : ev_X l R LY cl Ts cc nL own J) (d : decode cc pc = .ok (.isub, 1)) : ev_ok J pc (tt_isub (pc + 1)) := by
  obtain ⟨p, e, s, m, args, below, meth, c, Q, D, K3, ad, A, b0, b1, rfl, hx, hb, hml, hown, hts, hK, hD, hA, hc0, hc1⟩ := X
  intro lv st σ τ n K h hK2 H locs ls hP hS hL
  unfold tt_isub at h
  split at h
  · refine lv_isub hx hb d ?_
    exact hK2 _ _ _ _ _ _ h H locs ls hP hS hL
  · exact h.elim
def tt_imul (nx : Nat) : ev_T := fun lv st σ τ n K => match st with
  | .int y :: .int x :: r => K nx lv (.int (x * y) :: r) σ τ n
  | _ => False
theorem qq_imul (X : ev_X l R LY cl Ts cc nL own J) (d : decode cc pc = .ok (.imul, 1)) : ev_ok J pc (tt_imul (pc + 1)) := by
  obtain ⟨p, e, s, m, args, below, meth, c, Q, D, K3, ad, A, b0, b1, rfl, hx, hb, hml, hown, hts, hK, hD, hA, hc0, hc1⟩ := X
  intro lv st σ τ n K h hK2 H locs ls hP hS hL
  unfold tt_imul at h
  split at h
  · refine lv_imul hx hb d ?_
    exact hK2 _ _ _ _ _ _ h H locs ls hP hS hL
  · exact h.elim
def tt_iand (nx : Nat) : ev_T := fun lv st σ τ n K => match st with
  | .int y :: .int x :: r => K nx lv (.int (x &&& y) :: r) σ τ n
  | _ => False
theorem qq_iand (X : ev_X l R LY cl Ts cc nL own J) (d : decode cc pc = .ok (.iand, 1)) : ev_ok J pc (tt_iand (pc + 1)) := by
  obtain ⟨p, e, s, m, args, below, meth, c, Q, D, K3, ad, A, b0, b1, rfl, hx, hb, hml, hown, hts, hK, hD, hA, hc0, hc1⟩ := X
  intro lv st σ τ n K h hK2 H locs ls hP hS hL
  unfold tt_iand at h
  split at h
  · refine lv_iand hx hb d ?_
    exact hK2 _ _ _ _ _ _ h H locs ls hP hS hL
  · exact h.elim
def tt_ior (nx : Nat) : ev_T := fun lv st σ τ n K => match st with
  | .int y :: .int x :: r => K nx lv (.int (x ||| y) :: r) σ τ n
  | _ => False
theorem qq_ior (X : ev_X l R LY cl Ts cc nL own J) (d : decode cc pc = .ok (.ior, 1)) : ev_ok J pc (tt_ior (pc + 1)) := by
  obtain ⟨p, e, s, m, args, below, meth, c, Q, D, K3, ad, A, b0, b1, rfl, hx, hb, hml, hown, hts, hK, hD, hA, hc0, hc1⟩ := X
  intro lv st σ τ n K h hK2 H locs ls hP hS hL
  unfold tt_ior at h
  split at h
  · refine lv_ior hx hb d ?_
    exact hK2 _ _ _ _ _ _ h H locs ls hP hS hL
  · exact h.elim
def tt_ishr (nx : Nat) : ev_T := fun lv st σ τ n K => match st with
  | .int y :: .int x :: r => K nx lv (.int (x >>> (y &&& 31)) :: r) σ τ n
  | _ => False
theorem qq_ishr (X : ev_X l R LY cl Ts cc nL own J) (d : decode cc pc = .ok (.ishr, 1)) : ev_ok J pc (tt_ishr (pc + 1)) := by
  obtain ⟨p, e, s, m, args, below, meth, c, Q, D, K3, ad, A, b0, b1, rfl, hx, hb, hml, hown, hts, hK, hD, hA, hc0, hc1⟩ := X
  intro lv st σ τ n K h hK2 H locs ls hP hS hL
  unfold tt_ishr at h
  split at h
  · refine lv_ishr hx hb d ?_
    exact hK2 _ _ _ _ _ _ h H locs ls hP hS hL
  · exact h.elim
def tt_ishl (nx : Nat) : ev_T := fun lv st σ τ n K => match st with
  | .int y :: .int x :: r => K nx lv (.int (x <<< (y &&& 31)) :: r) σ τ n
  | _ => False
theorem qq_ishl (X : ev_X l R LY cl Ts cc nL own J) (d : decode cc pc = .ok (.ishl, 1)) : ev_ok J pc (tt_ishl (pc + 1)) := by
  obtain ⟨p, e, s, m, args, below, meth, c, Q, D, K3, ad, A, b0, b1, rfl, hx, hb, hml, hown, hts, hK, hD, hA, hc0, hc1⟩ := X
  intro lv st σ τ n K h hK2 H locs ls hP hS hL
  unfold tt_ishl at h
  split at h
  · refine lv_ishl hx hb d ?_
    exact hK2 _ _ _ _ _ _ h H locs ls hP hS hL
  · exact h.elim
def tt_irem (nx : Nat) : ev_T := fun lv st σ τ n K => match st with
  | .int y :: .int x :: r => (¬ y = 0) ∧ K nx lv (.int (x - x / y * y) :: r) σ τ n
  | _ => False
def tt_ladd (nx : Nat) : ev_T := fun lv st σ τ n K => match st with
  | .long y :: .long x :: r => K nx lv (.long (x + y) :: r) σ τ n
  | _ => False
theorem qq_ladd (X : ev_X l R LY cl Ts cc nL own J) (d : decode cc pc = .ok (.ladd, 1)) : ev_ok J pc (tt_ladd (pc + 1)) := by
  obtain ⟨p, e, s, m, args, below, meth, c, Q, D, K3, ad, A, b0, b1, rfl, hx, hb, hml, hown, hts, hK, hD, hA, hc0, hc1⟩ := X
  intro lv st σ τ n K h hK2 H locs ls hP hS hL
  unfold tt_ladd at h
  split at h
  · refine lv_ladd hx hb d ?_
    exact hK2 _ _ _ _ _ _ h H locs ls hP hS hL
  · exact h.elim
def tt_i2b (nx : Nat) : ev_T := fun lv st σ τ n K => match st with
  | .int x :: r => K nx lv (.int (x.toInt8.toInt32) :: r) σ τ n
  | _ => False
theorem qq_i2b (X : ev_X l R LY cl Ts cc nL own J) (d : decode cc pc = .ok (.i2b, 1)) : ev_ok J pc (tt_i2b (pc + 1)) := by
  obtain ⟨p, e, s, m, args, below, meth, c, Q, D, K3, ad, A, b0, b1, rfl, hx, hb, hml, hown, hts, hK, hD, hA, hc0, hc1⟩ := X
  intro lv st σ τ n K h hK2 H locs ls hP hS hL
  unfold tt_i2b at h
  split at h
  · refine lv_i2b hx hb d rfl ?_
    exact hK2 _ _ _ _ _ _ h H locs ls hP hS hL
  · exact h.elim
def tt_i2l (nx : Nat) : ev_T := fun lv st σ τ n K => match st with
  | .int x :: r => K nx lv (.long (x.toInt64) :: r) σ τ n
  | _ => False
theorem qq_i2l (X : ev_X l R LY cl Ts cc nL own J) (d : decode cc pc = .ok (.i2l, 1)) : ev_ok J pc (tt_i2l (pc + 1)) := by
  obtain ⟨p, e, s, m, args, below, meth, c, Q, D, K3, ad, A, b0, b1, rfl, hx, hb, hml, hown, hts, hK, hD, hA, hc0, hc1⟩ := X
  intro lv st σ τ n K h hK2 H locs ls hP hS hL
  unfold tt_i2l at h
  split at h
  · refine lv_i2l hx hb d rfl ?_
    exact hK2 _ _ _ _ _ _ h H locs ls hP hS hL
  · exact h.elim
def tt_dup (nx : Nat) : ev_T := fun lv st σ τ n K => match st with
  | .int x :: r => K nx lv (.int x :: .int x :: r) σ τ n
  | .ref x :: r => K nx lv (.ref x :: .ref x :: r) σ τ n
  | _ => False
theorem qq_dup (X : ev_X l R LY cl Ts cc nL own J) (d : decode cc pc = .ok (.dup, 1)) : ev_ok J pc (tt_dup (pc + 1)) := by
  obtain ⟨p, e, s, m, args, below, meth, c, Q, D, K3, ad, A, b0, b1, rfl, hx, hb, hml, hown, hts, hK, hD, hA, hc0, hc1⟩ := X
  intro lv st σ τ n K h hK2 H locs ls hP hS hL
  unfold tt_dup at h
  split at h
  · refine lv_dup hx hb d rfl ?_
    exact hK2 _ _ _ _ _ _ h H locs ls hP hS hL
  · refine lv_dup hx hb d rfl ?_
    exact hK2 _ _ _ _ _ _ h H locs ls hP hS hL
  · exact h.elim
def tt_pop (nx : Nat) : ev_T := fun lv st σ τ n K => match st with
  | .int _ :: r => K nx lv r σ τ n
  | .ref _ :: r => K nx lv r σ τ n
  | _ => False
theorem qq_pop (X : ev_X l R LY cl Ts cc nL own J) (d : decode cc pc = .ok (.pop, 1)) : ev_ok J pc (tt_pop (pc + 1)) := by
  obtain ⟨p, e, s, m, args, below, meth, c, Q, D, K3, ad, A, b0, b1, rfl, hx, hb, hml, hown, hts, hK, hD, hA, hc0, hc1⟩ := X
  intro lv st σ τ n K h hK2 H locs ls hP hS hL
  unfold tt_pop at h
  split at h
  · refine lv_pop hx hb d rfl ?_
    exact hK2 _ _ _ _ _ _ h H locs ls hP hS hL
  · refine lv_pop hx hb d rfl ?_
    exact hK2 _ _ _ _ _ _ h H locs ls hP hS hL
  · exact h.elim
def tt_dup2 (nx : Nat) : ev_T := fun lv st σ τ n K => match st with
  | .int x :: .ref y :: r => K nx lv (.int x :: .ref y :: .int x :: .ref y :: r) σ τ n
  | .int x :: .int y :: r => K nx lv (.int x :: .int y :: .int x :: .int y :: r) σ τ n
  | _ => False
theorem qq_dup2 (X : ev_X l R LY cl Ts cc nL own J) (d : decode cc pc = .ok (.dup2, 1)) : ev_ok J pc (tt_dup2 (pc + 1)) := by
  obtain ⟨p, e, s, m, args, below, meth, c, Q, D, K3, ad, A, b0, b1, rfl, hx, hb, hml, hown, hts, hK, hD, hA, hc0, hc1⟩ := X
  intro lv st σ τ n K h hK2 H locs ls hP hS hL
  unfold tt_dup2 at h
  split at h
  · refine lv_dup2_11 hx hb d rfl rfl ?_
    exact hK2 _ _ _ _ _ _ h H locs ls hP hS hL
  · refine lv_dup2_11 hx hb d rfl rfl ?_
    exact hK2 _ _ _ _ _ _ h H locs ls hP hS hL
  · exact h.elim
def tt_ifeq (tgt nx : Nat) : ev_T := fun lv st σ τ n K => match st with
  | .int x :: r => (x = 0 → K tgt lv r σ τ n) ∧ (¬ x = 0 → K nx lv r σ τ n)
  | _ => False
theorem qq_ifeq (X : ev_X l R LY cl Ts cc nL own J) {off : Int} (tgt : Nat) (ht : (pc : Int) + off = (tgt : Int)) (d : decode cc pc = .ok (.ifCond .eq off, 3)) : ev_ok J pc (tt_ifeq tgt (pc + 3)) := by
  obtain ⟨p, e, s, m, args, below, meth, c, Q, D, K3, ad, A, b0, b1, rfl, hx, hb, hml, hown, hts, hK, hD, hA, hc0, hc1⟩ := X
  intro lv st σ τ n K h hK2 H locs ls hP hS hL
  unfold tt_ifeq at h
  split at h
  · exact lv_if_eq hx hb d ht (fun q => hK2 _ _ _ _ _ _ (h.1 q) H locs ls hP hS hL) (fun q => hK2 _ _ _ _ _ _ (h.2 q) H locs ls hP hS hL)
  · exact h.elim
def tt_iceq (tgt nx : Nat) : ev_T := fun lv st σ τ n K => match st with
  | .int y :: .int x :: r => (x = y → K tgt lv r σ τ n) ∧ (¬ x = y → K nx lv r σ τ n)
  | _ => False
theorem qq_iceq (X : ev_X l R LY cl Ts cc nL own J) {off : Int} (tgt : Nat) (ht : (pc : Int) + off = (tgt : Int)) (d : decode cc pc = .ok (.if_icmp .eq off, 3)) : ev_ok J pc (tt_iceq tgt (pc + 3)) := by
  obtain ⟨p, e, s, m, args, below, meth, c, Q, D, K3, ad, A, b0, b1, rfl, hx, hb, hml, hown, hts, hK, hD, hA, hc0, hc1⟩ := X
  intro lv st σ τ n K h hK2 H locs ls hP hS hL
  unfold tt_iceq at h
  split at h
  · exact lv_icmp_eq hx hb d ht (fun q => hK2 _ _ _ _ _ _ (h.1 q) H locs ls hP hS hL) (fun q => hK2 _ _ _ _ _ _ (h.2 q) H locs ls hP hS hL)
  · exact h.elim
def tt_ifne (tgt nx : Nat) : ev_T := fun lv st σ τ n K => match st with
  | .int x :: r => (¬ x = 0 → K tgt lv r σ τ n) ∧ (x = 0 → K nx lv r σ τ n)
  | _ => False
theorem qq_ifne (X : ev_X l R LY cl Ts cc nL own J) {off : Int} (tgt : Nat) (ht : (pc : Int) + off = (tgt : Int)) (d : decode cc pc = .ok (.ifCond .ne off, 3)) : ev_ok J pc (tt_ifne tgt (pc + 3)) := by
  obtain ⟨p, e, s, m, args, below, meth, c, Q, D, K3, ad, A, b0, b1, rfl, hx, hb, hml, hown, hts, hK, hD, hA, hc0, hc1⟩ := X
  intro lv st σ τ n K h hK2 H locs ls hP hS hL
  unfold tt_ifne at h
  split at h
  · exact lv_if_ne hx hb d ht (fun q => hK2 _ _ _ _ _ _ (h.1 q) H locs ls hP hS hL) (fun q => hK2 _ _ _ _ _ _ (h.2 q) H locs ls hP hS hL)
  · exact h.elim
def tt_icne (tgt nx : Nat) : ev_T := fun lv st σ τ n K => match st with
  | .int y :: .int x :: r => (¬ x = y → K tgt lv r σ τ n) ∧ (x = y → K nx lv r σ τ n)
  | _ => False
theorem qq_icne (X : ev_X l R LY cl Ts cc nL own J) {off : Int} (tgt : Nat) (ht : (pc : Int) + off = (tgt : Int)) (d : decode cc pc = .ok (.if_icmp .ne off, 3)) : ev_ok J pc (tt_icne tgt (pc + 3)) := by
  obtain ⟨p, e, s, m, args, below, meth, c, Q, D, K3, ad, A, b0, b1, rfl, hx, hb, hml, hown, hts, hK, hD, hA, hc0, hc1⟩ := X
  intro lv st σ τ n K h hK2 H locs ls hP hS hL
  unfold tt_icne at h
  split at h
  · exact lv_icmp_ne hx hb d ht (fun q => hK2 _ _ _ _ _ _ (h.1 q) H locs ls hP hS hL) (fun q => hK2 _ _ _ _ _ _ (h.2 q) H locs ls hP hS hL)
  · exact h.elim
def tt_iflt (tgt nx : Nat) : ev_T := fun lv st σ τ n K => match st with
  | .int x :: r => (x < 0 → K tgt lv r σ τ n) ∧ (¬ x < 0 → K nx lv r σ τ n)
  | _ => False
theorem qq_iflt (X : ev_X l R LY cl Ts cc nL own J) {off : Int} (tgt : Nat) (ht : (pc : Int) + off = (tgt : Int)) (d : decode cc pc = .ok (.ifCond .lt off, 3)) : ev_ok J pc (tt_iflt tgt (pc + 3)) := by
  obtain ⟨p, e, s, m, args, below, meth, c, Q, D, K3, ad, A, b0, b1, rfl, hx, hb, hml, hown, hts, hK, hD, hA, hc0, hc1⟩ := X
  intro lv st σ τ n K h hK2 H locs ls hP hS hL
  unfold tt_iflt at h
  split at h
  · exact lv_if_lt hx hb d ht (fun q => hK2 _ _ _ _ _ _ (h.1 q) H locs ls hP hS hL) (fun q => hK2 _ _ _ _ _ _ (h.2 q) H locs ls hP hS hL)
  · exact h.elim
def tt_iclt (tgt nx : Nat) : ev_T := fun lv st σ τ n K => match st with
  | .int y :: .int x :: r => (x < y → K tgt lv r σ τ n) ∧ (¬ x < y → K nx lv r σ τ n)
  | _ => False
theorem qq_iclt (X : ev_X l R LY cl Ts cc nL own J) {off : Int} (tgt : Nat) (ht : (pc : Int) + off = (tgt : Int)) (d : decode cc pc = .ok (.if_icmp .lt off, 3)) : ev_ok J pc (tt_iclt tgt (pc + 3)) := by
  obtain ⟨p, e, s, m, args, below, meth, c, Q, D, K3, ad, A, b0, b1, rfl, hx, hb, hml, hown, hts, hK, hD, hA, hc0, hc1⟩ := X
  intro lv st σ τ n K h hK2 H locs ls hP hS hL
  unfold tt_iclt at h
  split at h
  · exact lv_icmp_lt hx hb d ht (fun q => hK2 _ _ _ _ _ _ (h.1 q) H locs ls hP hS hL) (fun q => hK2 _ _ _ _ _ _ (h.2 q) H locs ls hP hS hL)
  · exact h.elim
def tt_ifge (tgt nx : Nat) : ev_T := fun lv st σ τ n K => match st with
  | .int x :: r => (0 ≤ x → K tgt lv r σ τ n) ∧ (¬ 0 ≤ x → K nx lv r σ τ n)
  | _ => False
theorem qq_ifge (X : ev_X l R LY cl Ts cc nL own J) {off : Int} (tgt : Nat) (ht : (pc : Int) + off = (tgt : Int)) (d : decode cc pc = .ok (.ifCond .ge off, 3)) : ev_ok J pc (tt_ifge tgt (pc + 3)) := by
  obtain ⟨p, e, s, m, args, below, meth, c, Q, D, K3, ad, A, b0, b1, rfl, hx, hb, hml, hown, hts, hK, hD, hA, hc0, hc1⟩ := X
  intro lv st σ τ n K h hK2 H locs ls hP hS hL
  unfold tt_ifge at h
  split at h
  · exact lv_if_ge hx hb d ht (fun q => hK2 _ _ _ _ _ _ (h.1 q) H locs ls hP hS hL) (fun q => hK2 _ _ _ _ _ _ (h.2 q) H locs ls hP hS hL)
  · exact h.elim
def tt_icge (tgt nx : Nat) : ev_T := fun lv st σ τ n K => match st with
  | .int y :: .int x :: r => (y ≤ x → K tgt lv r σ τ n) ∧ (¬ y ≤ x → K nx lv r σ τ n)
  | _ => False
theorem qq_icge (X : ev_X l R LY cl Ts cc nL own J) {off : Int} (tgt : Nat) (ht : (pc : Int) + off = (tgt : Int)) (d : decode cc pc = .ok (.if_icmp .ge off, 3)) : ev_ok J pc (tt_icge tgt (pc + 3)) := by
  obtain ⟨p, e, s, m, args, below, meth, c, Q, D, K3, ad, A, b0, b1, rfl, hx, hb, hml, hown, hts, hK, hD, hA, hc0, hc1⟩ := X
  intro lv st σ τ n K h hK2 H locs ls hP hS hL
  unfold tt_icge at h
  split at h
  · exact lv_icmp_ge hx hb d ht (fun q => hK2 _ _ _ _ _ _ (h.1 q) H locs ls hP hS hL) (fun q => hK2 _ _ _ _ _ _ (h.2 q) H locs ls hP hS hL)
  · exact h.elim
def tt_ifgt (tgt nx : Nat) : ev_T := fun lv st σ τ n K => match st with
  | .int x :: r => (0 < x → K tgt lv r σ τ n) ∧ (¬ 0 < x → K nx lv r σ τ n)
  | _ => False
theorem qq_ifgt (X : ev_X l R LY cl Ts cc nL own J) {off : Int} (tgt : Nat) (ht : (pc : Int) + off = (tgt : Int)) (d : decode cc pc = .ok (.ifCond .gt off, 3)) : ev_ok J pc (tt_ifgt tgt (pc + 3)) := by
  obtain ⟨p, e, s, m, args, below, meth, c, Q, D, K3, ad, A, b0, b1, rfl, hx, hb, hml, hown, hts, hK, hD, hA, hc0, hc1⟩ := X
  intro lv st σ τ n K h hK2 H locs ls hP hS hL
  unfold tt_ifgt at h
  split at h
  · exact lv_if_gt hx hb d ht (fun q => hK2 _ _ _ _ _ _ (h.1 q) H locs ls hP hS hL) (fun q => hK2 _ _ _ _ _ _ (h.2 q) H locs ls hP hS hL)
  · exact h.elim
def tt_icgt (tgt nx : Nat) : ev_T := fun lv st σ τ n K => match st with
  | .int y :: .int x :: r => (y < x → K tgt lv r σ τ n) ∧ (¬ y < x → K nx lv r σ τ n)
  | _ => False
theorem qq_icgt (X : ev_X l R LY cl Ts cc nL own J) {off : Int} (tgt : Nat) (ht : (pc : Int) + off = (tgt : Int)) (d : decode cc pc = .ok (.if_icmp .gt off, 3)) : ev_ok J pc (tt_icgt tgt (pc + 3)) := by
  obtain ⟨p, e, s, m, args, below, meth, c, Q, D, K3, ad, A, b0, b1, rfl, hx, hb, hml, hown, hts, hK, hD, hA, hc0, hc1⟩ := X
  intro lv st σ τ n K h hK2 H locs ls hP hS hL
  unfold tt_icgt at h
  split at h
  · exact lv_icmp_gt hx hb d ht (fun q => hK2 _ _ _ _ _ _ (h.1 q) H locs ls hP hS hL) (fun q => hK2 _ _ _ _ _ _ (h.2 q) H locs ls hP hS hL)
  · exact h.elim
def tt_ifle (tgt nx : Nat) : ev_T := fun lv st σ τ n K => match st with
  | .int x :: r => (x ≤ 0 → K tgt lv r σ τ n) ∧ (¬ x ≤ 0 → K nx lv r σ τ n)
  | _ => False
theorem qq_ifle (X : ev_X l R LY cl Ts cc nL own J) {off : Int} (tgt : Nat) (ht : (pc : Int) + off = (tgt : Int)) (d : decode cc pc = .ok (.ifCond .le off, 3)) : ev_ok J pc (tt_ifle tgt (pc + 3)) := by
  obtain ⟨p, e, s, m, args, below, meth, c, Q, D, K3, ad, A, b0, b1, rfl, hx, hb, hml, hown, hts, hK, hD, hA, hc0, hc1⟩ := X
  intro lv st σ τ n K h hK2 H locs ls hP hS hL
  unfold tt_ifle at h
  split at h
  · exact lv_if_le hx hb d ht (fun q => hK2 _ _ _ _ _ _ (h.1 q) H locs ls hP hS hL) (fun q => hK2 _ _ _ _ _ _ (h.2 q) H locs ls hP hS hL)
  · exact h.elim
def tt_icle (tgt nx : Nat) : ev_T := fun lv st σ τ n K => match st with
  | .int y :: .int x :: r => (x ≤ y → K tgt lv r σ τ n) ∧ (¬ x ≤ y → K nx lv r σ τ n)
  | _ => False
theorem qq_icle (X : ev_X l R LY cl Ts cc nL own J) {off : Int} (tgt : Nat) (ht : (pc : Int) + off = (tgt : Int)) (d : decode cc pc = .ok (.if_icmp .le off, 3)) : ev_ok J pc (tt_icle tgt (pc + 3)) := by
  obtain ⟨p, e, s, m, args, below, meth, c, Q, D, K3, ad, A, b0, b1, rfl, hx, hb, hml, hown, hts, hK, hD, hA, hc0, hc1⟩ := X
  intro lv st σ τ n K h hK2 H locs ls hP hS hL
  unfold tt_icle at h
  split at h
  · exact lv_icmp_le hx hb d ht (fun q => hK2 _ _ _ _ _ _ (h.1 q) H locs ls hP hS hL) (fun q => hK2 _ _ _ _ _ _ (h.2 q) H locs ls hP hS hL)
  · exact h.elim
def tt_go (tgt : Nat) : ev_T := fun lv st σ τ n K => K tgt lv st σ τ n
theorem qq_go (X : ev_X l R LY cl Ts cc nL own J) {off : Int} (tgt : Nat) (ht : (pc : Int) + off = (tgt : Int)) (d : decode cc pc = .ok (.goto off, 3)) : ev_ok J pc (tt_go tgt) := by
  obtain ⟨p, e, s, m, args, below, meth, c, Q, D, K3, ad, A, b0, b1, rfl, hx, hb, hml, hown, hts, hK, hD, hA, hc0, hc1⟩ := X
  intro lv st σ τ n K h hK2 H locs ls hP hS hL
  refine lv_goto hx hb d ht ?_
  exact hK2 _ _ _ _ _ _ h H locs ls hP hS hL
/-- a switch: keys and targets, else the default -/
def ev_sw (x : Int32) (g : Nat → Prop) (df : Nat) : List (Int32 × Nat) → Prop
  | [] => g df
  | (k, t) :: r => (x = k → g t) ∧ (¬ x = k → ev_sw x g df r)
def tt_sw (cs : List (Int32 × Nat)) (df : Nat) : ev_T := fun lv st σ τ n K => match st with
  | .int x :: r => ev_sw x (fun t => K t lv r σ τ n) df cs
  | _ => False
def ev_swOk (pc : Nat) (dflt : Int) (df : Nat) : List (Int × Int) → List (Int32 × Nat) → Prop
  | [], [] => (pc : Int) + dflt = (df : Int)
  | (a, o) :: r, (k, t) :: q => k.toInt = a ∧ (pc : Int) + o = (t : Int) ∧ ev_swOk pc dflt df r q
  | _, _ => False
theorem ev_sw_look {pc : Nat} {dflt : Int} {df : Nat} {x : Int32} {g : Nat → Prop} : ∀ {ps : List (Int × Int)} {cs : List (Int32 × Nat)}, ev_swOk pc dflt df ps cs → ev_sw x g df cs → ∃ t : Nat, (pc : Int) + Op.lookupswitch.offset ps dflt x.toInt = (t : Int) ∧ g t
  | [], [], h, hg => ⟨df, by rw [show Op.lookupswitch.offset [] dflt x.toInt = dflt from rfl]; exact h, hg⟩
  | (a, o) :: r, (k, t) :: q, h, hg => by
    by_cases hk : x = k
    · refine ⟨t, ?_, hg.1 hk⟩
      rw [Op.lookupswitch.offset_cons, if_pos (by rw [hk]; exact h.1.symm)]
      exact h.2.1
    · rw [lv_osw hk h.1]
      exact ev_sw_look h.2.2 (hg.2 hk)
  | [], _ :: _, h, _ => h.elim
  | _ :: _, [], h, _ => h.elim
theorem qq_lsw (X : ev_X l R LY cl Ts cc nL own J) {dflt : Int} {ps : Array (Int × Int)} {len : Nat} (cs : List (Int32 × Nat)) (df : Nat) (hp : (ps.toList.zip (ps.toList.drop 1)).all (fun (a, next) => a.1 < next.1) = true) (hk : ev_swOk pc dflt df ps.toList cs) (d : decode cc pc = .ok (.lookupswitch dflt ps, len)) : ev_ok J pc (tt_sw cs df) := by
  obtain ⟨p, e, s, m, args, below, meth, c, Q, D, K3, ad, A, b0, b1, rfl, hx, hb, hml, hown, hts, hK, hD, hA, hc0, hc1⟩ := X
  intro lv st σ τ n K h hK2 H locs ls hP hS hL
  unfold tt_sw at h
  split at h
  · obtain ⟨t, h1, h2⟩ := ev_sw_look hk h
    refine lv_lookup hx hb d hp rfl h1 ?_
    exact hK2 _ _ _ _ _ _ h2 H locs ls hP hS hL
  · exact h.elim
def ev_tOk (pc : Nat) (dflt : Int) (df : Nat) : Int → List Int → List (Int32 × Nat) → Prop
  | _, [], [] => (pc : Int) + dflt = (df : Int)
  | a, o :: r, (k, t) :: q => k.toInt = a ∧ (pc : Int) + o = (t : Int) ∧ ev_tOk pc dflt df (a + 1) r q
  | _, _, _ => False
theorem ev_sw_tab {pc : Nat} {dflt : Int} {df : Nat} {x : Int32} {g : Nat → Prop} : ∀ {a : Int} {os : List Int} {cs : List (Int32 × Nat)}, ev_tOk pc dflt df a os cs → ev_sw x g df cs → (∃ (o : Int) (t : Nat), a ≤ x.toInt ∧ os[(x.toInt - a).toNat]? = some o ∧ (pc : Int) + o = (t : Int) ∧ g t) ∨ ((x.toInt < a ∨ a + os.length - 1 < x.toInt) ∧ (pc : Int) + dflt = (df : Int) ∧ g df)
  | a, [], [], h, hg => Or.inr ⟨by simp; omega, h, hg⟩
  | a, o :: r, (k, t) :: q, h, hg => by
    by_cases hk : x = k
    · refine Or.inl ⟨o, t, ?_, ?_, h.2.1, hg.1 hk⟩
      · rw [hk, h.1]; exact Int.le_refl _
      · rw [hk, h.1]; simp
    · have hne : ¬ x.toInt = a := lv_neT hk h.1
      rcases ev_sw_tab h.2.2 (hg.2 hk) with ⟨o2, t2, h1, h2, h3, h4⟩ | ⟨h1, h2, h3⟩
      · refine Or.inl ⟨o2, t2, by omega, ?_, h3, h4⟩
        have e1 : (x.toInt - a).toNat = (x.toInt - (a + 1)).toNat + 1 := by omega
        rw [e1, List.getElem?_cons_succ]
        exact h2
      · refine Or.inr ⟨?_, h2, h3⟩
        simp only [List.length_cons]
        rcases h1 with h1 | h1
        · exact Or.inl (by omega)
        · exact Or.inr (by omega)
  | _, [], _ :: _, h, _ => h.elim
  | _, _ :: _, [], h, _ => h.elim
theorem qq_tsw (X : ev_X l R LY cl Ts cc nL own J) {dflt lo hi : Int} {offs : Array Int} {len : Nat} (cs : List (Int32 × Nat)) (df : Nat) (hh : hi = lo + offs.toList.length - 1) (hk : ev_tOk pc dflt df lo offs.toList cs) (d : decode cc pc = .ok (.tableswitch dflt lo hi offs, len)) : ev_ok J pc (tt_sw cs df) := by
  obtain ⟨p, e, s, m, args, below, meth, c, Q, D, K3, ad, A, b0, b1, rfl, hx, hb, hml, hown, hts, hK, hD, hA, hc0, hc1⟩ := X
  intro lv st σ τ n K h hK2 H locs ls hP hS hL
  unfold tt_sw at h
  split at h
  · rename_i x r
    rcases ev_sw_tab hk h with ⟨o, t, h1, h2, h3, h4⟩ | ⟨h1, h2, h3⟩
    · have hlt := (List.getElem?_eq_some_iff.mp h2).1
      refine lv_tableIn hx hb d (x := x) (by omega) (by omega) (off := o) (by rw [← Array.getElem?_toList]; exact h2) h3 ?_
      exact hK2 _ _ _ _ _ _ h4 H locs ls hP hS hL
    · refine lv_tableOut hx hb d (x := x) (by omega) h2 ?_
      exact hK2 _ _ _ _ _ _ h3 H locs ls hP hS hL
  · exact h.elim
/-- places: what kind of cell -/
def ev_ly : List ev_D → Nat → (ev_D → Prop) → Prop
  | [], _, _ => False
  | d :: _, 0, k => k d
  | _ :: r, i + 1, k => ev_ly r i k
theorem ev_ly_k : ∀ {LY : List ev_D} {i : Nat} {k : ev_D → Prop}, ev_ly LY i k → ∃ d, LY[i]? = some d ∧ k d
  | [], _, _, h => h.elim
  | d :: _, 0, _, h => ⟨d, rfl, h⟩
  | _ :: r, i + 1, k, h => by
    obtain ⟨d, h1, h2⟩ := ev_ly_k (LY := r) (i := i) h
    exact ⟨d, by simpa using h1, h2⟩
def ev_fo : List (Option Nat) → Nat → (Option Nat → Prop) → Prop
  | [], _, _ => False
  | d :: _, 0, k => k d
  | _ :: r, i + 1, k => ev_fo r i k
theorem ev_fo_k : ∀ {fs : List (Option Nat)} {i : Nat} {k : Option Nat → Prop}, ev_fo fs i k → ∃ d, fs[i]? = some d ∧ k d
  | [], _, _, h => h.elim
  | d :: _, 0, _, h => ⟨d, rfl, h⟩
  | _ :: r, i + 1, k, h => by
    obtain ⟨d, h1, h2⟩ := ev_fo_k (fs := r) (i := i) h
    exact ⟨d, by simpa using h1, h2⟩
/-- an object of class ci at place k -/
def ev_ob (LY : List ev_D) (ci k : Nat) (g : List (Option Nat) → Prop) : Prop := ev_ly LY k (fun d => match d with
  | (3, c, fs) => cond (Nat.beq c ci) (g fs) False
  | _ => False)
theorem ev_ob_k {LY : List ev_D} {ci k : Nat} {g : List (Option Nat) → Prop} (h : ev_ob LY ci k g) : ∃ fs, LY[k]? = some (3, ci, fs) ∧ g fs := by
  obtain ⟨d, h1, h2⟩ := ev_ly_k h
  split at h2
  · rename_i c fs
    cases hb : Nat.beq c ci with
    | true =>
      rw [hb] at h2
      have : c = ci := Nat.eq_of_beq_eq_true hb
      subst this
      exact ⟨fs, h1, h2⟩
    | false => rw [hb] at h2; exact h2.elim
  · exact h2.elim
def tt_gf (LY : List ev_D) (ci j nx : Nat) : ev_T := fun lv st σ τ n K => match st with
  | .ref k :: r => ev_ob LY ci k (fun fs => ev_fo fs j (fun o => match o with
    | none => K nx lv (.int (σ k j) :: r) σ τ n
    | some q => K nx lv (.ref q :: r) σ τ n))
  | _ => False
theorem ev_gf {lv : List Value} {k j nx : Nat} {σ : ev_M} {τ : ev_L} {n : Nat} {K : ev_K} {r : List Value} {o : Option Nat} (ad : Nat → Nat) (h : match o with
    | none => K nx lv (.int (σ k j) :: r) σ τ n
    | some q => K nx lv (.ref q :: r) σ τ n) : ∃ v, ev_v ad v = ev_o ad (σ k j) o ∧ K nx lv (v :: r) σ τ n := by
  cases o with
  | none => exact ⟨_, rfl, h⟩
  | some q => exact ⟨_, rfl, h⟩
theorem qq_gf (X : ev_X l R LY cl Ts cc nL own J) {C : String} {T : u_T} {N index : Nat} (ci j : Nat) (hc : cl[ci]? = some (C, T, N)) (hin : ∀ w ∈ u_ws C T N, w ∈ Ts) (hj : j < N) (hl : (Cond.fieldLink own index (T j).1 (T j).2.1 (T j).2.2.1) ∈ Ts) (d : decode cc pc = .ok (.getfield index, 3)) : ev_ok J pc (tt_gf LY ci j (pc + 3)) := by
  obtain ⟨p, e, s, m, args, below, meth, c, Q, D, K3, ad, A, b0, b1, rfl, hx, hb, hml, hown, hts, hK, hD, hA, hc0, hc1⟩ := X
  intro lv st σ τ n K h hK2 H locs ls hP hS hL
  unfold tt_gf at h
  split at h
  · rename_i k r
    obtain ⟨fs, h1, h2⟩ := ev_ob_k h
    obtain ⟨o, h3, h4⟩ := ev_fo_k h2
    obtain ⟨v, h5, h6⟩ := ev_gf ad h4
    refine va_get hx hb hts hin hown hK hP k (ci := ci) (fs := ev_f ad (σ k) 0 fs) (by rw [ev_lay_get, h1]; rfl) hc j hj (hts _ hl) (fun _ q => q) (v := ev_v ad v) (by rw [ev_f_at, h3, h5, Nat.zero_add]; rfl) d ?_
    exact hK2 _ _ _ _ _ _ h6 H locs ls hP hS hL
  · exact h.elim
theorem qq_gfN (X : ev_X l R LY cl Ts cc nL own J) {C : String} {T : u_T} {N index : Nat} {host : String} (ci j : Nat) (hc : cl[ci]? = some (C, T, N)) (hin : ∀ w ∈ u_ws C T N, w ∈ Ts) (hj : j < N) (hl : (Cond.fieldLinkNest own index (T j).1 (T j).2.1 (T j).2.2.1 host) ∈ Ts) (d : decode cc pc = .ok (.getfield index, 3)) : ev_ok J pc (tt_gf LY ci j (pc + 3)) := by
  obtain ⟨p, e, s, m, args, below, meth, c, Q, D, K3, ad, A, b0, b1, rfl, hx, hb, hml, hown, hts, hK, hD, hA, hc0, hc1⟩ := X
  intro lv st σ τ n K h hK2 H locs ls hP hS hL
  unfold tt_gf at h
  split at h
  · rename_i k r
    obtain ⟨fs, h1, h2⟩ := ev_ob_k h
    obtain ⟨o, h3, h4⟩ := ev_fo_k h2
    obtain ⟨v, h5, h6⟩ := ev_gf ad h4
    refine va_getN hx hb hts hin hown hK hP k (ci := ci) (fs := ev_f ad (σ k) 0 fs) (by rw [ev_lay_get, h1]; rfl) hc j hj (hts _ hl) (fun _ q => q) (v := ev_v ad v) (by rw [ev_f_at, h3, h5, Nat.zero_add]; rfl) d ?_
    exact hK2 _ _ _ _ _ _ h6 H locs ls hP hS hL
  · exact h.elim
def tt_pf (LY : List ev_D) (ci j nx : Nat) : ev_T := fun lv st σ τ n K => match st with
  | .int x :: .ref k :: r => ev_ob LY ci k (fun fs => ev_fo fs j (fun o => match o with
    | none => K nx lv r (ev_u σ k j x) τ n
    | some _ => False))
  | _ => False
def tt_pz (LY : List ev_D) (ci j nx : Nat) : ev_T := fun lv st σ τ n K => match st with
  | .int x :: .ref k :: r => ev_ob LY ci k (fun fs => ev_fo fs j (fun o => match o with
    | none => (x = 0 ∨ x = 1) ∧ K nx lv r (ev_u σ k j x) τ n
    | some _ => False))
  | _ => False
theorem qq_pf (X : ev_X l R LY cl Ts cc nL own J) {C : String} {T : u_T} {N index : Nat} (ci j : Nat) (hc : cl[ci]? = some (C, T, N)) (hin : ∀ w ∈ u_ws C T N, w ∈ Ts) (hj : j < N) (ty0 : Nat → FieldType) (hty : ∀ k, k < N → parseFieldDescriptor (T k).2.2.1 = some (ty0 k)) (hnm : ∀ a, a < N → ∀ b, b < N → a ≠ b → (T a).2.1 ≠ (T b).2.1) (hfin : (T j).2.2.2 = false) (hd : parseFieldDescriptor (T j).2.2.1 = some .int) (hl : (Cond.fieldLink own index (T j).1 (T j).2.1 (T j).2.2.1) ∈ Ts) (d : decode cc pc = .ok (.putfield index, 3)) : ev_ok J pc (tt_pf LY ci j (pc + 3)) := by
  obtain ⟨p, e, s, m, args, below, meth, c, Q, D, K3, ad, A, b0, b1, rfl, hx, hb, hml, hown, hts, hK, hD, hA, hc0, hc1⟩ := X
  intro lv st σ τ n K h hK2 H locs ls hP hS hL
  unfold tt_pf at h
  split at h
  · rename_i x k r
    obtain ⟨fs, h1, h2⟩ := ev_ob_k h
    obtain ⟨o, h3, h4⟩ := ev_fo_k h2
    cases o with
    | some q => exact h4.elim
    | none =>
      have hlen : j < (ev_f ad (σ k) 0 fs).length := by rw [ev_f_len]; exact (List.getElem?_eq_some_iff.mp h3).1
      refine va_put hx hb hts hin ty0 hty hnm hown hK hP (hD σ τ) hS k (ci := ci) (fs := ev_f ad (σ k) 0 fs) (by rw [ev_lay_get, h1]; rfl) hc j hj (hts _ hl) (fun _ q => q) hfin (ty := .int) (v := .int x) hd rfl rfl hlen d (fun H1 locs1 hP1 _ hS1 => ?_)
      have he : (ev_lay LY K3 ad σ τ).set k (ad k, .inr (ci, (ev_f ad (σ k) 0 fs).set j (.int x))) = ev_lay LY K3 ad (ev_u σ k j x) τ := by
        rw [ev_f_set ad (σ k) fs j x h3]
        exact ev_lay_setI (d := (3, ci, fs)) j x h1
      rw [he] at hP1
      exact hK2 _ _ _ _ _ _ h4 H1 locs1 ls hP1 hS1 hL
  · exact h.elim
theorem qq_pfN (X : ev_X l R LY cl Ts cc nL own J) {C : String} {T : u_T} {N index : Nat} {host : String} (ci j : Nat) (hc : cl[ci]? = some (C, T, N)) (hin : ∀ w ∈ u_ws C T N, w ∈ Ts) (hj : j < N) (ty0 : Nat → FieldType) (hty : ∀ k, k < N → parseFieldDescriptor (T k).2.2.1 = some (ty0 k)) (hnm : ∀ a, a < N → ∀ b, b < N → a ≠ b → (T a).2.1 ≠ (T b).2.1) (hfin : (T j).2.2.2 = false) (hd : parseFieldDescriptor (T j).2.2.1 = some .int) (hl : (Cond.fieldLinkNest own index (T j).1 (T j).2.1 (T j).2.2.1 host) ∈ Ts) (d : decode cc pc = .ok (.putfield index, 3)) : ev_ok J pc (tt_pf LY ci j (pc + 3)) := by
  obtain ⟨p, e, s, m, args, below, meth, c, Q, D, K3, ad, A, b0, b1, rfl, hx, hb, hml, hown, hts, hK, hD, hA, hc0, hc1⟩ := X
  intro lv st σ τ n K h hK2 H locs ls hP hS hL
  unfold tt_pf at h
  split at h
  · rename_i x k r
    obtain ⟨fs, h1, h2⟩ := ev_ob_k h
    obtain ⟨o, h3, h4⟩ := ev_fo_k h2
    cases o with
    | some q => exact h4.elim
    | none =>
      have hlen : j < (ev_f ad (σ k) 0 fs).length := by rw [ev_f_len]; exact (List.getElem?_eq_some_iff.mp h3).1
      refine va_putN hx hb hts hin ty0 hty hnm hown hK hP (hD σ τ) hS k (ci := ci) (fs := ev_f ad (σ k) 0 fs) (by rw [ev_lay_get, h1]; rfl) hc j hj (hts _ hl) (fun _ q => q) hfin (ty := .int) (v := .int x) hd rfl rfl hlen d (fun H1 locs1 hP1 _ hS1 => ?_)
      have he : (ev_lay LY K3 ad σ τ).set k (ad k, .inr (ci, (ev_f ad (σ k) 0 fs).set j (.int x))) = ev_lay LY K3 ad (ev_u σ k j x) τ := by
        rw [ev_f_set ad (σ k) fs j x h3]
        exact ev_lay_setI (d := (3, ci, fs)) j x h1
      rw [he] at hP1
      exact hK2 _ _ _ _ _ _ h4 H1 locs1 ls hP1 hS1 hL
  · exact h.elim
theorem qq_pz (X : ev_X l R LY cl Ts cc nL own J) {C : String} {T : u_T} {N index : Nat} (ci j : Nat) (hc : cl[ci]? = some (C, T, N)) (hin : ∀ w ∈ u_ws C T N, w ∈ Ts) (hj : j < N) (ty0 : Nat → FieldType) (hty : ∀ k, k < N → parseFieldDescriptor (T k).2.2.1 = some (ty0 k)) (hnm : ∀ a, a < N → ∀ b, b < N → a ≠ b → (T a).2.1 ≠ (T b).2.1) (hfin : (T j).2.2.2 = false) (hd : parseFieldDescriptor (T j).2.2.1 = some .boolean) (hl : (Cond.fieldLink own index (T j).1 (T j).2.1 (T j).2.2.1) ∈ Ts) (d : decode cc pc = .ok (.putfield index, 3)) : ev_ok J pc (tt_pz LY ci j (pc + 3)) := by
  obtain ⟨p, e, s, m, args, below, meth, c, Q, D, K3, ad, A, b0, b1, rfl, hx, hb, hml, hown, hts, hK, hD, hA, hc0, hc1⟩ := X
  intro lv st σ τ n K h hK2 H locs ls hP hS hL
  unfold tt_pz at h
  split at h
  · rename_i x k r
    obtain ⟨fs, h1, h2⟩ := ev_ob_k h
    obtain ⟨o, h3, h4⟩ := ev_fo_k h2
    cases o with
    | some q => exact h4.elim
    | none =>
      have hlen : j < (ev_f ad (σ k) 0 fs).length := by rw [ev_f_len]; exact (List.getElem?_eq_some_iff.mp h3).1
      refine va_put hx hb hts hin ty0 hty hnm hown hK hP (hD σ τ) hS k (ci := ci) (fs := ev_f ad (σ k) 0 fs) (by rw [ev_lay_get, h1]; rfl) hc j hj (hts _ hl) (fun _ q => q) hfin (ty := .boolean) (v := .int x) hd (by rcases h4.1 with rfl | rfl <;> rfl) (by rcases h4.1 with rfl | rfl <;> rfl) hlen d (fun H1 locs1 hP1 _ hS1 => ?_)
      have he : (ev_lay LY K3 ad σ τ).set k (ad k, .inr (ci, (ev_f ad (σ k) 0 fs).set j (.int x))) = ev_lay LY K3 ad (ev_u σ k j x) τ := by
        rw [ev_f_set ad (σ k) fs j x h3]
        exact ev_lay_setI (d := (3, ci, fs)) j x h1
      rw [he] at hP1
      exact hK2 _ _ _ _ _ _ h4.2 H1 locs1 ls hP1 hS1 hL
  · exact h.elim
theorem qq_pzN (X : ev_X l R LY cl Ts cc nL own J) {C : String} {T : u_T} {N index : Nat} {host : String} (ci j : Nat) (hc : cl[ci]? = some (C, T, N)) (hin : ∀ w ∈ u_ws C T N, w ∈ Ts) (hj : j < N) (ty0 : Nat → FieldType) (hty : ∀ k, k < N → parseFieldDescriptor (T k).2.2.1 = some (ty0 k)) (hnm : ∀ a, a < N → ∀ b, b < N → a ≠ b → (T a).2.1 ≠ (T b).2.1) (hfin : (T j).2.2.2 = false) (hd : parseFieldDescriptor (T j).2.2.1 = some .boolean) (hl : (Cond.fieldLinkNest own index (T j).1 (T j).2.1 (T j).2.2.1 host) ∈ Ts) (d : decode cc pc = .ok (.putfield index, 3)) : ev_ok J pc (tt_pz LY ci j (pc + 3)) := by
  obtain ⟨p, e, s, m, args, below, meth, c, Q, D, K3, ad, A, b0, b1, rfl, hx, hb, hml, hown, hts, hK, hD, hA, hc0, hc1⟩ := X
  intro lv st σ τ n K h hK2 H locs ls hP hS hL
  unfold tt_pz at h
  split at h
  · rename_i x k r
    obtain ⟨fs, h1, h2⟩ := ev_ob_k h
    obtain ⟨o, h3, h4⟩ := ev_fo_k h2
    cases o with
    | some q => exact h4.elim
    | none =>
      have hlen : j < (ev_f ad (σ k) 0 fs).length := by rw [ev_f_len]; exact (List.getElem?_eq_some_iff.mp h3).1
      refine va_putN hx hb hts hin ty0 hty hnm hown hK hP (hD σ τ) hS k (ci := ci) (fs := ev_f ad (σ k) 0 fs) (by rw [ev_lay_get, h1]; rfl) hc j hj (hts _ hl) (fun _ q => q) hfin (ty := .boolean) (v := .int x) hd (by rcases h4.1 with rfl | rfl <;> rfl) (by rcases h4.1 with rfl | rfl <;> rfl) hlen d (fun H1 locs1 hP1 _ hS1 => ?_)
      have he : (ev_lay LY K3 ad σ τ).set k (ad k, .inr (ci, (ev_f ad (σ k) 0 fs).set j (.int x))) = ev_lay LY K3 ad (ev_u σ k j x) τ := by
        rw [ev_f_set ad (σ k) fs j x h3]
        exact ev_lay_setI (d := (3, ci, fs)) j x h1
      rw [he] at hP1
      exact hK2 _ _ _ _ _ _ h4.2 H1 locs1 ls hP1 hS1 hL
  · exact h.elim
def tt_ia (LY : List ev_D) (nx : Nat) : ev_T := fun lv st σ τ n K => match st with
  | .int i :: .ref k :: r => ev_ly LY k (fun d => match d with
    | (0, z, _) => vp_in i z ∧ K nx lv (.int (σ k i.toNatClampNeg) :: r) σ τ n
    | _ => False)
  | _ => False
theorem qq_ia (X : ev_X l R LY cl Ts cc nL own J) (d : decode cc pc = .ok (.iaload, 1)) : ev_ok J pc (tt_ia LY (pc + 1)) := by
  obtain ⟨p, e, s, m, args, below, meth, c, Q, D, K3, ad, A, b0, b1, rfl, hx, hb, hml, hown, hts, hK, hD, hA, hc0, hc1⟩ := X
  intro lv st σ τ n K h hK2 H locs ls hP hS hL
  unfold tt_ia at h
  split at h
  · rename_i i k r
    obtain ⟨dd, h1, h2⟩ := ev_ly_k h
    split at h2
    · rename_i z zz
      refine va_iald hx hb hK hP k 0 (by rw [ev_lay_get, h1]; rfl) rfl h2.1 d ?_
      exact hK2 _ _ _ _ _ _ h2.2 H locs ls hP hS hL
    · exact h2.elim
  · exact h.elim
def tt_za (LY : List ev_D) (nx : Nat) : ev_T := fun lv st σ τ n K => match st with
  | .int i :: .ref k :: r => ev_ly LY k (fun d => match d with
    | (1, z, _) => vp_in i z ∧ K nx lv (.int (σ k i.toNatClampNeg) :: r) σ τ n
    | _ => False)
  | _ => False
theorem qq_za (X : ev_X l R LY cl Ts cc nL own J) (d : decode cc pc = .ok (.baload, 1)) : ev_ok J pc (tt_za LY (pc + 1)) := by
  obtain ⟨p, e, s, m, args, below, meth, c, Q, D, K3, ad, A, b0, b1, rfl, hx, hb, hml, hown, hts, hK, hD, hA, hc0, hc1⟩ := X
  intro lv st σ τ n K h hK2 H locs ls hP hS hL
  unfold tt_za at h
  split at h
  · rename_i i k r
    obtain ⟨dd, h1, h2⟩ := ev_ly_k h
    split at h2
    · rename_i z zz
      refine va_zald hx hb hK hP k 1 (by rw [ev_lay_get, h1]; rfl) rfl h2.1 d ?_
      exact hK2 _ _ _ _ _ _ h2.2 H locs ls hP hS hL
    · exact h2.elim
  · exact h.elim
def tt_la (LY : List ev_D) (nx : Nat) : ev_T := fun lv st σ τ n K => match st with
  | .int i :: .ref k :: r => ev_ly LY k (fun d => match d with
    | (2, z, _) => vp_in i z ∧ K nx lv (.long (τ k i.toNatClampNeg) :: r) σ τ n
    | _ => False)
  | _ => False
theorem qq_la (X : ev_X l R LY cl Ts cc nL own J) (d : decode cc pc = .ok (.laload, 1)) : ev_ok J pc (tt_la LY (pc + 1)) := by
  obtain ⟨p, e, s, m, args, below, meth, c, Q, D, K3, ad, A, b0, b1, rfl, hx, hb, hml, hown, hts, hK, hD, hA, hc0, hc1⟩ := X
  intro lv st σ τ n K h hK2 H locs ls hP hS hL
  unfold tt_la at h
  split at h
  · rename_i i k r
    obtain ⟨dd, h1, h2⟩ := ev_ly_k h
    split at h2
    · rename_i z zz
      refine va_lald hx hb hK hP k 2 (by rw [ev_lay_get, h1]; rfl) rfl h2.1 d ?_
      exact hK2 _ _ _ _ _ _ h2.2 H locs ls hP hS hL
    · exact h2.elim
  · exact h.elim
def tt_ias (LY : List ev_D) (nx : Nat) : ev_T := fun lv st σ τ n K => match st with
  | .int x :: .int i :: .ref k :: r => ev_ly LY k (fun d => match d with
    | (0, z, _) => vp_in i z ∧ K nx lv r (ev_u σ k i.toNatClampNeg x) τ n
    | _ => False)
  | _ => False
theorem qq_ias (X : ev_X l R LY cl Ts cc nL own J) (d : decode cc pc = .ok (.iastore, 1)) : ev_ok J pc (tt_ias LY (pc + 1)) := by
  obtain ⟨p, e, s, m, args, below, meth, c, Q, D, K3, ad, A, b0, b1, rfl, hx, hb, hml, hown, hts, hK, hD, hA, hc0, hc1⟩ := X
  intro lv st σ τ n K h hK2 H locs ls hP hS hL
  unfold tt_ias at h
  split at h
  · rename_i x i k r
    obtain ⟨dd, h1, h2⟩ := ev_ly_k h
    split at h2
    · rename_i z zz
      refine va_iast hx hb hK hP (hD σ τ) hS k 0 (by rw [ev_lay_get, h1]; rfl) rfl h2.1 d (fun H1 locs1 hP1 _ hS1 => ?_)
      have hP2 : va_P D cl (ev_lay LY K3 ad (ev_u σ k i.toNatClampNeg x) τ) H1 := by
        rw [← ev_lay_setI (d := (0, z, zz)) _ _ h1]
        exact hP1
      exact hK2 _ _ _ _ _ _ h2.2 H1 locs1 ls hP2 hS1 hL
    · exact h2.elim
  · exact h.elim
def tt_zas (LY : List ev_D) (nx : Nat) : ev_T := fun lv st σ τ n K => match st with
  | .int x :: .int i :: .ref k :: r => ev_ly LY k (fun d => match d with
    | (1, z, _) => vp_in i z ∧ K nx lv r (ev_u σ k i.toNatClampNeg (vp_nar .boolean x)) τ n
    | _ => False)
  | _ => False
theorem qq_zas (X : ev_X l R LY cl Ts cc nL own J) (d : decode cc pc = .ok (.bastore, 1)) : ev_ok J pc (tt_zas LY (pc + 1)) := by
  obtain ⟨p, e, s, m, args, below, meth, c, Q, D, K3, ad, A, b0, b1, rfl, hx, hb, hml, hown, hts, hK, hD, hA, hc0, hc1⟩ := X
  intro lv st σ τ n K h hK2 H locs ls hP hS hL
  unfold tt_zas at h
  split at h
  · rename_i x i k r
    obtain ⟨dd, h1, h2⟩ := ev_ly_k h
    split at h2
    · rename_i z zz
      refine va_zast hx hb hK hP (hD σ τ) hS k 1 (by rw [ev_lay_get, h1]; rfl) rfl h2.1 d (fun H1 locs1 hP1 _ hS1 => ?_)
      have hP2 : va_P D cl (ev_lay LY K3 ad (ev_u σ k i.toNatClampNeg (vp_nar .boolean x)) τ) H1 := by
        rw [← ev_lay_setI (d := (1, z, zz)) _ _ h1]
        exact hP1
      exact hK2 _ _ _ _ _ _ h2.2 H1 locs1 ls hP2 hS1 hL
    · exact h2.elim
  · exact h.elim
def tt_las (LY : List ev_D) (nx : Nat) : ev_T := fun lv st σ τ n K => match st with
  | .long x :: .int i :: .ref k :: r => ev_ly LY k (fun d => match d with
    | (2, z, _) => vp_in i z ∧ K nx lv r σ (ev_w τ k i.toNatClampNeg x) n
    | _ => False)
  | _ => False
theorem qq_las (X : ev_X l R LY cl Ts cc nL own J) (d : decode cc pc = .ok (.lastore, 1)) : ev_ok J pc (tt_las LY (pc + 1)) := by
  obtain ⟨p, e, s, m, args, below, meth, c, Q, D, K3, ad, A, b0, b1, rfl, hx, hb, hml, hown, hts, hK, hD, hA, hc0, hc1⟩ := X
  intro lv st σ τ n K h hK2 H locs ls hP hS hL
  unfold tt_las at h
  split at h
  · rename_i x i k r
    obtain ⟨dd, h1, h2⟩ := ev_ly_k h
    split at h2
    · rename_i z zz
      refine va_last hx hb hK hP (hD σ τ) hS k 2 (by rw [ev_lay_get, h1]; rfl) rfl h2.1 d (fun H1 locs1 hP1 _ hS1 => ?_)
      have hP2 : va_P D cl (ev_lay LY K3 ad σ (ev_w τ k i.toNatClampNeg x)) H1 := by
        rw [← ev_lay_setL (d := (2, z, zz)) _ _ h1]
        exact hP1
      exact hK2 _ _ _ _ _ _ h2.2 H1 locs1 ls hP2 hS1 hL
    · exact h2.elim
  · exact h.elim
theorem qq_irem (X : ev_X l R LY cl Ts cc nL own J) (d : decode cc pc = .ok (.irem, 1)) : ev_ok J pc (tt_irem (pc + 1)) := by
  obtain ⟨p, e, s, m, args, below, meth, c, Q, D, K3, ad, A, b0, b1, rfl, hx, hb, hml, hown, hts, hK, hD, hA, hc0, hc1⟩ := X
  intro lv st σ τ n K h hK2 H locs ls hP hS hL
  unfold tt_irem at h
  split at h
  · refine lv_irem hx hb d h.1 ?_
    exact hK2 _ _ _ _ _ _ h.2 H locs ls hP hS hL
  · exact h.elim
def tt_lcmp (nx : Nat) : ev_T := fun lv st σ τ n K => match st with
  | .long y :: .long x :: r => K nx lv (.int (lg_cmp x y) :: r) σ τ n
  | _ => False
theorem qq_lcmp (X : ev_X l R LY cl Ts cc nL own J) (d : decode cc pc = .ok (.lcmp, 1)) : ev_ok J pc (tt_lcmp (pc + 1)) := by
  obtain ⟨p, e, s, m, args, below, meth, c, Q, D, K3, ad, A, b0, b1, rfl, hx, hb, hml, hown, hts, hK, hD, hA, hc0, hc1⟩ := X
  intro lv st σ τ n K h hK2 H locs ls hP hS hL
  unfold tt_lcmp at h
  split at h
  · refine W.lcmp hx hb d ?_
    exact hK2 _ _ _ _ _ _ h H locs ls hP hS hL
  · exact h.elim
end EV
end
section
/-! contracts over places; calls; returns -/
def ev_Pc (LY : List ev_D) (cl : List vw_C) (D : va_G) (K3 : ev_3) (ad : Nat → Nat) (sz : Nat) (as : List Value) (σ : ev_M) (τ : ev_L) : Array Value → State → Prop := va_Pc (as.map (ev_v ad)) (fun U => U.heap.size = sz ∧ va_P D cl (ev_lay LY K3 ad σ τ) U.heap ∧ va_K D cl (ev_tys K3) U ∧ va_D (fun _ => True) (ev_lay LY K3 ad σ τ))
def ev_Q {ρ : Type} (ι : ρ → Option Value) (LY : List ev_D) (cl : List vw_C) (D : va_G) (K3 : ev_3) (ad : Nat → Nat) (A : Nat → Prop) (post : ρ → ev_M → ev_L → Prop) : Array Value → State → Outcome → State → Prop := fun _ st oc t =>
  (∃ (r : ρ) (σ' : ev_M) (τ' : ev_L), oc = .returned ((ι r).map (ev_v ad)) ∧ post r σ' τ' ∧ va_P D cl (ev_lay LY K3 ad σ' τ') t.heap ∧ va_K D cl (ev_tys K3) t) ∧ va_F A st t
/-- a method's contract: from every store with 'pre' it returns, with 'post' -/
def ev_C {ρ : Type} (ι : ρ → Option Value) (l : Launch) (y : MethodName) (ws : List Cond) (rm : Room) (LY : List ev_D) (cl : List vw_C) (pre : List Value → ev_M → ev_L → Prop) (post : List Value → ev_M → ev_L → ρ → ev_M → ev_L → Prop) : Prop :=
  ∀ (D : va_G) (K3 : ev_3) (ad : Nat → Nat) (sz : Nat) (as : List Value) (σ : ev_M) (τ : ev_L), pre as σ τ → Met l y ws rm (ev_Pc LY cl D K3 ad sz as σ τ) (ev_Q ι LY cl D K3 ad (va_A (ev_lay LY K3 ad σ τ) sz) (post as σ τ)) 0 0 (va_A (ev_lay LY K3 ad σ τ) sz)
def ev_i : Int32 → Option Value := fun x => some (.int x)
def ev_b : Bool → Option Value := fun b => some (.int (cond b 1 0))
def ev_n : Unit → Option Value := fun _ => none
def ev_l : Int64 → Option Value := fun x => some (.long x)
def ev_r : Nat → Option Value := fun q => some (.ref q)
theorem ev_blind {LY : List ev_D} {cl : List vw_C} {D : va_G} {K3 : ev_3} {ad : Nat → Nat} {sz : Nat} {as : List Value} {σ : ev_M} {τ : ev_L} : FrameBlind (ev_Pc LY cl D K3 ad sz as σ τ) := fun a U g mk q => by
  obtain ⟨q0, q1, qP, qK, qD⟩ := q
  exact ⟨q0, q1, qP, va_K.moved (u := U) (U := U.calling g mk a) (Vm.Alike.refl U.vm) qK, qD⟩
section EVC
variable {p : Program} {l : Launch} {e : Env} {R : Room} {s : State} {m : MethodId} {args : Array Value} {below : List Frame} {meth : Method} {c : Code} {H : Heap} {locs : List Loc} {cells slots : Nat} {Q : State → Prop}
variable {pc : Nat} {ls : Array Slot} {rest st0 : List Value} {a : Array Value} {A0 A1 : Nat → Prop} {H0 : Heap} {free : Addr → Prop} {LY : List ev_D} {cl : List vw_C} {D : va_G} {K3 : ev_3} {ad : Nat → Nat}
theorem ev_pre {sz : Nat} {as : List Value} {σ : ev_M} {τ : ev_L} (hK : va_K D cl (ev_tys K3) s) (hP : va_P D cl (ev_lay LY K3 ad σ τ) H) (hD : va_D A0 (ev_lay LY K3 ad σ τ)) (hz : H.size = sz) : ∀ U : State, U.heap = H → s.WarmedH U.vm → ev_Pc LY cl D K3 ad sz as σ τ (as.map (ev_v ad)).toArray U := fun U hU hW =>
  ⟨rfl, by rw [hU]; exact hz, by rw [hU]; exact hP, va_K.moved hW.alike hK, hD.weaken (fun _ _ _ _ => trivial)⟩
theorem ev_callq {ρ : Type} {ι : ρ → Option Value} {post : ρ → ev_M → ev_L → Prop} (hr : va_Run p l e R s m args below meth c H locs cells slots 0 0 (F0 m pc ls st0) rest (ev_Q ι LY cl D K3 ad A1 post a) free) (hS : va_S A0 H0 H locs) (hA : ∀ q, q < H.size → A1 q → A0 q) (hf : ∀ q, free q → A0 q)
    (kk : ∀ (r : ρ) (σ' : ev_M) (τ' : ev_L) (H1 : Heap) (locs1 : List Loc), post r σ' τ' → va_P D cl (ev_lay LY K3 ad σ' τ') H1 → va_S A0 H0 H1 locs1 → W p l e R s m args below meth c H1 locs1 cells slots Q (F0 m (pc + 3) ls (((ι r).map (ev_v ad)).toList ++ rest))) : W p l e R s m args below meth c H locs cells slots Q (F0 m pc ls st0) := by
  intro T hT X
  obtain ⟨v, st₀, t, T', L, h0, X', hL, e1, e2, ⟨⟨r, σ', τ', hv, hp, hP1, -⟩, hz, hk⟩, st⟩ := hr T hT X
  cases hv
  rw [h0] at hz hk
  obtain ⟨t2, a1, b1⟩ := kk r σ' τ' T'.heap (locs ++ L) hp (by rw [e1]; exact hP1)
    ⟨Nat.le_trans hS.1 (by rw [e1]; exact hz), fun q h1 h2 => by rw [e1, hk q (Nat.lt_of_lt_of_le h1 hS.1) (fun z => h2 (hA q (Nat.lt_of_lt_of_le h1 hS.1) z))]; exact hS.2.1 q h1 h2, fun q hq => by
      rcases List.mem_append.mp hq with h | h
      · exact hS.2.2 q h
      · exact hf _ (hL q h)⟩ T' rfl X'
  exact ⟨t2, st t2 a1, b1⟩
end EVC
/-- the arguments off the stack -/
def ev_tk : Nat → List Value → List Value → (List Value → List Value → Prop) → Prop
  | 0, st, as, k => k as st
  | n + 1, v :: st, as, k => ev_tk n st (v :: as) k
  | _ + 1, [], _, _ => False
theorem ev_tk_k : ∀ {n : Nat} {st as : List Value} {k : List Value → List Value → Prop}, ev_tk n st as k → ∃ xs r, xs.length = n ∧ st = xs ++ r ∧ k (xs.reverse ++ as) r
  | 0, st, as, k, h => ⟨[], st, rfl, rfl, h⟩
  | n + 1, v :: st, as, k, h => by
    obtain ⟨xs, r, h1, h2, h3⟩ := ev_tk_k (n := n) (st := st) (as := v :: as) (k := k) h
    refine ⟨v :: xs, r, by simp [h1], by simp [h2], ?_⟩
    simpa using h3
  | n + 1, [], as, k, h => h.elim
theorem ev_tk_0 {n : Nat} {st : List Value} {k : List Value → List Value → Prop} (h : ev_tk n st [] k) : ∃ as r, as.length = n ∧ st = as.reverse ++ r ∧ k as r := by
  obtain ⟨xs, r, h1, h2, h3⟩ := ev_tk_k h
  exact ⟨xs.reverse, r, by simp [h1], by simp [h2], by simpa using h3⟩
def ev_rm (r : List Value) (k : Prop) : Prop := cond (Nat.ble ((r.map fun v => v.category).sum) 8) k False
theorem ev_rm_k {r : List Value} {k : Prop} (h : ev_rm r k) : (r.map fun v => v.category).sum ≤ 8 ∧ k := by
  unfold ev_rm at h
  cases hb : Nat.ble ((r.map fun v => v.category).sum) 8 with
  | true => rw [hb] at h; exact ⟨Nat.le_of_ble_eq_true hb, h⟩
  | false => rw [hb] at h; exact h.elim
def ev_z : Nat → Prop → Prop
  | 0, k => k
  | _ + 1, _ => False
theorem ev_z_k : ∀ {n : Nat} {k : Prop}, ev_z n k → n = 0 ∧ k
  | 0, _, h => ⟨rfl, h⟩
  | _ + 1, _, h => h.elim
def ev_push : Option Value → List Value → (List Value → Prop) → Prop
  | some v, r, k => k (v :: r)
  | none, r, k => k r
theorem ev_push_k : ∀ {o : Option Value} {r : List Value} {k : List Value → Prop}, ev_push o r k → k (o.toList ++ r)
  | some _, _, _, h => h
  | none, _, _, h => h
def tt_cS {ρ : Type} (na : Nat) (ι : ρ → Option Value) (pre : List Value → ev_M → ev_L → Prop) (post : List Value → ev_M → ev_L → ρ → ev_M → ev_L → Prop) (nx : Nat) : ev_T := fun lv st σ τ n K =>
  ev_tk na st [] (fun as r => ev_rm r (ev_z n (pre as σ τ ∧ ∀ (v : ρ) (σ' : ev_M) (τ' : ev_L), post as σ τ v σ' τ' → ev_push (ι v) r (fun st' => K nx lv st' σ' τ' 0))))
def ev_rc (LY : List ev_D) (ci : Nat) (as : List Value) (k : Prop) : Prop := match as with
  | .ref q :: _ => ev_ob LY ci q (fun _ => k)
  | _ => False
def tt_cV {ρ : Type} (LY : List ev_D) (ci na : Nat) (ι : ρ → Option Value) (pre : List Value → ev_M → ev_L → Prop) (post : List Value → ev_M → ev_L → ρ → ev_M → ev_L → Prop) (nx : Nat) : ev_T := fun lv st σ τ n K =>
  ev_tk (na + 1) st [] (fun as r => ev_rc LY ci as (ev_rm r (ev_z n (pre as σ τ ∧ ∀ (v : ρ) (σ' : ev_M) (τ' : ev_L), post as σ τ v σ' τ' → ev_push (ι v) r (fun st' => K nx lv st' σ' τ' 0)))))
theorem ev_stack (ad : Nat → Nat) (o : Option Value) (r : List Value) : (o.map (ev_v ad)).toList ++ r.map (ev_v ad) = (o.toList ++ r).map (ev_v ad) := by
  cases o <;> rfl
section EVQ
variable {l : Launch} {R : Room} {LY : List ev_D} {cl : List vw_C} {Ts : List Cond} {cc : ByteArray} {nL : Nat} {own : String} {J : ev_K} {pc : Nat}
variable {ρ : Type} {ι : ρ → Option Value} {pre : List Value → ev_M → ev_L → Prop} {post : List Value → ev_M → ev_L → ρ → ev_M → ev_L → Prop} {y : MethodName} {ws : List Cond} {rm : Room} {bytes : ByteArray} {maxL index na : Nat} {ret : Option FieldType}
theorem qq_cS (X : ev_X l R LY cl Ts cc nL own J) (hM : ev_C ι l y ws rm LY cl pre post) (cw : ∀ {args : Array Value} {s : State}, (∀ w ∈ Ts, w.before args s = true) → CallB R s args own index y bytes maxL ret ws rm 0 0 na ∧ (Cond.static y).before args s = true) (d : decode cc pc = .ok (.invokestatic index, 3)) : ev_ok J pc (tt_cS na ι pre post (pc + 3)) := by
  obtain ⟨p, e, s, m, args, below, meth, c, Q, D, K3, ad, A, b0, b1, rfl, hx, hb, hml, hown, hts, hK, hD, hA, hc0, hc1⟩ := X
  intro lv st σ τ n K h hK2 H locs ls hP hS hL
  obtain ⟨as, r, h1, rfl, h2⟩ := ev_tk_0 h
  obtain ⟨h3, h4⟩ := ev_rm_k h2
  obtain ⟨rfl, h5, h6⟩ := ev_z_k h4
  have hF : ∀ q, va_A (ev_lay LY K3 ad σ τ) H.size q → A q := by
    intro q hq
    rcases hq with ⟨k, x, hq⟩ | hq
    · exact (hD σ τ).2 k _ hq
    · exact hA q (Nat.le_trans hS.1 hq)
  refine ev_callq (rest := r.map (ev_v ad)) (A1 := va_A (ev_lay LY K3 ad σ τ) H.size) (free := va_A (ev_lay LY K3 ad σ τ) H.size) (va_runS (As := as.map (ev_v ad)) ⟨hx, hb, hml, hown, hts⟩ (hM D K3 ad H.size as σ τ h5) (cw hts) ⟨ev_blind, ev_pre hK hP (hD σ τ) rfl⟩ rfl (by rw [List.length_map]; exact h1) hL.1 (by show List.map _ _ = _; rw [List.map_append, List.map_reverse]) (lv_room (by rw [ev_cats]; exact h3)) d ⟨hc0, hc1⟩) hS (fun q _ hq => hF q hq) hF (fun v σ' τ' H1 locs1 hp hP1 hS1 => ?_)
  rw [ev_stack]
  exact hK2 _ _ _ _ _ _ (ev_push_k (h6 v σ' τ' hp)) H1 locs1 ls hP1 hS1 hL
theorem qq_cSN (X : ev_X l R LY cl Ts cc nL own J) {host : String} (hM : ev_C ι l y ws rm LY cl pre post) (cw : ∀ {args : Array Value} {s : State}, (∀ w ∈ Ts, w.before args s = true) → va_CN R s args own index y host bytes maxL ret ws rm 0 0 na ∧ (Cond.static y).before args s = true ∧ True) (d : decode cc pc = .ok (.invokestatic index, 3)) : ev_ok J pc (tt_cS na ι pre post (pc + 3)) := by
  obtain ⟨p, e, s, m, args, below, meth, c, Q, D, K3, ad, A, b0, b1, rfl, hx, hb, hml, hown, hts, hK, hD, hA, hc0, hc1⟩ := X
  intro lv st σ τ n K h hK2 H locs ls hP hS hL
  obtain ⟨as, r, h1, rfl, h2⟩ := ev_tk_0 h
  obtain ⟨h3, h4⟩ := ev_rm_k h2
  obtain ⟨rfl, h5, h6⟩ := ev_z_k h4
  have hF : ∀ q, va_A (ev_lay LY K3 ad σ τ) H.size q → A q := by
    intro q hq
    rcases hq with ⟨k, x, hq⟩ | hq
    · exact (hD σ τ).2 k _ hq
    · exact hA q (Nat.le_trans hS.1 hq)
  refine ev_callq (rest := r.map (ev_v ad)) (A1 := va_A (ev_lay LY K3 ad σ τ) H.size) (free := va_A (ev_lay LY K3 ad σ τ) H.size) (va_runSN (As := as.map (ev_v ad)) ⟨hx, hb, hml, hown, hts⟩ (hM D K3 ad H.size as σ τ h5) (cw hts) ⟨ev_blind, ev_pre hK hP (hD σ τ) rfl⟩ rfl (by rw [List.length_map]; exact h1) hL.1 (by show List.map _ _ = _; rw [List.map_append, List.map_reverse]) (lv_room (by rw [ev_cats]; exact h3)) d ⟨hc0, hc1⟩) hS (fun q _ hq => hF q hq) hF (fun v σ' τ' H1 locs1 hp hP1 hS1 => ?_)
  rw [ev_stack]
  exact hK2 _ _ _ _ _ _ (ev_push_k (h6 v σ' τ' hp)) H1 locs1 ls hP1 hS1 hL
theorem qq_cV (X : ev_X l R LY cl Ts cc nL own J) {C : String} {T : u_T} {N : Nat} (ci : Nat) (hc : cl[ci]? = some (C, T, N)) (hM : ev_C ι l y ws rm LY cl pre post) (cw : ∀ {args : Array Value} {s : State}, (∀ w ∈ Ts, w.before args s = true) → CallW R s args own C index y bytes maxL ret ws rm 0 0 na) (d : decode cc pc = .ok (.invokevirtual index, 3)) : ev_ok J pc (tt_cV LY ci na ι pre post (pc + 3)) := by
  obtain ⟨p, e, s, m, args, below, meth, c, Q, D, K3, ad, A, b0, b1, rfl, hx, hb, hml, hown, hts, hK, hD, hA, hc0, hc1⟩ := X
  intro lv st σ τ n K h hK2 H locs ls hP hS hL
  obtain ⟨as, r, h1, rfl, h2⟩ := ev_tk_0 h
  unfold ev_rc at h2
  split at h2
  · rename_i q as'
    obtain ⟨fs, h7, h2⟩ := ev_ob_k h2
    obtain ⟨h3, h4⟩ := ev_rm_k h2
    obtain ⟨rfl, h5, h6⟩ := ev_z_k h4
    have hF : ∀ q, va_A (ev_lay LY K3 ad σ τ) H.size q → A q := by
      intro q hq
      rcases hq with ⟨k, x, hq⟩ | hq
      · exact (hD σ τ).2 k _ hq
      · exact hA q (Nat.le_trans hS.1 hq)
    have hrec := va_recv hK hP hc (a := ad q) (q0 := q) (ci := ci) (fs := ev_f ad (σ q) 0 fs) (by rw [ev_lay_get, h7]; rfl)
    refine ev_callq (rest := r.map (ev_v ad)) (A1 := va_A (ev_lay LY K3 ad σ τ) H.size) (free := va_A (ev_lay LY K3 ad σ τ) H.size) (va_runV (b := ad q) (As := as'.map (ev_v ad)) ⟨hx, hb, hml, hown, hts⟩ (hM D K3 ad H.size (.ref q :: as') σ τ h5) (cw hts) ⟨ev_blind, hrec, ev_pre (as := .ref q :: as') hK hP (hD σ τ) rfl⟩ rfl (by rw [List.length_map]; simpa using h1) hL.1 (by show List.map _ _ = _; simp [ev_v]) (lv_room (by rw [ev_cats]; exact h3)) d ⟨hc0, hc1⟩) hS (fun q _ hq => hF q hq) hF (fun v σ' τ' H1 locs1 hp hP1 hS1 => ?_)
    rw [ev_stack]
    exact hK2 _ _ _ _ _ _ (ev_push_k (h6 v σ' τ' hp)) H1 locs1 ls hP1 hS1 hL
  · exact h2.elim
theorem qq_cVN (X : ev_X l R LY cl Ts cc nL own J) {C : String} {T : u_T} {N : Nat} {host : String} (ci : Nat) (hc : cl[ci]? = some (C, T, N)) (hM : ev_C ι l y ws rm LY cl pre post) (cw : ∀ {args : Array Value} {s : State}, (∀ w ∈ Ts, w.before args s = true) → va_CN R s args own index y host bytes maxL ret ws rm 0 0 na ∧ (Cond.instanceMethod y).before args s = true ∧ (Cond.selects C y y).before args s = true) (d : decode cc pc = .ok (.invokevirtual index, 3)) : ev_ok J pc (tt_cV LY ci na ι pre post (pc + 3)) := by
  obtain ⟨p, e, s, m, args, below, meth, c, Q, D, K3, ad, A, b0, b1, rfl, hx, hb, hml, hown, hts, hK, hD, hA, hc0, hc1⟩ := X
  intro lv st σ τ n K h hK2 H locs ls hP hS hL
  obtain ⟨as, r, h1, rfl, h2⟩ := ev_tk_0 h
  unfold ev_rc at h2
  split at h2
  · rename_i q as'
    obtain ⟨fs, h7, h2⟩ := ev_ob_k h2
    obtain ⟨h3, h4⟩ := ev_rm_k h2
    obtain ⟨rfl, h5, h6⟩ := ev_z_k h4
    have hF : ∀ q, va_A (ev_lay LY K3 ad σ τ) H.size q → A q := by
      intro q hq
      rcases hq with ⟨k, x, hq⟩ | hq
      · exact (hD σ τ).2 k _ hq
      · exact hA q (Nat.le_trans hS.1 hq)
    have hrec := va_recv hK hP hc (a := ad q) (q0 := q) (ci := ci) (fs := ev_f ad (σ q) 0 fs) (by rw [ev_lay_get, h7]; rfl)
    refine ev_callq (rest := r.map (ev_v ad)) (A1 := va_A (ev_lay LY K3 ad σ τ) H.size) (free := va_A (ev_lay LY K3 ad σ τ) H.size) (va_runVN (b := ad q) (As := as'.map (ev_v ad)) ⟨hx, hb, hml, hown, hts⟩ (hM D K3 ad H.size (.ref q :: as') σ τ h5) (cw hts) ⟨ev_blind, hrec, ev_pre (as := .ref q :: as') hK hP (hD σ τ) rfl⟩ rfl (by rw [List.length_map]; simpa using h1) hL.1 (by show List.map _ _ = _; simp [ev_v]) (lv_room (by rw [ev_cats]; exact h3)) d ⟨hc0, hc1⟩) hS (fun q _ hq => hF q hq) hF (fun v σ' τ' H1 locs1 hp hP1 hS1 => ?_)
    rw [ev_stack]
    exact hK2 _ _ _ _ _ _ (ev_push_k (h6 v σ' τ' hp)) H1 locs1 ls hP1 hS1 hL
  · exact h2.elim
end EVQ
/-! returns -/
def ev_Z {ρ : Type} (J : ev_K) (cc : ByteArray) (rop : Instr) (ι : ρ → Option Value) (P : ρ → ev_M → ev_L → Prop) : Prop := ∀ (pc : Nat) (lv : List Value) (r : ρ) (σ : ev_M) (τ : ev_L), decode cc pc = .ok (rop, 1) → P r σ τ → J pc lv ((ι r).toList) σ τ 0
def tt_ri (P : Int32 → ev_M → ev_L → Prop) : ev_T := fun _ st σ τ n _ => match st with
  | [.int x] => ev_z n (P x σ τ)
  | _ => False
theorem qq_ri {J : ev_K} {cc : ByteArray} {pc : Nat} {P : Int32 → ev_M → ev_L → Prop} (Z : ev_Z J cc .ireturn ev_i P) (d : decode cc pc = .ok (.ireturn, 1)) : ev_ok J pc (tt_ri P) := by
  intro lv st σ τ n K h _
  unfold tt_ri at h
  split at h
  · obtain ⟨rfl, h⟩ := ev_z_k h
    exact Z pc lv _ σ τ d h
  · exact h.elim
def tt_rz (P : Bool → ev_M → ev_L → Prop) : ev_T := fun _ st σ τ n _ => match st with
  | [.int x] => ev_z n (∃ b : Bool, x = cond b 1 0 ∧ P b σ τ)
  | _ => False
theorem qq_rz {J : ev_K} {cc : ByteArray} {pc : Nat} {P : Bool → ev_M → ev_L → Prop} (Z : ev_Z J cc .ireturn ev_b P) (d : decode cc pc = .ok (.ireturn, 1)) : ev_ok J pc (tt_rz P) := by
  intro lv st σ τ n K h _
  unfold tt_rz at h
  split at h
  · obtain ⟨hn, b, hb, h2⟩ := ev_z_k h
    subst hn
    subst hb
    exact Z pc lv b σ τ d h2
  · exact h.elim
def tt_rv (P : Unit → ev_M → ev_L → Prop) : ev_T := fun _ st σ τ n _ => match st with
  | [] => ev_z n (P () σ τ)
  | _ => False
theorem qq_rv {J : ev_K} {cc : ByteArray} {pc : Nat} {P : Unit → ev_M → ev_L → Prop} (Z : ev_Z J cc .return_ ev_n P) (d : decode cc pc = .ok (.return_, 1)) : ev_ok J pc (tt_rv P) := by
  intro lv st σ τ n K h _
  unfold tt_rv at h
  split at h
  · obtain ⟨rfl, h⟩ := ev_z_k h
    exact Z pc lv () σ τ d h
  · exact h.elim
def tt_rl (P : Int64 → ev_M → ev_L → Prop) : ev_T := fun _ st σ τ n _ => match st with
  | [.long x] => ev_z n (P x σ τ)
  | _ => False
theorem qq_rl {J : ev_K} {cc : ByteArray} {pc : Nat} {P : Int64 → ev_M → ev_L → Prop} (Z : ev_Z J cc .lreturn ev_l P) (d : decode cc pc = .ok (.lreturn, 1)) : ev_ok J pc (tt_rl P) := by
  intro lv st σ τ n K h _
  unfold tt_rl at h
  split at h
  · obtain ⟨rfl, h⟩ := ev_z_k h
    exact Z pc lv _ σ τ d h
  · exact h.elim
def tt_ra (P : Nat → ev_M → ev_L → Prop) : ev_T := fun _ st σ τ n _ => match st with
  | [.ref x] => ev_z n (P x σ τ)
  | _ => False
theorem qq_ra {J : ev_K} {cc : ByteArray} {pc : Nat} {P : Nat → ev_M → ev_L → Prop} (Z : ev_Z J cc .areturn ev_r P) (d : decode cc pc = .ok (.areturn, 1)) : ev_ok J pc (tt_ra P) := by
  intro lv st σ τ n K h _
  unfold tt_ra at h
  split at h
  · obtain ⟨rfl, h⟩ := ev_z_k h
    exact Z pc lv _ σ τ d h
  · exact h.elim
/-- which return answers what -/
def ev_rop {ρ : Type} (ret : Option FieldType) (ι : ρ → Option Value) (rop : Instr) : Prop := ∀ (p : Program) (l : Launch) (e : Env) (R : Room) (s : State) (m : MethodId) (args : Array Value) (below : List Frame) (meth : Method) (c : Code) (H : Heap) (locs : List Loc) (cells slots : Nat) (Qc : Array Value → State → Outcome → State → Prop) (free : Addr → Prop) (cc : ByteArray) (pc : Nat) (ls : Array Slot) (ad : Nat → Nat) (r : ρ),
  p.tables.exec = Jvm.exec → c.code = cc → meth.sig.returnType = ret → meth.locks = false → decode cc pc = .ok (rop, 1) → (∀ t : State, t.heap = H → s.WarmedH t.vm → Qc args s (.returned ((ι r).map (ev_v ad))) t) → (∀ q ∈ locs, free q.base) → W p l e R s m args below meth c H locs cells slots (MQ below Qc args s cells slots free) (F0 m pc ls ((ι r).toList.map (ev_v ad)))
theorem ev_rop_i : ev_rop (some .int) ev_i .ireturn := fun p l e R s m args below meth c H locs cells slots Qc free cc pc ls ad r hx hb hr hl d hq hf => W.iret (v := r) hx hb hr hq hf d hl
theorem ev_rop_b : ev_rop (some .boolean) ev_b .ireturn := fun p l e R s m args below meth c H locs cells slots Qc free cc pc ls ad r hx hb hr hl d hq hf => W.zret (v := cond r 1 0) hx hb hr (by cases r <;> rfl) hq hf d hl
theorem ev_rop_v : ev_rop none ev_n .return_ := fun p l e R s m args below meth c H locs cells slots Qc free cc pc ls ad r hx hb hr hl d hq hf => W.vret hx hb hr hq hf d hl
theorem ev_rop_l : ev_rop (some .long) ev_l .lreturn := fun p l e R s m args below meth c H locs cells slots Qc free cc pc ls ad r hx hb hr hl d hq hf => W.lret (v := r) hx hb hr hq hf d hl
theorem ev_rop_r (C : String) : ev_rop (some (.object C)) ev_r .areturn := fun p l e R s m args below meth c H locs cells slots Qc free cc pc ls ad r hx hb hr hl d hq hf => W.aret (v := .ref (ad r)) hx hb hr (Or.inl ⟨_, rfl⟩) (Or.inr ⟨_, rfl⟩) hq hf d hl
/-- how wide the arguments are -/
def ev_wd : List Value → Nat
  | [] => 0
  | .long _ :: r => ev_wd r + 2
  | .double _ :: r => ev_wd r + 2
  | _ :: r => ev_wd r + 1
theorem ev_wd_sl (ad : Nat → Nat) : ∀ as : List Value, (lg_sl (as.map (ev_v ad))).length = ev_wd as
  | [] => rfl
  | v :: r => by
    have ih := ev_wd_sl ad r
    have key : ∀ (w : Value) (q : List Value), (lg_sl (w :: q)).length = (if w.category = 2 then 2 else 1) + (lg_sl q).length := fun w q => by
      by_cases hc : w.category = 2 <;> simp [lg_sl, hc] <;> omega
    rw [List.map_cons, key, ih, ev_v_cat]
    cases v <;> simp [ev_wd, Value.category] <;> omega
/-- a method: its walk gives its contract -/
theorem ev_meth {ρ : Type} {ι : ρ → Option Value} {l : Launch} {y : MethodName} {ws ws' : List Cond} {rm : Room} {LY : List ev_D} {cl : List vw_C} {pre : List Value → ev_M → ev_L → Prop} {post : List Value → ev_M → ev_L → ρ → ev_M → ev_L → Prop} {cc : ByteArray} {maxL : Nat} {ret : Option FieldType} {rop : Instr}
    (hy : plainName y.cls = true) (hw : ws = Cond.code y cc maxL ret :: ws') (hrop : ev_rop ret ι rop) (hwd : ∀ (as : List Value) (σ : ev_M) (τ : ev_L), pre as σ τ → ev_wd as ≤ maxL)
    (body : ∀ (J : ev_K) (as : List Value) (σ : ev_M) (τ : ev_L), pre as σ τ → ev_X l rm LY cl ws cc maxL y.cls J → ev_Z J cc rop ι (post as σ τ) → J 0 (ev_in maxL as) [] σ τ 0) : ev_C ι l y ws rm LY cl pre post := by
  intro D K3 ad sz as σ τ hpre
  refine Met.ofW (cc := cc) (maxL := maxL) (ret := ret) hy hw ?_
  intro p e s m args below meth c s₁ B hml hv
  obtain ⟨rfl, hsz, hP, hK, hD0⟩ := hv
  have hx := B.exec
  have hb := B.bytes
  have hr := B.returns
  have hts := atoms_spec (ws := ws) B.pre
  have hown : s.vm.findClass y.cls = some m.cls := findClass_of_methodNamed B.named
  have hlocks := B.notSynchronized
  subst hsz
  have hD1 := hD0.self (sz := s.heap.size)
  have hl := lv_entry (as.map (ev_v ad)) (n := maxL) (by rw [ev_wd_sl]; exact hwd as σ τ hpre)
  rw [lg_entry_eq]
  generalize (lg_sl (as.map (ev_v ad)) ++ List.replicate (maxL - (lg_sl (as.map (ev_v ad))).length) Slot.unset).toArray = ls at hl ⊢
  have hL : ev_h ad ls maxL (ev_in maxL as) := by
    refine ⟨hl.1, hl.2.1, fun q hq => hl.2.2 q ?_⟩
    obtain ⟨v, h1, h2, h3⟩ := ev_ps_mem.mp hq
    have h4 := ev_in_at maxL as 0 q.1 v ad h1 h2
    rw [Nat.zero_add, ← h3] at h4
    exact h4
  have hX : ev_X l rm LY cl ws cc maxL y.cls (ev_WS p l e (headSpec ws rm).room s m (as.map (ev_v ad)).toArray below meth c (MQ below (ev_Q ι LY cl D K3 ad (va_A (ev_lay LY K3 ad σ τ) s.heap.size) (post as σ τ)) (as.map (ev_v ad)).toArray s 0 0 (va_A (ev_lay LY K3 ad σ τ) s.heap.size)) maxL D cl LY K3 ad (va_A (ev_lay LY K3 ad σ τ) s.heap.size) 0 0) :=
    ⟨p, e, s, m, _, below, meth, c, _, D, K3, ad, _, 0, 0, rfl, hx, hb, hml, hown, hts, hK, fun σ' τ' => ev_D_any hD1, fun q hq => Or.inr hq, Nat.zero_le _, Nat.zero_le _⟩
  refine body _ as σ τ hpre hX ?_ s.heap [] ls hP va_S.rf hL
  intro pc lv r σ' τ' d hp H locs ls' hP' hS' _
  refine hrop p l e _ s m _ below meth c H locs 0 0 _ _ cc pc ls' ad r hx hb hr hlocks d (fun t ht hW => ?_) hS'.2.2
  exact ⟨⟨r, σ', τ', rfl, hp, by rw [ht]; exact hP', va_K.moved hW.alike hK⟩, hS'.F ht⟩
theorem ev_meth0 {ρ : Type} {ι : ρ → Option Value} {l : Launch} {y : MethodName} {ws ws' : List Cond} {rm : Room} {LY : List ev_D} {cl : List vw_C} {pre : List Value → ev_M → ev_L → Prop} {post : List Value → ev_M → ev_L → ρ → ev_M → ev_L → Prop} {cc : ByteArray} {maxL : Nat} {ret : Option FieldType} {rop : Instr}
    (hy : plainName y.cls = true) (hw : ws = Cond.code y cc maxL ret :: ws') (hrop : ev_rop ret ι rop) (hwd : ∀ (as : List Value) (σ : ev_M) (τ : ev_L), pre as σ τ → ev_wd as ≤ maxL) (I : (ρ → ev_M → ev_L → Prop) → List (Nat × ev_T))
    (ok : ∀ (J : ev_K) (P : ρ → ev_M → ev_L → Prop), ev_X l rm LY cl ws cc maxL y.cls J → ev_Z J cc rop ι P → ev_oks J (I P)) (f : Nat)
    (body : ∀ (as : List Value) (σ : ev_M) (τ : ev_L), pre as σ τ → ev_wp (I (post as σ τ)) [] f 0 (ev_in maxL as) [] σ τ 0 (fun _ _ _ _ _ _ => False)) : ev_C ι l y ws rm LY cl pre post :=
  ev_meth hy hw hrop hwd (fun J as σ τ hpre X Z => ev_sound (ok J _ X Z) (fun _ _ _ _ _ _ h => h.elim) (body as σ τ hpre))
theorem ev_methL {ρ : Type} {ι : ρ → Option Value} {l : Launch} {y : MethodName} {ws ws' : List Cond} {rm : Room} {LY : List ev_D} {cl : List vw_C} {pre : List Value → ev_M → ev_L → Prop} {post : List Value → ev_M → ev_L → ρ → ev_M → ev_L → Prop} {cc : ByteArray} {maxL : Nat} {ret : Option FieldType} {rop : Instr}
    (hy : plainName y.cls = true) (hw : ws = Cond.code y cc maxL ret :: ws') (hrop : ev_rop ret ι rop) (hwd : ∀ (as : List Value) (σ : ev_M) (τ : ev_L), pre as σ τ → ev_wd as ≤ maxL) (I : (ρ → ev_M → ev_L → Prop) → List (Nat × ev_T))
    (ok : ∀ (J : ev_K) (P : ρ → ev_M → ev_L → Prop), ev_X l rm LY cl ws cc maxL y.cls J → ev_Z J cc rop ι P → ev_oks J (I P)) (cut : List Nat) (f : Nat)
    (body : ∀ (as : List Value) (σ : ev_M) (τ : ev_L), pre as σ τ → ∃ Inv : Nat → ev_K, (∃ μ, Inv μ 0 (ev_in maxL as) [] σ τ 0) ∧ ∀ (μ pc : Nat) (lv st : List Value) (σ' : ev_M) (τ' : ev_L) (n : Nat), Inv μ pc lv st σ' τ' n → ev_wp (I (post as σ τ)) cut f pc lv st σ' τ' n (fun pc' lv' st' σ'' τ'' n' => ∃ μ', μ' < μ ∧ Inv μ' pc' lv' st' σ'' τ'' n')) : ev_C ι l y ws rm LY cl pre post :=
  ev_meth hy hw hrop hwd (fun J as σ τ hpre X Z => by
    obtain ⟨Inv, ⟨μ, h0⟩, hs⟩ := body as σ τ hpre
    exact ev_loop (ok J _ X Z) f Inv hs μ _ _ _ _ _ _ h0)
end
section
/-! more instructions: lengths, exclusive or, System.arraycopy of ints -/
section EVM
variable {l : Launch} {R : Room} {LY : List ev_D} {cl : List vw_C} {Ts : List Cond} {cc : ByteArray} {nL : Nat} {own : String} {J : ev_K} {pc : Nat}
def tt_ixor (nx : Nat) : ev_T := fun lv st σ τ n K => match st with
  | .int y :: .int x :: r => K nx lv (.int (x ^^^ y) :: r) σ τ n
  | _ => False
theorem qq_ixor (X : ev_X l R LY cl Ts cc nL own J) (d : decode cc pc = .ok (.ixor, 1)) : ev_ok J pc (tt_ixor (pc + 1)) := by
  obtain ⟨p, e, s, m, args, below, meth, c, Q, D, K3, ad, A, b0, b1, rfl, hx, hb, hml, hown, hts, hK, hD, hA, hc0, hc1⟩ := X
  intro lv st σ τ n K h hK2 H locs ls hP hS hL
  unfold tt_ixor at h
  split at h
  · refine lv_ixor hx hb d ?_
    exact hK2 _ _ _ _ _ _ h H locs ls hP hS hL
  · exact h.elim
def tt_alen (LY : List ev_D) (nx : Nat) : ev_T := fun lv st σ τ n K => match st with
  | .ref k :: r => ev_ly LY k (fun d => match d with
    | (0, z, _) => K nx lv (.int (Int32.ofNat z) :: r) σ τ n
    | (1, z, _) => K nx lv (.int (Int32.ofNat z) :: r) σ τ n
    | (2, z, _) => K nx lv (.int (Int32.ofNat z) :: r) σ τ n
    | _ => False)
  | _ => False
theorem qq_alen (X : ev_X l R LY cl Ts cc nL own J) (d : decode cc pc = .ok (.arraylength, 1)) : ev_ok J pc (tt_alen LY (pc + 1)) := by
  obtain ⟨p, e, s, m, args, below, meth, c, Q, D, K3, ad, A, b0, b1, rfl, hx, hb, hml, hown, hts, hK, hD, hA, hc0, hc1⟩ := X
  intro lv st σ τ n K h hK2 H locs ls hP hS hL
  unfold tt_alen at h
  split at h
  · rename_i k r
    obtain ⟨dd, h1, h2⟩ := ev_ly_k h
    split at h2
    · refine va_alen hx hb hK hP k 0 (by rw [ev_lay_get, h1]; rfl) rfl rfl d ?_
      exact hK2 _ _ _ _ _ _ h2 H locs ls hP hS hL
    · refine va_alen hx hb hK hP k 1 (by rw [ev_lay_get, h1]; rfl) rfl rfl d ?_
      exact hK2 _ _ _ _ _ _ h2 H locs ls hP hS hL
    · refine va_alen hx hb hK hP k 2 (by rw [ev_lay_get, h1]; rfl) rfl rfl d ?_
      exact hK2 _ _ _ _ _ _ h2 H locs ls hP hS hL
    · exact h2.elim
  · exact h.elim
def tt_cpy (LY : List ev_D) (nx : Nat) : ev_T := fun lv st σ τ n K => match st with
  | .int z :: .int dp :: .ref b :: .int sp :: .ref a :: r => ev_ly LY a (fun d => ev_ly LY b (fun d' => match d, d' with
    | (0, n0, _), (0, n1, _) => ev_rm r ((¬ sp < 0 ∧ ¬ dp < 0 ∧ ¬ z < 0 ∧ sp.toNatClampNeg + z.toNatClampNeg ≤ n0 ∧ dp.toNatClampNeg + z.toNatClampNeg ≤ n1) ∧ K nx lv r (ev_p σ b (va_cpy (σ a) (σ b) sp.toNatClampNeg dp.toNatClampNeg z.toNatClampNeg)) τ n)
    | _, _ => False))
  | _ => False
theorem qq_cpy (X : ev_X l R LY cl Ts cc nL own J) {index : Nat} (h1 : Cond.methodLink own index arraycopyName ∈ Ts) (h2 : Cond.native arraycopyName ∈ Ts) (h3 : Cond.static arraycopyName ∈ Ts) (h4 : Cond.initialized "java/lang/System" ∈ Ts) (hf : 1 ≤ R.frames) (hl : 26 ≤ R.locals) (d : decode cc pc = .ok (.invokestatic index, 3)) : ev_ok J pc (tt_cpy LY (pc + 3)) := by
  obtain ⟨p, e, s, m, args, below, meth, c, Q, D, K3, ad, A, b0, b1, rfl, hx, hb, hml, hown, hts, hK, hD, hA, hc0, hc1⟩ := X
  intro lv st σ τ n K h hK2 H locs ls hP hS hL
  unfold tt_cpy at h
  split at h
  · rename_i z dp b sp a r
    obtain ⟨da, g1, h⟩ := ev_ly_k h
    obtain ⟨db, g2, h⟩ := ev_ly_k h
    split at h
    · obtain ⟨hr, ⟨c1, c2, c3, c4, c5⟩, h⟩ := ev_rm_k h
      refine va_copyi hx hb (hml.trans hL.1.symm) hown (hts _ h1) (hts _ h2) (hts _ h3) (hts _ h4) hK hP (hD σ τ) hS a b 0 0 (a0 := ad a) (a := ad b) (c0 := K3.1) (c1 := K3.1) (f := σ a) (g := σ b) (ty := .int) (by rw [ev_lay_get, g1]; rfl) (by rw [ev_lay_get, g2]; rfl) rfl rfl rfl c1 c2 c3 c4 c5 (fun _ _ => rfl) hf (by rw [ev_cats, show nativeFrameWords "java/lang/System" "arraycopy" 5 = 7 from by decide]; omega) d (fun H1 locs1 hP1 _ hS1 => ?_)
      have hP2 : va_P D cl (ev_lay LY K3 ad (ev_p σ b (va_cpy (σ a) (σ b) sp.toNatClampNeg dp.toNatClampNeg z.toNatClampNeg)) τ) H1 := by
        have := ev_lay_set (K3 := K3) (ad := ad) (σ := σ) (τ := τ) (va_cpy (σ a) (σ b) sp.toNatClampNeg dp.toNatClampNeg z.toNatClampNeg) (τ b) g2
        rw [ev_p_same τ b] at this
        rw [← this]
        exact hP1
      exact hK2 _ _ _ _ _ _ h H1 locs1 ls hP2 hS1 hL
    · exact h.elim
  · exact h.elim
end EVM
end
section
/-! the words of the tables that the methods need, by their places in lw_tbl -/
def evW : List Cond := lw_tbl.filter goodWord
theorem evm {w : Cond} (i : Nat) (h : tables_1[i]? = some w) (hg : goodWord w = true) : w ∈ evW := List.mem_filter.mpr ⟨List.mem_append_right _ (List.mem_of_getElem? h), hg⟩
theorem evp {w : Cond} (i : Nat) (h : (k2_sels lw_privs)[i]? = some w) (hg : goodWord w = true) : w ∈ evW := List.mem_filter.mpr ⟨List.mem_append_left _ (List.mem_of_getElem? h), hg⟩
set_option maxRecDepth 100000 in
theorem mp_47 : Cond.selects "BlockCounterModel" ⟨"BlockCounterModel", "select", "(II)Z"⟩ ⟨"BlockCounterModel", "select", "(II)Z"⟩ ∈ evW := evp 47 (by decide +kernel) rfl
set_option maxRecDepth 100000 in
theorem mp_46 : Cond.selects "BlockCounterModel" ⟨"BlockCounterModel", "push", "(II)Z"⟩ ⟨"BlockCounterModel", "push", "(II)Z"⟩ ∈ evW := evp 46 (by decide +kernel) rfl
set_option maxRecDepth 100000 in
theorem mp_45 : Cond.selects "BlockCounterModel" ⟨"BlockCounterModel", "branch", "(IZ)Z"⟩ ⟨"BlockCounterModel", "branch", "(IZ)Z"⟩ ∈ evW := evp 45 (by decide +kernel) rfl
set_option maxRecDepth 100000 in
theorem mp_44 : Cond.selects "BlockCounterModel" ⟨"BlockCounterModel", "go", "(I)Z"⟩ ⟨"BlockCounterModel", "go", "(I)Z"⟩ ∈ evW := evp 44 (by decide +kernel) rfl
set_option maxRecDepth 100000 in
theorem mp_43 : Cond.selects "BlockCounterModel" ⟨"BlockCounterModel", "doOne", "(II)Z"⟩ ⟨"BlockCounterModel", "doOne", "(II)Z"⟩ ∈ evW := evp 43 (by decide +kernel) rfl
set_option maxRecDepth 100000 in
theorem mp_42 : Cond.selects "BlockCounterModel" ⟨"BlockCounterModel", "fault", "()Z"⟩ ⟨"BlockCounterModel", "fault", "()Z"⟩ ∈ evW := evp 42 (by decide +kernel) rfl
set_option maxRecDepth 100000 in
theorem mp_41 : Cond.selects "BlockCounterModel" ⟨"BlockCounterModel", "at", "(II)I"⟩ ⟨"BlockCounterModel", "at", "(II)I"⟩ ∈ evW := evp 41 (by decide +kernel) rfl
set_option maxRecDepth 100000 in
theorem mp_40 : Cond.selects "BlockCounterModel" ⟨"BlockCounterModel", "step", "(I)Z"⟩ ⟨"BlockCounterModel", "step", "(I)Z"⟩ ∈ evW := evp 40 (by decide +kernel) rfl
set_option maxRecDepth 100000 in
theorem mp_39 : Cond.selects "BlockCounterModel" ⟨"BlockCounterModel", "begin", "()V"⟩ ⟨"BlockCounterModel", "begin", "()V"⟩ ∈ evW := evp 39 (by decide +kernel) rfl
set_option maxRecDepth 100000 in
theorem mp_38 : Cond.selects "BlockCounterModel" ⟨"BlockCounterModel", "jumpTo", "(I)V"⟩ ⟨"BlockCounterModel", "jumpTo", "(I)V"⟩ ∈ evW := evp 38 (by decide +kernel) rfl
set_option maxRecDepth 100000 in
theorem mp_37 : Cond.selects "BlockCounterModel" ⟨"BlockCounterModel", "renew", "(I)V"⟩ ⟨"BlockCounterModel", "renew", "(I)V"⟩ ∈ evW := evp 37 (by decide +kernel) rfl
set_option maxRecDepth 100000 in
theorem mp_36 : Cond.selects "BlockCounterModel" ⟨"BlockCounterModel", "emit", "(I)V"⟩ ⟨"BlockCounterModel", "emit", "(I)V"⟩ ∈ evW := evp 36 (by decide +kernel) rfl
set_option maxRecDepth 100000 in
theorem mp_35 : Cond.selects "BlockCounterModel" ⟨"BlockCounterModel", "renewBlock", "(I)V"⟩ ⟨"BlockCounterModel", "renewBlock", "(I)V"⟩ ∈ evW := evp 35 (by decide +kernel) rfl
set_option maxRecDepth 100000 in
theorem mp_34 : Cond.selects "BlockCounterModel" ⟨"BlockCounterModel", "cut", "()V"⟩ ⟨"BlockCounterModel", "cut", "()V"⟩ ∈ evW := evp 34 (by decide +kernel) rfl
set_option maxRecDepth 100000 in
theorem mp_33 : Cond.selects "BlockCounterModel" ⟨"BlockCounterModel", "occupy", "()V"⟩ ⟨"BlockCounterModel", "occupy", "()V"⟩ ∈ evW := evp 33 (by decide +kernel) rfl
set_option maxRecDepth 100000 in
theorem mp_32 : Cond.selects "BlockCounterModel" ⟨"BlockCounterModel", "isDeclared", "(II)Z"⟩ ⟨"BlockCounterModel", "isDeclared", "(II)Z"⟩ ∈ evW := evp 32 (by decide +kernel) rfl
set_option maxRecDepth 100000 in
theorem mp_31 : Cond.selects "BlockCounterModel" ⟨"BlockCounterModel", "followTable", "(II)V"⟩ ⟨"BlockCounterModel", "followTable", "(II)V"⟩ ∈ evW := evp 31 (by decide +kernel) rfl
set_option maxRecDepth 100000 in
theorem mp_30 : Cond.selects "BlockCounterModel" ⟨"BlockCounterModel", "target", "(I)I"⟩ ⟨"BlockCounterModel", "target", "(I)I"⟩ ∈ evW := evp 30 (by decide +kernel) rfl
set_option maxRecDepth 100000 in
theorem mp_29 : Cond.selects "BlockCounterModel" ⟨"BlockCounterModel", "follow", "(I)V"⟩ ⟨"BlockCounterModel", "follow", "(I)V"⟩ ∈ evW := evp 29 (by decide +kernel) rfl
set_option maxRecDepth 100000 in
theorem mp_28 : Cond.selects "BlockCounterModel" ⟨"BlockCounterModel", "come", "(IZ)V"⟩ ⟨"BlockCounterModel", "come", "(IZ)V"⟩ ∈ evW := evp 28 (by decide +kernel) rfl
set_option maxRecDepth 100000 in
theorem mp_27 : Cond.selects "BlockCounterModel" ⟨"BlockCounterModel", "fail", "(I)I"⟩ ⟨"BlockCounterModel", "fail", "(I)I"⟩ ∈ evW := evp 27 (by decide +kernel) rfl
set_option maxRecDepth 100000 in
theorem mp_26 : Cond.selects "BlockCounterModel" ⟨"BlockCounterModel", "forget", "()V"⟩ ⟨"BlockCounterModel", "forget", "()V"⟩ ∈ evW := evp 26 (by decide +kernel) rfl
set_option maxRecDepth 100000 in
theorem mp_25 : Cond.selects "BlockCounter$Machine" ⟨"BlockCounter$Machine", "grow", "(I)V"⟩ ⟨"BlockCounter$Machine", "grow", "(I)V"⟩ ∈ evW := evp 25 (by decide +kernel) rfl
set_option maxRecDepth 100000 in
theorem mp_24 : Cond.selects "BlockCounter$Machine" ⟨"BlockCounter$Machine", "calculate", "()V"⟩ ⟨"BlockCounter$Machine", "calculate", "()V"⟩ ∈ evW := evp 24 (by decide +kernel) rfl
set_option maxRecDepth 100000 in
theorem mp_23 : Cond.selects "BlockCounter$Machine" ⟨"BlockCounter$Machine", "print", "(I)Z"⟩ ⟨"BlockCounter$Machine", "print", "(I)Z"⟩ ∈ evW := evp 23 (by decide +kernel) rfl
set_option maxRecDepth 100000 in
theorem mp_22 : Cond.selects "BlockCounter$Machine" ⟨"BlockCounter$Machine", "lookUp", "(LBlockCounter$Program;I)I"⟩ ⟨"BlockCounter$Machine", "lookUp", "(LBlockCounter$Program;I)I"⟩ ∈ evW := evp 22 (by decide +kernel) rfl
set_option maxRecDepth 100000 in
theorem mp_21 : Cond.selects "BlockCounter$Machine" ⟨"BlockCounter$Machine", "push", "(I)Z"⟩ ⟨"BlockCounter$Machine", "push", "(I)Z"⟩ ∈ evW := evp 21 (by decide +kernel) rfl
set_option maxRecDepth 100000 in
theorem mp_20 : Cond.selects "BlockCounter$Machine" ⟨"BlockCounter$Machine", "branch", "()I"⟩ ⟨"BlockCounter$Machine", "branch", "()I"⟩ ∈ evW := evp 20 (by decide +kernel) rfl
set_option maxRecDepth 100000 in
theorem mp_19 : Cond.selects "BlockCounter$Machine" ⟨"BlockCounter$Machine", "pop", "()I"⟩ ⟨"BlockCounter$Machine", "pop", "()I"⟩ ∈ evW := evp 19 (by decide +kernel) rfl
set_option maxRecDepth 100000 in
theorem mp_18 : Cond.selects "BlockCounter$Machine" ⟨"BlockCounter$Machine", "trap", "(LBlockCounter$Program;)I"⟩ ⟨"BlockCounter$Machine", "trap", "(LBlockCounter$Program;)I"⟩ ∈ evW := evp 18 (by decide +kernel) rfl
set_option maxRecDepth 100000 in
theorem mp_17 : Cond.selects "BlockCounter$Machine" ⟨"BlockCounter$Machine", "perform", "(LBlockCounter$Program;)I"⟩ ⟨"BlockCounter$Machine", "perform", "(LBlockCounter$Program;)I"⟩ ∈ evW := evp 17 (by decide +kernel) rfl
set_option maxRecDepth 100000 in
theorem mp_16 : Cond.selects "BlockCounter$Machine" ⟨"BlockCounter$Machine", "step", "(LBlockCounter$Program;)I"⟩ ⟨"BlockCounter$Machine", "step", "(LBlockCounter$Program;)I"⟩ ∈ evW := evp 16 (by decide +kernel) rfl
set_option maxRecDepth 100000 in
theorem mp_15 : Cond.selects "BlockCounter$Rewriting" ⟨"BlockCounter$Rewriting", "hook", "(III)V"⟩ ⟨"BlockCounter$Rewriting", "hook", "(III)V"⟩ ∈ evW := evp 15 (by decide +kernel) rfl
set_option maxRecDepth 100000 in
theorem mp_14 : Cond.selects "BlockCounter$Rewriting" ⟨"BlockCounter$Rewriting", "copyInstruction", "()V"⟩ ⟨"BlockCounter$Rewriting", "copyInstruction", "()V"⟩ ∈ evW := evp 14 (by decide +kernel) rfl
set_option maxRecDepth 100000 in
theorem mp_13 : Cond.selects "BlockCounter$Rewriting" ⟨"BlockCounter$Rewriting", "appendJump", "(I)V"⟩ ⟨"BlockCounter$Rewriting", "appendJump", "(I)V"⟩ ∈ evW := evp 13 (by decide +kernel) rfl
set_option maxRecDepth 100000 in
theorem mp_12 : Cond.selects "BlockCounter$Rewriting" ⟨"BlockCounter$Rewriting", "moveInstruction", "()V"⟩ ⟨"BlockCounter$Rewriting", "moveInstruction", "()V"⟩ ∈ evW := evp 12 (by decide +kernel) rfl
set_option maxRecDepth 100000 in
theorem mp_11 : Cond.selects "BlockCounter$Rewriting" ⟨"BlockCounter$Rewriting", "moveFirst", "(LBlockCounter$Program;II)V"⟩ ⟨"BlockCounter$Rewriting", "moveFirst", "(LBlockCounter$Program;II)V"⟩ ∈ evW := evp 11 (by decide +kernel) rfl
set_option maxRecDepth 100000 in
theorem mp_10 : Cond.selects "BlockCounter$Rewriting" ⟨"BlockCounter$Rewriting", "append", "(I)V"⟩ ⟨"BlockCounter$Rewriting", "append", "(I)V"⟩ ∈ evW := evp 10 (by decide +kernel) rfl
set_option maxRecDepth 100000 in
theorem mp_9 : Cond.selects "BlockCounter$Analysis" ⟨"BlockCounter$Analysis", "addBlock", "(LBlockCounter$Program;I)V"⟩ ⟨"BlockCounter$Analysis", "addBlock", "(LBlockCounter$Program;I)V"⟩ ∈ evW := evp 9 (by decide +kernel) rfl
set_option maxRecDepth 100000 in
theorem mp_8 : Cond.selects "BlockCounter$Analysis" ⟨"BlockCounter$Analysis", "findBlocks", "(LBlockCounter$Program;)V"⟩ ⟨"BlockCounter$Analysis", "findBlocks", "(LBlockCounter$Program;)V"⟩ ∈ evW := evp 8 (by decide +kernel) rfl
set_option maxRecDepth 100000 in
theorem mp_7 : Cond.selects "BlockCounter$Analysis" ⟨"BlockCounter$Analysis", "isWithoutOverlap", "(LBlockCounter$Program;)Z"⟩ ⟨"BlockCounter$Analysis", "isWithoutOverlap", "(LBlockCounter$Program;)Z"⟩ ∈ evW := evp 7 (by decide +kernel) rfl
set_option maxRecDepth 100000 in
theorem mp_6 : Cond.selects "BlockCounter$Analysis" ⟨"BlockCounter$Analysis", "followTable", "(LBlockCounter$Program;II)Z"⟩ ⟨"BlockCounter$Analysis", "followTable", "(LBlockCounter$Program;II)Z"⟩ ∈ evW := evp 6 (by decide +kernel) rfl
set_option maxRecDepth 100000 in
theorem mp_5 : Cond.selects "BlockCounter$Analysis" ⟨"BlockCounter$Analysis", "follow", "(LBlockCounter$Program;LBlockCounter$Tables;I)Z"⟩ ⟨"BlockCounter$Analysis", "follow", "(LBlockCounter$Program;LBlockCounter$Tables;I)Z"⟩ ∈ evW := evp 5 (by decide +kernel) rfl
set_option maxRecDepth 100000 in
theorem mp_4 : Cond.selects "BlockCounter$Analysis" ⟨"BlockCounter$Analysis", "comeTo", "(I)Z"⟩ ⟨"BlockCounter$Analysis", "comeTo", "(I)Z"⟩ ∈ evW := evp 4 (by decide +kernel) rfl
set_option maxRecDepth 100000 in
theorem mp_3 : Cond.selects "BlockCounter$Analysis" ⟨"BlockCounter$Analysis", "comeToHead", "(I)Z"⟩ ⟨"BlockCounter$Analysis", "comeToHead", "(I)Z"⟩ ∈ evW := evp 3 (by decide +kernel) rfl
set_option maxRecDepth 100000 in
theorem mp_2 : Cond.selects "BlockCounter$Analysis" ⟨"BlockCounter$Analysis", "clear", "()V"⟩ ⟨"BlockCounter$Analysis", "clear", "()V"⟩ ∈ evW := evp 2 (by decide +kernel) rfl
set_option maxRecDepth 100000 in
theorem mp_1 : Cond.selects "BlockCounter" ⟨"BlockCounter", "forgetFindings", "()V"⟩ ⟨"BlockCounter", "forgetFindings", "()V"⟩ ∈ evW := evp 1 (by decide +kernel) rfl
set_option maxRecDepth 100000 in
theorem mp_0 : Cond.selects "java/lang/Throwable" ⟨"java/lang/Throwable", "fillInStackTrace", "(I)Ljava/lang/Throwable;"⟩ ⟨"java/lang/Throwable", "fillInStackTrace", "(I)Ljava/lang/Throwable;"⟩ ∈ evW := evp 0 (by decide +kernel) rfl
set_option maxRecDepth 100000 in
theorem mw_0 : (Jvm.Cond.initialized "BlockCounterLaw") ∈ evW := evm 0 (by decide +kernel) rfl
set_option maxRecDepth 100000 in
theorem mw_1 : (Jvm.Cond.initialized "BlockCounter") ∈ evW := evm 1 (by decide +kernel) rfl
set_option maxRecDepth 100000 in
theorem mw_2 : (Jvm.Cond.initialized "BlockCounter$Program") ∈ evW := evm 2 (by decide +kernel) rfl
set_option maxRecDepth 100000 in
theorem mw_3 : (Jvm.Cond.initialized "BlockCounter$Tables") ∈ evW := evm 3 (by decide +kernel) rfl
set_option maxRecDepth 100000 in
theorem mw_4 : (Jvm.Cond.initialized "BlockCounter$Analysis") ∈ evW := evm 4 (by decide +kernel) rfl
set_option maxRecDepth 100000 in
theorem mw_5 : (Jvm.Cond.initialized "BlockCounter$Instruction") ∈ evW := evm 5 (by decide +kernel) rfl
set_option maxRecDepth 100000 in
theorem mw_6 : (Jvm.Cond.initialized "BlockCounter$Rewriting") ∈ evW := evm 6 (by decide +kernel) rfl
set_option maxRecDepth 100000 in
theorem mw_7 : (Jvm.Cond.initialized "BlockCounter$Machine") ∈ evW := evm 7 (by decide +kernel) rfl
set_option maxRecDepth 100000 in
theorem mw_8 : (Jvm.Cond.initialized "BlockCounterModel") ∈ evW := evm 8 (by decide +kernel) rfl
set_option maxRecDepth 100000 in
theorem mw_9 : (Jvm.Cond.initialized "java/lang/Throwable") ∈ evW := evm 9 (by decide +kernel) rfl
set_option maxRecDepth 100000 in
theorem mw_10 : (Jvm.Cond.initialized "java/lang/Exception") ∈ evW := evm 10 (by decide +kernel) rfl
set_option maxRecDepth 100000 in
theorem mw_11 : (Jvm.Cond.initialized "java/lang/RuntimeException") ∈ evW := evm 11 (by decide +kernel) rfl
set_option maxRecDepth 100000 in
theorem mw_12 : (Jvm.Cond.initialized "java/lang/IndexOutOfBoundsException") ∈ evW := evm 12 (by decide +kernel) rfl
set_option maxRecDepth 100000 in
theorem mw_13 : (Jvm.Cond.initialized "java/lang/IllegalArgumentException") ∈ evW := evm 13 (by decide +kernel) rfl
set_option maxRecDepth 100000 in
theorem mw_14 : (Jvm.Cond.initialized "java/lang/IllegalStateException") ∈ evW := evm 14 (by decide +kernel) rfl
set_option maxRecDepth 100000 in
theorem mw_15 : (Jvm.Cond.initialized "java/util/Arrays") ∈ evW := evm 15 (by decide +kernel) rfl
set_option maxRecDepth 100000 in
theorem mw_16 : (Jvm.Cond.initialized "java/lang/UnsupportedOperationException") ∈ evW := evm 16 (by decide +kernel) rfl
set_option maxRecDepth 100000 in
theorem mw_17 : (Jvm.Cond.initialized "java/lang/System") ∈ evW := evm 17 (by decide +kernel) rfl
set_option maxRecDepth 100000 in
theorem mw_18 : (Jvm.Cond.initialized "java/lang/Math") ∈ evW := evm 18 (by decide +kernel) rfl
set_option maxRecDepth 100000 in
theorem mw_21 : (Jvm.Cond.methodLink "BlockCounterLaw" (60 : Nat) ({ cls := "BlockCounter", name := "<init>", desc := "()V" } : Jvm.MethodName)) ∈ evW := evm 21 (by decide +kernel) rfl
set_option maxRecDepth 100000 in
theorem mw_22 : (Jvm.Cond.instanceMethod ({ cls := "BlockCounter", name := "<init>", desc := "()V" } : Jvm.MethodName)) ∈ evW := evm 22 (by decide +kernel) rfl
set_option maxRecDepth 100000 in
theorem mw_23 : (Jvm.Cond.code ({ cls := "BlockCounter", name := "<init>", desc := "()V" } : Jvm.MethodName) prog_1_method_1_code (1 : Nat) (Option.none : Option Jvm.ClassFile.FieldType)) ∈ evW := evm 23 rfl rfl
set_option maxRecDepth 100000 in
theorem mw_24 : (Jvm.Cond.methodLink "BlockCounter" (1 : Nat) ({ cls := "java/lang/Object", name := "<init>", desc := "()V" } : Jvm.MethodName)) ∈ evW := evm 24 (by decide +kernel) rfl
set_option maxRecDepth 100000 in
theorem mw_25 : (Jvm.Cond.instanceMethod ({ cls := "java/lang/Object", name := "<init>", desc := "()V" } : Jvm.MethodName)) ∈ evW := evm 25 (by decide +kernel) rfl
set_option maxRecDepth 100000 in
theorem mw_26 : (Jvm.Cond.code ({ cls := "java/lang/Object", name := "<init>", desc := "()V" } : Jvm.MethodName) object_method_1_code (1 : Nat) (Option.none : Option Jvm.ClassFile.FieldType)) ∈ evW := evm 26 rfl rfl
set_option maxRecDepth 100000 in
theorem mw_29 : (Jvm.Cond.methodLink "BlockCounter" (9 : Nat) ({ cls := "BlockCounter$Program", name := "<init>", desc := "()V" } : Jvm.MethodName)) ∈ evW := evm 29 (by decide +kernel) rfl
set_option maxRecDepth 100000 in
theorem mw_30 : (Jvm.Cond.instanceMethod ({ cls := "BlockCounter$Program", name := "<init>", desc := "()V" } : Jvm.MethodName)) ∈ evW := evm 30 (by decide +kernel) rfl
set_option maxRecDepth 100000 in
theorem mw_31 : (Jvm.Cond.code ({ cls := "BlockCounter$Program", name := "<init>", desc := "()V" } : Jvm.MethodName) prog_5_method_1_code (1 : Nat) (Option.none : Option Jvm.ClassFile.FieldType)) ∈ evW := evm 31 rfl rfl
set_option maxRecDepth 100000 in
theorem mw_32 : (Jvm.Cond.methodLink "BlockCounter$Program" (3 : Nat) ({ cls := "java/lang/Object", name := "<init>", desc := "()V" } : Jvm.MethodName)) ∈ evW := evm 32 (by decide +kernel) rfl
set_option maxRecDepth 100000 in
theorem mw_33 : (Jvm.Cond.fieldLink "BlockCounter$Program" (9 : Nat) "BlockCounter$Program" "bytes" "[I") ∈ evW := evm 33 (by decide +kernel) rfl
set_option maxRecDepth 100000 in
theorem mw_34 : (Jvm.Cond.fieldLink "BlockCounter$Program" (15 : Nat) "BlockCounter$Program" "traps" "[I") ∈ evW := evm 34 (by decide +kernel) rfl
set_option maxRecDepth 100000 in
theorem mw_43 : (Jvm.Cond.methodLink "BlockCounter" (18 : Nat) ({ cls := "BlockCounter$Tables", name := "<init>", desc := "()V" } : Jvm.MethodName)) ∈ evW := evm 43 (by decide +kernel) rfl
set_option maxRecDepth 100000 in
theorem mw_44 : (Jvm.Cond.instanceMethod ({ cls := "BlockCounter$Tables", name := "<init>", desc := "()V" } : Jvm.MethodName)) ∈ evW := evm 44 (by decide +kernel) rfl
set_option maxRecDepth 100000 in
theorem mw_45 : (Jvm.Cond.code ({ cls := "BlockCounter$Tables", name := "<init>", desc := "()V" } : Jvm.MethodName) prog_7_method_1_code (1 : Nat) (Option.none : Option Jvm.ClassFile.FieldType)) ∈ evW := evm 45 rfl rfl
set_option maxRecDepth 100000 in
theorem mw_46 : (Jvm.Cond.methodLink "BlockCounter$Tables" (1 : Nat) ({ cls := "java/lang/Object", name := "<init>", desc := "()V" } : Jvm.MethodName)) ∈ evW := evm 46 (by decide +kernel) rfl
set_option maxRecDepth 100000 in
theorem mw_47 : (Jvm.Cond.fieldLink "BlockCounter$Tables" (9 : Nat) "BlockCounter$Tables" "bases" "[I") ∈ evW := evm 47 (by decide +kernel) rfl
set_option maxRecDepth 100000 in
theorem mw_48 : (Jvm.Cond.fieldLink "BlockCounter$Tables" (13 : Nat) "BlockCounter$Tables" "counts" "[I") ∈ evW := evm 48 (by decide +kernel) rfl
set_option maxRecDepth 100000 in
theorem mw_49 : (Jvm.Cond.fieldLink "BlockCounter$Tables" (16 : Nat) "BlockCounter$Tables" "declared" "I") ∈ evW := evm 49 (by decide +kernel) rfl
set_option maxRecDepth 100000 in
theorem mw_59 : (Jvm.Cond.methodLink "BlockCounter" (29 : Nat) ({ cls := "BlockCounter$Analysis", name := "<init>", desc := "()V" } : Jvm.MethodName)) ∈ evW := evm 59 (by decide +kernel) rfl
set_option maxRecDepth 100000 in
theorem mw_60 : (Jvm.Cond.instanceMethod ({ cls := "BlockCounter$Analysis", name := "<init>", desc := "()V" } : Jvm.MethodName)) ∈ evW := evm 60 (by decide +kernel) rfl
set_option maxRecDepth 100000 in
theorem mw_61 : (Jvm.Cond.code ({ cls := "BlockCounter$Analysis", name := "<init>", desc := "()V" } : Jvm.MethodName) prog_2_method_1_code (1 : Nat) (Option.none : Option Jvm.ClassFile.FieldType)) ∈ evW := evm 61 rfl rfl
set_option maxRecDepth 100000 in
theorem mw_62 : (Jvm.Cond.methodLink "BlockCounter$Analysis" (3 : Nat) ({ cls := "java/lang/Object", name := "<init>", desc := "()V" } : Jvm.MethodName)) ∈ evW := evm 62 (by decide +kernel) rfl
set_option maxRecDepth 100000 in
theorem mw_66 : (Jvm.Cond.instanceMethod ({ cls := "BlockCounter$Instruction", name := "<init>", desc := "()V" } : Jvm.MethodName)) ∈ evW := evm 66 (by decide +kernel) rfl
set_option maxRecDepth 100000 in
theorem mw_67 : (Jvm.Cond.code ({ cls := "BlockCounter$Instruction", name := "<init>", desc := "()V" } : Jvm.MethodName) prog_3_method_1_code (1 : Nat) (Option.none : Option Jvm.ClassFile.FieldType)) ∈ evW := evm 67 rfl rfl
set_option maxRecDepth 100000 in
theorem mw_68 : (Jvm.Cond.methodLink "BlockCounter$Instruction" (1 : Nat) ({ cls := "java/lang/Object", name := "<init>", desc := "()V" } : Jvm.MethodName)) ∈ evW := evm 68 (by decide +kernel) rfl
set_option maxRecDepth 100000 in
theorem mw_69 : (Jvm.Cond.fieldLink "BlockCounter$Instruction" (7 : Nat) "BlockCounter$Instruction" "address" "I") ∈ evW := evm 69 (by decide +kernel) rfl
set_option maxRecDepth 100000 in
theorem mw_70 : (Jvm.Cond.fieldLink "BlockCounter$Instruction" (19 : Nat) "BlockCounter$Instruction" "first" "I") ∈ evW := evm 70 (by decide +kernel) rfl
set_option maxRecDepth 100000 in
theorem mw_71 : (Jvm.Cond.fieldLink "BlockCounter$Rewriting" (95 : Nat) "BlockCounter$Instruction" "first" "I") ∈ evW := evm 71 (by decide +kernel) rfl
set_option maxRecDepth 100000 in
theorem mw_72 : (Jvm.Cond.fieldLink "BlockCounter$Instruction" (25 : Nat) "BlockCounter$Instruction" "kind" "I") ∈ evW := evm 72 (by decide +kernel) rfl
set_option maxRecDepth 100000 in
theorem mw_73 : (Jvm.Cond.fieldLink "BlockCounter$Rewriting" (101 : Nat) "BlockCounter$Instruction" "kind" "I") ∈ evW := evm 73 (by decide +kernel) rfl
set_option maxRecDepth 100000 in
theorem mw_74 : (Jvm.Cond.fieldLink "BlockCounter$Machine" (81 : Nat) "BlockCounter$Instruction" "kind" "I") ∈ evW := evm 74 (by decide +kernel) rfl
set_option maxRecDepth 100000 in
theorem mw_75 : (Jvm.Cond.fieldLink "BlockCounter$Analysis" (97 : Nat) "BlockCounter$Instruction" "kind" "I") ∈ evW := evm 75 (by decide +kernel) rfl
set_option maxRecDepth 100000 in
theorem mw_76 : (Jvm.Cond.fieldLink "BlockCounter$Instruction" (32 : Nat) "BlockCounter$Instruction" "n" "I") ∈ evW := evm 76 (by decide +kernel) rfl
set_option maxRecDepth 100000 in
theorem mw_77 : (Jvm.Cond.fieldLink "BlockCounter$Rewriting" (104 : Nat) "BlockCounter$Instruction" "n" "I") ∈ evW := evm 77 (by decide +kernel) rfl
set_option maxRecDepth 100000 in
theorem mw_78 : (Jvm.Cond.fieldLink "BlockCounter$Analysis" (107 : Nat) "BlockCounter$Instruction" "n" "I") ∈ evW := evm 78 (by decide +kernel) rfl
set_option maxRecDepth 100000 in
theorem mw_79 : (Jvm.Cond.fieldLink "BlockCounter$Machine" (103 : Nat) "BlockCounter$Instruction" "n" "I") ∈ evW := evm 79 (by decide +kernel) rfl
set_option maxRecDepth 100000 in
theorem mw_80 : (Jvm.Cond.fieldLink "BlockCounter$Instruction" (35 : Nat) "BlockCounter$Instruction" "m" "I") ∈ evW := evm 80 (by decide +kernel) rfl
set_option maxRecDepth 100000 in
theorem mw_81 : (Jvm.Cond.fieldLink "BlockCounter$Rewriting" (113 : Nat) "BlockCounter$Instruction" "m" "I") ∈ evW := evm 81 (by decide +kernel) rfl
set_option maxRecDepth 100000 in
theorem mw_82 : (Jvm.Cond.fieldLink "BlockCounter$Machine" (110 : Nat) "BlockCounter$Instruction" "m" "I") ∈ evW := evm 82 (by decide +kernel) rfl
set_option maxRecDepth 100000 in
theorem mw_83 : (Jvm.Cond.fieldLink "BlockCounter$Analysis" (110 : Nat) "BlockCounter$Instruction" "m" "I") ∈ evW := evm 83 (by decide +kernel) rfl
set_option maxRecDepth 100000 in
theorem mw_95 : (Jvm.Cond.fieldLink "BlockCounter$Analysis" (12 : Nat) "BlockCounter$Analysis" "instruction" "LBlockCounter$Instruction;") ∈ evW := evm 95 (by decide +kernel) rfl
set_option maxRecDepth 100000 in
theorem mw_96 : (Jvm.Cond.fieldLink "BlockCounter$Analysis" (18 : Nat) "BlockCounter$Analysis" "found" "[I") ∈ evW := evm 96 (by decide +kernel) rfl
set_option maxRecDepth 100000 in
theorem mw_97 : (Jvm.Cond.fieldLink "BlockCounter$Analysis" (22 : Nat) "BlockCounter$Analysis" "isFound" "[Z") ∈ evW := evm 97 (by decide +kernel) rfl
set_option maxRecDepth 100000 in
theorem mw_98 : (Jvm.Cond.fieldLink "BlockCounter$Analysis" (26 : Nat) "BlockCounter$Analysis" "isHead" "[Z") ∈ evW := evm 98 (by decide +kernel) rfl
set_option maxRecDepth 100000 in
theorem mw_99 : (Jvm.Cond.fieldLink "BlockCounter$Analysis" (29 : Nat) "BlockCounter$Analysis" "isInTable" "[Z") ∈ evW := evm 99 (by decide +kernel) rfl
set_option maxRecDepth 100000 in
theorem mw_100 : (Jvm.Cond.fieldLink "BlockCounter$Analysis" (32 : Nat) "BlockCounter$Analysis" "numbers" "[I") ∈ evW := evm 100 (by decide +kernel) rfl
set_option maxRecDepth 100000 in
theorem mw_101 : (Jvm.Cond.fieldLink "BlockCounter$Analysis" (35 : Nat) "BlockCounter$Analysis" "heads" "[I") ∈ evW := evm 101 (by decide +kernel) rfl
set_option maxRecDepth 100000 in
theorem mw_102 : (Jvm.Cond.fieldLink "BlockCounter$Analysis" (38 : Nat) "BlockCounter$Analysis" "byteCounts" "[I") ∈ evW := evm 102 (by decide +kernel) rfl
set_option maxRecDepth 100000 in
theorem mw_103 : (Jvm.Cond.fieldLink "BlockCounter$Analysis" (41 : Nat) "BlockCounter$Analysis" "instructionCounts" "[I") ∈ evW := evm 103 (by decide +kernel) rfl
set_option maxRecDepth 100000 in
theorem mw_104 : (Jvm.Cond.fieldLink "BlockCounter$Analysis" (66 : Nat) "BlockCounter$Analysis" "foundCount" "I") ∈ evW := evm 104 (by decide +kernel) rfl
set_option maxRecDepth 100000 in
theorem mw_105 : (Jvm.Cond.fieldLink "BlockCounter$Analysis" (44 : Nat) "BlockCounter$Analysis" "blockCount" "I") ∈ evW := evm 105 (by decide +kernel) rfl
set_option maxRecDepth 100000 in
theorem mw_132 : (Jvm.Cond.methodLink "BlockCounter" (36 : Nat) ({ cls := "BlockCounter$Rewriting", name := "<init>", desc := "()V" } : Jvm.MethodName)) ∈ evW := evm 132 (by decide +kernel) rfl
set_option maxRecDepth 100000 in
theorem mw_133 : (Jvm.Cond.instanceMethod ({ cls := "BlockCounter$Rewriting", name := "<init>", desc := "()V" } : Jvm.MethodName)) ∈ evW := evm 133 (by decide +kernel) rfl
set_option maxRecDepth 100000 in
theorem mw_134 : (Jvm.Cond.code ({ cls := "BlockCounter$Rewriting", name := "<init>", desc := "()V" } : Jvm.MethodName) prog_6_method_1_code (1 : Nat) (Option.none : Option Jvm.ClassFile.FieldType)) ∈ evW := evm 134 rfl rfl
set_option maxRecDepth 100000 in
theorem mw_135 : (Jvm.Cond.methodLink "BlockCounter$Rewriting" (3 : Nat) ({ cls := "java/lang/Object", name := "<init>", desc := "()V" } : Jvm.MethodName)) ∈ evW := evm 135 (by decide +kernel) rfl
set_option maxRecDepth 100000 in
theorem mw_139 : (Jvm.Cond.methodLink "BlockCounter$Rewriting" (20 : Nat) ({ cls := "BlockCounter$Program", name := "<init>", desc := "()V" } : Jvm.MethodName)) ∈ evW := evm 139 (by decide +kernel) rfl
set_option maxRecDepth 100000 in
theorem mw_140 : (Jvm.Cond.fieldLink "BlockCounter$Rewriting" (12 : Nat) "BlockCounter$Rewriting" "instruction" "LBlockCounter$Instruction;") ∈ evW := evm 140 (by decide +kernel) rfl
set_option maxRecDepth 100000 in
theorem mw_141 : (Jvm.Cond.fieldLink "BlockCounter$Rewriting" (21 : Nat) "BlockCounter$Rewriting" "program" "LBlockCounter$Program;") ∈ evW := evm 141 (by decide +kernel) rfl
set_option maxRecDepth 100000 in
theorem mw_142 : (Jvm.Cond.fieldLink "BlockCounter$Rewriting" (29 : Nat) "BlockCounter$Rewriting" "free" "I") ∈ evW := evm 142 (by decide +kernel) rfl
set_option maxRecDepth 100000 in
theorem mw_143 : (Jvm.Cond.fieldLink "BlockCounter$Rewriting" (25 : Nat) "BlockCounter$Rewriting" "stands" "Z") ∈ evW := evm 143 (by decide +kernel) rfl
set_option maxRecDepth 100000 in
theorem mw_155 : (Jvm.Cond.methodLink "BlockCounter" (43 : Nat) ({ cls := "BlockCounter$Machine", name := "<init>", desc := "()V" } : Jvm.MethodName)) ∈ evW := evm 155 (by decide +kernel) rfl
set_option maxRecDepth 100000 in
theorem mw_156 : (Jvm.Cond.instanceMethod ({ cls := "BlockCounter$Machine", name := "<init>", desc := "()V" } : Jvm.MethodName)) ∈ evW := evm 156 (by decide +kernel) rfl
set_option maxRecDepth 100000 in
theorem mw_157 : (Jvm.Cond.code ({ cls := "BlockCounter$Machine", name := "<init>", desc := "()V" } : Jvm.MethodName) prog_4_method_1_code (1 : Nat) (Option.none : Option Jvm.ClassFile.FieldType)) ∈ evW := evm 157 rfl rfl
set_option maxRecDepth 100000 in
theorem mw_158 : (Jvm.Cond.methodLink "BlockCounter$Machine" (3 : Nat) ({ cls := "java/lang/Object", name := "<init>", desc := "()V" } : Jvm.MethodName)) ∈ evW := evm 158 (by decide +kernel) rfl
set_option maxRecDepth 100000 in
theorem mw_161 : (Jvm.Cond.fieldLink "BlockCounter$Machine" (12 : Nat) "BlockCounter$Machine" "instruction" "LBlockCounter$Instruction;") ∈ evW := evm 161 (by decide +kernel) rfl
set_option maxRecDepth 100000 in
theorem mw_162 : (Jvm.Cond.fieldLink "BlockCounter$Machine" (18 : Nat) "BlockCounter$Machine" "registers" "[I") ∈ evW := evm 162 (by decide +kernel) rfl
set_option maxRecDepth 100000 in
theorem mw_163 : (Jvm.Cond.fieldLink "BlockCounter$Machine" (22 : Nat) "BlockCounter$Machine" "cells" "[I") ∈ evW := evm 163 (by decide +kernel) rfl
set_option maxRecDepth 100000 in
theorem mw_164 : (Jvm.Cond.fieldLink "BlockCounter$Machine" (25 : Nat) "BlockCounter$Machine" "stack" "[I") ∈ evW := evm 164 (by decide +kernel) rfl
set_option maxRecDepth 100000 in
theorem mw_165 : (Jvm.Cond.fieldLink "BlockCounter$Machine" (28 : Nat) "BlockCounter$Machine" "numbers" "[I") ∈ evW := evm 165 (by decide +kernel) rfl
set_option maxRecDepth 100000 in
theorem mw_166 : (Jvm.Cond.fieldLink "BlockCounter$Machine" (31 : Nat) "BlockCounter$Machine" "counts" "[J") ∈ evW := evm 166 (by decide +kernel) rfl
set_option maxRecDepth 100000 in
theorem mw_167 : (Jvm.Cond.fieldLink "BlockCounter$Machine" (42 : Nat) "BlockCounter$Machine" "pc" "I") ∈ evW := evm 167 (by decide +kernel) rfl
set_option maxRecDepth 100000 in
theorem mw_168 : (Jvm.Cond.fieldLink "BlockCounter$Machine" (39 : Nat) "BlockCounter$Machine" "stackCount" "I") ∈ evW := evm 168 (by decide +kernel) rfl
set_option maxRecDepth 100000 in
theorem mw_169 : (Jvm.Cond.fieldLink "BlockCounter$Machine" (35 : Nat) "BlockCounter$Machine" "numberCount" "I") ∈ evW := evm 169 (by decide +kernel) rfl
set_option maxRecDepth 100000 in
theorem mw_170 : (Jvm.Cond.fieldLink "BlockCounter$Machine" (45 : Nat) "BlockCounter$Machine" "stepCount" "I") ∈ evW := evm 170 (by decide +kernel) rfl
set_option maxRecDepth 100000 in
theorem mw_193 : (Jvm.Cond.fieldLink "BlockCounter" (10 : Nat) "BlockCounter" "original" "LBlockCounter$Program;") ∈ evW := evm 193 (by decide +kernel) rfl
set_option maxRecDepth 100000 in
theorem mw_194 : (Jvm.Cond.fieldLink "BlockCounter" (19 : Nat) "BlockCounter" "tables" "LBlockCounter$Tables;") ∈ evW := evm 194 (by decide +kernel) rfl
set_option maxRecDepth 100000 in
theorem mw_195 : (Jvm.Cond.fieldLink "BlockCounter" (23 : Nat) "BlockCounter" "startCells" "[I") ∈ evW := evm 195 (by decide +kernel) rfl
set_option maxRecDepth 100000 in
theorem mw_196 : (Jvm.Cond.fieldLink "BlockCounter" (30 : Nat) "BlockCounter" "analysis" "LBlockCounter$Analysis;") ∈ evW := evm 196 (by decide +kernel) rfl
set_option maxRecDepth 100000 in
theorem mw_197 : (Jvm.Cond.fieldLink "BlockCounter" (37 : Nat) "BlockCounter" "rewriting" "LBlockCounter$Rewriting;") ∈ evW := evm 197 (by decide +kernel) rfl
set_option maxRecDepth 100000 in
theorem mw_198 : (Jvm.Cond.fieldLink "BlockCounter" (44 : Nat) "BlockCounter" "machine" "LBlockCounter$Machine;") ∈ evW := evm 198 (by decide +kernel) rfl
set_option maxRecDepth 100000 in
theorem mw_212 : (Jvm.Cond.methodLink "BlockCounterLaw" (87 : Nat) ({ cls := "BlockCounter", name := "blockAt", desc := "(I)I" } : Jvm.MethodName)) ∈ evW := evm 212 (by decide +kernel) rfl
set_option maxRecDepth 100000 in
theorem mw_213 : (Jvm.Cond.instanceMethod ({ cls := "BlockCounter", name := "blockAt", desc := "(I)I" } : Jvm.MethodName)) ∈ evW := evm 213 (by decide +kernel) rfl
set_option maxRecDepth 100000 in
theorem mw_214 : (Jvm.Cond.selects "BlockCounter" ({ cls := "BlockCounter", name := "blockAt", desc := "(I)I" } : Jvm.MethodName) ({ cls := "BlockCounter", name := "blockAt", desc := "(I)I" } : Jvm.MethodName)) ∈ evW := evm 214 (by decide +kernel) rfl
set_option maxRecDepth 100000 in
theorem mw_215 : (Jvm.Cond.code ({ cls := "BlockCounter", name := "blockAt", desc := "(I)I" } : Jvm.MethodName) prog_1_method_7_code (2 : Nat) (Option.some Jvm.ClassFile.FieldType.int)) ∈ evW := evm 215 rfl rfl
set_option maxRecDepth 100000 in
theorem mw_216 : (Jvm.Cond.methodLink "BlockCounter" (112 : Nat) ({ cls := "BlockCounter$Analysis", name := "numberAt", desc := "(I)I" } : Jvm.MethodName)) ∈ evW := evm 216 (by decide +kernel) rfl
set_option maxRecDepth 100000 in
theorem mw_217 : (Jvm.Cond.instanceMethod ({ cls := "BlockCounter$Analysis", name := "numberAt", desc := "(I)I" } : Jvm.MethodName)) ∈ evW := evm 217 (by decide +kernel) rfl
set_option maxRecDepth 100000 in
theorem mw_218 : (Jvm.Cond.selects "BlockCounter$Analysis" ({ cls := "BlockCounter$Analysis", name := "numberAt", desc := "(I)I" } : Jvm.MethodName) ({ cls := "BlockCounter$Analysis", name := "numberAt", desc := "(I)I" } : Jvm.MethodName)) ∈ evW := evm 218 (by decide +kernel) rfl
set_option maxRecDepth 100000 in
theorem mw_219 : (Jvm.Cond.code ({ cls := "BlockCounter$Analysis", name := "numberAt", desc := "(I)I" } : Jvm.MethodName) prog_2_method_8_code (2 : Nat) (Option.some Jvm.ClassFile.FieldType.int)) ∈ evW := evm 219 rfl rfl
set_option maxRecDepth 100000 in
theorem mw_220 : (Jvm.Cond.methodLink "BlockCounter$Analysis" (48 : Nat) ({ cls := "BlockCounter$Analysis", name := "exists", desc := "()Z" } : Jvm.MethodName)) ∈ evW := evm 220 (by decide +kernel) rfl
set_option maxRecDepth 100000 in
theorem mw_221 : (Jvm.Cond.instanceMethod ({ cls := "BlockCounter$Analysis", name := "exists", desc := "()Z" } : Jvm.MethodName)) ∈ evW := evm 221 (by decide +kernel) rfl
set_option maxRecDepth 100000 in
theorem mw_222 : (Jvm.Cond.selects "BlockCounter$Analysis" ({ cls := "BlockCounter$Analysis", name := "exists", desc := "()Z" } : Jvm.MethodName) ({ cls := "BlockCounter$Analysis", name := "exists", desc := "()Z" } : Jvm.MethodName)) ∈ evW := evm 222 (by decide +kernel) rfl
set_option maxRecDepth 100000 in
theorem mw_223 : (Jvm.Cond.code ({ cls := "BlockCounter$Analysis", name := "exists", desc := "()Z" } : Jvm.MethodName) prog_2_method_3_code (1 : Nat) (Option.some Jvm.ClassFile.FieldType.boolean)) ∈ evW := evm 223 rfl rfl
set_option maxRecDepth 100000 in
theorem mw_224 : (Jvm.Cond.methodLink "BlockCounterLaw" (102 : Nat) ({ cls := "BlockCounter", name := "steps", desc := "()I" } : Jvm.MethodName)) ∈ evW := evm 224 (by decide +kernel) rfl
set_option maxRecDepth 100000 in
theorem mw_225 : (Jvm.Cond.instanceMethod ({ cls := "BlockCounter", name := "steps", desc := "()I" } : Jvm.MethodName)) ∈ evW := evm 225 (by decide +kernel) rfl
set_option maxRecDepth 100000 in
theorem mw_226 : (Jvm.Cond.selects "BlockCounter" ({ cls := "BlockCounter", name := "steps", desc := "()I" } : Jvm.MethodName) ({ cls := "BlockCounter", name := "steps", desc := "()I" } : Jvm.MethodName)) ∈ evW := evm 226 (by decide +kernel) rfl
set_option maxRecDepth 100000 in
theorem mw_227 : (Jvm.Cond.code ({ cls := "BlockCounter", name := "steps", desc := "()I" } : Jvm.MethodName) prog_1_method_11_code (1 : Nat) (Option.some Jvm.ClassFile.FieldType.int)) ∈ evW := evm 227 rfl rfl
set_option maxRecDepth 100000 in
theorem mw_228 : (Jvm.Cond.methodLink "BlockCounter" (155 : Nat) ({ cls := "BlockCounter$Machine", name := "done", desc := "()I" } : Jvm.MethodName)) ∈ evW := evm 228 (by decide +kernel) rfl
set_option maxRecDepth 100000 in
theorem mw_229 : (Jvm.Cond.instanceMethod ({ cls := "BlockCounter$Machine", name := "done", desc := "()I" } : Jvm.MethodName)) ∈ evW := evm 229 (by decide +kernel) rfl
set_option maxRecDepth 100000 in
theorem mw_230 : (Jvm.Cond.selects "BlockCounter$Machine" ({ cls := "BlockCounter$Machine", name := "done", desc := "()I" } : Jvm.MethodName) ({ cls := "BlockCounter$Machine", name := "done", desc := "()I" } : Jvm.MethodName)) ∈ evW := evm 230 (by decide +kernel) rfl
set_option maxRecDepth 100000 in
theorem mw_231 : (Jvm.Cond.code ({ cls := "BlockCounter$Machine", name := "done", desc := "()I" } : Jvm.MethodName) prog_4_method_9_code (1 : Nat) (Option.some Jvm.ClassFile.FieldType.int)) ∈ evW := evm 231 rfl rfl
set_option maxRecDepth 100000 in
theorem mw_232 : (Jvm.Cond.methodLink "BlockCounterLaw" (64 : Nat) ({ cls := "BlockCounterLaw", name := "poke", desc := "(LBlockCounter;II)I" } : Jvm.MethodName)) ∈ evW := evm 232 (by decide +kernel) rfl
set_option maxRecDepth 100000 in
theorem mw_233 : (Jvm.Cond.static ({ cls := "BlockCounterLaw", name := "poke", desc := "(LBlockCounter;II)I" } : Jvm.MethodName)) ∈ evW := evm 233 (by decide +kernel) rfl
set_option maxRecDepth 100000 in
theorem mw_236 : (Jvm.Cond.methodLink "BlockCounterLaw" (7 : Nat) ({ cls := "BlockCounter", name := "poke", desc := "(II)V" } : Jvm.MethodName)) ∈ evW := evm 236 (by decide +kernel) rfl
set_option maxRecDepth 100000 in
theorem mw_237 : (Jvm.Cond.instanceMethod ({ cls := "BlockCounter", name := "poke", desc := "(II)V" } : Jvm.MethodName)) ∈ evW := evm 237 (by decide +kernel) rfl
set_option maxRecDepth 100000 in
theorem mw_238 : (Jvm.Cond.selects "BlockCounter" ({ cls := "BlockCounter", name := "poke", desc := "(II)V" } : Jvm.MethodName) ({ cls := "BlockCounter", name := "poke", desc := "(II)V" } : Jvm.MethodName)) ∈ evW := evm 238 (by decide +kernel) rfl
set_option maxRecDepth 100000 in
theorem mw_239 : (Jvm.Cond.code ({ cls := "BlockCounter", name := "poke", desc := "(II)V" } : Jvm.MethodName) prog_1_method_2_code (3 : Nat) (Option.none : Option Jvm.ClassFile.FieldType)) ∈ evW := evm 239 rfl rfl
set_option maxRecDepth 100000 in
theorem mw_249 : (Jvm.Cond.selects "java/lang/IndexOutOfBoundsException" ({ cls := "java/lang/Throwable", name := "fillInStackTrace", desc := "(I)Ljava/lang/Throwable;" } : Jvm.MethodName) ({ cls := "java/lang/Throwable", name := "fillInStackTrace", desc := "(I)Ljava/lang/Throwable;" } : Jvm.MethodName)) ∈ evW := evm 249 (by decide +kernel) rfl
set_option maxRecDepth 100000 in
theorem mw_250 : (Jvm.Cond.selects "java/lang/IndexOutOfBoundsException" ({ cls := "java/lang/Throwable", name := "fillInStackTrace", desc := "()Ljava/lang/Throwable;" } : Jvm.MethodName) ({ cls := "java/lang/Throwable", name := "fillInStackTrace", desc := "()Ljava/lang/Throwable;" } : Jvm.MethodName)) ∈ evW := evm 250 (by decide +kernel) rfl
set_option maxRecDepth 100000 in
theorem mw_261 : (Jvm.Cond.fieldLink "java/lang/Throwable" (198 : Nat) "java/lang/Throwable" "backtrace" "Ljava/lang/Object;") ∈ evW := evm 261 (by decide +kernel) rfl
set_option maxRecDepth 100000 in
theorem mw_263 : (Jvm.Cond.instanceMethod ({ cls := "java/lang/Throwable", name := "<init>", desc := "()V" } : Jvm.MethodName)) ∈ evW := evm 263 (by decide +kernel) rfl
set_option maxRecDepth 100000 in
theorem mw_264 : (Jvm.Cond.code ({ cls := "java/lang/Throwable", name := "<init>", desc := "()V" } : Jvm.MethodName) prog_18_method_1_code (1 : Nat) (Option.none : Option Jvm.ClassFile.FieldType)) ∈ evW := evm 264 rfl rfl
set_option maxRecDepth 100000 in
theorem mw_265 : (Jvm.Cond.methodLink "java/lang/Throwable" (1 : Nat) ({ cls := "java/lang/Object", name := "<init>", desc := "()V" } : Jvm.MethodName)) ∈ evW := evm 265 (by decide +kernel) rfl
set_option maxRecDepth 100000 in
theorem mw_266 : (Jvm.Cond.fieldLink "java/lang/Throwable" (13 : Nat) "java/lang/Throwable" "UNASSIGNED_STACK" "[Ljava/lang/StackTraceElement;") ∈ evW := evm 266 (by decide +kernel) rfl
set_option maxRecDepth 100000 in
theorem mw_268 : (Jvm.Cond.fieldLink "java/lang/Throwable" (20 : Nat) "java/lang/Throwable" "SUPPRESSED_SENTINEL" "Ljava/util/List;") ∈ evW := evm 268 (by decide +kernel) rfl
set_option maxRecDepth 100000 in
theorem mw_270 : (Jvm.Cond.methodLink "java/lang/Throwable" (27 : Nat) ({ cls := "java/lang/Throwable", name := "fillInStackTrace", desc := "()Ljava/lang/Throwable;" } : Jvm.MethodName)) ∈ evW := evm 270 (by decide +kernel) rfl
set_option maxRecDepth 100000 in
theorem mw_271 : (Jvm.Cond.instanceMethod ({ cls := "java/lang/Throwable", name := "fillInStackTrace", desc := "()Ljava/lang/Throwable;" } : Jvm.MethodName)) ∈ evW := evm 271 (by decide +kernel) rfl
set_option maxRecDepth 100000 in
theorem mw_273 : (Jvm.Cond.selects "java/lang/IllegalArgumentException" ({ cls := "java/lang/Throwable", name := "fillInStackTrace", desc := "()Ljava/lang/Throwable;" } : Jvm.MethodName) ({ cls := "java/lang/Throwable", name := "fillInStackTrace", desc := "()Ljava/lang/Throwable;" } : Jvm.MethodName)) ∈ evW := evm 273 (by decide +kernel) rfl
set_option maxRecDepth 100000 in
theorem mw_274 : (Jvm.Cond.selects "java/lang/IllegalStateException" ({ cls := "java/lang/Throwable", name := "fillInStackTrace", desc := "()Ljava/lang/Throwable;" } : Jvm.MethodName) ({ cls := "java/lang/Throwable", name := "fillInStackTrace", desc := "()Ljava/lang/Throwable;" } : Jvm.MethodName)) ∈ evW := evm 274 (by decide +kernel) rfl
set_option maxRecDepth 100000 in
theorem mw_275 : (Jvm.Cond.selects "java/lang/UnsupportedOperationException" ({ cls := "java/lang/Throwable", name := "fillInStackTrace", desc := "()Ljava/lang/Throwable;" } : Jvm.MethodName) ({ cls := "java/lang/Throwable", name := "fillInStackTrace", desc := "()Ljava/lang/Throwable;" } : Jvm.MethodName)) ∈ evW := evm 275 (by decide +kernel) rfl
set_option maxRecDepth 100000 in
theorem mw_277 : (Jvm.Cond.methodLink "java/lang/Throwable" (202 : Nat) ({ cls := "java/lang/Throwable", name := "fillInStackTrace", desc := "(I)Ljava/lang/Throwable;" } : Jvm.MethodName)) ∈ evW := evm 277 (by decide +kernel) rfl
set_option maxRecDepth 100000 in
theorem mw_279 : (Jvm.Cond.instanceMethod ({ cls := "java/lang/Throwable", name := "fillInStackTrace", desc := "(I)Ljava/lang/Throwable;" } : Jvm.MethodName)) ∈ evW := evm 279 (by decide +kernel) rfl
set_option maxRecDepth 100000 in
theorem mw_281 : (Jvm.Cond.native ({ cls := "java/lang/Throwable", name := "fillInStackTrace", desc := "(I)Ljava/lang/Throwable;" } : Jvm.MethodName)) ∈ evW := evm 281 (by decide +kernel) rfl
set_option maxRecDepth 100000 in
theorem mw_283 : (Jvm.Cond.methodLink "BlockCounter" (52 : Nat) ({ cls := "java/lang/IndexOutOfBoundsException", name := "<init>", desc := "(Ljava/lang/String;)V" } : Jvm.MethodName)) ∈ evW := evm 283 (by decide +kernel) rfl
set_option maxRecDepth 100000 in
theorem mw_284 : (Jvm.Cond.instanceMethod ({ cls := "java/lang/IndexOutOfBoundsException", name := "<init>", desc := "(Ljava/lang/String;)V" } : Jvm.MethodName)) ∈ evW := evm 284 (by decide +kernel) rfl
set_option maxRecDepth 100000 in
theorem mw_285 : (Jvm.Cond.code ({ cls := "java/lang/IndexOutOfBoundsException", name := "<init>", desc := "(Ljava/lang/String;)V" } : Jvm.MethodName) prog_13_method_2_code (2 : Nat) (Option.none : Option Jvm.ClassFile.FieldType)) ∈ evW := evm 285 rfl rfl
set_option maxRecDepth 100000 in
theorem mw_286 : (Jvm.Cond.methodLink "java/lang/IndexOutOfBoundsException" (7 : Nat) ({ cls := "java/lang/RuntimeException", name := "<init>", desc := "(Ljava/lang/String;)V" } : Jvm.MethodName)) ∈ evW := evm 286 (by decide +kernel) rfl
set_option maxRecDepth 100000 in
theorem mw_287 : (Jvm.Cond.instanceMethod ({ cls := "java/lang/RuntimeException", name := "<init>", desc := "(Ljava/lang/String;)V" } : Jvm.MethodName)) ∈ evW := evm 287 (by decide +kernel) rfl
set_option maxRecDepth 100000 in
theorem mw_288 : (Jvm.Cond.code ({ cls := "java/lang/RuntimeException", name := "<init>", desc := "(Ljava/lang/String;)V" } : Jvm.MethodName) prog_15_method_2_code (2 : Nat) (Option.none : Option Jvm.ClassFile.FieldType)) ∈ evW := evm 288 rfl rfl
set_option maxRecDepth 100000 in
theorem mw_289 : (Jvm.Cond.methodLink "java/lang/RuntimeException" (7 : Nat) ({ cls := "java/lang/Exception", name := "<init>", desc := "(Ljava/lang/String;)V" } : Jvm.MethodName)) ∈ evW := evm 289 (by decide +kernel) rfl
set_option maxRecDepth 100000 in
theorem mw_290 : (Jvm.Cond.instanceMethod ({ cls := "java/lang/Exception", name := "<init>", desc := "(Ljava/lang/String;)V" } : Jvm.MethodName)) ∈ evW := evm 290 (by decide +kernel) rfl
set_option maxRecDepth 100000 in
theorem mw_291 : (Jvm.Cond.code ({ cls := "java/lang/Exception", name := "<init>", desc := "(Ljava/lang/String;)V" } : Jvm.MethodName) prog_10_method_2_code (2 : Nat) (Option.none : Option Jvm.ClassFile.FieldType)) ∈ evW := evm 291 rfl rfl
set_option maxRecDepth 100000 in
theorem mw_292 : (Jvm.Cond.methodLink "java/lang/Exception" (7 : Nat) ({ cls := "java/lang/Throwable", name := "<init>", desc := "(Ljava/lang/String;)V" } : Jvm.MethodName)) ∈ evW := evm 292 (by decide +kernel) rfl
set_option maxRecDepth 100000 in
theorem mw_293 : (Jvm.Cond.instanceMethod ({ cls := "java/lang/Throwable", name := "<init>", desc := "(Ljava/lang/String;)V" } : Jvm.MethodName)) ∈ evW := evm 293 (by decide +kernel) rfl
set_option maxRecDepth 100000 in
theorem mw_294 : (Jvm.Cond.code ({ cls := "java/lang/Throwable", name := "<init>", desc := "(Ljava/lang/String;)V" } : Jvm.MethodName) prog_18_method_2_code (2 : Nat) (Option.none : Option Jvm.ClassFile.FieldType)) ∈ evW := evm 294 rfl rfl
set_option maxRecDepth 100000 in
theorem mw_295 : (Jvm.Cond.fieldLink "java/lang/Throwable" (198 : Nat) "java/lang/Throwable" "backtrace" "Ljava/lang/Object;") ∈ evW := evm 295 (by decide +kernel) rfl
set_option maxRecDepth 100000 in
theorem mw_296 : (Jvm.Cond.fieldLink "java/lang/Throwable" (31 : Nat) "java/lang/Throwable" "detailMessage" "Ljava/lang/String;") ∈ evW := evm 296 (by decide +kernel) rfl
set_option maxRecDepth 100000 in
theorem mw_297 : (Jvm.Cond.fieldLink "java/lang/Throwable" (7 : Nat) "java/lang/Throwable" "cause" "Ljava/lang/Throwable;") ∈ evW := evm 297 (by decide +kernel) rfl
set_option maxRecDepth 100000 in
theorem mw_298 : (Jvm.Cond.fieldLink "java/lang/Throwable" (17 : Nat) "java/lang/Throwable" "stackTrace" "[Ljava/lang/StackTraceElement;") ∈ evW := evm 298 (by decide +kernel) rfl
set_option maxRecDepth 100000 in
theorem mw_299 : (Jvm.Cond.fieldLink "java/lang/Throwable" (24 : Nat) "java/lang/Throwable" "suppressedExceptions" "Ljava/util/List;") ∈ evW := evm 299 (by decide +kernel) rfl
set_option maxRecDepth 100000 in
theorem mw_309 : (Jvm.Cond.methodLink "BlockCounter" (55 : Nat) ({ cls := "BlockCounter$Program", name := "put", desc := "(II)V" } : Jvm.MethodName)) ∈ evW := evm 309 (by decide +kernel) rfl
set_option maxRecDepth 100000 in
theorem mw_310 : (Jvm.Cond.instanceMethod ({ cls := "BlockCounter$Program", name := "put", desc := "(II)V" } : Jvm.MethodName)) ∈ evW := evm 310 (by decide +kernel) rfl
set_option maxRecDepth 100000 in
theorem mw_311 : (Jvm.Cond.selects "BlockCounter$Program" ({ cls := "BlockCounter$Program", name := "put", desc := "(II)V" } : Jvm.MethodName) ({ cls := "BlockCounter$Program", name := "put", desc := "(II)V" } : Jvm.MethodName)) ∈ evW := evm 311 (by decide +kernel) rfl
set_option maxRecDepth 100000 in
theorem mw_312 : (Jvm.Cond.code ({ cls := "BlockCounter$Program", name := "put", desc := "(II)V" } : Jvm.MethodName) prog_5_method_3_code (3 : Nat) (Option.none : Option Jvm.ClassFile.FieldType)) ∈ evW := evm 312 rfl rfl
set_option maxRecDepth 100000 in
theorem mw_313 : (Jvm.Cond.methodLink "BlockCounter" (59 : Nat) ({ cls := "BlockCounter", name := "forgetFindings", desc := "()V" } : Jvm.MethodName)) ∈ evW := evm 313 (by decide +kernel) rfl
set_option maxRecDepth 100000 in
theorem mw_315 : (Jvm.Cond.instanceMethod ({ cls := "BlockCounter", name := "forgetFindings", desc := "()V" } : Jvm.MethodName)) ∈ evW := evm 315 (by decide +kernel) rfl
set_option maxRecDepth 100000 in
theorem mw_316 : (Jvm.Cond.code ({ cls := "BlockCounter", name := "forgetFindings", desc := "()V" } : Jvm.MethodName) prog_1_method_16_code (1 : Nat) (Option.none : Option Jvm.ClassFile.FieldType)) ∈ evW := evm 316 rfl rfl
set_option maxRecDepth 100000 in
theorem mw_317 : (Jvm.Cond.methodLink "BlockCounter" (186 : Nat) ({ cls := "BlockCounter$Analysis", name := "forget", desc := "()V" } : Jvm.MethodName)) ∈ evW := evm 317 (by decide +kernel) rfl
set_option maxRecDepth 100000 in
theorem mw_318 : (Jvm.Cond.instanceMethod ({ cls := "BlockCounter$Analysis", name := "forget", desc := "()V" } : Jvm.MethodName)) ∈ evW := evm 318 (by decide +kernel) rfl
set_option maxRecDepth 100000 in
theorem mw_319 : (Jvm.Cond.selects "BlockCounter$Analysis" ({ cls := "BlockCounter$Analysis", name := "forget", desc := "()V" } : Jvm.MethodName) ({ cls := "BlockCounter$Analysis", name := "forget", desc := "()V" } : Jvm.MethodName)) ∈ evW := evm 319 (by decide +kernel) rfl
set_option maxRecDepth 100000 in
theorem mw_320 : (Jvm.Cond.code ({ cls := "BlockCounter$Analysis", name := "forget", desc := "()V" } : Jvm.MethodName) prog_2_method_2_code (1 : Nat) (Option.none : Option Jvm.ClassFile.FieldType)) ∈ evW := evm 320 rfl rfl
set_option maxRecDepth 100000 in
theorem mw_321 : (Jvm.Cond.methodLink "BlockCounter" (85 : Nat) ({ cls := "BlockCounter$Rewriting", name := "forget", desc := "()V" } : Jvm.MethodName)) ∈ evW := evm 321 (by decide +kernel) rfl
set_option maxRecDepth 100000 in
theorem mw_322 : (Jvm.Cond.instanceMethod ({ cls := "BlockCounter$Rewriting", name := "forget", desc := "()V" } : Jvm.MethodName)) ∈ evW := evm 322 (by decide +kernel) rfl
set_option maxRecDepth 100000 in
theorem mw_323 : (Jvm.Cond.selects "BlockCounter$Rewriting" ({ cls := "BlockCounter$Rewriting", name := "forget", desc := "()V" } : Jvm.MethodName) ({ cls := "BlockCounter$Rewriting", name := "forget", desc := "()V" } : Jvm.MethodName)) ∈ evW := evm 323 (by decide +kernel) rfl
set_option maxRecDepth 100000 in
theorem mw_324 : (Jvm.Cond.code ({ cls := "BlockCounter$Rewriting", name := "forget", desc := "()V" } : Jvm.MethodName) prog_6_method_2_code (1 : Nat) (Option.none : Option Jvm.ClassFile.FieldType)) ∈ evW := evm 324 rfl rfl
set_option maxRecDepth 100000 in
theorem mw_325 : (Jvm.Cond.methodLink "BlockCounterLaw" (73 : Nat) ({ cls := "BlockCounterLaw", name := "declare", desc := "(LBlockCounter;II[J)I" } : Jvm.MethodName)) ∈ evW := evm 325 (by decide +kernel) rfl
set_option maxRecDepth 100000 in
theorem mw_326 : (Jvm.Cond.static ({ cls := "BlockCounterLaw", name := "declare", desc := "(LBlockCounter;II[J)I" } : Jvm.MethodName)) ∈ evW := evm 326 (by decide +kernel) rfl
set_option maxRecDepth 100000 in
theorem mw_330 : (Jvm.Cond.methodLink "BlockCounterLaw" (15 : Nat) ({ cls := "BlockCounter", name := "declare", desc := "(II)I" } : Jvm.MethodName)) ∈ evW := evm 330 (by decide +kernel) rfl
set_option maxRecDepth 100000 in
theorem mw_331 : (Jvm.Cond.instanceMethod ({ cls := "BlockCounter", name := "declare", desc := "(II)I" } : Jvm.MethodName)) ∈ evW := evm 331 (by decide +kernel) rfl
set_option maxRecDepth 100000 in
theorem mw_332 : (Jvm.Cond.selects "BlockCounter" ({ cls := "BlockCounter", name := "declare", desc := "(II)I" } : Jvm.MethodName) ({ cls := "BlockCounter", name := "declare", desc := "(II)I" } : Jvm.MethodName)) ∈ evW := evm 332 (by decide +kernel) rfl
set_option maxRecDepth 100000 in
theorem mw_333 : (Jvm.Cond.code ({ cls := "BlockCounter", name := "declare", desc := "(II)I" } : Jvm.MethodName) prog_1_method_3_code (3 : Nat) (Option.some Jvm.ClassFile.FieldType.int)) ∈ evW := evm 333 rfl rfl
set_option maxRecDepth 100000 in
theorem mw_337 : (Jvm.Cond.selects "java/lang/IllegalArgumentException" ({ cls := "java/lang/Throwable", name := "fillInStackTrace", desc := "(I)Ljava/lang/Throwable;" } : Jvm.MethodName) ({ cls := "java/lang/Throwable", name := "fillInStackTrace", desc := "(I)Ljava/lang/Throwable;" } : Jvm.MethodName)) ∈ evW := evm 337 (by decide +kernel) rfl
set_option maxRecDepth 100000 in
theorem mw_344 : (Jvm.Cond.methodLink "BlockCounter" (66 : Nat) ({ cls := "java/lang/IllegalArgumentException", name := "<init>", desc := "(Ljava/lang/String;)V" } : Jvm.MethodName)) ∈ evW := evm 344 (by decide +kernel) rfl
set_option maxRecDepth 100000 in
theorem mw_345 : (Jvm.Cond.instanceMethod ({ cls := "java/lang/IllegalArgumentException", name := "<init>", desc := "(Ljava/lang/String;)V" } : Jvm.MethodName)) ∈ evW := evm 345 (by decide +kernel) rfl
set_option maxRecDepth 100000 in
theorem mw_346 : (Jvm.Cond.code ({ cls := "java/lang/IllegalArgumentException", name := "<init>", desc := "(Ljava/lang/String;)V" } : Jvm.MethodName) prog_11_method_2_code (2 : Nat) (Option.none : Option Jvm.ClassFile.FieldType)) ∈ evW := evm 346 rfl rfl
set_option maxRecDepth 100000 in
theorem mw_347 : (Jvm.Cond.methodLink "java/lang/IllegalArgumentException" (7 : Nat) ({ cls := "java/lang/RuntimeException", name := "<init>", desc := "(Ljava/lang/String;)V" } : Jvm.MethodName)) ∈ evW := evm 347 (by decide +kernel) rfl
set_option maxRecDepth 100000 in
theorem mw_350 : (Jvm.Cond.methodLink "BlockCounter" (67 : Nat) ({ cls := "BlockCounter$Tables", name := "isFull", desc := "()Z" } : Jvm.MethodName)) ∈ evW := evm 350 (by decide +kernel) rfl
set_option maxRecDepth 100000 in
theorem mw_351 : (Jvm.Cond.instanceMethod ({ cls := "BlockCounter$Tables", name := "isFull", desc := "()Z" } : Jvm.MethodName)) ∈ evW := evm 351 (by decide +kernel) rfl
set_option maxRecDepth 100000 in
theorem mw_352 : (Jvm.Cond.selects "BlockCounter$Tables" ({ cls := "BlockCounter$Tables", name := "isFull", desc := "()Z" } : Jvm.MethodName) ({ cls := "BlockCounter$Tables", name := "isFull", desc := "()Z" } : Jvm.MethodName)) ∈ evW := evm 352 (by decide +kernel) rfl
set_option maxRecDepth 100000 in
theorem mw_353 : (Jvm.Cond.code ({ cls := "BlockCounter$Tables", name := "isFull", desc := "()Z" } : Jvm.MethodName) prog_7_method_3_code (1 : Nat) (Option.some Jvm.ClassFile.FieldType.boolean)) ∈ evW := evm 353 rfl rfl
set_option maxRecDepth 100000 in
theorem mw_357 : (Jvm.Cond.selects "java/lang/IllegalStateException" ({ cls := "java/lang/Throwable", name := "fillInStackTrace", desc := "(I)Ljava/lang/Throwable;" } : Jvm.MethodName) ({ cls := "java/lang/Throwable", name := "fillInStackTrace", desc := "(I)Ljava/lang/Throwable;" } : Jvm.MethodName)) ∈ evW := evm 357 (by decide +kernel) rfl
set_option maxRecDepth 100000 in
theorem mw_364 : (Jvm.Cond.methodLink "BlockCounter" (75 : Nat) ({ cls := "java/lang/IllegalStateException", name := "<init>", desc := "(Ljava/lang/String;)V" } : Jvm.MethodName)) ∈ evW := evm 364 (by decide +kernel) rfl
set_option maxRecDepth 100000 in
theorem mw_365 : (Jvm.Cond.instanceMethod ({ cls := "java/lang/IllegalStateException", name := "<init>", desc := "(Ljava/lang/String;)V" } : Jvm.MethodName)) ∈ evW := evm 365 (by decide +kernel) rfl
set_option maxRecDepth 100000 in
theorem mw_366 : (Jvm.Cond.code ({ cls := "java/lang/IllegalStateException", name := "<init>", desc := "(Ljava/lang/String;)V" } : Jvm.MethodName) prog_12_method_2_code (2 : Nat) (Option.none : Option Jvm.ClassFile.FieldType)) ∈ evW := evm 366 rfl rfl
set_option maxRecDepth 100000 in
theorem mw_367 : (Jvm.Cond.methodLink "java/lang/IllegalStateException" (7 : Nat) ({ cls := "java/lang/RuntimeException", name := "<init>", desc := "(Ljava/lang/String;)V" } : Jvm.MethodName)) ∈ evW := evm 367 (by decide +kernel) rfl
set_option maxRecDepth 100000 in
theorem mw_370 : (Jvm.Cond.methodLink "BlockCounter" (76 : Nat) ({ cls := "BlockCounter$Tables", name := "add", desc := "(II)V" } : Jvm.MethodName)) ∈ evW := evm 370 (by decide +kernel) rfl
set_option maxRecDepth 100000 in
theorem mw_371 : (Jvm.Cond.instanceMethod ({ cls := "BlockCounter$Tables", name := "add", desc := "(II)V" } : Jvm.MethodName)) ∈ evW := evm 371 (by decide +kernel) rfl
set_option maxRecDepth 100000 in
theorem mw_372 : (Jvm.Cond.selects "BlockCounter$Tables" ({ cls := "BlockCounter$Tables", name := "add", desc := "(II)V" } : Jvm.MethodName) ({ cls := "BlockCounter$Tables", name := "add", desc := "(II)V" } : Jvm.MethodName)) ∈ evW := evm 372 (by decide +kernel) rfl
set_option maxRecDepth 100000 in
theorem mw_373 : (Jvm.Cond.code ({ cls := "BlockCounter$Tables", name := "add", desc := "(II)V" } : Jvm.MethodName) prog_7_method_4_code (3 : Nat) (Option.none : Option Jvm.ClassFile.FieldType)) ∈ evW := evm 373 rfl rfl
set_option maxRecDepth 100000 in
theorem mw_374 : (Jvm.Cond.methodLink "BlockCounter$Tables" (20 : Nat) ({ cls := "BlockCounter$Tables", name := "isFull", desc := "()Z" } : Jvm.MethodName)) ∈ evW := evm 374 (by decide +kernel) rfl
set_option maxRecDepth 100000 in
theorem mw_375 : (Jvm.Cond.methodLink "BlockCounter" (79 : Nat) ({ cls := "BlockCounter$Tables", name := "size", desc := "()I" } : Jvm.MethodName)) ∈ evW := evm 375 (by decide +kernel) rfl
set_option maxRecDepth 100000 in
theorem mw_376 : (Jvm.Cond.instanceMethod ({ cls := "BlockCounter$Tables", name := "size", desc := "()I" } : Jvm.MethodName)) ∈ evW := evm 376 (by decide +kernel) rfl
set_option maxRecDepth 100000 in
theorem mw_377 : (Jvm.Cond.selects "BlockCounter$Tables" ({ cls := "BlockCounter$Tables", name := "size", desc := "()I" } : Jvm.MethodName) ({ cls := "BlockCounter$Tables", name := "size", desc := "()I" } : Jvm.MethodName)) ∈ evW := evm 377 (by decide +kernel) rfl
set_option maxRecDepth 100000 in
theorem mw_378 : (Jvm.Cond.code ({ cls := "BlockCounter$Tables", name := "size", desc := "()I" } : Jvm.MethodName) prog_7_method_2_code (1 : Nat) (Option.some Jvm.ClassFile.FieldType.int)) ∈ evW := evm 378 rfl rfl
set_option maxRecDepth 100000 in
theorem mw_379 : (Jvm.Cond.methodLink "BlockCounterLaw" (77 : Nat) ({ cls := "BlockCounterLaw", name := "data", desc := "(LBlockCounter;II)I" } : Jvm.MethodName)) ∈ evW := evm 379 (by decide +kernel) rfl
set_option maxRecDepth 100000 in
theorem mw_380 : (Jvm.Cond.static ({ cls := "BlockCounterLaw", name := "data", desc := "(LBlockCounter;II)I" } : Jvm.MethodName)) ∈ evW := evm 380 (by decide +kernel) rfl
set_option maxRecDepth 100000 in
theorem mw_382 : (Jvm.Cond.methodLink "BlockCounterLaw" (23 : Nat) ({ cls := "BlockCounter", name := "data", desc := "(II)V" } : Jvm.MethodName)) ∈ evW := evm 382 (by decide +kernel) rfl
set_option maxRecDepth 100000 in
theorem mw_383 : (Jvm.Cond.instanceMethod ({ cls := "BlockCounter", name := "data", desc := "(II)V" } : Jvm.MethodName)) ∈ evW := evm 383 (by decide +kernel) rfl
set_option maxRecDepth 100000 in
theorem mw_384 : (Jvm.Cond.selects "BlockCounter" ({ cls := "BlockCounter", name := "data", desc := "(II)V" } : Jvm.MethodName) ({ cls := "BlockCounter", name := "data", desc := "(II)V" } : Jvm.MethodName)) ∈ evW := evm 384 (by decide +kernel) rfl
set_option maxRecDepth 100000 in
theorem mw_385 : (Jvm.Cond.code ({ cls := "BlockCounter", name := "data", desc := "(II)V" } : Jvm.MethodName) prog_1_method_4_code (3 : Nat) (Option.none : Option Jvm.ClassFile.FieldType)) ∈ evW := evm 385 rfl rfl
set_option maxRecDepth 100000 in
theorem mw_387 : (Jvm.Cond.methodLink "BlockCounterLaw" (80 : Nat) ({ cls := "BlockCounterLaw", name := "analyse", desc := "(LBlockCounter;[J)I" } : Jvm.MethodName)) ∈ evW := evm 387 (by decide +kernel) rfl
set_option maxRecDepth 100000 in
theorem mw_388 : (Jvm.Cond.static ({ cls := "BlockCounterLaw", name := "analyse", desc := "(LBlockCounter;[J)I" } : Jvm.MethodName)) ∈ evW := evm 388 (by decide +kernel) rfl
set_option maxRecDepth 100000 in
theorem mw_391 : (Jvm.Cond.methodLink "BlockCounterLaw" (26 : Nat) ({ cls := "BlockCounter", name := "analyse", desc := "()I" } : Jvm.MethodName)) ∈ evW := evm 391 (by decide +kernel) rfl
set_option maxRecDepth 100000 in
theorem mw_392 : (Jvm.Cond.instanceMethod ({ cls := "BlockCounter", name := "analyse", desc := "()I" } : Jvm.MethodName)) ∈ evW := evm 392 (by decide +kernel) rfl
set_option maxRecDepth 100000 in
theorem mw_393 : (Jvm.Cond.selects "BlockCounter" ({ cls := "BlockCounter", name := "analyse", desc := "()I" } : Jvm.MethodName) ({ cls := "BlockCounter", name := "analyse", desc := "()I" } : Jvm.MethodName)) ∈ evW := evm 393 (by decide +kernel) rfl
set_option maxRecDepth 100000 in
theorem mw_394 : (Jvm.Cond.code ({ cls := "BlockCounter", name := "analyse", desc := "()I" } : Jvm.MethodName) prog_1_method_5_code (1 : Nat) (Option.some Jvm.ClassFile.FieldType.int)) ∈ evW := evm 394 rfl rfl
set_option maxRecDepth 100000 in
theorem mw_395 : (Jvm.Cond.methodLink "BlockCounter" (88 : Nat) ({ cls := "BlockCounter$Analysis", name := "explore", desc := "(LBlockCounter$Program;LBlockCounter$Tables;)Z" } : Jvm.MethodName)) ∈ evW := evm 395 (by decide +kernel) rfl
set_option maxRecDepth 100000 in
theorem mw_396 : (Jvm.Cond.instanceMethod ({ cls := "BlockCounter$Analysis", name := "explore", desc := "(LBlockCounter$Program;LBlockCounter$Tables;)Z" } : Jvm.MethodName)) ∈ evW := evm 396 (by decide +kernel) rfl
set_option maxRecDepth 100000 in
theorem mw_397 : (Jvm.Cond.selects "BlockCounter$Analysis" ({ cls := "BlockCounter$Analysis", name := "explore", desc := "(LBlockCounter$Program;LBlockCounter$Tables;)Z" } : Jvm.MethodName) ({ cls := "BlockCounter$Analysis", name := "explore", desc := "(LBlockCounter$Program;LBlockCounter$Tables;)Z" } : Jvm.MethodName)) ∈ evW := evm 397 (by decide +kernel) rfl
set_option maxRecDepth 100000 in
theorem mw_398 : (Jvm.Cond.code ({ cls := "BlockCounter$Analysis", name := "explore", desc := "(LBlockCounter$Program;LBlockCounter$Tables;)Z" } : Jvm.MethodName) prog_2_method_10_code (5 : Nat) (Option.some Jvm.ClassFile.FieldType.boolean)) ∈ evW := evm 398 rfl rfl
set_option maxRecDepth 100000 in
theorem mw_399 : (Jvm.Cond.methodLink "BlockCounter$Analysis" (59 : Nat) ({ cls := "BlockCounter$Analysis", name := "clear", desc := "()V" } : Jvm.MethodName)) ∈ evW := evm 399 (by decide +kernel) rfl
set_option maxRecDepth 100000 in
theorem mw_401 : (Jvm.Cond.instanceMethod ({ cls := "BlockCounter$Analysis", name := "clear", desc := "()V" } : Jvm.MethodName)) ∈ evW := evm 401 (by decide +kernel) rfl
set_option maxRecDepth 100000 in
theorem mw_402 : (Jvm.Cond.code ({ cls := "BlockCounter$Analysis", name := "clear", desc := "()V" } : Jvm.MethodName) prog_2_method_11_code (2 : Nat) (Option.none : Option Jvm.ClassFile.FieldType)) ∈ evW := evm 402 rfl rfl
set_option maxRecDepth 100000 in
theorem mw_403 : (Jvm.Cond.methodLink "BlockCounter$Analysis" (81 : Nat) ({ cls := "java/util/Arrays", name := "fill", desc := "([II)V" } : Jvm.MethodName)) ∈ evW := evm 403 (by decide +kernel) rfl
set_option maxRecDepth 100000 in
theorem mw_404 : (Jvm.Cond.static ({ cls := "java/util/Arrays", name := "fill", desc := "([II)V" } : Jvm.MethodName)) ∈ evW := evm 404 (by decide +kernel) rfl
set_option maxRecDepth 100000 in
theorem mw_405 : (Jvm.Cond.code ({ cls := "java/util/Arrays", name := "fill", desc := "([II)V" } : Jvm.MethodName) prog_20_method_103_code (4 : Nat) (Option.none : Option Jvm.ClassFile.FieldType)) ∈ evW := evm 405 rfl rfl
set_option maxRecDepth 100000 in
theorem mw_406 : (Jvm.Cond.methodLink "BlockCounter$Analysis" (62 : Nat) ({ cls := "BlockCounter$Analysis", name := "comeToHead", desc := "(I)Z" } : Jvm.MethodName)) ∈ evW := evm 406 (by decide +kernel) rfl
set_option maxRecDepth 100000 in
theorem mw_408 : (Jvm.Cond.instanceMethod ({ cls := "BlockCounter$Analysis", name := "comeToHead", desc := "(I)Z" } : Jvm.MethodName)) ∈ evW := evm 408 (by decide +kernel) rfl
set_option maxRecDepth 100000 in
theorem mw_409 : (Jvm.Cond.code ({ cls := "BlockCounter$Analysis", name := "comeToHead", desc := "(I)Z" } : Jvm.MethodName) prog_2_method_13_code (2 : Nat) (Option.some Jvm.ClassFile.FieldType.boolean)) ∈ evW := evm 409 rfl rfl
set_option maxRecDepth 100000 in
theorem mw_410 : (Jvm.Cond.methodLink "BlockCounter$Analysis" (87 : Nat) ({ cls := "BlockCounter$Analysis", name := "comeTo", desc := "(I)Z" } : Jvm.MethodName)) ∈ evW := evm 410 (by decide +kernel) rfl
set_option maxRecDepth 100000 in
theorem mw_412 : (Jvm.Cond.instanceMethod ({ cls := "BlockCounter$Analysis", name := "comeTo", desc := "(I)Z" } : Jvm.MethodName)) ∈ evW := evm 412 (by decide +kernel) rfl
set_option maxRecDepth 100000 in
theorem mw_413 : (Jvm.Cond.code ({ cls := "BlockCounter$Analysis", name := "comeTo", desc := "(I)Z" } : Jvm.MethodName) prog_2_method_12_code (2 : Nat) (Option.some Jvm.ClassFile.FieldType.boolean)) ∈ evW := evm 413 rfl rfl
set_option maxRecDepth 100000 in
theorem mw_414 : (Jvm.Cond.methodLink "BlockCounter$Analysis" (69 : Nat) ({ cls := "BlockCounter$Analysis", name := "follow", desc := "(LBlockCounter$Program;LBlockCounter$Tables;I)Z" } : Jvm.MethodName)) ∈ evW := evm 414 (by decide +kernel) rfl
set_option maxRecDepth 100000 in
theorem mw_416 : (Jvm.Cond.instanceMethod ({ cls := "BlockCounter$Analysis", name := "follow", desc := "(LBlockCounter$Program;LBlockCounter$Tables;I)Z" } : Jvm.MethodName)) ∈ evW := evm 416 (by decide +kernel) rfl
set_option maxRecDepth 100000 in
theorem mw_417 : (Jvm.Cond.code ({ cls := "BlockCounter$Analysis", name := "follow", desc := "(LBlockCounter$Program;LBlockCounter$Tables;I)Z" } : Jvm.MethodName) prog_2_method_14_code (4 : Nat) (Option.some Jvm.ClassFile.FieldType.boolean)) ∈ evW := evm 417 rfl rfl
set_option maxRecDepth 100000 in
theorem mw_418 : (Jvm.Cond.methodLink "BlockCounter$Analysis" (90 : Nat) ({ cls := "BlockCounter$Instruction", name := "read", desc := "(LBlockCounter$Program;II)Z" } : Jvm.MethodName)) ∈ evW := evm 418 (by decide +kernel) rfl
set_option maxRecDepth 100000 in
theorem mw_419 : (Jvm.Cond.instanceMethod ({ cls := "BlockCounter$Instruction", name := "read", desc := "(LBlockCounter$Program;II)Z" } : Jvm.MethodName)) ∈ evW := evm 419 (by decide +kernel) rfl
set_option maxRecDepth 100000 in
theorem mw_420 : (Jvm.Cond.selects "BlockCounter$Instruction" ({ cls := "BlockCounter$Instruction", name := "read", desc := "(LBlockCounter$Program;II)Z" } : Jvm.MethodName) ({ cls := "BlockCounter$Instruction", name := "read", desc := "(LBlockCounter$Program;II)Z" } : Jvm.MethodName)) ∈ evW := evm 420 (by decide +kernel) rfl
set_option maxRecDepth 100000 in
theorem mw_421 : (Jvm.Cond.code ({ cls := "BlockCounter$Instruction", name := "read", desc := "(LBlockCounter$Program;II)Z" } : Jvm.MethodName) prog_3_method_2_code (4 : Nat) (Option.some Jvm.ClassFile.FieldType.boolean)) ∈ evW := evm 421 rfl rfl
set_option maxRecDepth 100000 in
theorem mw_422 : (Jvm.Cond.methodLink "BlockCounter$Instruction" (13 : Nat) ({ cls := "BlockCounter$Program", name := "at", desc := "(I)I" } : Jvm.MethodName)) ∈ evW := evm 422 (by decide +kernel) rfl
set_option maxRecDepth 100000 in
theorem mw_423 : (Jvm.Cond.instanceMethod ({ cls := "BlockCounter$Program", name := "at", desc := "(I)I" } : Jvm.MethodName)) ∈ evW := evm 423 (by decide +kernel) rfl
set_option maxRecDepth 100000 in
theorem mw_424 : (Jvm.Cond.selects "BlockCounter$Program" ({ cls := "BlockCounter$Program", name := "at", desc := "(I)I" } : Jvm.MethodName) ({ cls := "BlockCounter$Program", name := "at", desc := "(I)I" } : Jvm.MethodName)) ∈ evW := evm 424 (by decide +kernel) rfl
set_option maxRecDepth 100000 in
theorem mw_425 : (Jvm.Cond.code ({ cls := "BlockCounter$Program", name := "at", desc := "(I)I" } : Jvm.MethodName) prog_5_method_2_code (2 : Nat) (Option.some Jvm.ClassFile.FieldType.int)) ∈ evW := evm 425 rfl rfl
set_option maxRecDepth 100000 in
theorem mw_426 : (Jvm.Cond.methodLink "BlockCounter$Instruction" (22 : Nat) ({ cls := "BlockCounter$Instruction", name := "kindOf", desc := "(I)I" } : Jvm.MethodName)) ∈ evW := evm 426 (by decide +kernel) rfl
set_option maxRecDepth 100000 in
theorem mw_427 : (Jvm.Cond.static ({ cls := "BlockCounter$Instruction", name := "kindOf", desc := "(I)I" } : Jvm.MethodName)) ∈ evW := evm 427 (by decide +kernel) rfl
set_option maxRecDepth 100000 in
theorem mw_428 : (Jvm.Cond.code ({ cls := "BlockCounter$Instruction", name := "kindOf", desc := "(I)I" } : Jvm.MethodName) prog_3_method_3_code (1 : Nat) (Option.some Jvm.ClassFile.FieldType.int)) ∈ evW := evm 428 rfl rfl
set_option maxRecDepth 100000 in
theorem mw_429 : (Jvm.Cond.methodLink "BlockCounter$Instruction" (28 : Nat) ({ cls := "BlockCounter$Instruction", name := "behind", desc := "()I" } : Jvm.MethodName)) ∈ evW := evm 429 (by decide +kernel) rfl
set_option maxRecDepth 100000 in
theorem mw_430 : (Jvm.Cond.instanceMethod ({ cls := "BlockCounter$Instruction", name := "behind", desc := "()I" } : Jvm.MethodName)) ∈ evW := evm 430 (by decide +kernel) rfl
set_option maxRecDepth 100000 in
theorem mw_431 : (Jvm.Cond.selects "BlockCounter$Instruction" ({ cls := "BlockCounter$Instruction", name := "behind", desc := "()I" } : Jvm.MethodName) ({ cls := "BlockCounter$Instruction", name := "behind", desc := "()I" } : Jvm.MethodName)) ∈ evW := evm 431 (by decide +kernel) rfl
set_option maxRecDepth 100000 in
theorem mw_432 : (Jvm.Cond.code ({ cls := "BlockCounter$Instruction", name := "behind", desc := "()I" } : Jvm.MethodName) prog_3_method_5_code (1 : Nat) (Option.some Jvm.ClassFile.FieldType.int)) ∈ evW := evm 432 rfl rfl
set_option maxRecDepth 100000 in
theorem mw_433 : (Jvm.Cond.methodLink "BlockCounter$Instruction" (38 : Nat) ({ cls := "BlockCounter$Instruction", name := "length", desc := "()I" } : Jvm.MethodName)) ∈ evW := evm 433 (by decide +kernel) rfl
set_option maxRecDepth 100000 in
theorem mw_434 : (Jvm.Cond.instanceMethod ({ cls := "BlockCounter$Instruction", name := "length", desc := "()I" } : Jvm.MethodName)) ∈ evW := evm 434 (by decide +kernel) rfl
set_option maxRecDepth 100000 in
theorem mw_435 : (Jvm.Cond.selects "BlockCounter$Instruction" ({ cls := "BlockCounter$Instruction", name := "length", desc := "()I" } : Jvm.MethodName) ({ cls := "BlockCounter$Instruction", name := "length", desc := "()I" } : Jvm.MethodName)) ∈ evW := evm 435 (by decide +kernel) rfl
set_option maxRecDepth 100000 in
theorem mw_436 : (Jvm.Cond.code ({ cls := "BlockCounter$Instruction", name := "length", desc := "()I" } : Jvm.MethodName) prog_3_method_4_code (1 : Nat) (Option.some Jvm.ClassFile.FieldType.int)) ∈ evW := evm 436 rfl rfl
set_option maxRecDepth 100000 in
theorem mw_437 : (Jvm.Cond.methodLink "BlockCounter$Analysis" (94 : Nat) ({ cls := "BlockCounter$Instruction", name := "isOfRewriting", desc := "()Z" } : Jvm.MethodName)) ∈ evW := evm 437 (by decide +kernel) rfl
set_option maxRecDepth 100000 in
theorem mw_438 : (Jvm.Cond.instanceMethod ({ cls := "BlockCounter$Instruction", name := "isOfRewriting", desc := "()Z" } : Jvm.MethodName)) ∈ evW := evm 438 (by decide +kernel) rfl
set_option maxRecDepth 100000 in
theorem mw_439 : (Jvm.Cond.selects "BlockCounter$Instruction" ({ cls := "BlockCounter$Instruction", name := "isOfRewriting", desc := "()Z" } : Jvm.MethodName) ({ cls := "BlockCounter$Instruction", name := "isOfRewriting", desc := "()Z" } : Jvm.MethodName)) ∈ evW := evm 439 (by decide +kernel) rfl
set_option maxRecDepth 100000 in
theorem mw_440 : (Jvm.Cond.code ({ cls := "BlockCounter$Instruction", name := "isOfRewriting", desc := "()Z" } : Jvm.MethodName) prog_3_method_11_code (1 : Nat) (Option.some Jvm.ClassFile.FieldType.boolean)) ∈ evW := evm 440 rfl rfl
set_option maxRecDepth 100000 in
theorem mw_441 : (Jvm.Cond.methodLink "BlockCounter$Analysis" (100 : Nat) ({ cls := "BlockCounter$Instruction", name := "behind", desc := "()I" } : Jvm.MethodName)) ∈ evW := evm 441 (by decide +kernel) rfl
set_option maxRecDepth 100000 in
theorem mw_442 : (Jvm.Cond.methodLink "BlockCounter$Analysis" (104 : Nat) ({ cls := "BlockCounter$Instruction", name := "branchTarget", desc := "()I" } : Jvm.MethodName)) ∈ evW := evm 442 (by decide +kernel) rfl
set_option maxRecDepth 100000 in
theorem mw_443 : (Jvm.Cond.instanceMethod ({ cls := "BlockCounter$Instruction", name := "branchTarget", desc := "()I" } : Jvm.MethodName)) ∈ evW := evm 443 (by decide +kernel) rfl
set_option maxRecDepth 100000 in
theorem mw_444 : (Jvm.Cond.selects "BlockCounter$Instruction" ({ cls := "BlockCounter$Instruction", name := "branchTarget", desc := "()I" } : Jvm.MethodName) ({ cls := "BlockCounter$Instruction", name := "branchTarget", desc := "()I" } : Jvm.MethodName)) ∈ evW := evm 444 (by decide +kernel) rfl
set_option maxRecDepth 100000 in
theorem mw_445 : (Jvm.Cond.code ({ cls := "BlockCounter$Instruction", name := "branchTarget", desc := "()I" } : Jvm.MethodName) prog_3_method_6_code (1 : Nat) (Option.some Jvm.ClassFile.FieldType.int)) ∈ evW := evm 445 rfl rfl
set_option maxRecDepth 100000 in
theorem mw_446 : (Jvm.Cond.methodLink "BlockCounter$Analysis" (113 : Nat) ({ cls := "BlockCounter$Tables", name := "has", desc := "(II)Z" } : Jvm.MethodName)) ∈ evW := evm 446 (by decide +kernel) rfl
set_option maxRecDepth 100000 in
theorem mw_447 : (Jvm.Cond.instanceMethod ({ cls := "BlockCounter$Tables", name := "has", desc := "(II)Z" } : Jvm.MethodName)) ∈ evW := evm 447 (by decide +kernel) rfl
set_option maxRecDepth 100000 in
theorem mw_448 : (Jvm.Cond.selects "BlockCounter$Tables" ({ cls := "BlockCounter$Tables", name := "has", desc := "(II)Z" } : Jvm.MethodName) ({ cls := "BlockCounter$Tables", name := "has", desc := "(II)Z" } : Jvm.MethodName)) ∈ evW := evm 448 (by decide +kernel) rfl
set_option maxRecDepth 100000 in
theorem mw_449 : (Jvm.Cond.code ({ cls := "BlockCounter$Tables", name := "has", desc := "(II)Z" } : Jvm.MethodName) prog_7_method_5_code (4 : Nat) (Option.some Jvm.ClassFile.FieldType.boolean)) ∈ evW := evm 449 rfl rfl
set_option maxRecDepth 100000 in
theorem mw_450 : (Jvm.Cond.methodLink "BlockCounter$Analysis" (119 : Nat) ({ cls := "BlockCounter$Analysis", name := "followTable", desc := "(LBlockCounter$Program;II)Z" } : Jvm.MethodName)) ∈ evW := evm 450 (by decide +kernel) rfl
set_option maxRecDepth 100000 in
theorem mw_452 : (Jvm.Cond.instanceMethod ({ cls := "BlockCounter$Analysis", name := "followTable", desc := "(LBlockCounter$Program;II)Z" } : Jvm.MethodName)) ∈ evW := evm 452 (by decide +kernel) rfl
set_option maxRecDepth 100000 in
theorem mw_453 : (Jvm.Cond.code ({ cls := "BlockCounter$Analysis", name := "followTable", desc := "(LBlockCounter$Program;II)Z" } : Jvm.MethodName) prog_2_method_15_code (5 : Nat) (Option.some Jvm.ClassFile.FieldType.boolean)) ∈ evW := evm 453 rfl rfl
set_option maxRecDepth 100000 in
theorem mw_454 : (Jvm.Cond.methodLink "BlockCounter$Analysis" (122 : Nat) ({ cls := "BlockCounter$Program", name := "at", desc := "(I)I" } : Jvm.MethodName)) ∈ evW := evm 454 (by decide +kernel) rfl
set_option maxRecDepth 100000 in
theorem mw_455 : (Jvm.Cond.methodLink "BlockCounter$Analysis" (73 : Nat) ({ cls := "BlockCounter$Analysis", name := "isWithoutOverlap", desc := "(LBlockCounter$Program;)Z" } : Jvm.MethodName)) ∈ evW := evm 455 (by decide +kernel) rfl
set_option maxRecDepth 100000 in
theorem mw_457 : (Jvm.Cond.instanceMethod ({ cls := "BlockCounter$Analysis", name := "isWithoutOverlap", desc := "(LBlockCounter$Program;)Z" } : Jvm.MethodName)) ∈ evW := evm 457 (by decide +kernel) rfl
set_option maxRecDepth 100000 in
theorem mw_458 : (Jvm.Cond.code ({ cls := "BlockCounter$Analysis", name := "isWithoutOverlap", desc := "(LBlockCounter$Program;)Z" } : Jvm.MethodName) prog_2_method_16_code (4 : Nat) (Option.some Jvm.ClassFile.FieldType.boolean)) ∈ evW := evm 458 rfl rfl
set_option maxRecDepth 100000 in
theorem mw_459 : (Jvm.Cond.methodLink "BlockCounter$Analysis" (77 : Nat) ({ cls := "BlockCounter$Analysis", name := "findBlocks", desc := "(LBlockCounter$Program;)V" } : Jvm.MethodName)) ∈ evW := evm 459 (by decide +kernel) rfl
set_option maxRecDepth 100000 in
theorem mw_461 : (Jvm.Cond.instanceMethod ({ cls := "BlockCounter$Analysis", name := "findBlocks", desc := "(LBlockCounter$Program;)V" } : Jvm.MethodName)) ∈ evW := evm 461 (by decide +kernel) rfl
set_option maxRecDepth 100000 in
theorem mw_462 : (Jvm.Cond.code ({ cls := "BlockCounter$Analysis", name := "findBlocks", desc := "(LBlockCounter$Program;)V" } : Jvm.MethodName) prog_2_method_17_code (3 : Nat) (Option.none : Option Jvm.ClassFile.FieldType)) ∈ evW := evm 462 rfl rfl
set_option maxRecDepth 100000 in
theorem mw_463 : (Jvm.Cond.methodLink "BlockCounter$Analysis" (127 : Nat) ({ cls := "BlockCounter$Analysis", name := "addBlock", desc := "(LBlockCounter$Program;I)V" } : Jvm.MethodName)) ∈ evW := evm 463 (by decide +kernel) rfl
set_option maxRecDepth 100000 in
theorem mw_465 : (Jvm.Cond.instanceMethod ({ cls := "BlockCounter$Analysis", name := "addBlock", desc := "(LBlockCounter$Program;I)V" } : Jvm.MethodName)) ∈ evW := evm 465 (by decide +kernel) rfl
set_option maxRecDepth 100000 in
theorem mw_466 : (Jvm.Cond.code ({ cls := "BlockCounter$Analysis", name := "addBlock", desc := "(LBlockCounter$Program;I)V" } : Jvm.MethodName) prog_2_method_18_code (7 : Nat) (Option.none : Option Jvm.ClassFile.FieldType)) ∈ evW := evm 466 rfl rfl
set_option maxRecDepth 100000 in
theorem mw_467 : (Jvm.Cond.methodLink "BlockCounter$Analysis" (131 : Nat) ({ cls := "BlockCounter$Instruction", name := "endsBlock", desc := "()Z" } : Jvm.MethodName)) ∈ evW := evm 467 (by decide +kernel) rfl
set_option maxRecDepth 100000 in
theorem mw_468 : (Jvm.Cond.instanceMethod ({ cls := "BlockCounter$Instruction", name := "endsBlock", desc := "()Z" } : Jvm.MethodName)) ∈ evW := evm 468 (by decide +kernel) rfl
set_option maxRecDepth 100000 in
theorem mw_469 : (Jvm.Cond.selects "BlockCounter$Instruction" ({ cls := "BlockCounter$Instruction", name := "endsBlock", desc := "()Z" } : Jvm.MethodName) ({ cls := "BlockCounter$Instruction", name := "endsBlock", desc := "()Z" } : Jvm.MethodName)) ∈ evW := evm 469 (by decide +kernel) rfl
set_option maxRecDepth 100000 in
theorem mw_470 : (Jvm.Cond.code ({ cls := "BlockCounter$Instruction", name := "endsBlock", desc := "()Z" } : Jvm.MethodName) prog_3_method_10_code (1 : Nat) (Option.some Jvm.ClassFile.FieldType.boolean)) ∈ evW := evm 470 rfl rfl
set_option maxRecDepth 100000 in
theorem mw_474 : (Jvm.Cond.selects "java/lang/UnsupportedOperationException" ({ cls := "java/lang/Throwable", name := "fillInStackTrace", desc := "(I)Ljava/lang/Throwable;" } : Jvm.MethodName) ({ cls := "java/lang/Throwable", name := "fillInStackTrace", desc := "(I)Ljava/lang/Throwable;" } : Jvm.MethodName)) ∈ evW := evm 474 (by decide +kernel) rfl
set_option maxRecDepth 100000 in
theorem mw_481 : (Jvm.Cond.methodLink "BlockCounter" (96 : Nat) ({ cls := "java/lang/UnsupportedOperationException", name := "<init>", desc := "(Ljava/lang/String;)V" } : Jvm.MethodName)) ∈ evW := evm 481 (by decide +kernel) rfl
set_option maxRecDepth 100000 in
theorem mw_482 : (Jvm.Cond.instanceMethod ({ cls := "java/lang/UnsupportedOperationException", name := "<init>", desc := "(Ljava/lang/String;)V" } : Jvm.MethodName)) ∈ evW := evm 482 (by decide +kernel) rfl
set_option maxRecDepth 100000 in
theorem mw_483 : (Jvm.Cond.code ({ cls := "java/lang/UnsupportedOperationException", name := "<init>", desc := "(Ljava/lang/String;)V" } : Jvm.MethodName) prog_19_method_2_code (2 : Nat) (Option.none : Option Jvm.ClassFile.FieldType)) ∈ evW := evm 483 rfl rfl
set_option maxRecDepth 100000 in
theorem mw_484 : (Jvm.Cond.methodLink "java/lang/UnsupportedOperationException" (7 : Nat) ({ cls := "java/lang/RuntimeException", name := "<init>", desc := "(Ljava/lang/String;)V" } : Jvm.MethodName)) ∈ evW := evm 484 (by decide +kernel) rfl
set_option maxRecDepth 100000 in
theorem mw_487 : (Jvm.Cond.methodLink "BlockCounter" (97 : Nat) ({ cls := "BlockCounter$Analysis", name := "size", desc := "()I" } : Jvm.MethodName)) ∈ evW := evm 487 (by decide +kernel) rfl
set_option maxRecDepth 100000 in
theorem mw_488 : (Jvm.Cond.instanceMethod ({ cls := "BlockCounter$Analysis", name := "size", desc := "()I" } : Jvm.MethodName)) ∈ evW := evm 488 (by decide +kernel) rfl
set_option maxRecDepth 100000 in
theorem mw_489 : (Jvm.Cond.selects "BlockCounter$Analysis" ({ cls := "BlockCounter$Analysis", name := "size", desc := "()I" } : Jvm.MethodName) ({ cls := "BlockCounter$Analysis", name := "size", desc := "()I" } : Jvm.MethodName)) ∈ evW := evm 489 (by decide +kernel) rfl
set_option maxRecDepth 100000 in
theorem mw_490 : (Jvm.Cond.code ({ cls := "BlockCounter$Analysis", name := "size", desc := "()I" } : Jvm.MethodName) prog_2_method_4_code (1 : Nat) (Option.some Jvm.ClassFile.FieldType.int)) ∈ evW := evm 490 rfl rfl
set_option maxRecDepth 100000 in
theorem mw_491 : (Jvm.Cond.methodLink "BlockCounterLaw" (84 : Nat) ({ cls := "BlockCounterLaw", name := "block", desc := "(LBlockCounter;II[J)I" } : Jvm.MethodName)) ∈ evW := evm 491 (by decide +kernel) rfl
set_option maxRecDepth 100000 in
theorem mw_492 : (Jvm.Cond.static ({ cls := "BlockCounterLaw", name := "block", desc := "(LBlockCounter;II[J)I" } : Jvm.MethodName)) ∈ evW := evm 492 (by decide +kernel) rfl
set_option maxRecDepth 100000 in
theorem mw_494 : (Jvm.Cond.methodLink "BlockCounterLaw" (32 : Nat) ({ cls := "BlockCounter", name := "block", desc := "(II)I" } : Jvm.MethodName)) ∈ evW := evm 494 (by decide +kernel) rfl
set_option maxRecDepth 100000 in
theorem mw_495 : (Jvm.Cond.instanceMethod ({ cls := "BlockCounter", name := "block", desc := "(II)I" } : Jvm.MethodName)) ∈ evW := evm 495 (by decide +kernel) rfl
set_option maxRecDepth 100000 in
theorem mw_496 : (Jvm.Cond.selects "BlockCounter" ({ cls := "BlockCounter", name := "block", desc := "(II)I" } : Jvm.MethodName) ({ cls := "BlockCounter", name := "block", desc := "(II)I" } : Jvm.MethodName)) ∈ evW := evm 496 (by decide +kernel) rfl
set_option maxRecDepth 100000 in
theorem mw_497 : (Jvm.Cond.code ({ cls := "BlockCounter", name := "block", desc := "(II)I" } : Jvm.MethodName) prog_1_method_6_code (3 : Nat) (Option.some Jvm.ClassFile.FieldType.int)) ∈ evW := evm 497 rfl rfl
set_option maxRecDepth 100000 in
theorem mw_499 : (Jvm.Cond.methodLink "BlockCounter" (100 : Nat) ({ cls := "BlockCounter$Analysis", name := "headOf", desc := "(I)I" } : Jvm.MethodName)) ∈ evW := evm 499 (by decide +kernel) rfl
set_option maxRecDepth 100000 in
theorem mw_500 : (Jvm.Cond.instanceMethod ({ cls := "BlockCounter$Analysis", name := "headOf", desc := "(I)I" } : Jvm.MethodName)) ∈ evW := evm 500 (by decide +kernel) rfl
set_option maxRecDepth 100000 in
theorem mw_501 : (Jvm.Cond.selects "BlockCounter$Analysis" ({ cls := "BlockCounter$Analysis", name := "headOf", desc := "(I)I" } : Jvm.MethodName) ({ cls := "BlockCounter$Analysis", name := "headOf", desc := "(I)I" } : Jvm.MethodName)) ∈ evW := evm 501 (by decide +kernel) rfl
set_option maxRecDepth 100000 in
theorem mw_502 : (Jvm.Cond.code ({ cls := "BlockCounter$Analysis", name := "headOf", desc := "(I)I" } : Jvm.MethodName) prog_2_method_5_code (2 : Nat) (Option.some Jvm.ClassFile.FieldType.int)) ∈ evW := evm 502 rfl rfl
set_option maxRecDepth 100000 in
theorem mw_503 : (Jvm.Cond.methodLink "BlockCounter" (104 : Nat) ({ cls := "BlockCounter$Analysis", name := "bytesOf", desc := "(I)I" } : Jvm.MethodName)) ∈ evW := evm 503 (by decide +kernel) rfl
set_option maxRecDepth 100000 in
theorem mw_504 : (Jvm.Cond.instanceMethod ({ cls := "BlockCounter$Analysis", name := "bytesOf", desc := "(I)I" } : Jvm.MethodName)) ∈ evW := evm 504 (by decide +kernel) rfl
set_option maxRecDepth 100000 in
theorem mw_505 : (Jvm.Cond.selects "BlockCounter$Analysis" ({ cls := "BlockCounter$Analysis", name := "bytesOf", desc := "(I)I" } : Jvm.MethodName) ({ cls := "BlockCounter$Analysis", name := "bytesOf", desc := "(I)I" } : Jvm.MethodName)) ∈ evW := evm 505 (by decide +kernel) rfl
set_option maxRecDepth 100000 in
theorem mw_506 : (Jvm.Cond.code ({ cls := "BlockCounter$Analysis", name := "bytesOf", desc := "(I)I" } : Jvm.MethodName) prog_2_method_6_code (2 : Nat) (Option.some Jvm.ClassFile.FieldType.int)) ∈ evW := evm 506 rfl rfl
set_option maxRecDepth 100000 in
theorem mw_507 : (Jvm.Cond.methodLink "BlockCounter" (107 : Nat) ({ cls := "BlockCounter$Analysis", name := "instructionsOf", desc := "(I)I" } : Jvm.MethodName)) ∈ evW := evm 507 (by decide +kernel) rfl
set_option maxRecDepth 100000 in
theorem mw_508 : (Jvm.Cond.instanceMethod ({ cls := "BlockCounter$Analysis", name := "instructionsOf", desc := "(I)I" } : Jvm.MethodName)) ∈ evW := evm 508 (by decide +kernel) rfl
set_option maxRecDepth 100000 in
theorem mw_509 : (Jvm.Cond.selects "BlockCounter$Analysis" ({ cls := "BlockCounter$Analysis", name := "instructionsOf", desc := "(I)I" } : Jvm.MethodName) ({ cls := "BlockCounter$Analysis", name := "instructionsOf", desc := "(I)I" } : Jvm.MethodName)) ∈ evW := evm 509 (by decide +kernel) rfl
set_option maxRecDepth 100000 in
theorem mw_510 : (Jvm.Cond.code ({ cls := "BlockCounter$Analysis", name := "instructionsOf", desc := "(I)I" } : Jvm.MethodName) prog_2_method_7_code (2 : Nat) (Option.some Jvm.ClassFile.FieldType.int)) ∈ evW := evm 510 rfl rfl
set_option maxRecDepth 100000 in
theorem mw_512 : (Jvm.Cond.methodLink "BlockCounterLaw" (91 : Nat) ({ cls := "BlockCounterLaw", name := "rewrite", desc := "(LBlockCounter;[J)I" } : Jvm.MethodName)) ∈ evW := evm 512 (by decide +kernel) rfl
set_option maxRecDepth 100000 in
theorem mw_513 : (Jvm.Cond.static ({ cls := "BlockCounterLaw", name := "rewrite", desc := "(LBlockCounter;[J)I" } : Jvm.MethodName)) ∈ evW := evm 513 (by decide +kernel) rfl
set_option maxRecDepth 100000 in
theorem mw_515 : (Jvm.Cond.methodLink "BlockCounterLaw" (35 : Nat) ({ cls := "BlockCounter", name := "rewrite", desc := "()I" } : Jvm.MethodName)) ∈ evW := evm 515 (by decide +kernel) rfl
set_option maxRecDepth 100000 in
theorem mw_516 : (Jvm.Cond.instanceMethod ({ cls := "BlockCounter", name := "rewrite", desc := "()I" } : Jvm.MethodName)) ∈ evW := evm 516 (by decide +kernel) rfl
set_option maxRecDepth 100000 in
theorem mw_517 : (Jvm.Cond.selects "BlockCounter" ({ cls := "BlockCounter", name := "rewrite", desc := "()I" } : Jvm.MethodName) ({ cls := "BlockCounter", name := "rewrite", desc := "()I" } : Jvm.MethodName)) ∈ evW := evm 517 (by decide +kernel) rfl
set_option maxRecDepth 100000 in
theorem mw_518 : (Jvm.Cond.code ({ cls := "BlockCounter", name := "rewrite", desc := "()I" } : Jvm.MethodName) prog_1_method_8_code (1 : Nat) (Option.some Jvm.ClassFile.FieldType.int)) ∈ evW := evm 518 rfl rfl
set_option maxRecDepth 100000 in
theorem mw_519 : (Jvm.Cond.methodLink "BlockCounter" (115 : Nat) ({ cls := "BlockCounter$Analysis", name := "exists", desc := "()Z" } : Jvm.MethodName)) ∈ evW := evm 519 (by decide +kernel) rfl
set_option maxRecDepth 100000 in
theorem mw_521 : (Jvm.Cond.methodLink "BlockCounter" (120 : Nat) ({ cls := "BlockCounter$Rewriting", name := "build", desc := "(LBlockCounter$Program;LBlockCounter$Analysis;)Z" } : Jvm.MethodName)) ∈ evW := evm 521 (by decide +kernel) rfl
set_option maxRecDepth 100000 in
theorem mw_522 : (Jvm.Cond.instanceMethod ({ cls := "BlockCounter$Rewriting", name := "build", desc := "(LBlockCounter$Program;LBlockCounter$Analysis;)Z" } : Jvm.MethodName)) ∈ evW := evm 522 (by decide +kernel) rfl
set_option maxRecDepth 100000 in
theorem mw_523 : (Jvm.Cond.selects "BlockCounter$Rewriting" ({ cls := "BlockCounter$Rewriting", name := "build", desc := "(LBlockCounter$Program;LBlockCounter$Analysis;)Z" } : Jvm.MethodName) ({ cls := "BlockCounter$Rewriting", name := "build", desc := "(LBlockCounter$Program;LBlockCounter$Analysis;)Z" } : Jvm.MethodName)) ∈ evW := evm 523 (by decide +kernel) rfl
set_option maxRecDepth 100000 in
theorem mw_524 : (Jvm.Cond.code ({ cls := "BlockCounter$Rewriting", name := "build", desc := "(LBlockCounter$Program;LBlockCounter$Analysis;)Z" } : Jvm.MethodName) prog_6_method_6_code (7 : Nat) (Option.some Jvm.ClassFile.FieldType.boolean)) ∈ evW := evm 524 rfl rfl
set_option maxRecDepth 100000 in
theorem mw_525 : (Jvm.Cond.methodLink "BlockCounter$Rewriting" (33 : Nat) ({ cls := "BlockCounter$Program", name := "becomeCopyOf", desc := "(LBlockCounter$Program;)V" } : Jvm.MethodName)) ∈ evW := evm 525 (by decide +kernel) rfl
set_option maxRecDepth 100000 in
theorem mw_526 : (Jvm.Cond.instanceMethod ({ cls := "BlockCounter$Program", name := "becomeCopyOf", desc := "(LBlockCounter$Program;)V" } : Jvm.MethodName)) ∈ evW := evm 526 (by decide +kernel) rfl
set_option maxRecDepth 100000 in
theorem mw_527 : (Jvm.Cond.selects "BlockCounter$Program" ({ cls := "BlockCounter$Program", name := "becomeCopyOf", desc := "(LBlockCounter$Program;)V" } : Jvm.MethodName) ({ cls := "BlockCounter$Program", name := "becomeCopyOf", desc := "(LBlockCounter$Program;)V" } : Jvm.MethodName)) ∈ evW := evm 527 (by decide +kernel) rfl
set_option maxRecDepth 100000 in
theorem mw_528 : (Jvm.Cond.code ({ cls := "BlockCounter$Program", name := "becomeCopyOf", desc := "(LBlockCounter$Program;)V" } : Jvm.MethodName) prog_5_method_6_code (2 : Nat) (Option.none : Option Jvm.ClassFile.FieldType)) ∈ evW := evm 528 rfl rfl
set_option maxRecDepth 100000 in
theorem mw_529 : (Jvm.Cond.methodLink "BlockCounter$Program" (18 : Nat) ({ cls := "java/lang/System", name := "arraycopy", desc := "(Ljava/lang/Object;ILjava/lang/Object;II)V" } : Jvm.MethodName)) ∈ evW := evm 529 (by decide +kernel) rfl
set_option maxRecDepth 100000 in
theorem mw_530 : (Jvm.Cond.static ({ cls := "java/lang/System", name := "arraycopy", desc := "(Ljava/lang/Object;ILjava/lang/Object;II)V" } : Jvm.MethodName)) ∈ evW := evm 530 (by decide +kernel) rfl
set_option maxRecDepth 100000 in
theorem mw_531 : (Jvm.Cond.native ({ cls := "java/lang/System", name := "arraycopy", desc := "(Ljava/lang/Object;ILjava/lang/Object;II)V" } : Jvm.MethodName)) ∈ evW := evm 531 (by decide +kernel) rfl
set_option maxRecDepth 100000 in
theorem mw_532 : (Jvm.Cond.methodLink "BlockCounter$Rewriting" (37 : Nat) ({ cls := "BlockCounter$Analysis", name := "size", desc := "()I" } : Jvm.MethodName)) ∈ evW := evm 532 (by decide +kernel) rfl
set_option maxRecDepth 100000 in
theorem mw_533 : (Jvm.Cond.methodLink "BlockCounter$Rewriting" (43 : Nat) ({ cls := "BlockCounter$Analysis", name := "headOf", desc := "(I)I" } : Jvm.MethodName)) ∈ evW := evm 533 (by decide +kernel) rfl
set_option maxRecDepth 100000 in
theorem mw_534 : (Jvm.Cond.methodLink "BlockCounter$Rewriting" (47 : Nat) ({ cls := "BlockCounter$Analysis", name := "bytesOf", desc := "(I)I" } : Jvm.MethodName)) ∈ evW := evm 534 (by decide +kernel) rfl
set_option maxRecDepth 100000 in
theorem mw_535 : (Jvm.Cond.methodLink "BlockCounter$Rewriting" (50 : Nat) ({ cls := "BlockCounter$Rewriting", name := "append", desc := "(I)V" } : Jvm.MethodName)) ∈ evW := evm 535 (by decide +kernel) rfl
set_option maxRecDepth 100000 in
theorem mw_537 : (Jvm.Cond.instanceMethod ({ cls := "BlockCounter$Rewriting", name := "append", desc := "(I)V" } : Jvm.MethodName)) ∈ evW := evm 537 (by decide +kernel) rfl
set_option maxRecDepth 100000 in
theorem mw_538 : (Jvm.Cond.code ({ cls := "BlockCounter$Rewriting", name := "append", desc := "(I)V" } : Jvm.MethodName) prog_6_method_12_code (2 : Nat) (Option.none : Option Jvm.ClassFile.FieldType)) ∈ evW := evm 538 rfl rfl
set_option maxRecDepth 100000 in
theorem mw_539 : (Jvm.Cond.methodLink "BlockCounter$Rewriting" (68 : Nat) ({ cls := "BlockCounter$Program", name := "put", desc := "(II)V" } : Jvm.MethodName)) ∈ evW := evm 539 (by decide +kernel) rfl
set_option maxRecDepth 100000 in
theorem mw_540 : (Jvm.Cond.methodLink "BlockCounter$Rewriting" (54 : Nat) ({ cls := "java/lang/Math", name := "min", desc := "(II)I" } : Jvm.MethodName)) ∈ evW := evm 540 (by decide +kernel) rfl
set_option maxRecDepth 100000 in
theorem mw_541 : (Jvm.Cond.static ({ cls := "java/lang/Math", name := "min", desc := "(II)I" } : Jvm.MethodName)) ∈ evW := evm 541 (by decide +kernel) rfl
set_option maxRecDepth 100000 in
theorem mw_542 : (Jvm.Cond.code ({ cls := "java/lang/Math", name := "min", desc := "(II)I" } : Jvm.MethodName) prog_14_method_69_code (2 : Nat) (Option.some Jvm.ClassFile.FieldType.int)) ∈ evW := evm 542 rfl rfl
set_option maxRecDepth 100000 in
theorem mw_543 : (Jvm.Cond.methodLink "BlockCounter$Rewriting" (60 : Nat) ({ cls := "BlockCounter$Rewriting", name := "moveFirst", desc := "(LBlockCounter$Program;II)V" } : Jvm.MethodName)) ∈ evW := evm 543 (by decide +kernel) rfl
set_option maxRecDepth 100000 in
theorem mw_545 : (Jvm.Cond.instanceMethod ({ cls := "BlockCounter$Rewriting", name := "moveFirst", desc := "(LBlockCounter$Program;II)V" } : Jvm.MethodName)) ∈ evW := evm 545 (by decide +kernel) rfl
set_option maxRecDepth 100000 in
theorem mw_546 : (Jvm.Cond.code ({ cls := "BlockCounter$Rewriting", name := "moveFirst", desc := "(LBlockCounter$Program;II)V" } : Jvm.MethodName) prog_6_method_8_code (6 : Nat) (Option.none : Option Jvm.ClassFile.FieldType)) ∈ evW := evm 546 rfl rfl
set_option maxRecDepth 100000 in
theorem mw_547 : (Jvm.Cond.methodLink "BlockCounter$Rewriting" (75 : Nat) ({ cls := "BlockCounter$Instruction", name := "read", desc := "(LBlockCounter$Program;II)Z" } : Jvm.MethodName)) ∈ evW := evm 547 (by decide +kernel) rfl
set_option maxRecDepth 100000 in
theorem mw_548 : (Jvm.Cond.methodLink "BlockCounter$Rewriting" (79 : Nat) ({ cls := "BlockCounter$Rewriting", name := "moveInstruction", desc := "()V" } : Jvm.MethodName)) ∈ evW := evm 548 (by decide +kernel) rfl
set_option maxRecDepth 100000 in
theorem mw_550 : (Jvm.Cond.instanceMethod ({ cls := "BlockCounter$Rewriting", name := "moveInstruction", desc := "()V" } : Jvm.MethodName)) ∈ evW := evm 550 (by decide +kernel) rfl
set_option maxRecDepth 100000 in
theorem mw_551 : (Jvm.Cond.code ({ cls := "BlockCounter$Rewriting", name := "moveInstruction", desc := "()V" } : Jvm.MethodName) prog_6_method_9_code (1 : Nat) (Option.none : Option Jvm.ClassFile.FieldType)) ∈ evW := evm 551 rfl rfl
set_option maxRecDepth 100000 in
theorem mw_552 : (Jvm.Cond.methodLink "BlockCounter$Rewriting" (92 : Nat) ({ cls := "BlockCounter$Instruction", name := "isConditional", desc := "()Z" } : Jvm.MethodName)) ∈ evW := evm 552 (by decide +kernel) rfl
set_option maxRecDepth 100000 in
theorem mw_553 : (Jvm.Cond.instanceMethod ({ cls := "BlockCounter$Instruction", name := "isConditional", desc := "()Z" } : Jvm.MethodName)) ∈ evW := evm 553 (by decide +kernel) rfl
set_option maxRecDepth 100000 in
theorem mw_554 : (Jvm.Cond.selects "BlockCounter$Instruction" ({ cls := "BlockCounter$Instruction", name := "isConditional", desc := "()Z" } : Jvm.MethodName) ({ cls := "BlockCounter$Instruction", name := "isConditional", desc := "()Z" } : Jvm.MethodName)) ∈ evW := evm 554 (by decide +kernel) rfl
set_option maxRecDepth 100000 in
theorem mw_555 : (Jvm.Cond.code ({ cls := "BlockCounter$Instruction", name := "isConditional", desc := "()Z" } : Jvm.MethodName) prog_3_method_9_code (1 : Nat) (Option.some Jvm.ClassFile.FieldType.boolean)) ∈ evW := evm 555 rfl rfl
set_option maxRecDepth 100000 in
theorem mw_556 : (Jvm.Cond.methodLink "BlockCounter$Rewriting" (82 : Nat) ({ cls := "BlockCounter$Instruction", name := "behind", desc := "()I" } : Jvm.MethodName)) ∈ evW := evm 556 (by decide +kernel) rfl
set_option maxRecDepth 100000 in
theorem mw_557 : (Jvm.Cond.methodLink "BlockCounter$Rewriting" (89 : Nat) ({ cls := "BlockCounter$Rewriting", name := "appendJump", desc := "(I)V" } : Jvm.MethodName)) ∈ evW := evm 557 (by decide +kernel) rfl
set_option maxRecDepth 100000 in
theorem mw_559 : (Jvm.Cond.instanceMethod ({ cls := "BlockCounter$Rewriting", name := "appendJump", desc := "(I)V" } : Jvm.MethodName)) ∈ evW := evm 559 (by decide +kernel) rfl
set_option maxRecDepth 100000 in
theorem mw_560 : (Jvm.Cond.code ({ cls := "BlockCounter$Rewriting", name := "appendJump", desc := "(I)V" } : Jvm.MethodName) prog_6_method_11_code (2 : Nat) (Option.none : Option Jvm.ClassFile.FieldType)) ∈ evW := evm 560 rfl rfl
set_option maxRecDepth 100000 in
theorem mw_561 : (Jvm.Cond.methodLink "BlockCounter$Rewriting" (98 : Nat) ({ cls := "BlockCounter$Instruction", name := "branchTarget", desc := "()I" } : Jvm.MethodName)) ∈ evW := evm 561 (by decide +kernel) rfl
set_option maxRecDepth 100000 in
theorem mw_562 : (Jvm.Cond.methodLink "BlockCounter$Rewriting" (107 : Nat) ({ cls := "BlockCounter$Rewriting", name := "copyInstruction", desc := "()V" } : Jvm.MethodName)) ∈ evW := evm 562 (by decide +kernel) rfl
set_option maxRecDepth 100000 in
theorem mw_564 : (Jvm.Cond.instanceMethod ({ cls := "BlockCounter$Rewriting", name := "copyInstruction", desc := "()V" } : Jvm.MethodName)) ∈ evW := evm 564 (by decide +kernel) rfl
set_option maxRecDepth 100000 in
theorem mw_565 : (Jvm.Cond.code ({ cls := "BlockCounter$Rewriting", name := "copyInstruction", desc := "()V" } : Jvm.MethodName) prog_6_method_10_code (1 : Nat) (Option.none : Option Jvm.ClassFile.FieldType)) ∈ evW := evm 565 rfl rfl
set_option maxRecDepth 100000 in
theorem mw_566 : (Jvm.Cond.methodLink "BlockCounter$Rewriting" (110 : Nat) ({ cls := "BlockCounter$Instruction", name := "length", desc := "()I" } : Jvm.MethodName)) ∈ evW := evm 566 (by decide +kernel) rfl
set_option maxRecDepth 100000 in
theorem mw_567 : (Jvm.Cond.methodLink "BlockCounter$Rewriting" (85 : Nat) ({ cls := "BlockCounter$Instruction", name := "endsBlock", desc := "()Z" } : Jvm.MethodName)) ∈ evW := evm 567 (by decide +kernel) rfl
set_option maxRecDepth 100000 in
theorem mw_568 : (Jvm.Cond.methodLink "BlockCounter$Rewriting" (64 : Nat) ({ cls := "BlockCounter$Rewriting", name := "hook", desc := "(III)V" } : Jvm.MethodName)) ∈ evW := evm 568 (by decide +kernel) rfl
set_option maxRecDepth 100000 in
theorem mw_570 : (Jvm.Cond.instanceMethod ({ cls := "BlockCounter$Rewriting", name := "hook", desc := "(III)V" } : Jvm.MethodName)) ∈ evW := evm 570 (by decide +kernel) rfl
set_option maxRecDepth 100000 in
theorem mw_571 : (Jvm.Cond.code ({ cls := "BlockCounter$Rewriting", name := "hook", desc := "(III)V" } : Jvm.MethodName) prog_6_method_7_code (4 : Nat) (Option.none : Option Jvm.ClassFile.FieldType)) ∈ evW := evm 571 rfl rfl
set_option maxRecDepth 100000 in
theorem mw_572 : (Jvm.Cond.methodLink "BlockCounter$Rewriting" (72 : Nat) ({ cls := "BlockCounter$Program", name := "putTrap", desc := "(II)V" } : Jvm.MethodName)) ∈ evW := evm 572 (by decide +kernel) rfl
set_option maxRecDepth 100000 in
theorem mw_573 : (Jvm.Cond.instanceMethod ({ cls := "BlockCounter$Program", name := "putTrap", desc := "(II)V" } : Jvm.MethodName)) ∈ evW := evm 573 (by decide +kernel) rfl
set_option maxRecDepth 100000 in
theorem mw_574 : (Jvm.Cond.selects "BlockCounter$Program" ({ cls := "BlockCounter$Program", name := "putTrap", desc := "(II)V" } : Jvm.MethodName) ({ cls := "BlockCounter$Program", name := "putTrap", desc := "(II)V" } : Jvm.MethodName)) ∈ evW := evm 574 (by decide +kernel) rfl
set_option maxRecDepth 100000 in
theorem mw_575 : (Jvm.Cond.code ({ cls := "BlockCounter$Program", name := "putTrap", desc := "(II)V" } : Jvm.MethodName) prog_5_method_5_code (3 : Nat) (Option.none : Option Jvm.ClassFile.FieldType)) ∈ evW := evm 575 rfl rfl
set_option maxRecDepth 100000 in
theorem mw_577 : (Jvm.Cond.methodLink "BlockCounter" (126 : Nat) ({ cls := "BlockCounter$Rewriting", name := "used", desc := "()I" } : Jvm.MethodName)) ∈ evW := evm 577 (by decide +kernel) rfl
set_option maxRecDepth 100000 in
theorem mw_578 : (Jvm.Cond.instanceMethod ({ cls := "BlockCounter$Rewriting", name := "used", desc := "()I" } : Jvm.MethodName)) ∈ evW := evm 578 (by decide +kernel) rfl
set_option maxRecDepth 100000 in
theorem mw_579 : (Jvm.Cond.selects "BlockCounter$Rewriting" ({ cls := "BlockCounter$Rewriting", name := "used", desc := "()I" } : Jvm.MethodName) ({ cls := "BlockCounter$Rewriting", name := "used", desc := "()I" } : Jvm.MethodName)) ∈ evW := evm 579 (by decide +kernel) rfl
set_option maxRecDepth 100000 in
theorem mw_580 : (Jvm.Cond.code ({ cls := "BlockCounter$Rewriting", name := "used", desc := "()I" } : Jvm.MethodName) prog_6_method_5_code (1 : Nat) (Option.some Jvm.ClassFile.FieldType.int)) ∈ evW := evm 580 rfl rfl
set_option maxRecDepth 100000 in
theorem mw_581 : (Jvm.Cond.methodLink "BlockCounterLaw" (94 : Nat) ({ cls := "BlockCounterLaw", name := "code", desc := "(LBlockCounter;IZ[J)I" } : Jvm.MethodName)) ∈ evW := evm 581 (by decide +kernel) rfl
set_option maxRecDepth 100000 in
theorem mw_582 : (Jvm.Cond.static ({ cls := "BlockCounterLaw", name := "code", desc := "(LBlockCounter;IZ[J)I" } : Jvm.MethodName)) ∈ evW := evm 582 (by decide +kernel) rfl
set_option maxRecDepth 100000 in
theorem mw_584 : (Jvm.Cond.methodLink "BlockCounterLaw" (38 : Nat) ({ cls := "BlockCounter", name := "code", desc := "(IZ)I" } : Jvm.MethodName)) ∈ evW := evm 584 (by decide +kernel) rfl
set_option maxRecDepth 100000 in
theorem mw_585 : (Jvm.Cond.instanceMethod ({ cls := "BlockCounter", name := "code", desc := "(IZ)I" } : Jvm.MethodName)) ∈ evW := evm 585 (by decide +kernel) rfl
set_option maxRecDepth 100000 in
theorem mw_586 : (Jvm.Cond.selects "BlockCounter" ({ cls := "BlockCounter", name := "code", desc := "(IZ)I" } : Jvm.MethodName) ({ cls := "BlockCounter", name := "code", desc := "(IZ)I" } : Jvm.MethodName)) ∈ evW := evm 586 (by decide +kernel) rfl
set_option maxRecDepth 100000 in
theorem mw_587 : (Jvm.Cond.code ({ cls := "BlockCounter", name := "code", desc := "(IZ)I" } : Jvm.MethodName) prog_1_method_9_code (3 : Nat) (Option.some Jvm.ClassFile.FieldType.int)) ∈ evW := evm 587 rfl rfl
set_option maxRecDepth 100000 in
theorem mw_589 : (Jvm.Cond.methodLink "BlockCounter" (131 : Nat) ({ cls := "BlockCounter$Rewriting", name := "exists", desc := "()Z" } : Jvm.MethodName)) ∈ evW := evm 589 (by decide +kernel) rfl
set_option maxRecDepth 100000 in
theorem mw_590 : (Jvm.Cond.instanceMethod ({ cls := "BlockCounter$Rewriting", name := "exists", desc := "()Z" } : Jvm.MethodName)) ∈ evW := evm 590 (by decide +kernel) rfl
set_option maxRecDepth 100000 in
theorem mw_591 : (Jvm.Cond.selects "BlockCounter$Rewriting" ({ cls := "BlockCounter$Rewriting", name := "exists", desc := "()Z" } : Jvm.MethodName) ({ cls := "BlockCounter$Rewriting", name := "exists", desc := "()Z" } : Jvm.MethodName)) ∈ evW := evm 591 (by decide +kernel) rfl
set_option maxRecDepth 100000 in
theorem mw_592 : (Jvm.Cond.code ({ cls := "BlockCounter$Rewriting", name := "exists", desc := "()Z" } : Jvm.MethodName) prog_6_method_3_code (1 : Nat) (Option.some Jvm.ClassFile.FieldType.boolean)) ∈ evW := evm 592 rfl rfl
set_option maxRecDepth 100000 in
theorem mw_594 : (Jvm.Cond.methodLink "BlockCounter" (134 : Nat) ({ cls := "BlockCounter$Rewriting", name := "result", desc := "()LBlockCounter$Program;" } : Jvm.MethodName)) ∈ evW := evm 594 (by decide +kernel) rfl
set_option maxRecDepth 100000 in
theorem mw_595 : (Jvm.Cond.instanceMethod ({ cls := "BlockCounter$Rewriting", name := "result", desc := "()LBlockCounter$Program;" } : Jvm.MethodName)) ∈ evW := evm 595 (by decide +kernel) rfl
set_option maxRecDepth 100000 in
theorem mw_596 : (Jvm.Cond.selects "BlockCounter$Rewriting" ({ cls := "BlockCounter$Rewriting", name := "result", desc := "()LBlockCounter$Program;" } : Jvm.MethodName) ({ cls := "BlockCounter$Rewriting", name := "result", desc := "()LBlockCounter$Program;" } : Jvm.MethodName)) ∈ evW := evm 596 (by decide +kernel) rfl
set_option maxRecDepth 100000 in
theorem mw_597 : (Jvm.Cond.code ({ cls := "BlockCounter$Rewriting", name := "result", desc := "()LBlockCounter$Program;" } : Jvm.MethodName) prog_6_method_4_code (1 : Nat) (Option.some (Jvm.ClassFile.FieldType.object "BlockCounter$Program"))) ∈ evW := evm 597 rfl rfl
set_option maxRecDepth 100000 in
theorem mw_598 : (Jvm.Cond.methodLink "BlockCounter" (138 : Nat) ({ cls := "BlockCounter$Program", name := "at", desc := "(I)I" } : Jvm.MethodName)) ∈ evW := evm 598 (by decide +kernel) rfl
set_option maxRecDepth 100000 in
theorem mw_599 : (Jvm.Cond.methodLink "BlockCounterLaw" (98 : Nat) ({ cls := "BlockCounterLaw", name := "run", desc := "(LBlockCounter;ZI[J)I" } : Jvm.MethodName)) ∈ evW := evm 599 (by decide +kernel) rfl
set_option maxRecDepth 100000 in
theorem mw_600 : (Jvm.Cond.static ({ cls := "BlockCounterLaw", name := "run", desc := "(LBlockCounter;ZI[J)I" } : Jvm.MethodName)) ∈ evW := evm 600 (by decide +kernel) rfl
set_option maxRecDepth 100000 in
theorem mw_602 : (Jvm.Cond.methodLink "BlockCounterLaw" (42 : Nat) ({ cls := "BlockCounter", name := "run", desc := "(ZI)I" } : Jvm.MethodName)) ∈ evW := evm 602 (by decide +kernel) rfl
set_option maxRecDepth 100000 in
theorem mw_603 : (Jvm.Cond.instanceMethod ({ cls := "BlockCounter", name := "run", desc := "(ZI)I" } : Jvm.MethodName)) ∈ evW := evm 603 (by decide +kernel) rfl
set_option maxRecDepth 100000 in
theorem mw_604 : (Jvm.Cond.selects "BlockCounter" ({ cls := "BlockCounter", name := "run", desc := "(ZI)I" } : Jvm.MethodName) ({ cls := "BlockCounter", name := "run", desc := "(ZI)I" } : Jvm.MethodName)) ∈ evW := evm 604 (by decide +kernel) rfl
set_option maxRecDepth 100000 in
theorem mw_605 : (Jvm.Cond.code ({ cls := "BlockCounter", name := "run", desc := "(ZI)I" } : Jvm.MethodName) prog_1_method_10_code (3 : Nat) (Option.some Jvm.ClassFile.FieldType.int)) ∈ evW := evm 605 rfl rfl
set_option maxRecDepth 100000 in
theorem mw_607 : (Jvm.Cond.methodLink "BlockCounter" (143 : Nat) ({ cls := "BlockCounter$Machine", name := "start", desc := "([I)V" } : Jvm.MethodName)) ∈ evW := evm 607 (by decide +kernel) rfl
set_option maxRecDepth 100000 in
theorem mw_608 : (Jvm.Cond.instanceMethod ({ cls := "BlockCounter$Machine", name := "start", desc := "([I)V" } : Jvm.MethodName)) ∈ evW := evm 608 (by decide +kernel) rfl
set_option maxRecDepth 100000 in
theorem mw_609 : (Jvm.Cond.selects "BlockCounter$Machine" ({ cls := "BlockCounter$Machine", name := "start", desc := "([I)V" } : Jvm.MethodName) ({ cls := "BlockCounter$Machine", name := "start", desc := "([I)V" } : Jvm.MethodName)) ∈ evW := evm 609 (by decide +kernel) rfl
set_option maxRecDepth 100000 in
theorem mw_610 : (Jvm.Cond.code ({ cls := "BlockCounter$Machine", name := "start", desc := "([I)V" } : Jvm.MethodName) prog_4_method_10_code (2 : Nat) (Option.none : Option Jvm.ClassFile.FieldType)) ∈ evW := evm 610 rfl rfl
set_option maxRecDepth 100000 in
theorem mw_611 : (Jvm.Cond.methodLink "BlockCounter$Machine" (48 : Nat) ({ cls := "java/util/Arrays", name := "fill", desc := "([II)V" } : Jvm.MethodName)) ∈ evW := evm 611 (by decide +kernel) rfl
set_option maxRecDepth 100000 in
theorem mw_612 : (Jvm.Cond.methodLink "BlockCounter$Machine" (54 : Nat) ({ cls := "java/util/Arrays", name := "fill", desc := "([JJ)V" } : Jvm.MethodName)) ∈ evW := evm 612 (by decide +kernel) rfl
set_option maxRecDepth 100000 in
theorem mw_613 : (Jvm.Cond.static ({ cls := "java/util/Arrays", name := "fill", desc := "([JJ)V" } : Jvm.MethodName)) ∈ evW := evm 613 (by decide +kernel) rfl
set_option maxRecDepth 100000 in
theorem mw_614 : (Jvm.Cond.code ({ cls := "java/util/Arrays", name := "fill", desc := "([JJ)V" } : Jvm.MethodName) prog_20_method_101_code (5 : Nat) (Option.none : Option Jvm.ClassFile.FieldType)) ∈ evW := evm 614 rfl rfl
set_option maxRecDepth 100000 in
theorem mw_615 : (Jvm.Cond.methodLink "BlockCounter$Machine" (57 : Nat) ({ cls := "java/lang/System", name := "arraycopy", desc := "(Ljava/lang/Object;ILjava/lang/Object;II)V" } : Jvm.MethodName)) ∈ evW := evm 615 (by decide +kernel) rfl
set_option maxRecDepth 100000 in
theorem mw_616 : (Jvm.Cond.methodLink "BlockCounter" (147 : Nat) ({ cls := "BlockCounter$Machine", name := "execute", desc := "(LBlockCounter$Program;I)I" } : Jvm.MethodName)) ∈ evW := evm 616 (by decide +kernel) rfl
set_option maxRecDepth 100000 in
theorem mw_617 : (Jvm.Cond.instanceMethod ({ cls := "BlockCounter$Machine", name := "execute", desc := "(LBlockCounter$Program;I)I" } : Jvm.MethodName)) ∈ evW := evm 617 (by decide +kernel) rfl
set_option maxRecDepth 100000 in
theorem mw_618 : (Jvm.Cond.selects "BlockCounter$Machine" ({ cls := "BlockCounter$Machine", name := "execute", desc := "(LBlockCounter$Program;I)I" } : Jvm.MethodName) ({ cls := "BlockCounter$Machine", name := "execute", desc := "(LBlockCounter$Program;I)I" } : Jvm.MethodName)) ∈ evW := evm 618 (by decide +kernel) rfl
set_option maxRecDepth 100000 in
theorem mw_619 : (Jvm.Cond.code ({ cls := "BlockCounter$Machine", name := "execute", desc := "(LBlockCounter$Program;I)I" } : Jvm.MethodName) prog_4_method_11_code (5 : Nat) (Option.some Jvm.ClassFile.FieldType.int)) ∈ evW := evm 619 rfl rfl
set_option maxRecDepth 100000 in
theorem mw_620 : (Jvm.Cond.methodLink "BlockCounter$Machine" (63 : Nat) ({ cls := "BlockCounter$Machine", name := "step", desc := "(LBlockCounter$Program;)I" } : Jvm.MethodName)) ∈ evW := evm 620 (by decide +kernel) rfl
set_option maxRecDepth 100000 in
theorem mw_622 : (Jvm.Cond.instanceMethod ({ cls := "BlockCounter$Machine", name := "step", desc := "(LBlockCounter$Program;)I" } : Jvm.MethodName)) ∈ evW := evm 622 (by decide +kernel) rfl
set_option maxRecDepth 100000 in
theorem mw_623 : (Jvm.Cond.code ({ cls := "BlockCounter$Machine", name := "step", desc := "(LBlockCounter$Program;)I" } : Jvm.MethodName) prog_4_method_13_code (3 : Nat) (Option.some Jvm.ClassFile.FieldType.int)) ∈ evW := evm 623 rfl rfl
set_option maxRecDepth 100000 in
theorem mw_624 : (Jvm.Cond.methodLink "BlockCounter$Machine" (77 : Nat) ({ cls := "BlockCounter$Instruction", name := "read", desc := "(LBlockCounter$Program;II)Z" } : Jvm.MethodName)) ∈ evW := evm 624 (by decide +kernel) rfl
set_option maxRecDepth 100000 in
theorem mw_625 : (Jvm.Cond.methodLink "BlockCounter$Machine" (84 : Nat) ({ cls := "BlockCounter$Machine", name := "perform", desc := "(LBlockCounter$Program;)I" } : Jvm.MethodName)) ∈ evW := evm 625 (by decide +kernel) rfl
set_option maxRecDepth 100000 in
theorem mw_627 : (Jvm.Cond.instanceMethod ({ cls := "BlockCounter$Machine", name := "perform", desc := "(LBlockCounter$Program;)I" } : Jvm.MethodName)) ∈ evW := evm 627 (by decide +kernel) rfl
set_option maxRecDepth 100000 in
theorem mw_628 : (Jvm.Cond.code ({ cls := "BlockCounter$Machine", name := "perform", desc := "(LBlockCounter$Program;)I" } : Jvm.MethodName) prog_4_method_14_code (3 : Nat) (Option.some Jvm.ClassFile.FieldType.int)) ∈ evW := evm 628 rfl rfl
set_option maxRecDepth 100000 in
theorem mw_629 : (Jvm.Cond.methodLink "BlockCounter$Machine" (87 : Nat) ({ cls := "BlockCounter$Instruction", name := "registerNumber", desc := "()I" } : Jvm.MethodName)) ∈ evW := evm 629 (by decide +kernel) rfl
set_option maxRecDepth 100000 in
theorem mw_630 : (Jvm.Cond.instanceMethod ({ cls := "BlockCounter$Instruction", name := "registerNumber", desc := "()I" } : Jvm.MethodName)) ∈ evW := evm 630 (by decide +kernel) rfl
set_option maxRecDepth 100000 in
theorem mw_631 : (Jvm.Cond.selects "BlockCounter$Instruction" ({ cls := "BlockCounter$Instruction", name := "registerNumber", desc := "()I" } : Jvm.MethodName) ({ cls := "BlockCounter$Instruction", name := "registerNumber", desc := "()I" } : Jvm.MethodName)) ∈ evW := evm 631 (by decide +kernel) rfl
set_option maxRecDepth 100000 in
theorem mw_632 : (Jvm.Cond.code ({ cls := "BlockCounter$Instruction", name := "registerNumber", desc := "()I" } : Jvm.MethodName) prog_3_method_7_code (1 : Nat) (Option.some Jvm.ClassFile.FieldType.int)) ∈ evW := evm 632 rfl rfl
set_option maxRecDepth 100000 in
theorem mw_633 : (Jvm.Cond.methodLink "BlockCounter$Machine" (91 : Nat) ({ cls := "BlockCounter$Machine", name := "trap", desc := "(LBlockCounter$Program;)I" } : Jvm.MethodName)) ∈ evW := evm 633 (by decide +kernel) rfl
set_option maxRecDepth 100000 in
theorem mw_635 : (Jvm.Cond.instanceMethod ({ cls := "BlockCounter$Machine", name := "trap", desc := "(LBlockCounter$Program;)I" } : Jvm.MethodName)) ∈ evW := evm 635 (by decide +kernel) rfl
set_option maxRecDepth 100000 in
theorem mw_636 : (Jvm.Cond.code ({ cls := "BlockCounter$Machine", name := "trap", desc := "(LBlockCounter$Program;)I" } : Jvm.MethodName) prog_4_method_17_code (3 : Nat) (Option.some Jvm.ClassFile.FieldType.int)) ∈ evW := evm 636 rfl rfl
set_option maxRecDepth 100000 in
theorem mw_637 : (Jvm.Cond.methodLink "BlockCounter$Machine" (126 : Nat) ({ cls := "BlockCounter$Program", name := "trapAt", desc := "(I)I" } : Jvm.MethodName)) ∈ evW := evm 637 (by decide +kernel) rfl
set_option maxRecDepth 100000 in
theorem mw_638 : (Jvm.Cond.instanceMethod ({ cls := "BlockCounter$Program", name := "trapAt", desc := "(I)I" } : Jvm.MethodName)) ∈ evW := evm 638 (by decide +kernel) rfl
set_option maxRecDepth 100000 in
theorem mw_639 : (Jvm.Cond.selects "BlockCounter$Program" ({ cls := "BlockCounter$Program", name := "trapAt", desc := "(I)I" } : Jvm.MethodName) ({ cls := "BlockCounter$Program", name := "trapAt", desc := "(I)I" } : Jvm.MethodName)) ∈ evW := evm 639 (by decide +kernel) rfl
set_option maxRecDepth 100000 in
theorem mw_640 : (Jvm.Cond.code ({ cls := "BlockCounter$Program", name := "trapAt", desc := "(I)I" } : Jvm.MethodName) prog_5_method_4_code (2 : Nat) (Option.some Jvm.ClassFile.FieldType.int)) ∈ evW := evm 640 rfl rfl
set_option maxRecDepth 100000 in
theorem mw_641 : (Jvm.Cond.methodLink "BlockCounter$Machine" (94 : Nat) ({ cls := "BlockCounter$Machine", name := "pop", desc := "()I" } : Jvm.MethodName)) ∈ evW := evm 641 (by decide +kernel) rfl
set_option maxRecDepth 100000 in
theorem mw_643 : (Jvm.Cond.instanceMethod ({ cls := "BlockCounter$Machine", name := "pop", desc := "()I" } : Jvm.MethodName)) ∈ evW := evm 643 (by decide +kernel) rfl
set_option maxRecDepth 100000 in
theorem mw_644 : (Jvm.Cond.code ({ cls := "BlockCounter$Machine", name := "pop", desc := "()I" } : Jvm.MethodName) prog_4_method_21_code (1 : Nat) (Option.some Jvm.ClassFile.FieldType.int)) ∈ evW := evm 644 rfl rfl
set_option maxRecDepth 100000 in
theorem mw_645 : (Jvm.Cond.methodLink "BlockCounter$Machine" (97 : Nat) ({ cls := "BlockCounter$Machine", name := "branch", desc := "()I" } : Jvm.MethodName)) ∈ evW := evm 645 (by decide +kernel) rfl
set_option maxRecDepth 100000 in
theorem mw_647 : (Jvm.Cond.instanceMethod ({ cls := "BlockCounter$Machine", name := "branch", desc := "()I" } : Jvm.MethodName)) ∈ evW := evm 647 (by decide +kernel) rfl
set_option maxRecDepth 100000 in
theorem mw_648 : (Jvm.Cond.code ({ cls := "BlockCounter$Machine", name := "branch", desc := "()I" } : Jvm.MethodName) prog_4_method_18_code (2 : Nat) (Option.some Jvm.ClassFile.FieldType.int)) ∈ evW := evm 648 rfl rfl
set_option maxRecDepth 100000 in
theorem mw_649 : (Jvm.Cond.methodLink "BlockCounter$Machine" (131 : Nat) ({ cls := "BlockCounter$Instruction", name := "branchTarget", desc := "()I" } : Jvm.MethodName)) ∈ evW := evm 649 (by decide +kernel) rfl
set_option maxRecDepth 100000 in
theorem mw_650 : (Jvm.Cond.methodLink "BlockCounter$Machine" (100 : Nat) ({ cls := "BlockCounter$Instruction", name := "behind", desc := "()I" } : Jvm.MethodName)) ∈ evW := evm 650 (by decide +kernel) rfl
set_option maxRecDepth 100000 in
theorem mw_651 : (Jvm.Cond.methodLink "BlockCounter$Machine" (106 : Nat) ({ cls := "BlockCounter$Machine", name := "push", desc := "(I)Z" } : Jvm.MethodName)) ∈ evW := evm 651 (by decide +kernel) rfl
set_option maxRecDepth 100000 in
theorem mw_653 : (Jvm.Cond.instanceMethod ({ cls := "BlockCounter$Machine", name := "push", desc := "(I)Z" } : Jvm.MethodName)) ∈ evW := evm 653 (by decide +kernel) rfl
set_option maxRecDepth 100000 in
theorem mw_654 : (Jvm.Cond.code ({ cls := "BlockCounter$Machine", name := "push", desc := "(I)Z" } : Jvm.MethodName) prog_4_method_20_code (2 : Nat) (Option.some Jvm.ClassFile.FieldType.boolean)) ∈ evW := evm 654 rfl rfl
set_option maxRecDepth 100000 in
theorem mw_655 : (Jvm.Cond.methodLink "BlockCounter$Machine" (113 : Nat) ({ cls := "BlockCounter$Machine", name := "lookUp", desc := "(LBlockCounter$Program;I)I" } : Jvm.MethodName)) ∈ evW := evm 655 (by decide +kernel) rfl
set_option maxRecDepth 100000 in
theorem mw_657 : (Jvm.Cond.instanceMethod ({ cls := "BlockCounter$Machine", name := "lookUp", desc := "(LBlockCounter$Program;I)I" } : Jvm.MethodName)) ∈ evW := evm 657 (by decide +kernel) rfl
set_option maxRecDepth 100000 in
theorem mw_658 : (Jvm.Cond.code ({ cls := "BlockCounter$Machine", name := "lookUp", desc := "(LBlockCounter$Program;I)I" } : Jvm.MethodName) prog_4_method_19_code (4 : Nat) (Option.some Jvm.ClassFile.FieldType.int)) ∈ evW := evm 658 rfl rfl
set_option maxRecDepth 100000 in
theorem mw_659 : (Jvm.Cond.methodLink "BlockCounter$Machine" (134 : Nat) ({ cls := "java/lang/Math", name := "floorMod", desc := "(II)I" } : Jvm.MethodName)) ∈ evW := evm 659 (by decide +kernel) rfl
set_option maxRecDepth 100000 in
theorem mw_660 : (Jvm.Cond.static ({ cls := "java/lang/Math", name := "floorMod", desc := "(II)I" } : Jvm.MethodName)) ∈ evW := evm 660 (by decide +kernel) rfl
set_option maxRecDepth 100000 in
theorem mw_661 : (Jvm.Cond.code ({ cls := "java/lang/Math", name := "floorMod", desc := "(II)I" } : Jvm.MethodName) prog_14_method_50_code (3 : Nat) (Option.some Jvm.ClassFile.FieldType.int)) ∈ evW := evm 661 rfl rfl
set_option maxRecDepth 100000 in
theorem mw_662 : (Jvm.Cond.methodLink "BlockCounter$Machine" (140 : Nat) ({ cls := "BlockCounter$Program", name := "at", desc := "(I)I" } : Jvm.MethodName)) ∈ evW := evm 662 (by decide +kernel) rfl
set_option maxRecDepth 100000 in
theorem mw_663 : (Jvm.Cond.methodLink "BlockCounter$Machine" (117 : Nat) ({ cls := "BlockCounter$Machine", name := "print", desc := "(I)Z" } : Jvm.MethodName)) ∈ evW := evm 663 (by decide +kernel) rfl
set_option maxRecDepth 100000 in
theorem mw_665 : (Jvm.Cond.instanceMethod ({ cls := "BlockCounter$Machine", name := "print", desc := "(I)Z" } : Jvm.MethodName)) ∈ evW := evm 665 (by decide +kernel) rfl
set_option maxRecDepth 100000 in
theorem mw_666 : (Jvm.Cond.code ({ cls := "BlockCounter$Machine", name := "print", desc := "(I)Z" } : Jvm.MethodName) prog_4_method_22_code (2 : Nat) (Option.some Jvm.ClassFile.FieldType.boolean)) ∈ evW := evm 666 rfl rfl
set_option maxRecDepth 100000 in
theorem mw_667 : (Jvm.Cond.methodLink "BlockCounter$Machine" (120 : Nat) ({ cls := "BlockCounter$Machine", name := "calculate", desc := "()V" } : Jvm.MethodName)) ∈ evW := evm 667 (by decide +kernel) rfl
set_option maxRecDepth 100000 in
theorem mw_669 : (Jvm.Cond.instanceMethod ({ cls := "BlockCounter$Machine", name := "calculate", desc := "()V" } : Jvm.MethodName)) ∈ evW := evm 669 (by decide +kernel) rfl
set_option maxRecDepth 100000 in
theorem mw_670 : (Jvm.Cond.code ({ cls := "BlockCounter$Machine", name := "calculate", desc := "()V" } : Jvm.MethodName) prog_4_method_15_code (2 : Nat) (Option.none : Option Jvm.ClassFile.FieldType)) ∈ evW := evm 670 rfl rfl
set_option maxRecDepth 100000 in
theorem mw_671 : (Jvm.Cond.methodLink "BlockCounter$Machine" (123 : Nat) ({ cls := "BlockCounter$Instruction", name := "otherRegister", desc := "()I" } : Jvm.MethodName)) ∈ evW := evm 671 (by decide +kernel) rfl
set_option maxRecDepth 100000 in
theorem mw_672 : (Jvm.Cond.instanceMethod ({ cls := "BlockCounter$Instruction", name := "otherRegister", desc := "()I" } : Jvm.MethodName)) ∈ evW := evm 672 (by decide +kernel) rfl
set_option maxRecDepth 100000 in
theorem mw_673 : (Jvm.Cond.selects "BlockCounter$Instruction" ({ cls := "BlockCounter$Instruction", name := "otherRegister", desc := "()I" } : Jvm.MethodName) ({ cls := "BlockCounter$Instruction", name := "otherRegister", desc := "()I" } : Jvm.MethodName)) ∈ evW := evm 673 (by decide +kernel) rfl
set_option maxRecDepth 100000 in
theorem mw_674 : (Jvm.Cond.code ({ cls := "BlockCounter$Instruction", name := "otherRegister", desc := "()I" } : Jvm.MethodName) prog_3_method_8_code (1 : Nat) (Option.some Jvm.ClassFile.FieldType.int)) ∈ evW := evm 674 rfl rfl
set_option maxRecDepth 100000 in
theorem mw_675 : (Jvm.Cond.methodLink "BlockCounter$Machine" (73 : Nat) ({ cls := "BlockCounter$Machine", name := "grow", desc := "(I)V" } : Jvm.MethodName)) ∈ evW := evm 675 (by decide +kernel) rfl
set_option maxRecDepth 100000 in
theorem mw_677 : (Jvm.Cond.instanceMethod ({ cls := "BlockCounter$Machine", name := "grow", desc := "(I)V" } : Jvm.MethodName)) ∈ evW := evm 677 (by decide +kernel) rfl
set_option maxRecDepth 100000 in
theorem mw_678 : (Jvm.Cond.code ({ cls := "BlockCounter$Machine", name := "grow", desc := "(I)V" } : Jvm.MethodName) prog_4_method_16_code (2 : Nat) (Option.none : Option Jvm.ClassFile.FieldType)) ∈ evW := evm 678 rfl rfl
set_option maxRecDepth 100000 in
theorem mw_679 : (Jvm.Cond.methodLink "BlockCounter" (151 : Nat) ({ cls := "BlockCounter$Machine", name := "executeWatched", desc := "(LBlockCounter$Program;ILBlockCounter$Analysis;)I" } : Jvm.MethodName)) ∈ evW := evm 679 (by decide +kernel) rfl
set_option maxRecDepth 100000 in
theorem mw_680 : (Jvm.Cond.instanceMethod ({ cls := "BlockCounter$Machine", name := "executeWatched", desc := "(LBlockCounter$Program;ILBlockCounter$Analysis;)I" } : Jvm.MethodName)) ∈ evW := evm 680 (by decide +kernel) rfl
set_option maxRecDepth 100000 in
theorem mw_681 : (Jvm.Cond.selects "BlockCounter$Machine" ({ cls := "BlockCounter$Machine", name := "executeWatched", desc := "(LBlockCounter$Program;ILBlockCounter$Analysis;)I" } : Jvm.MethodName) ({ cls := "BlockCounter$Machine", name := "executeWatched", desc := "(LBlockCounter$Program;ILBlockCounter$Analysis;)I" } : Jvm.MethodName)) ∈ evW := evm 681 (by decide +kernel) rfl
set_option maxRecDepth 100000 in
theorem mw_682 : (Jvm.Cond.code ({ cls := "BlockCounter$Machine", name := "executeWatched", desc := "(LBlockCounter$Program;ILBlockCounter$Analysis;)I" } : Jvm.MethodName) prog_4_method_12_code (7 : Nat) (Option.some Jvm.ClassFile.FieldType.int)) ∈ evW := evm 682 rfl rfl
set_option maxRecDepth 100000 in
theorem mw_683 : (Jvm.Cond.methodLink "BlockCounter$Machine" (67 : Nat) ({ cls := "BlockCounter$Analysis", name := "numberOfHead", desc := "(I)I" } : Jvm.MethodName)) ∈ evW := evm 683 (by decide +kernel) rfl
set_option maxRecDepth 100000 in
theorem mw_684 : (Jvm.Cond.instanceMethod ({ cls := "BlockCounter$Analysis", name := "numberOfHead", desc := "(I)I" } : Jvm.MethodName)) ∈ evW := evm 684 (by decide +kernel) rfl
set_option maxRecDepth 100000 in
theorem mw_685 : (Jvm.Cond.selects "BlockCounter$Analysis" ({ cls := "BlockCounter$Analysis", name := "numberOfHead", desc := "(I)I" } : Jvm.MethodName) ({ cls := "BlockCounter$Analysis", name := "numberOfHead", desc := "(I)I" } : Jvm.MethodName)) ∈ evW := evm 685 (by decide +kernel) rfl
set_option maxRecDepth 100000 in
theorem mw_686 : (Jvm.Cond.code ({ cls := "BlockCounter$Analysis", name := "numberOfHead", desc := "(I)I" } : Jvm.MethodName) prog_2_method_9_code (3 : Nat) (Option.some Jvm.ClassFile.FieldType.int)) ∈ evW := evm 686 rfl rfl
set_option maxRecDepth 100000 in
theorem mw_687 : (Jvm.Cond.methodLink "BlockCounter$Analysis" (52 : Nat) ({ cls := "BlockCounter$Analysis", name := "numberAt", desc := "(I)I" } : Jvm.MethodName)) ∈ evW := evm 687 (by decide +kernel) rfl
set_option maxRecDepth 100000 in
theorem mw_688 : (Jvm.Cond.methodLink "BlockCounter$Analysis" (56 : Nat) ({ cls := "BlockCounter$Analysis", name := "headOf", desc := "(I)I" } : Jvm.MethodName)) ∈ evW := evm 688 (by decide +kernel) rfl
set_option maxRecDepth 100000 in
theorem mw_689 : (Jvm.Cond.methodLink "BlockCounterLaw" (106 : Nat) ({ cls := "BlockCounterLaw", name := "register", desc := "(LBlockCounter;I[J)I" } : Jvm.MethodName)) ∈ evW := evm 689 (by decide +kernel) rfl
set_option maxRecDepth 100000 in
theorem mw_690 : (Jvm.Cond.static ({ cls := "BlockCounterLaw", name := "register", desc := "(LBlockCounter;I[J)I" } : Jvm.MethodName)) ∈ evW := evm 690 (by decide +kernel) rfl
set_option maxRecDepth 100000 in
theorem mw_692 : (Jvm.Cond.methodLink "BlockCounterLaw" (46 : Nat) ({ cls := "BlockCounter", name := "register", desc := "(I)I" } : Jvm.MethodName)) ∈ evW := evm 692 (by decide +kernel) rfl
set_option maxRecDepth 100000 in
theorem mw_693 : (Jvm.Cond.instanceMethod ({ cls := "BlockCounter", name := "register", desc := "(I)I" } : Jvm.MethodName)) ∈ evW := evm 693 (by decide +kernel) rfl
set_option maxRecDepth 100000 in
theorem mw_694 : (Jvm.Cond.selects "BlockCounter" ({ cls := "BlockCounter", name := "register", desc := "(I)I" } : Jvm.MethodName) ({ cls := "BlockCounter", name := "register", desc := "(I)I" } : Jvm.MethodName)) ∈ evW := evm 694 (by decide +kernel) rfl
set_option maxRecDepth 100000 in
theorem mw_695 : (Jvm.Cond.code ({ cls := "BlockCounter", name := "register", desc := "(I)I" } : Jvm.MethodName) prog_1_method_12_code (2 : Nat) (Option.some Jvm.ClassFile.FieldType.int)) ∈ evW := evm 695 rfl rfl
set_option maxRecDepth 100000 in
theorem mw_696 : (Jvm.Cond.methodLink "BlockCounter" (158 : Nat) ({ cls := "BlockCounter$Machine", name := "registerValue", desc := "(I)I" } : Jvm.MethodName)) ∈ evW := evm 696 (by decide +kernel) rfl
set_option maxRecDepth 100000 in
theorem mw_697 : (Jvm.Cond.instanceMethod ({ cls := "BlockCounter$Machine", name := "registerValue", desc := "(I)I" } : Jvm.MethodName)) ∈ evW := evm 697 (by decide +kernel) rfl
set_option maxRecDepth 100000 in
theorem mw_698 : (Jvm.Cond.selects "BlockCounter$Machine" ({ cls := "BlockCounter$Machine", name := "registerValue", desc := "(I)I" } : Jvm.MethodName) ({ cls := "BlockCounter$Machine", name := "registerValue", desc := "(I)I" } : Jvm.MethodName)) ∈ evW := evm 698 (by decide +kernel) rfl
set_option maxRecDepth 100000 in
theorem mw_699 : (Jvm.Cond.code ({ cls := "BlockCounter$Machine", name := "registerValue", desc := "(I)I" } : Jvm.MethodName) prog_4_method_2_code (2 : Nat) (Option.some Jvm.ClassFile.FieldType.int)) ∈ evW := evm 699 rfl rfl
set_option maxRecDepth 100000 in
theorem mw_700 : (Jvm.Cond.methodLink "BlockCounter" (161 : Nat) ({ cls := "BlockCounter$Machine", name := "position", desc := "()I" } : Jvm.MethodName)) ∈ evW := evm 700 (by decide +kernel) rfl
set_option maxRecDepth 100000 in
theorem mw_701 : (Jvm.Cond.instanceMethod ({ cls := "BlockCounter$Machine", name := "position", desc := "()I" } : Jvm.MethodName)) ∈ evW := evm 701 (by decide +kernel) rfl
set_option maxRecDepth 100000 in
theorem mw_702 : (Jvm.Cond.selects "BlockCounter$Machine" ({ cls := "BlockCounter$Machine", name := "position", desc := "()I" } : Jvm.MethodName) ({ cls := "BlockCounter$Machine", name := "position", desc := "()I" } : Jvm.MethodName)) ∈ evW := evm 702 (by decide +kernel) rfl
set_option maxRecDepth 100000 in
theorem mw_703 : (Jvm.Cond.code ({ cls := "BlockCounter$Machine", name := "position", desc := "()I" } : Jvm.MethodName) prog_4_method_8_code (1 : Nat) (Option.some Jvm.ClassFile.FieldType.int)) ∈ evW := evm 703 rfl rfl
set_option maxRecDepth 100000 in
theorem mw_704 : (Jvm.Cond.methodLink "BlockCounter" (164 : Nat) ({ cls := "BlockCounter$Machine", name := "pushed", desc := "()I" } : Jvm.MethodName)) ∈ evW := evm 704 (by decide +kernel) rfl
set_option maxRecDepth 100000 in
theorem mw_705 : (Jvm.Cond.instanceMethod ({ cls := "BlockCounter$Machine", name := "pushed", desc := "()I" } : Jvm.MethodName)) ∈ evW := evm 705 (by decide +kernel) rfl
set_option maxRecDepth 100000 in
theorem mw_706 : (Jvm.Cond.selects "BlockCounter$Machine" ({ cls := "BlockCounter$Machine", name := "pushed", desc := "()I" } : Jvm.MethodName) ({ cls := "BlockCounter$Machine", name := "pushed", desc := "()I" } : Jvm.MethodName)) ∈ evW := evm 706 (by decide +kernel) rfl
set_option maxRecDepth 100000 in
theorem mw_707 : (Jvm.Cond.code ({ cls := "BlockCounter$Machine", name := "pushed", desc := "()I" } : Jvm.MethodName) prog_4_method_7_code (1 : Nat) (Option.some Jvm.ClassFile.FieldType.int)) ∈ evW := evm 707 rfl rfl
set_option maxRecDepth 100000 in
theorem mw_708 : (Jvm.Cond.methodLink "BlockCounter" (167 : Nat) ({ cls := "BlockCounter$Machine", name := "printed", desc := "()I" } : Jvm.MethodName)) ∈ evW := evm 708 (by decide +kernel) rfl
set_option maxRecDepth 100000 in
theorem mw_709 : (Jvm.Cond.instanceMethod ({ cls := "BlockCounter$Machine", name := "printed", desc := "()I" } : Jvm.MethodName)) ∈ evW := evm 709 (by decide +kernel) rfl
set_option maxRecDepth 100000 in
theorem mw_710 : (Jvm.Cond.selects "BlockCounter$Machine" ({ cls := "BlockCounter$Machine", name := "printed", desc := "()I" } : Jvm.MethodName) ({ cls := "BlockCounter$Machine", name := "printed", desc := "()I" } : Jvm.MethodName)) ∈ evW := evm 710 (by decide +kernel) rfl
set_option maxRecDepth 100000 in
theorem mw_711 : (Jvm.Cond.code ({ cls := "BlockCounter$Machine", name := "printed", desc := "()I" } : Jvm.MethodName) prog_4_method_6_code (1 : Nat) (Option.some Jvm.ClassFile.FieldType.int)) ∈ evW := evm 711 rfl rfl
set_option maxRecDepth 100000 in
theorem mw_713 : (Jvm.Cond.methodLink "BlockCounterLaw" (110 : Nat) ({ cls := "BlockCounterLaw", name := "cell", desc := "(LBlockCounter;I[J)I" } : Jvm.MethodName)) ∈ evW := evm 713 (by decide +kernel) rfl
set_option maxRecDepth 100000 in
theorem mw_714 : (Jvm.Cond.static ({ cls := "BlockCounterLaw", name := "cell", desc := "(LBlockCounter;I[J)I" } : Jvm.MethodName)) ∈ evW := evm 714 (by decide +kernel) rfl
set_option maxRecDepth 100000 in
theorem mw_716 : (Jvm.Cond.methodLink "BlockCounterLaw" (50 : Nat) ({ cls := "BlockCounter", name := "cell", desc := "(I)I" } : Jvm.MethodName)) ∈ evW := evm 716 (by decide +kernel) rfl
set_option maxRecDepth 100000 in
theorem mw_717 : (Jvm.Cond.instanceMethod ({ cls := "BlockCounter", name := "cell", desc := "(I)I" } : Jvm.MethodName)) ∈ evW := evm 717 (by decide +kernel) rfl
set_option maxRecDepth 100000 in
theorem mw_718 : (Jvm.Cond.selects "BlockCounter" ({ cls := "BlockCounter", name := "cell", desc := "(I)I" } : Jvm.MethodName) ({ cls := "BlockCounter", name := "cell", desc := "(I)I" } : Jvm.MethodName)) ∈ evW := evm 718 (by decide +kernel) rfl
set_option maxRecDepth 100000 in
theorem mw_719 : (Jvm.Cond.code ({ cls := "BlockCounter", name := "cell", desc := "(I)I" } : Jvm.MethodName) prog_1_method_13_code (2 : Nat) (Option.some Jvm.ClassFile.FieldType.int)) ∈ evW := evm 719 rfl rfl
set_option maxRecDepth 100000 in
theorem mw_720 : (Jvm.Cond.methodLink "BlockCounter" (172 : Nat) ({ cls := "BlockCounter$Machine", name := "cellValue", desc := "(I)I" } : Jvm.MethodName)) ∈ evW := evm 720 (by decide +kernel) rfl
set_option maxRecDepth 100000 in
theorem mw_721 : (Jvm.Cond.instanceMethod ({ cls := "BlockCounter$Machine", name := "cellValue", desc := "(I)I" } : Jvm.MethodName)) ∈ evW := evm 721 (by decide +kernel) rfl
set_option maxRecDepth 100000 in
theorem mw_722 : (Jvm.Cond.selects "BlockCounter$Machine" ({ cls := "BlockCounter$Machine", name := "cellValue", desc := "(I)I" } : Jvm.MethodName) ({ cls := "BlockCounter$Machine", name := "cellValue", desc := "(I)I" } : Jvm.MethodName)) ∈ evW := evm 722 (by decide +kernel) rfl
set_option maxRecDepth 100000 in
theorem mw_723 : (Jvm.Cond.code ({ cls := "BlockCounter$Machine", name := "cellValue", desc := "(I)I" } : Jvm.MethodName) prog_4_method_3_code (2 : Nat) (Option.some Jvm.ClassFile.FieldType.int)) ∈ evW := evm 723 rfl rfl
set_option maxRecDepth 100000 in
theorem mw_724 : (Jvm.Cond.methodLink "BlockCounterLaw" (113 : Nat) ({ cls := "BlockCounterLaw", name := "output", desc := "(LBlockCounter;I[J)I" } : Jvm.MethodName)) ∈ evW := evm 724 (by decide +kernel) rfl
set_option maxRecDepth 100000 in
theorem mw_725 : (Jvm.Cond.static ({ cls := "BlockCounterLaw", name := "output", desc := "(LBlockCounter;I[J)I" } : Jvm.MethodName)) ∈ evW := evm 725 (by decide +kernel) rfl
set_option maxRecDepth 100000 in
theorem mw_727 : (Jvm.Cond.methodLink "BlockCounterLaw" (53 : Nat) ({ cls := "BlockCounter", name := "output", desc := "(I)I" } : Jvm.MethodName)) ∈ evW := evm 727 (by decide +kernel) rfl
set_option maxRecDepth 100000 in
theorem mw_728 : (Jvm.Cond.instanceMethod ({ cls := "BlockCounter", name := "output", desc := "(I)I" } : Jvm.MethodName)) ∈ evW := evm 728 (by decide +kernel) rfl
set_option maxRecDepth 100000 in
theorem mw_729 : (Jvm.Cond.selects "BlockCounter" ({ cls := "BlockCounter", name := "output", desc := "(I)I" } : Jvm.MethodName) ({ cls := "BlockCounter", name := "output", desc := "(I)I" } : Jvm.MethodName)) ∈ evW := evm 729 (by decide +kernel) rfl
set_option maxRecDepth 100000 in
theorem mw_730 : (Jvm.Cond.code ({ cls := "BlockCounter", name := "output", desc := "(I)I" } : Jvm.MethodName) prog_1_method_14_code (2 : Nat) (Option.some Jvm.ClassFile.FieldType.int)) ∈ evW := evm 730 rfl rfl
set_option maxRecDepth 100000 in
theorem mw_732 : (Jvm.Cond.methodLink "BlockCounter" (177 : Nat) ({ cls := "BlockCounter$Machine", name := "printedValue", desc := "(I)I" } : Jvm.MethodName)) ∈ evW := evm 732 (by decide +kernel) rfl
set_option maxRecDepth 100000 in
theorem mw_733 : (Jvm.Cond.instanceMethod ({ cls := "BlockCounter$Machine", name := "printedValue", desc := "(I)I" } : Jvm.MethodName)) ∈ evW := evm 733 (by decide +kernel) rfl
set_option maxRecDepth 100000 in
theorem mw_734 : (Jvm.Cond.selects "BlockCounter$Machine" ({ cls := "BlockCounter$Machine", name := "printedValue", desc := "(I)I" } : Jvm.MethodName) ({ cls := "BlockCounter$Machine", name := "printedValue", desc := "(I)I" } : Jvm.MethodName)) ∈ evW := evm 734 (by decide +kernel) rfl
set_option maxRecDepth 100000 in
theorem mw_735 : (Jvm.Cond.code ({ cls := "BlockCounter$Machine", name := "printedValue", desc := "(I)I" } : Jvm.MethodName) prog_4_method_5_code (2 : Nat) (Option.some Jvm.ClassFile.FieldType.int)) ∈ evW := evm 735 rfl rfl
set_option maxRecDepth 100000 in
theorem mw_736 : (Jvm.Cond.methodLink "BlockCounterLaw" (116 : Nat) ({ cls := "BlockCounterLaw", name := "counter", desc := "(LBlockCounter;I[J)I" } : Jvm.MethodName)) ∈ evW := evm 736 (by decide +kernel) rfl
set_option maxRecDepth 100000 in
theorem mw_737 : (Jvm.Cond.static ({ cls := "BlockCounterLaw", name := "counter", desc := "(LBlockCounter;I[J)I" } : Jvm.MethodName)) ∈ evW := evm 737 (by decide +kernel) rfl
set_option maxRecDepth 100000 in
theorem mw_739 : (Jvm.Cond.methodLink "BlockCounterLaw" (56 : Nat) ({ cls := "BlockCounter", name := "counter", desc := "(I)J" } : Jvm.MethodName)) ∈ evW := evm 739 (by decide +kernel) rfl
set_option maxRecDepth 100000 in
theorem mw_740 : (Jvm.Cond.instanceMethod ({ cls := "BlockCounter", name := "counter", desc := "(I)J" } : Jvm.MethodName)) ∈ evW := evm 740 (by decide +kernel) rfl
set_option maxRecDepth 100000 in
theorem mw_741 : (Jvm.Cond.selects "BlockCounter" ({ cls := "BlockCounter", name := "counter", desc := "(I)J" } : Jvm.MethodName) ({ cls := "BlockCounter", name := "counter", desc := "(I)J" } : Jvm.MethodName)) ∈ evW := evm 741 (by decide +kernel) rfl
set_option maxRecDepth 100000 in
theorem mw_742 : (Jvm.Cond.code ({ cls := "BlockCounter", name := "counter", desc := "(I)J" } : Jvm.MethodName) prog_1_method_15_code (2 : Nat) (Option.some Jvm.ClassFile.FieldType.long)) ∈ evW := evm 742 rfl rfl
set_option maxRecDepth 100000 in
theorem mw_744 : (Jvm.Cond.methodLink "BlockCounter" (182 : Nat) ({ cls := "BlockCounter$Machine", name := "count", desc := "(I)J" } : Jvm.MethodName)) ∈ evW := evm 744 (by decide +kernel) rfl
set_option maxRecDepth 100000 in
theorem mw_745 : (Jvm.Cond.instanceMethod ({ cls := "BlockCounter$Machine", name := "count", desc := "(I)J" } : Jvm.MethodName)) ∈ evW := evm 745 (by decide +kernel) rfl
set_option maxRecDepth 100000 in
theorem mw_746 : (Jvm.Cond.selects "BlockCounter$Machine" ({ cls := "BlockCounter$Machine", name := "count", desc := "(I)J" } : Jvm.MethodName) ({ cls := "BlockCounter$Machine", name := "count", desc := "(I)J" } : Jvm.MethodName)) ∈ evW := evm 746 (by decide +kernel) rfl
set_option maxRecDepth 100000 in
theorem mw_747 : (Jvm.Cond.code ({ cls := "BlockCounter$Machine", name := "count", desc := "(I)J" } : Jvm.MethodName) prog_4_method_4_code (2 : Nat) (Option.some Jvm.ClassFile.FieldType.long)) ∈ evW := evm 747 rfl rfl
set_option maxRecDepth 100000 in
theorem mw_750 : (Jvm.Cond.methodLink "BlockCounterLaw" (63 : Nat) ({ cls := "BlockCounterModel", name := "<init>", desc := "()V" } : Jvm.MethodName)) ∈ evW := evm 750 (by decide +kernel) rfl
set_option maxRecDepth 100000 in
theorem mw_751 : (Jvm.Cond.instanceMethod ({ cls := "BlockCounterModel", name := "<init>", desc := "()V" } : Jvm.MethodName)) ∈ evW := evm 751 (by decide +kernel) rfl
set_option maxRecDepth 100000 in
theorem mw_752 : (Jvm.Cond.code ({ cls := "BlockCounterModel", name := "<init>", desc := "()V" } : Jvm.MethodName) prog_9_method_1_code (1 : Nat) (Option.none : Option Jvm.ClassFile.FieldType)) ∈ evW := evm 752 rfl rfl
set_option maxRecDepth 100000 in
theorem mw_753 : (Jvm.Cond.methodLink "BlockCounterModel" (1 : Nat) ({ cls := "java/lang/Object", name := "<init>", desc := "()V" } : Jvm.MethodName)) ∈ evW := evm 753 (by decide +kernel) rfl
set_option maxRecDepth 100000 in
theorem mw_754 : (Jvm.Cond.fieldLink "BlockCounterModel" (63 : Nat) "BlockCounterModel" "code" "I") ∈ evW := evm 754 (by decide +kernel) rfl
set_option maxRecDepth 100000 in
theorem mw_755 : (Jvm.Cond.fieldLink "BlockCounterModel" (7 : Nat) "BlockCounterModel" "memory" "[I") ∈ evW := evm 755 (by decide +kernel) rfl
set_option maxRecDepth 100000 in
theorem mw_756 : (Jvm.Cond.fieldLink "BlockCounterModel" (13 : Nat) "BlockCounterModel" "traps" "[I") ∈ evW := evm 756 (by decide +kernel) rfl
set_option maxRecDepth 100000 in
theorem mw_757 : (Jvm.Cond.fieldLink "BlockCounterModel" (81 : Nat) "BlockCounterModel" "tables" "I") ∈ evW := evm 757 (by decide +kernel) rfl
set_option maxRecDepth 100000 in
theorem mw_758 : (Jvm.Cond.fieldLink "BlockCounterModel" (16 : Nat) "BlockCounterModel" "tableBase" "[I") ∈ evW := evm 758 (by decide +kernel) rfl
set_option maxRecDepth 100000 in
theorem mw_759 : (Jvm.Cond.fieldLink "BlockCounterModel" (19 : Nat) "BlockCounterModel" "tableCount" "[I") ∈ evW := evm 759 (by decide +kernel) rfl
set_option maxRecDepth 100000 in
theorem mw_760 : (Jvm.Cond.fieldLink "BlockCounterModel" (22 : Nat) "BlockCounterModel" "data" "[I") ∈ evW := evm 760 (by decide +kernel) rfl
set_option maxRecDepth 100000 in
theorem mw_761 : (Jvm.Cond.fieldLink "BlockCounterModel" (67 : Nat) "BlockCounterModel" "analysed" "Z") ∈ evW := evm 761 (by decide +kernel) rfl
set_option maxRecDepth 100000 in
theorem mw_762 : (Jvm.Cond.fieldLink "BlockCounterModel" (71 : Nat) "BlockCounterModel" "rewritten" "Z") ∈ evW := evm 762 (by decide +kernel) rfl
set_option maxRecDepth 100000 in
theorem mw_763 : (Jvm.Cond.fieldLink "BlockCounterModel" (25 : Nat) "BlockCounterModel" "begins" "[Z") ∈ evW := evm 763 (by decide +kernel) rfl
set_option maxRecDepth 100000 in
theorem mw_764 : (Jvm.Cond.fieldLink "BlockCounterModel" (29 : Nat) "BlockCounterModel" "heads" "[Z") ∈ evW := evm 764 (by decide +kernel) rfl
set_option maxRecDepth 100000 in
theorem mw_765 : (Jvm.Cond.fieldLink "BlockCounterModel" (32 : Nat) "BlockCounterModel" "used" "[Z") ∈ evW := evm 765 (by decide +kernel) rfl
set_option maxRecDepth 100000 in
theorem mw_766 : (Jvm.Cond.fieldLink "BlockCounterModel" (35 : Nat) "BlockCounterModel" "tabled" "[Z") ∈ evW := evm 766 (by decide +kernel) rfl
set_option maxRecDepth 100000 in
theorem mw_767 : (Jvm.Cond.fieldLink "BlockCounterModel" (91 : Nat) "BlockCounterModel" "refused" "Z") ∈ evW := evm 767 (by decide +kernel) rfl
set_option maxRecDepth 100000 in
theorem mw_768 : (Jvm.Cond.fieldLink "BlockCounterModel" (94 : Nat) "BlockCounterModel" "more" "Z") ∈ evW := evm 768 (by decide +kernel) rfl
set_option maxRecDepth 100000 in
theorem mw_769 : (Jvm.Cond.fieldLink "BlockCounterModel" (121 : Nat) "BlockCounterModel" "blocks" "I") ∈ evW := evm 769 (by decide +kernel) rfl
set_option maxRecDepth 100000 in
theorem mw_770 : (Jvm.Cond.fieldLink "BlockCounterModel" (38 : Nat) "BlockCounterModel" "head" "[I") ∈ evW := evm 770 (by decide +kernel) rfl
set_option maxRecDepth 100000 in
theorem mw_771 : (Jvm.Cond.fieldLink "BlockCounterModel" (41 : Nat) "BlockCounterModel" "bytes" "[I") ∈ evW := evm 771 (by decide +kernel) rfl
set_option maxRecDepth 100000 in
theorem mw_772 : (Jvm.Cond.fieldLink "BlockCounterModel" (44 : Nat) "BlockCounterModel" "count" "[I") ∈ evW := evm 772 (by decide +kernel) rfl
set_option maxRecDepth 100000 in
theorem mw_773 : (Jvm.Cond.fieldLink "BlockCounterModel" (137 : Nat) "BlockCounterModel" "end" "I") ∈ evW := evm 773 (by decide +kernel) rfl
set_option maxRecDepth 100000 in
theorem mw_774 : (Jvm.Cond.fieldLink "BlockCounterModel" (47 : Nat) "BlockCounterModel" "registers" "[I") ∈ evW := evm 774 (by decide +kernel) rfl
set_option maxRecDepth 100000 in
theorem mw_775 : (Jvm.Cond.fieldLink "BlockCounterModel" (50 : Nat) "BlockCounterModel" "cells" "[I") ∈ evW := evm 775 (by decide +kernel) rfl
set_option maxRecDepth 100000 in
theorem mw_776 : (Jvm.Cond.fieldLink "BlockCounterModel" (155 : Nat) "BlockCounterModel" "pc" "I") ∈ evW := evm 776 (by decide +kernel) rfl
set_option maxRecDepth 100000 in
theorem mw_777 : (Jvm.Cond.fieldLink "BlockCounterModel" (169 : Nat) "BlockCounterModel" "height" "I") ∈ evW := evm 777 (by decide +kernel) rfl
set_option maxRecDepth 100000 in
theorem mw_778 : (Jvm.Cond.fieldLink "BlockCounterModel" (172 : Nat) "BlockCounterModel" "shown" "I") ∈ evW := evm 778 (by decide +kernel) rfl
set_option maxRecDepth 100000 in
theorem mw_779 : (Jvm.Cond.fieldLink "BlockCounterModel" (188 : Nat) "BlockCounterModel" "done" "I") ∈ evW := evm 779 (by decide +kernel) rfl
set_option maxRecDepth 100000 in
theorem mw_780 : (Jvm.Cond.fieldLink "BlockCounterModel" (152 : Nat) "BlockCounterModel" "outcome" "I") ∈ evW := evm 780 (by decide +kernel) rfl
set_option maxRecDepth 100000 in
theorem mw_781 : (Jvm.Cond.fieldLink "BlockCounterModel" (53 : Nat) "BlockCounterModel" "stack" "[I") ∈ evW := evm 781 (by decide +kernel) rfl
set_option maxRecDepth 100000 in
theorem mw_782 : (Jvm.Cond.fieldLink "BlockCounterModel" (56 : Nat) "BlockCounterModel" "output" "[I") ∈ evW := evm 782 (by decide +kernel) rfl
set_option maxRecDepth 100000 in
theorem mw_783 : (Jvm.Cond.fieldLink "BlockCounterModel" (59 : Nat) "BlockCounterModel" "counters" "[J") ∈ evW := evm 783 (by decide +kernel) rfl
set_option maxRecDepth 100000 in
theorem mw_845 : (Jvm.Cond.methodLink "BlockCounterLaw" (70 : Nat) ({ cls := "BlockCounterModel", name := "thrown", desc := "()I" } : Jvm.MethodName)) ∈ evW := evm 845 (by decide +kernel) rfl
set_option maxRecDepth 100000 in
theorem mw_846 : (Jvm.Cond.instanceMethod ({ cls := "BlockCounterModel", name := "thrown", desc := "()I" } : Jvm.MethodName)) ∈ evW := evm 846 (by decide +kernel) rfl
set_option maxRecDepth 100000 in
theorem mw_847 : (Jvm.Cond.selects "BlockCounterModel" ({ cls := "BlockCounterModel", name := "thrown", desc := "()I" } : Jvm.MethodName) ({ cls := "BlockCounterModel", name := "thrown", desc := "()I" } : Jvm.MethodName)) ∈ evW := evm 847 (by decide +kernel) rfl
set_option maxRecDepth 100000 in
theorem mw_848 : (Jvm.Cond.code ({ cls := "BlockCounterModel", name := "thrown", desc := "()I" } : Jvm.MethodName) prog_9_method_2_code (1 : Nat) (Option.some Jvm.ClassFile.FieldType.int)) ∈ evW := evm 848 rfl rfl
set_option maxRecDepth 100000 in
theorem mw_849 : (Jvm.Cond.methodLink "BlockCounterLaw" (69 : Nat) ({ cls := "BlockCounterModel", name := "poke", desc := "(II)V" } : Jvm.MethodName)) ∈ evW := evm 849 (by decide +kernel) rfl
set_option maxRecDepth 100000 in
theorem mw_850 : (Jvm.Cond.instanceMethod ({ cls := "BlockCounterModel", name := "poke", desc := "(II)V" } : Jvm.MethodName)) ∈ evW := evm 850 (by decide +kernel) rfl
set_option maxRecDepth 100000 in
theorem mw_851 : (Jvm.Cond.selects "BlockCounterModel" ({ cls := "BlockCounterModel", name := "poke", desc := "(II)V" } : Jvm.MethodName) ({ cls := "BlockCounterModel", name := "poke", desc := "(II)V" } : Jvm.MethodName)) ∈ evW := evm 851 (by decide +kernel) rfl
set_option maxRecDepth 100000 in
theorem mw_852 : (Jvm.Cond.code ({ cls := "BlockCounterModel", name := "poke", desc := "(II)V" } : Jvm.MethodName) prog_9_method_5_code (3 : Nat) (Option.none : Option Jvm.ClassFile.FieldType)) ∈ evW := evm 852 rfl rfl
set_option maxRecDepth 100000 in
theorem mw_853 : (Jvm.Cond.methodLink "BlockCounterModel" (74 : Nat) ({ cls := "BlockCounterModel", name := "forget", desc := "()V" } : Jvm.MethodName)) ∈ evW := evm 853 (by decide +kernel) rfl
set_option maxRecDepth 100000 in
theorem mw_855 : (Jvm.Cond.instanceMethod ({ cls := "BlockCounterModel", name := "forget", desc := "()V" } : Jvm.MethodName)) ∈ evW := evm 855 (by decide +kernel) rfl
set_option maxRecDepth 100000 in
theorem mw_856 : (Jvm.Cond.code ({ cls := "BlockCounterModel", name := "forget", desc := "()V" } : Jvm.MethodName) prog_9_method_4_code (1 : Nat) (Option.none : Option Jvm.ClassFile.FieldType)) ∈ evW := evm 856 rfl rfl
set_option maxRecDepth 100000 in
theorem mw_857 : (Jvm.Cond.methodLink "BlockCounterLaw" (76 : Nat) ({ cls := "BlockCounterModel", name := "declare", desc := "(II)I" } : Jvm.MethodName)) ∈ evW := evm 857 (by decide +kernel) rfl
set_option maxRecDepth 100000 in
theorem mw_858 : (Jvm.Cond.instanceMethod ({ cls := "BlockCounterModel", name := "declare", desc := "(II)I" } : Jvm.MethodName)) ∈ evW := evm 858 (by decide +kernel) rfl
set_option maxRecDepth 100000 in
theorem mw_859 : (Jvm.Cond.selects "BlockCounterModel" ({ cls := "BlockCounterModel", name := "declare", desc := "(II)I" } : Jvm.MethodName) ({ cls := "BlockCounterModel", name := "declare", desc := "(II)I" } : Jvm.MethodName)) ∈ evW := evm 859 (by decide +kernel) rfl
set_option maxRecDepth 100000 in
theorem mw_860 : (Jvm.Cond.code ({ cls := "BlockCounterModel", name := "declare", desc := "(II)I" } : Jvm.MethodName) prog_9_method_6_code (3 : Nat) (Option.some Jvm.ClassFile.FieldType.int)) ∈ evW := evm 860 rfl rfl
set_option maxRecDepth 100000 in
theorem mw_861 : (Jvm.Cond.methodLink "BlockCounterModel" (77 : Nat) ({ cls := "BlockCounterModel", name := "fail", desc := "(I)I" } : Jvm.MethodName)) ∈ evW := evm 861 (by decide +kernel) rfl
set_option maxRecDepth 100000 in
theorem mw_863 : (Jvm.Cond.instanceMethod ({ cls := "BlockCounterModel", name := "fail", desc := "(I)I" } : Jvm.MethodName)) ∈ evW := evm 863 (by decide +kernel) rfl
set_option maxRecDepth 100000 in
theorem mw_864 : (Jvm.Cond.code ({ cls := "BlockCounterModel", name := "fail", desc := "(I)I" } : Jvm.MethodName) prog_9_method_3_code (2 : Nat) (Option.some Jvm.ClassFile.FieldType.int)) ∈ evW := evm 864 rfl rfl
set_option maxRecDepth 100000 in
theorem mw_865 : (Jvm.Cond.methodLink "BlockCounterLaw" (79 : Nat) ({ cls := "BlockCounterModel", name := "data", desc := "(II)V" } : Jvm.MethodName)) ∈ evW := evm 865 (by decide +kernel) rfl
set_option maxRecDepth 100000 in
theorem mw_866 : (Jvm.Cond.instanceMethod ({ cls := "BlockCounterModel", name := "data", desc := "(II)V" } : Jvm.MethodName)) ∈ evW := evm 866 (by decide +kernel) rfl
set_option maxRecDepth 100000 in
theorem mw_867 : (Jvm.Cond.selects "BlockCounterModel" ({ cls := "BlockCounterModel", name := "data", desc := "(II)V" } : Jvm.MethodName) ({ cls := "BlockCounterModel", name := "data", desc := "(II)V" } : Jvm.MethodName)) ∈ evW := evm 867 (by decide +kernel) rfl
set_option maxRecDepth 100000 in
theorem mw_868 : (Jvm.Cond.code ({ cls := "BlockCounterModel", name := "data", desc := "(II)V" } : Jvm.MethodName) prog_9_method_7_code (3 : Nat) (Option.none : Option Jvm.ClassFile.FieldType)) ∈ evW := evm 868 rfl rfl
set_option maxRecDepth 100000 in
theorem mw_869 : (Jvm.Cond.methodLink "BlockCounterLaw" (83 : Nat) ({ cls := "BlockCounterModel", name := "analyse", desc := "()I" } : Jvm.MethodName)) ∈ evW := evm 869 (by decide +kernel) rfl
set_option maxRecDepth 100000 in
theorem mw_870 : (Jvm.Cond.instanceMethod ({ cls := "BlockCounterModel", name := "analyse", desc := "()I" } : Jvm.MethodName)) ∈ evW := evm 870 (by decide +kernel) rfl
set_option maxRecDepth 100000 in
theorem mw_871 : (Jvm.Cond.selects "BlockCounterModel" ({ cls := "BlockCounterModel", name := "analyse", desc := "()I" } : Jvm.MethodName) ({ cls := "BlockCounterModel", name := "analyse", desc := "()I" } : Jvm.MethodName)) ∈ evW := evm 871 (by decide +kernel) rfl
set_option maxRecDepth 100000 in
theorem mw_872 : (Jvm.Cond.code ({ cls := "BlockCounterModel", name := "analyse", desc := "()I" } : Jvm.MethodName) prog_9_method_21_code (2 : Nat) (Option.some Jvm.ClassFile.FieldType.int)) ∈ evW := evm 872 rfl rfl
set_option maxRecDepth 100000 in
theorem mw_873 : (Jvm.Cond.methodLink "BlockCounterModel" (103 : Nat) ({ cls := "BlockCounterModel", name := "come", desc := "(IZ)V" } : Jvm.MethodName)) ∈ evW := evm 873 (by decide +kernel) rfl
set_option maxRecDepth 100000 in
theorem mw_875 : (Jvm.Cond.instanceMethod ({ cls := "BlockCounterModel", name := "come", desc := "(IZ)V" } : Jvm.MethodName)) ∈ evW := evm 875 (by decide +kernel) rfl
set_option maxRecDepth 100000 in
theorem mw_876 : (Jvm.Cond.code ({ cls := "BlockCounterModel", name := "come", desc := "(IZ)V" } : Jvm.MethodName) prog_9_method_15_code (3 : Nat) (Option.none : Option Jvm.ClassFile.FieldType)) ∈ evW := evm 876 rfl rfl
set_option maxRecDepth 100000 in
theorem mw_877 : (Jvm.Cond.methodLink "BlockCounterModel" (127 : Nat) ({ cls := "BlockCounterModel", name := "follow", desc := "(I)V" } : Jvm.MethodName)) ∈ evW := evm 877 (by decide +kernel) rfl
set_option maxRecDepth 100000 in
theorem mw_879 : (Jvm.Cond.instanceMethod ({ cls := "BlockCounterModel", name := "follow", desc := "(I)V" } : Jvm.MethodName)) ∈ evW := evm 879 (by decide +kernel) rfl
set_option maxRecDepth 100000 in
theorem mw_880 : (Jvm.Cond.code ({ cls := "BlockCounterModel", name := "follow", desc := "(I)V" } : Jvm.MethodName) prog_9_method_17_code (4 : Nat) (Option.none : Option Jvm.ClassFile.FieldType)) ∈ evW := evm 880 rfl rfl
set_option maxRecDepth 100000 in
theorem mw_881 : (Jvm.Cond.methodLink "BlockCounterModel" (97 : Nat) ({ cls := "BlockCounterModel", name := "sizeOf", desc := "(I)I" } : Jvm.MethodName)) ∈ evW := evm 881 (by decide +kernel) rfl
set_option maxRecDepth 100000 in
theorem mw_882 : (Jvm.Cond.static ({ cls := "BlockCounterModel", name := "sizeOf", desc := "(I)I" } : Jvm.MethodName)) ∈ evW := evm 882 (by decide +kernel) rfl
set_option maxRecDepth 100000 in
theorem mw_883 : (Jvm.Cond.code ({ cls := "BlockCounterModel", name := "sizeOf", desc := "(I)I" } : Jvm.MethodName) prog_9_method_8_code (1 : Nat) (Option.some Jvm.ClassFile.FieldType.int)) ∈ evW := evm 883 rfl rfl
set_option maxRecDepth 100000 in
theorem mw_884 : (Jvm.Cond.methodLink "BlockCounterModel" (84 : Nat) ({ cls := "BlockCounterModel", name := "branches", desc := "(I)Z" } : Jvm.MethodName)) ∈ evW := evm 884 (by decide +kernel) rfl
set_option maxRecDepth 100000 in
theorem mw_885 : (Jvm.Cond.static ({ cls := "BlockCounterModel", name := "branches", desc := "(I)Z" } : Jvm.MethodName)) ∈ evW := evm 885 (by decide +kernel) rfl
set_option maxRecDepth 100000 in
theorem mw_886 : (Jvm.Cond.code ({ cls := "BlockCounterModel", name := "branches", desc := "(I)Z" } : Jvm.MethodName) prog_9_method_9_code (1 : Nat) (Option.some Jvm.ClassFile.FieldType.boolean)) ∈ evW := evm 886 rfl rfl
set_option maxRecDepth 100000 in
theorem mw_887 : (Jvm.Cond.methodLink "BlockCounterModel" (100 : Nat) ({ cls := "BlockCounterModel", name := "target", desc := "(I)I" } : Jvm.MethodName)) ∈ evW := evm 887 (by decide +kernel) rfl
set_option maxRecDepth 100000 in
theorem mw_889 : (Jvm.Cond.instanceMethod ({ cls := "BlockCounterModel", name := "target", desc := "(I)I" } : Jvm.MethodName)) ∈ evW := evm 889 (by decide +kernel) rfl
set_option maxRecDepth 100000 in
theorem mw_890 : (Jvm.Cond.code ({ cls := "BlockCounterModel", name := "target", desc := "(I)I" } : Jvm.MethodName) prog_9_method_14_code (3 : Nat) (Option.some Jvm.ClassFile.FieldType.int)) ∈ evW := evm 890 rfl rfl
set_option maxRecDepth 100000 in
theorem mw_891 : (Jvm.Cond.methodLink "BlockCounterModel" (88 : Nat) ({ cls := "BlockCounterModel", name := "isSwitch", desc := "(I)Z" } : Jvm.MethodName)) ∈ evW := evm 891 (by decide +kernel) rfl
set_option maxRecDepth 100000 in
theorem mw_892 : (Jvm.Cond.static ({ cls := "BlockCounterModel", name := "isSwitch", desc := "(I)Z" } : Jvm.MethodName)) ∈ evW := evm 892 (by decide +kernel) rfl
set_option maxRecDepth 100000 in
theorem mw_893 : (Jvm.Cond.code ({ cls := "BlockCounterModel", name := "isSwitch", desc := "(I)Z" } : Jvm.MethodName) prog_9_method_11_code (1 : Nat) (Option.some Jvm.ClassFile.FieldType.boolean)) ∈ evW := evm 893 rfl rfl
set_option maxRecDepth 100000 in
theorem mw_894 : (Jvm.Cond.methodLink "BlockCounterModel" (107 : Nat) ({ cls := "BlockCounterModel", name := "followTable", desc := "(II)V" } : Jvm.MethodName)) ∈ evW := evm 894 (by decide +kernel) rfl
set_option maxRecDepth 100000 in
theorem mw_896 : (Jvm.Cond.instanceMethod ({ cls := "BlockCounterModel", name := "followTable", desc := "(II)V" } : Jvm.MethodName)) ∈ evW := evm 896 (by decide +kernel) rfl
set_option maxRecDepth 100000 in
theorem mw_897 : (Jvm.Cond.code ({ cls := "BlockCounterModel", name := "followTable", desc := "(II)V" } : Jvm.MethodName) prog_9_method_18_code (4 : Nat) (Option.none : Option Jvm.ClassFile.FieldType)) ∈ evW := evm 897 rfl rfl
set_option maxRecDepth 100000 in
theorem mw_898 : (Jvm.Cond.methodLink "BlockCounterModel" (117 : Nat) ({ cls := "BlockCounterModel", name := "isDeclared", desc := "(II)Z" } : Jvm.MethodName)) ∈ evW := evm 898 (by decide +kernel) rfl
set_option maxRecDepth 100000 in
theorem mw_900 : (Jvm.Cond.instanceMethod ({ cls := "BlockCounterModel", name := "isDeclared", desc := "(II)Z" } : Jvm.MethodName)) ∈ evW := evm 900 (by decide +kernel) rfl
set_option maxRecDepth 100000 in
theorem mw_901 : (Jvm.Cond.code ({ cls := "BlockCounterModel", name := "isDeclared", desc := "(II)Z" } : Jvm.MethodName) prog_9_method_16_code (5 : Nat) (Option.some Jvm.ClassFile.FieldType.boolean)) ∈ evW := evm 901 rfl rfl
set_option maxRecDepth 100000 in
theorem mw_902 : (Jvm.Cond.methodLink "BlockCounterModel" (111 : Nat) ({ cls := "BlockCounterModel", name := "goesOn", desc := "(I)Z" } : Jvm.MethodName)) ∈ evW := evm 902 (by decide +kernel) rfl
set_option maxRecDepth 100000 in
theorem mw_903 : (Jvm.Cond.static ({ cls := "BlockCounterModel", name := "goesOn", desc := "(I)Z" } : Jvm.MethodName)) ∈ evW := evm 903 (by decide +kernel) rfl
set_option maxRecDepth 100000 in
theorem mw_904 : (Jvm.Cond.code ({ cls := "BlockCounterModel", name := "goesOn", desc := "(I)Z" } : Jvm.MethodName) prog_9_method_13_code (1 : Nat) (Option.some Jvm.ClassFile.FieldType.boolean)) ∈ evW := evm 904 rfl rfl
set_option maxRecDepth 100000 in
theorem mw_905 : (Jvm.Cond.methodLink "BlockCounterModel" (114 : Nat) ({ cls := "BlockCounterModel", name := "isConditional", desc := "(I)Z" } : Jvm.MethodName)) ∈ evW := evm 905 (by decide +kernel) rfl
set_option maxRecDepth 100000 in
theorem mw_906 : (Jvm.Cond.static ({ cls := "BlockCounterModel", name := "isConditional", desc := "(I)Z" } : Jvm.MethodName)) ∈ evW := evm 906 (by decide +kernel) rfl
set_option maxRecDepth 100000 in
theorem mw_907 : (Jvm.Cond.code ({ cls := "BlockCounterModel", name := "isConditional", desc := "(I)Z" } : Jvm.MethodName) prog_9_method_10_code (1 : Nat) (Option.some Jvm.ClassFile.FieldType.boolean)) ∈ evW := evm 907 rfl rfl
set_option maxRecDepth 100000 in
theorem mw_908 : (Jvm.Cond.methodLink "BlockCounterModel" (131 : Nat) ({ cls := "BlockCounterModel", name := "occupy", desc := "()V" } : Jvm.MethodName)) ∈ evW := evm 908 (by decide +kernel) rfl
set_option maxRecDepth 100000 in
theorem mw_910 : (Jvm.Cond.instanceMethod ({ cls := "BlockCounterModel", name := "occupy", desc := "()V" } : Jvm.MethodName)) ∈ evW := evm 910 (by decide +kernel) rfl
set_option maxRecDepth 100000 in
theorem mw_911 : (Jvm.Cond.code ({ cls := "BlockCounterModel", name := "occupy", desc := "()V" } : Jvm.MethodName) prog_9_method_19_code (3 : Nat) (Option.none : Option Jvm.ClassFile.FieldType)) ∈ evW := evm 911 rfl rfl
set_option maxRecDepth 100000 in
theorem mw_912 : (Jvm.Cond.methodLink "BlockCounterModel" (134 : Nat) ({ cls := "BlockCounterModel", name := "cut", desc := "()V" } : Jvm.MethodName)) ∈ evW := evm 912 (by decide +kernel) rfl
set_option maxRecDepth 100000 in
theorem mw_914 : (Jvm.Cond.instanceMethod ({ cls := "BlockCounterModel", name := "cut", desc := "()V" } : Jvm.MethodName)) ∈ evW := evm 914 (by decide +kernel) rfl
set_option maxRecDepth 100000 in
theorem mw_915 : (Jvm.Cond.code ({ cls := "BlockCounterModel", name := "cut", desc := "()V" } : Jvm.MethodName) prog_9_method_20_code (5 : Nat) (Option.none : Option Jvm.ClassFile.FieldType)) ∈ evW := evm 915 rfl rfl
set_option maxRecDepth 100000 in
theorem mw_916 : (Jvm.Cond.methodLink "BlockCounterModel" (124 : Nat) ({ cls := "BlockCounterModel", name := "ends", desc := "(I)Z" } : Jvm.MethodName)) ∈ evW := evm 916 (by decide +kernel) rfl
set_option maxRecDepth 100000 in
theorem mw_917 : (Jvm.Cond.static ({ cls := "BlockCounterModel", name := "ends", desc := "(I)Z" } : Jvm.MethodName)) ∈ evW := evm 917 (by decide +kernel) rfl
set_option maxRecDepth 100000 in
theorem mw_918 : (Jvm.Cond.code ({ cls := "BlockCounterModel", name := "ends", desc := "(I)Z" } : Jvm.MethodName) prog_9_method_12_code (1 : Nat) (Option.some Jvm.ClassFile.FieldType.boolean)) ∈ evW := evm 918 rfl rfl
set_option maxRecDepth 100000 in
theorem mw_919 : (Jvm.Cond.methodLink "BlockCounterLaw" (86 : Nat) ({ cls := "BlockCounterModel", name := "block", desc := "(II)I" } : Jvm.MethodName)) ∈ evW := evm 919 (by decide +kernel) rfl
set_option maxRecDepth 100000 in
theorem mw_920 : (Jvm.Cond.instanceMethod ({ cls := "BlockCounterModel", name := "block", desc := "(II)I" } : Jvm.MethodName)) ∈ evW := evm 920 (by decide +kernel) rfl
set_option maxRecDepth 100000 in
theorem mw_921 : (Jvm.Cond.selects "BlockCounterModel" ({ cls := "BlockCounterModel", name := "block", desc := "(II)I" } : Jvm.MethodName) ({ cls := "BlockCounterModel", name := "block", desc := "(II)I" } : Jvm.MethodName)) ∈ evW := evm 921 (by decide +kernel) rfl
set_option maxRecDepth 100000 in
theorem mw_922 : (Jvm.Cond.code ({ cls := "BlockCounterModel", name := "block", desc := "(II)I" } : Jvm.MethodName) prog_9_method_22_code (3 : Nat) (Option.some Jvm.ClassFile.FieldType.int)) ∈ evW := evm 922 rfl rfl
set_option maxRecDepth 100000 in
theorem mw_923 : (Jvm.Cond.methodLink "BlockCounterLaw" (90 : Nat) ({ cls := "BlockCounterModel", name := "blockAt", desc := "(I)I" } : Jvm.MethodName)) ∈ evW := evm 923 (by decide +kernel) rfl
set_option maxRecDepth 100000 in
theorem mw_924 : (Jvm.Cond.instanceMethod ({ cls := "BlockCounterModel", name := "blockAt", desc := "(I)I" } : Jvm.MethodName)) ∈ evW := evm 924 (by decide +kernel) rfl
set_option maxRecDepth 100000 in
theorem mw_925 : (Jvm.Cond.selects "BlockCounterModel" ({ cls := "BlockCounterModel", name := "blockAt", desc := "(I)I" } : Jvm.MethodName) ({ cls := "BlockCounterModel", name := "blockAt", desc := "(I)I" } : Jvm.MethodName)) ∈ evW := evm 925 (by decide +kernel) rfl
set_option maxRecDepth 100000 in
theorem mw_926 : (Jvm.Cond.code ({ cls := "BlockCounterModel", name := "blockAt", desc := "(I)I" } : Jvm.MethodName) prog_9_method_23_code (4 : Nat) (Option.some Jvm.ClassFile.FieldType.int)) ∈ evW := evm 926 rfl rfl
set_option maxRecDepth 100000 in
theorem mw_927 : (Jvm.Cond.methodLink "BlockCounterLaw" (93 : Nat) ({ cls := "BlockCounterModel", name := "rewrite", desc := "()I" } : Jvm.MethodName)) ∈ evW := evm 927 (by decide +kernel) rfl
set_option maxRecDepth 100000 in
theorem mw_928 : (Jvm.Cond.instanceMethod ({ cls := "BlockCounterModel", name := "rewrite", desc := "()I" } : Jvm.MethodName)) ∈ evW := evm 928 (by decide +kernel) rfl
set_option maxRecDepth 100000 in
theorem mw_929 : (Jvm.Cond.selects "BlockCounterModel" ({ cls := "BlockCounterModel", name := "rewrite", desc := "()I" } : Jvm.MethodName) ({ cls := "BlockCounterModel", name := "rewrite", desc := "()I" } : Jvm.MethodName)) ∈ evW := evm 929 (by decide +kernel) rfl
set_option maxRecDepth 100000 in
theorem mw_930 : (Jvm.Cond.code ({ cls := "BlockCounterModel", name := "rewrite", desc := "()I" } : Jvm.MethodName) prog_9_method_28_code (2 : Nat) (Option.some Jvm.ClassFile.FieldType.int)) ∈ evW := evm 930 rfl rfl
set_option maxRecDepth 100000 in
theorem mw_931 : (Jvm.Cond.methodLink "BlockCounterModel" (149 : Nat) ({ cls := "BlockCounterModel", name := "renewBlock", desc := "(I)V" } : Jvm.MethodName)) ∈ evW := evm 931 (by decide +kernel) rfl
set_option maxRecDepth 100000 in
theorem mw_933 : (Jvm.Cond.instanceMethod ({ cls := "BlockCounterModel", name := "renewBlock", desc := "(I)V" } : Jvm.MethodName)) ∈ evW := evm 933 (by decide +kernel) rfl
set_option maxRecDepth 100000 in
theorem mw_934 : (Jvm.Cond.code ({ cls := "BlockCounterModel", name := "renewBlock", desc := "(I)V" } : Jvm.MethodName) prog_9_method_27_code (6 : Nat) (Option.none : Option Jvm.ClassFile.FieldType)) ∈ evW := evm 934 rfl rfl
set_option maxRecDepth 100000 in
theorem mw_935 : (Jvm.Cond.methodLink "BlockCounterModel" (140 : Nat) ({ cls := "BlockCounterModel", name := "emit", desc := "(I)V" } : Jvm.MethodName)) ∈ evW := evm 935 (by decide +kernel) rfl
set_option maxRecDepth 100000 in
theorem mw_937 : (Jvm.Cond.instanceMethod ({ cls := "BlockCounterModel", name := "emit", desc := "(I)V" } : Jvm.MethodName)) ∈ evW := evm 937 (by decide +kernel) rfl
set_option maxRecDepth 100000 in
theorem mw_938 : (Jvm.Cond.code ({ cls := "BlockCounterModel", name := "emit", desc := "(I)V" } : Jvm.MethodName) prog_9_method_24_code (2 : Nat) (Option.none : Option Jvm.ClassFile.FieldType)) ∈ evW := evm 938 rfl rfl
set_option maxRecDepth 100000 in
theorem mw_939 : (Jvm.Cond.methodLink "BlockCounterModel" (146 : Nat) ({ cls := "BlockCounterModel", name := "renew", desc := "(I)V" } : Jvm.MethodName)) ∈ evW := evm 939 (by decide +kernel) rfl
set_option maxRecDepth 100000 in
theorem mw_941 : (Jvm.Cond.instanceMethod ({ cls := "BlockCounterModel", name := "renew", desc := "(I)V" } : Jvm.MethodName)) ∈ evW := evm 941 (by decide +kernel) rfl
set_option maxRecDepth 100000 in
theorem mw_942 : (Jvm.Cond.code ({ cls := "BlockCounterModel", name := "renew", desc := "(I)V" } : Jvm.MethodName) prog_9_method_26_code (5 : Nat) (Option.none : Option Jvm.ClassFile.FieldType)) ∈ evW := evm 942 rfl rfl
set_option maxRecDepth 100000 in
theorem mw_943 : (Jvm.Cond.methodLink "BlockCounterModel" (143 : Nat) ({ cls := "BlockCounterModel", name := "jumpTo", desc := "(I)V" } : Jvm.MethodName)) ∈ evW := evm 943 (by decide +kernel) rfl
set_option maxRecDepth 100000 in
theorem mw_945 : (Jvm.Cond.instanceMethod ({ cls := "BlockCounterModel", name := "jumpTo", desc := "(I)V" } : Jvm.MethodName)) ∈ evW := evm 945 (by decide +kernel) rfl
set_option maxRecDepth 100000 in
theorem mw_946 : (Jvm.Cond.code ({ cls := "BlockCounterModel", name := "jumpTo", desc := "(I)V" } : Jvm.MethodName) prog_9_method_25_code (2 : Nat) (Option.none : Option Jvm.ClassFile.FieldType)) ∈ evW := evm 946 rfl rfl
set_option maxRecDepth 100000 in
theorem mw_947 : (Jvm.Cond.methodLink "BlockCounterLaw" (97 : Nat) ({ cls := "BlockCounterModel", name := "code", desc := "(IZ)I" } : Jvm.MethodName)) ∈ evW := evm 947 (by decide +kernel) rfl
set_option maxRecDepth 100000 in
theorem mw_948 : (Jvm.Cond.instanceMethod ({ cls := "BlockCounterModel", name := "code", desc := "(IZ)I" } : Jvm.MethodName)) ∈ evW := evm 948 (by decide +kernel) rfl
set_option maxRecDepth 100000 in
theorem mw_949 : (Jvm.Cond.selects "BlockCounterModel" ({ cls := "BlockCounterModel", name := "code", desc := "(IZ)I" } : Jvm.MethodName) ({ cls := "BlockCounterModel", name := "code", desc := "(IZ)I" } : Jvm.MethodName)) ∈ evW := evm 949 (by decide +kernel) rfl
set_option maxRecDepth 100000 in
theorem mw_950 : (Jvm.Cond.code ({ cls := "BlockCounterModel", name := "code", desc := "(IZ)I" } : Jvm.MethodName) prog_9_method_29_code (3 : Nat) (Option.some Jvm.ClassFile.FieldType.int)) ∈ evW := evm 950 rfl rfl
set_option maxRecDepth 100000 in
theorem mw_951 : (Jvm.Cond.methodLink "BlockCounterLaw" (101 : Nat) ({ cls := "BlockCounterModel", name := "run", desc := "(ZI)I" } : Jvm.MethodName)) ∈ evW := evm 951 (by decide +kernel) rfl
set_option maxRecDepth 100000 in
theorem mw_952 : (Jvm.Cond.instanceMethod ({ cls := "BlockCounterModel", name := "run", desc := "(ZI)I" } : Jvm.MethodName)) ∈ evW := evm 952 (by decide +kernel) rfl
set_option maxRecDepth 100000 in
theorem mw_953 : (Jvm.Cond.selects "BlockCounterModel" ({ cls := "BlockCounterModel", name := "run", desc := "(ZI)I" } : Jvm.MethodName) ({ cls := "BlockCounterModel", name := "run", desc := "(ZI)I" } : Jvm.MethodName)) ∈ evW := evm 953 (by decide +kernel) rfl
set_option maxRecDepth 100000 in
theorem mw_954 : (Jvm.Cond.code ({ cls := "BlockCounterModel", name := "run", desc := "(ZI)I" } : Jvm.MethodName) prog_9_method_39_code (4 : Nat) (Option.some Jvm.ClassFile.FieldType.int)) ∈ evW := evm 954 rfl rfl
set_option maxRecDepth 100000 in
theorem mw_955 : (Jvm.Cond.methodLink "BlockCounterModel" (191 : Nat) ({ cls := "BlockCounterModel", name := "begin", desc := "()V" } : Jvm.MethodName)) ∈ evW := evm 955 (by decide +kernel) rfl
set_option maxRecDepth 100000 in
theorem mw_957 : (Jvm.Cond.instanceMethod ({ cls := "BlockCounterModel", name := "begin", desc := "()V" } : Jvm.MethodName)) ∈ evW := evm 957 (by decide +kernel) rfl
set_option maxRecDepth 100000 in
theorem mw_958 : (Jvm.Cond.code ({ cls := "BlockCounterModel", name := "begin", desc := "()V" } : Jvm.MethodName) prog_9_method_38_code (2 : Nat) (Option.none : Option Jvm.ClassFile.FieldType)) ∈ evW := evm 958 rfl rfl
set_option maxRecDepth 100000 in
theorem mw_959 : (Jvm.Cond.methodLink "BlockCounterModel" (194 : Nat) ({ cls := "BlockCounterModel", name := "blockAt", desc := "(I)I" } : Jvm.MethodName)) ∈ evW := evm 959 (by decide +kernel) rfl
set_option maxRecDepth 100000 in
theorem mw_960 : (Jvm.Cond.methodLink "BlockCounterModel" (197 : Nat) ({ cls := "BlockCounterModel", name := "step", desc := "(I)Z" } : Jvm.MethodName)) ∈ evW := evm 960 (by decide +kernel) rfl
set_option maxRecDepth 100000 in
theorem mw_962 : (Jvm.Cond.instanceMethod ({ cls := "BlockCounterModel", name := "step", desc := "(I)Z" } : Jvm.MethodName)) ∈ evW := evm 962 (by decide +kernel) rfl
set_option maxRecDepth 100000 in
theorem mw_963 : (Jvm.Cond.code ({ cls := "BlockCounterModel", name := "step", desc := "(I)Z" } : Jvm.MethodName) prog_9_method_37_code (6 : Nat) (Option.some Jvm.ClassFile.FieldType.boolean)) ∈ evW := evm 963 rfl rfl
set_option maxRecDepth 100000 in
theorem mw_964 : (Jvm.Cond.methodLink "BlockCounterModel" (158 : Nat) ({ cls := "BlockCounterModel", name := "at", desc := "(II)I" } : Jvm.MethodName)) ∈ evW := evm 964 (by decide +kernel) rfl
set_option maxRecDepth 100000 in
theorem mw_966 : (Jvm.Cond.instanceMethod ({ cls := "BlockCounterModel", name := "at", desc := "(II)I" } : Jvm.MethodName)) ∈ evW := evm 966 (by decide +kernel) rfl
set_option maxRecDepth 100000 in
theorem mw_967 : (Jvm.Cond.code ({ cls := "BlockCounterModel", name := "at", desc := "(II)I" } : Jvm.MethodName) prog_9_method_30_code (3 : Nat) (Option.some Jvm.ClassFile.FieldType.int)) ∈ evW := evm 967 rfl rfl
set_option maxRecDepth 100000 in
theorem mw_968 : (Jvm.Cond.methodLink "BlockCounterModel" (165 : Nat) ({ cls := "BlockCounterModel", name := "fault", desc := "()Z" } : Jvm.MethodName)) ∈ evW := evm 968 (by decide +kernel) rfl
set_option maxRecDepth 100000 in
theorem mw_970 : (Jvm.Cond.instanceMethod ({ cls := "BlockCounterModel", name := "fault", desc := "()Z" } : Jvm.MethodName)) ∈ evW := evm 970 (by decide +kernel) rfl
set_option maxRecDepth 100000 in
theorem mw_971 : (Jvm.Cond.code ({ cls := "BlockCounterModel", name := "fault", desc := "()Z" } : Jvm.MethodName) prog_9_method_31_code (1 : Nat) (Option.some Jvm.ClassFile.FieldType.boolean)) ∈ evW := evm 971 rfl rfl
set_option maxRecDepth 100000 in
theorem mw_972 : (Jvm.Cond.methodLink "BlockCounterModel" (175 : Nat) ({ cls := "BlockCounterModel", name := "doOne", desc := "(II)Z" } : Jvm.MethodName)) ∈ evW := evm 972 (by decide +kernel) rfl
set_option maxRecDepth 100000 in
theorem mw_974 : (Jvm.Cond.instanceMethod ({ cls := "BlockCounterModel", name := "doOne", desc := "(II)Z" } : Jvm.MethodName)) ∈ evW := evm 974 (by decide +kernel) rfl
set_option maxRecDepth 100000 in
theorem mw_975 : (Jvm.Cond.code ({ cls := "BlockCounterModel", name := "doOne", desc := "(II)Z" } : Jvm.MethodName) prog_9_method_36_code (5 : Nat) (Option.some Jvm.ClassFile.FieldType.boolean)) ∈ evW := evm 975 rfl rfl
set_option maxRecDepth 100000 in
theorem mw_976 : (Jvm.Cond.methodLink "BlockCounterModel" (162 : Nat) ({ cls := "BlockCounterModel", name := "go", desc := "(I)Z" } : Jvm.MethodName)) ∈ evW := evm 976 (by decide +kernel) rfl
set_option maxRecDepth 100000 in
theorem mw_978 : (Jvm.Cond.instanceMethod ({ cls := "BlockCounterModel", name := "go", desc := "(I)Z" } : Jvm.MethodName)) ∈ evW := evm 978 (by decide +kernel) rfl
set_option maxRecDepth 100000 in
theorem mw_979 : (Jvm.Cond.code ({ cls := "BlockCounterModel", name := "go", desc := "(I)Z" } : Jvm.MethodName) prog_9_method_32_code (2 : Nat) (Option.some Jvm.ClassFile.FieldType.boolean)) ∈ evW := evm 979 rfl rfl
set_option maxRecDepth 100000 in
theorem mw_980 : (Jvm.Cond.methodLink "BlockCounterModel" (178 : Nat) ({ cls := "BlockCounterModel", name := "branch", desc := "(IZ)Z" } : Jvm.MethodName)) ∈ evW := evm 980 (by decide +kernel) rfl
set_option maxRecDepth 100000 in
theorem mw_982 : (Jvm.Cond.instanceMethod ({ cls := "BlockCounterModel", name := "branch", desc := "(IZ)Z" } : Jvm.MethodName)) ∈ evW := evm 982 (by decide +kernel) rfl
set_option maxRecDepth 100000 in
theorem mw_983 : (Jvm.Cond.code ({ cls := "BlockCounterModel", name := "branch", desc := "(IZ)Z" } : Jvm.MethodName) prog_9_method_33_code (4 : Nat) (Option.some Jvm.ClassFile.FieldType.boolean)) ∈ evW := evm 983 rfl rfl
set_option maxRecDepth 100000 in
theorem mw_984 : (Jvm.Cond.methodLink "BlockCounterModel" (182 : Nat) ({ cls := "BlockCounterModel", name := "push", desc := "(II)Z" } : Jvm.MethodName)) ∈ evW := evm 984 (by decide +kernel) rfl
set_option maxRecDepth 100000 in
theorem mw_986 : (Jvm.Cond.instanceMethod ({ cls := "BlockCounterModel", name := "push", desc := "(II)Z" } : Jvm.MethodName)) ∈ evW := evm 986 (by decide +kernel) rfl
set_option maxRecDepth 100000 in
theorem mw_987 : (Jvm.Cond.code ({ cls := "BlockCounterModel", name := "push", desc := "(II)Z" } : Jvm.MethodName) prog_9_method_34_code (3 : Nat) (Option.some Jvm.ClassFile.FieldType.boolean)) ∈ evW := evm 987 rfl rfl
set_option maxRecDepth 100000 in
theorem mw_988 : (Jvm.Cond.methodLink "BlockCounterModel" (185 : Nat) ({ cls := "BlockCounterModel", name := "select", desc := "(II)Z" } : Jvm.MethodName)) ∈ evW := evm 988 (by decide +kernel) rfl
set_option maxRecDepth 100000 in
theorem mw_990 : (Jvm.Cond.instanceMethod ({ cls := "BlockCounterModel", name := "select", desc := "(II)Z" } : Jvm.MethodName)) ∈ evW := evm 990 (by decide +kernel) rfl
set_option maxRecDepth 100000 in
theorem mw_991 : (Jvm.Cond.code ({ cls := "BlockCounterModel", name := "select", desc := "(II)Z" } : Jvm.MethodName) prog_9_method_35_code (6 : Nat) (Option.some Jvm.ClassFile.FieldType.boolean)) ∈ evW := evm 991 rfl rfl
set_option maxRecDepth 100000 in
theorem mw_992 : (Jvm.Cond.methodLink "BlockCounterLaw" (105 : Nat) ({ cls := "BlockCounterModel", name := "steps", desc := "()I" } : Jvm.MethodName)) ∈ evW := evm 992 (by decide +kernel) rfl
set_option maxRecDepth 100000 in
theorem mw_993 : (Jvm.Cond.instanceMethod ({ cls := "BlockCounterModel", name := "steps", desc := "()I" } : Jvm.MethodName)) ∈ evW := evm 993 (by decide +kernel) rfl
set_option maxRecDepth 100000 in
theorem mw_994 : (Jvm.Cond.selects "BlockCounterModel" ({ cls := "BlockCounterModel", name := "steps", desc := "()I" } : Jvm.MethodName) ({ cls := "BlockCounterModel", name := "steps", desc := "()I" } : Jvm.MethodName)) ∈ evW := evm 994 (by decide +kernel) rfl
set_option maxRecDepth 100000 in
theorem mw_995 : (Jvm.Cond.code ({ cls := "BlockCounterModel", name := "steps", desc := "()I" } : Jvm.MethodName) prog_9_method_40_code (1 : Nat) (Option.some Jvm.ClassFile.FieldType.int)) ∈ evW := evm 995 rfl rfl
set_option maxRecDepth 100000 in
theorem mw_996 : (Jvm.Cond.methodLink "BlockCounterLaw" (109 : Nat) ({ cls := "BlockCounterModel", name := "register", desc := "(I)I" } : Jvm.MethodName)) ∈ evW := evm 996 (by decide +kernel) rfl
set_option maxRecDepth 100000 in
theorem mw_997 : (Jvm.Cond.instanceMethod ({ cls := "BlockCounterModel", name := "register", desc := "(I)I" } : Jvm.MethodName)) ∈ evW := evm 997 (by decide +kernel) rfl
set_option maxRecDepth 100000 in
theorem mw_998 : (Jvm.Cond.selects "BlockCounterModel" ({ cls := "BlockCounterModel", name := "register", desc := "(I)I" } : Jvm.MethodName) ({ cls := "BlockCounterModel", name := "register", desc := "(I)I" } : Jvm.MethodName)) ∈ evW := evm 998 (by decide +kernel) rfl
set_option maxRecDepth 100000 in
theorem mw_999 : (Jvm.Cond.code ({ cls := "BlockCounterModel", name := "register", desc := "(I)I" } : Jvm.MethodName) prog_9_method_41_code (2 : Nat) (Option.some Jvm.ClassFile.FieldType.int)) ∈ evW := evm 999 rfl rfl
set_option maxRecDepth 100000 in
theorem mw_1000 : (Jvm.Cond.methodLink "BlockCounterLaw" (112 : Nat) ({ cls := "BlockCounterModel", name := "cell", desc := "(I)I" } : Jvm.MethodName)) ∈ evW := evm 1000 (by decide +kernel) rfl
set_option maxRecDepth 100000 in
theorem mw_1001 : (Jvm.Cond.instanceMethod ({ cls := "BlockCounterModel", name := "cell", desc := "(I)I" } : Jvm.MethodName)) ∈ evW := evm 1001 (by decide +kernel) rfl
set_option maxRecDepth 100000 in
theorem mw_1002 : (Jvm.Cond.selects "BlockCounterModel" ({ cls := "BlockCounterModel", name := "cell", desc := "(I)I" } : Jvm.MethodName) ({ cls := "BlockCounterModel", name := "cell", desc := "(I)I" } : Jvm.MethodName)) ∈ evW := evm 1002 (by decide +kernel) rfl
set_option maxRecDepth 100000 in
theorem mw_1003 : (Jvm.Cond.code ({ cls := "BlockCounterModel", name := "cell", desc := "(I)I" } : Jvm.MethodName) prog_9_method_42_code (2 : Nat) (Option.some Jvm.ClassFile.FieldType.int)) ∈ evW := evm 1003 rfl rfl
set_option maxRecDepth 100000 in
theorem mw_1004 : (Jvm.Cond.methodLink "BlockCounterLaw" (115 : Nat) ({ cls := "BlockCounterModel", name := "output", desc := "(I)I" } : Jvm.MethodName)) ∈ evW := evm 1004 (by decide +kernel) rfl
set_option maxRecDepth 100000 in
theorem mw_1005 : (Jvm.Cond.instanceMethod ({ cls := "BlockCounterModel", name := "output", desc := "(I)I" } : Jvm.MethodName)) ∈ evW := evm 1005 (by decide +kernel) rfl
set_option maxRecDepth 100000 in
theorem mw_1006 : (Jvm.Cond.selects "BlockCounterModel" ({ cls := "BlockCounterModel", name := "output", desc := "(I)I" } : Jvm.MethodName) ({ cls := "BlockCounterModel", name := "output", desc := "(I)I" } : Jvm.MethodName)) ∈ evW := evm 1006 (by decide +kernel) rfl
set_option maxRecDepth 100000 in
theorem mw_1007 : (Jvm.Cond.code ({ cls := "BlockCounterModel", name := "output", desc := "(I)I" } : Jvm.MethodName) prog_9_method_43_code (2 : Nat) (Option.some Jvm.ClassFile.FieldType.int)) ∈ evW := evm 1007 rfl rfl
set_option maxRecDepth 100000 in
theorem mw_1008 : (Jvm.Cond.methodLink "BlockCounterLaw" (118 : Nat) ({ cls := "BlockCounterModel", name := "counter", desc := "(I)J" } : Jvm.MethodName)) ∈ evW := evm 1008 (by decide +kernel) rfl
set_option maxRecDepth 100000 in
theorem mw_1009 : (Jvm.Cond.instanceMethod ({ cls := "BlockCounterModel", name := "counter", desc := "(I)J" } : Jvm.MethodName)) ∈ evW := evm 1009 (by decide +kernel) rfl
set_option maxRecDepth 100000 in
theorem mw_1010 : (Jvm.Cond.selects "BlockCounterModel" ({ cls := "BlockCounterModel", name := "counter", desc := "(I)J" } : Jvm.MethodName) ({ cls := "BlockCounterModel", name := "counter", desc := "(I)J" } : Jvm.MethodName)) ∈ evW := evm 1010 (by decide +kernel) rfl
set_option maxRecDepth 100000 in
theorem mw_1011 : (Jvm.Cond.code ({ cls := "BlockCounterModel", name := "counter", desc := "(I)J" } : Jvm.MethodName) prog_9_method_44_code (2 : Nat) (Option.some Jvm.ClassFile.FieldType.long)) ∈ evW := evm 1011 rfl rfl
end
section
/-! the cells: 0 the counter, 1 original (2 bytes, 3 traps), 4 tables (5, 6), 7 startCells, 8 analysis (9 instruction, 10 found, 11 isFound, 12 isHead, 13 isInTable, 14 numbers, 15 heads, 16 byteCounts, 17 instructionCounts), 18 rewriting (19 instruction, 20 program, 21 bytes, 22 traps), 23 machine (24 instruction, 25 registers, 26 cells, 27 stack, 28 numbers, 29 counts), 30 the model (31 memory, 32 traps, 33 tableBase, 34 tableCount, 35 data, 36 begins, 37 heads, 38 used, 39 tabled, 40 head, 41 bytes, 42 count, 43 registers, 44 cells, 45 stack, 46 output, 47 counters), 48 out -/
def evLY : List ev_D := [(3, 6, [some 1, some 4, some 7, some 8, some 18, some 23]),
  (3, 3, [some 2, some 3]),
  (0, 256, []),
  (0, 96, []),
  (3, 5, [some 5, some 6, none]),
  (0, 4, []),
  (0, 4, []),
  (0, 16, []),
  (3, 0, [some 9, some 10, some 11, some 12, some 13, some 14, some 15, some 16, some 17, none, none]),
  (3, 1, [none, none, none, none, none]),
  (0, 96, []),
  (1, 96, []),
  (1, 96, []),
  (1, 96, []),
  (0, 96, []),
  (0, 96, []),
  (0, 96, []),
  (0, 96, []),
  (3, 4, [some 19, some 20, none, none]),
  (3, 1, [none, none, none, none, none]),
  (3, 3, [some 21, some 22]),
  (0, 256, []),
  (0, 96, []),
  (3, 2, [some 24, some 25, some 26, some 27, some 28, some 29, none, none, none, none]),
  (3, 1, [none, none, none, none, none]),
  (0, 4, []),
  (0, 16, []),
  (0, 8, []),
  (0, 40, []),
  (2, 64, []),
  (3, 7, [none, some 31, some 32, none, some 33, some 34, some 35, none, none, some 36, some 37, some 38, some 39, none, none, none, some 40, some 41, some 42, none, some 43, some 44, none, none, none, none, none, some 45, some 46, some 47]),
  (0, 512, []),
  (0, 96, []),
  (0, 4, []),
  (0, 4, []),
  (0, 16, []),
  (1, 96, []),
  (1, 96, []),
  (1, 96, []),
  (1, 96, []),
  (0, 96, []),
  (0, 96, []),
  (0, 96, []),
  (0, 4, []),
  (0, 16, []),
  (0, 8, []),
  (0, 40, []),
  (2, 64, []),
  (2, 1, [])]
def RD : String := "BlockCounterModel"
def TD : u_T := fun k => match k with
  | 0 => ("BlockCounterModel", "code", "I", false)
  | 1 => ("BlockCounterModel", "memory", "[I", true)
  | 2 => ("BlockCounterModel", "traps", "[I", true)
  | 3 => ("BlockCounterModel", "tables", "I", false)
  | 4 => ("BlockCounterModel", "tableBase", "[I", true)
  | 5 => ("BlockCounterModel", "tableCount", "[I", true)
  | 6 => ("BlockCounterModel", "data", "[I", true)
  | 7 => ("BlockCounterModel", "analysed", "Z", false)
  | 8 => ("BlockCounterModel", "rewritten", "Z", false)
  | 9 => ("BlockCounterModel", "begins", "[Z", true)
  | 10 => ("BlockCounterModel", "heads", "[Z", true)
  | 11 => ("BlockCounterModel", "used", "[Z", true)
  | 12 => ("BlockCounterModel", "tabled", "[Z", true)
  | 13 => ("BlockCounterModel", "refused", "Z", false)
  | 14 => ("BlockCounterModel", "more", "Z", false)
  | 15 => ("BlockCounterModel", "blocks", "I", false)
  | 16 => ("BlockCounterModel", "head", "[I", true)
  | 17 => ("BlockCounterModel", "bytes", "[I", true)
  | 18 => ("BlockCounterModel", "count", "[I", true)
  | 19 => ("BlockCounterModel", "end", "I", false)
  | 20 => ("BlockCounterModel", "registers", "[I", true)
  | 21 => ("BlockCounterModel", "cells", "[I", true)
  | 22 => ("BlockCounterModel", "pc", "I", false)
  | 23 => ("BlockCounterModel", "height", "I", false)
  | 24 => ("BlockCounterModel", "shown", "I", false)
  | 25 => ("BlockCounterModel", "done", "I", false)
  | 26 => ("BlockCounterModel", "outcome", "I", false)
  | 27 => ("BlockCounterModel", "stack", "[I", true)
  | 28 => ("BlockCounterModel", "output", "[I", true)
  | _ => ("BlockCounterModel", "counters", "[J", true)
def tyD : Nat → FieldType := fun k => match k with
  | 0 => .int
  | 1 => .array .int
  | 2 => .array .int
  | 3 => .int
  | 4 => .array .int
  | 5 => .array .int
  | 6 => .array .int
  | 7 => .boolean
  | 8 => .boolean
  | 9 => .array .boolean
  | 10 => .array .boolean
  | 11 => .array .boolean
  | 12 => .array .boolean
  | 13 => .boolean
  | 14 => .boolean
  | 15 => .int
  | 16 => .array .int
  | 17 => .array .int
  | 18 => .array .int
  | 19 => .int
  | 20 => .array .int
  | 21 => .array .int
  | 22 => .int
  | 23 => .int
  | 24 => .int
  | 25 => .int
  | 26 => .int
  | 27 => .array .int
  | 28 => .array .int
  | _ => .array .long
theorem nmD : ∀ a, a < 30 → ∀ b, b < 30 → a ≠ b → (TD a).2.1 ≠ (TD b).2.1 := by decide +kernel
theorem tyD_ok : ∀ k, k < 30 → parseFieldDescriptor (TD k).2.2.1 = some (tyD k) := by decide +kernel
abbrev evCl : List vw_C := [(RX0, TX0, 11), (RX1, TX1, 5), (RX2, TX2, 10), (RX3, TX3, 2), (RX4, TX4, 4), (RX5, TX5, 3), (RX6, TX6, 6), (RD, TD, 30)]
set_option maxRecDepth 100000 in
theorem inE_A : ∀ w ∈ u_ws RX0 TX0 11, w ∈ evW := by decide +kernel
set_option maxRecDepth 100000 in
theorem inE_I : ∀ w ∈ u_ws RX1 TX1 5, w ∈ evW := by decide +kernel
set_option maxRecDepth 100000 in
theorem inE_M : ∀ w ∈ u_ws RX2 TX2 10, w ∈ evW := by decide +kernel
set_option maxRecDepth 100000 in
theorem inE_P : ∀ w ∈ u_ws RX3 TX3 2, w ∈ evW := by decide +kernel
set_option maxRecDepth 100000 in
theorem inE_R : ∀ w ∈ u_ws RX4 TX4 4, w ∈ evW := by decide +kernel
set_option maxRecDepth 100000 in
theorem inE_T : ∀ w ∈ u_ws RX5 TX5 3, w ∈ evW := by decide +kernel
set_option maxRecDepth 100000 in
theorem inE_B : ∀ w ∈ u_ws RX6 TX6 6, w ∈ evW := by decide +kernel
set_option maxRecDepth 100000 in
theorem inE_D : ∀ w ∈ u_ws RD TD 30, w ∈ evW := by decide +kernel
theorem evG {w0 : Cond} {ws : List Cond} (h : ∀ w ∈ ws, w ∈ evW) : GoodIn (w0 :: evW) ws := fun w hw => ⟨List.mem_cons_of_mem _ (h w hw), good_of_word (List.mem_filter.mp (h w hw)).2⟩
theorem evGV {w0 : Cond} {own C : String} {idx maxL : Nat} {y : MethodName} {c : ByteArray} {ret : Option FieldType} (h1 : Cond.methodLink own idx y ∈ evW) (h2 : Cond.instanceMethod y ∈ evW) (h3 : Cond.selects C y y ∈ evW) (h4 : Cond.initialized C ∈ evW) (h5 : Cond.code y c maxL ret ∈ evW) : GoodIn (w0 :: evW) (wsV own idx C y (.code y c maxL ret :: evW)) := evG (by
  intro w hw
  unfold wsV at hw
  simp only [List.cons_append, List.nil_append, List.mem_cons] at hw
  rcases hw with rfl | rfl | rfl | rfl | rfl | hw
  · exact h1
  · exact h2
  · exact h3
  · exact h4
  · exact h5
  · exact hw)
theorem evGS {w0 : Cond} {own : String} {idx maxL : Nat} {y : MethodName} {c : ByteArray} {ret : Option FieldType} (h1 : Cond.methodLink own idx y ∈ evW) (h2 : Cond.static y ∈ evW) (h4 : Cond.initialized y.cls ∈ evW) (h5 : Cond.code y c maxL ret ∈ evW) : GoodIn (w0 :: evW) (va_wsS own idx y (.code y c maxL ret :: evW)) := evG (by
  intro w hw
  unfold va_wsS at hw
  simp only [List.cons_append, List.nil_append, List.mem_cons] at hw
  rcases hw with rfl | rfl | rfl | rfl | hw
  · exact h1
  · exact h2
  · exact h4
  · exact h5
  · exact hw)
end
section
/-! numbers -/
theorem br_n {c A B : Prop} (a : ¬ c → A) (b : c → B) : (¬ c → A) ∧ (c → B) := ⟨a, b⟩
theorem i_vin {a b : Int32} {n : Nat} (hb : b.toInt = n) (h1 : ¬ a < 0) (h2 : ¬ b ≤ a) : vp_in a n := by
  rw [vp_in_iff]
  rw [Int32.lt_iff_toInt_lt] at h1
  rw [Int32.le_iff_toInt_le] at h2
  have : (0 : Int32).toInt = 0 := rfl
  omega
theorem i_vin2 {a b : Int32} {n : Nat} (hb : b.toInt = n) (h1 : 0 ≤ a) (h2 : a < b) : vp_in a n := by
  rw [vp_in_iff]
  rw [Int32.le_iff_toInt_le] at h1
  rw [Int32.lt_iff_toInt_lt] at h2
  have : (0 : Int32).toInt = 0 := rfl
  omega
/-- the byte at an address; 0 outside -/
def sp_at (f : Nat → Int32) (a : Int32) : Int32 := if 0 ≤ a ∧ a < 256 then f a.toNatClampNeg else 0
theorem sp_at_in {f : Nat → Int32} {a : Int32} (h : ¬ a < 0) (h2 : ¬ 256 ≤ a) : sp_at f a = f a.toNatClampNeg := if_pos ⟨Int32.not_lt.mp h, Int32.not_le.mp h2⟩
theorem sp_at_lo {f : Nat → Int32} {a : Int32} (h : a < 0) : sp_at f a = 0 := if_neg fun q => absurd (Int32.not_lt.mpr q.1) (fun w => w h)
theorem sp_at_hi {f : Nat → Int32} {a : Int32} (h : 256 ≤ a) : sp_at f a = 0 := if_neg fun q => absurd (Int32.not_le.mpr q.2) (fun w => w h)
end
section
/-! methods of java/lang/Math (no row of the natives is theirs), java/util/Arrays -/
theorem ev_ofWF {l : Launch} {y : MethodName} {ws ws' : List Cond} {rm : Room} {Pc : Array Value → State → Prop} {Qc : Array Value → State → Outcome → State → Prop} {mc ms : Nat} {free : Addr → Prop} {cc : ByteArray} {maxL : Nat} {ret : Option FieldType}
    (hy : plainFor y = true) (hw : ws = Cond.code y cc maxL ret :: ws')
    (body : ∀ p e s m args below meth c s₁, BodyLoose p l y (headSpec ws rm) cc maxL ret e s m args below meth c s₁ → c.maxLocals = maxL → Pc args s →
      W p l e (headSpec ws rm).room s m args below meth c s.heap [] 0 0 (MQ below Qc args s mc ms free) (entryFrame m args maxL)) : Met l y ws rm Pc Qc mc ms free := by
  refine MetFree.of_bodySF (code := cc) (maxLocals := maxL) (ret := ret) hy ?_ ?_
  · intro args s m h hn
    obtain ⟨meth, c, h1, h2, h3, h4, h5, h6, -, -⟩ := Cond.code_spec hn (atoms_spec (ws := ws) h _ (by rw [hw]; exact List.mem_cons_self))
    exact ⟨meth, c, h1, h2, h3, h4, h5, h6⟩
  · intro p e s m args below meth c s₁ B hml hP _
    have hh0 : s₁.heap = s.heap := by rw [B.state]; rfl
    obtain ⟨t, a1, o, b1, b2, b3⟩ := body p e s m args below meth c s₁ B hml hP s₁ hh0 (Stand.of_body B)
    exact ⟨t, o, a1, b1, b2, ⟨b3.1, b3.2⟩⟩
theorem ev_methF {ρ : Type} {ι : ρ → Option Value} {l : Launch} {y : MethodName} {ws ws' : List Cond} {rm : Room} {LY : List ev_D} {cl : List vw_C} {pre : List Value → ev_M → ev_L → Prop} {post : List Value → ev_M → ev_L → ρ → ev_M → ev_L → Prop} {cc : ByteArray} {maxL : Nat} {ret : Option FieldType} {rop : Instr}
    (hy : plainFor y = true) (hw : ws = Cond.code y cc maxL ret :: ws') (hrop : ev_rop ret ι rop) (hwd : ∀ (as : List Value) (σ : ev_M) (τ : ev_L), pre as σ τ → ev_wd as ≤ maxL)
    (body : ∀ (J : ev_K) (as : List Value) (σ : ev_M) (τ : ev_L), pre as σ τ → ev_X l rm LY cl ws cc maxL y.cls J → ev_Z J cc rop ι (post as σ τ) → J 0 (ev_in maxL as) [] σ τ 0) : ev_C ι l y ws rm LY cl pre post := by
  intro D K3 ad sz as σ τ hpre
  refine ev_ofWF (cc := cc) (maxL := maxL) (ret := ret) hy hw ?_
  intro p e s m args below meth c s₁ B hml hv
  obtain ⟨rfl, hsz, hP, hK, hD0⟩ := hv
  have hx := B.exec
  have hb := B.bytes
  have hr := B.returns
  have hts := atoms_spec (ws := ws) B.pre
  have hown : s.vm.findClass y.cls = some m.cls := findClass_of_methodNamed B.named
  have hlocks := B.notSynchronized
  subst hsz
  have hD1 := hD0.self (sz := s.heap.size)
  have hl := lv_entry (as.map (ev_v ad)) (n := maxL) (by rw [ev_wd_sl]; exact hwd as σ τ hpre)
  rw [lg_entry_eq]
  generalize (lg_sl (as.map (ev_v ad)) ++ List.replicate (maxL - (lg_sl (as.map (ev_v ad))).length) Slot.unset).toArray = ls at hl ⊢
  have hL : ev_h ad ls maxL (ev_in maxL as) := by
    refine ⟨hl.1, hl.2.1, fun q hq => hl.2.2 q ?_⟩
    obtain ⟨v, h1, h2, h3⟩ := ev_ps_mem.mp hq
    have h4 := ev_in_at maxL as 0 q.1 v ad h1 h2
    rw [Nat.zero_add, ← h3] at h4
    exact h4
  have hX : ev_X l rm LY cl ws cc maxL y.cls (ev_WS p l e (headSpec ws rm).room s m (as.map (ev_v ad)).toArray below meth c (MQ below (ev_Q ι LY cl D K3 ad (va_A (ev_lay LY K3 ad σ τ) s.heap.size) (post as σ τ)) (as.map (ev_v ad)).toArray s 0 0 (va_A (ev_lay LY K3 ad σ τ) s.heap.size)) maxL D cl LY K3 ad (va_A (ev_lay LY K3 ad σ τ) s.heap.size) 0 0) :=
    ⟨p, e, s, m, _, below, meth, c, _, D, K3, ad, _, 0, 0, rfl, hx, hb, hml, hown, hts, hK, fun σ' τ' => ev_D_any hD1, fun q hq => Or.inr hq, Nat.zero_le _, Nat.zero_le _⟩
  refine body _ as σ τ hpre hX ?_ s.heap [] ls hP va_S.rf hL
  intro pc lv r σ' τ' d hp H locs ls' hP' hS' _
  refine hrop p l e _ s m _ below meth c H locs 0 0 _ _ cc pc ls' ad r hx hb hr hlocks d (fun t ht hW => ?_) hS'.2.2
  exact ⟨⟨r, σ', τ', rfl, hp, by rw [ht]; exact hP', va_K.moved hW.alike hK⟩, hS'.F ht⟩
theorem ev_methF0 {ρ : Type} {ι : ρ → Option Value} {l : Launch} {y : MethodName} {ws ws' : List Cond} {rm : Room} {LY : List ev_D} {cl : List vw_C} {pre : List Value → ev_M → ev_L → Prop} {post : List Value → ev_M → ev_L → ρ → ev_M → ev_L → Prop} {cc : ByteArray} {maxL : Nat} {ret : Option FieldType} {rop : Instr}
    (hy : plainFor y = true) (hw : ws = Cond.code y cc maxL ret :: ws') (hrop : ev_rop ret ι rop) (hwd : ∀ (as : List Value) (σ : ev_M) (τ : ev_L), pre as σ τ → ev_wd as ≤ maxL) (I : (ρ → ev_M → ev_L → Prop) → List (Nat × ev_T))
    (ok : ∀ (J : ev_K) (P : ρ → ev_M → ev_L → Prop), ev_X l rm LY cl ws cc maxL y.cls J → ev_Z J cc rop ι P → ev_oks J (I P)) (f : Nat)
    (body : ∀ (as : List Value) (σ : ev_M) (τ : ev_L), pre as σ τ → ev_wp (I (post as σ τ)) [] f 0 (ev_in maxL as) [] σ τ 0 (fun _ _ _ _ _ _ => False)) : ev_C ι l y ws rm LY cl pre post :=
  ev_methF hy hw hrop hwd (fun J as σ τ hpre X Z => ev_sound (ok J _ X Z) (fun _ _ _ _ _ _ h => h.elim) (body as σ τ hpre))
def y_JM_min : MethodName := ⟨"java/lang/Math", "min", "(II)I"⟩
def ws_JM_min : List Cond := .code y_JM_min prog_14_method_69_code 2 (some .int) :: evW
theorem d_JM_min_0 : decode prog_14_method_69_code 0 = .ok (.iload_n 0, 1) := by decide +kernel
theorem d_JM_min_1 : decode prog_14_method_69_code 1 = .ok (.iload_n 1, 1) := by decide +kernel
theorem d_JM_min_2 : decode prog_14_method_69_code 2 = .ok (.if_icmp .gt 7, 3) := by decide +kernel
theorem d_JM_min_5 : decode prog_14_method_69_code 5 = .ok (.iload_n 0, 1) := by decide +kernel
theorem d_JM_min_6 : decode prog_14_method_69_code 6 = .ok (.goto 4, 3) := by decide +kernel
theorem d_JM_min_9 : decode prog_14_method_69_code 9 = .ok (.iload_n 1, 1) := by decide +kernel
theorem d_JM_min_10 : decode prog_14_method_69_code 10 = .ok (.ireturn, 1) := by decide +kernel
def I_JM_min (P : Int32 → ev_M → ev_L → Prop) : List (Nat × ev_T) := [(0, tt_il 0 1),
  (1, tt_il 1 2),
  (2, tt_icgt 9 5),
  (5, tt_il 0 6),
  (6, tt_go 10),
  (9, tt_il 1 10),
  (10, tt_ri P)]
abbrev rm_JM_min : Room := { frames := 0, cells := 0, slots := 0, locals := 0 }
set_option maxRecDepth 20000 in
theorem ok_JM_min (l : Launch) (J : ev_K) (P : Int32 → ev_M → ev_L → Prop) (X : ev_X l rm_JM_min evLY evCl ws_JM_min prog_14_method_69_code 2 y_JM_min.cls J) (Z : ev_Z J prog_14_method_69_code .ireturn ev_i P) : ev_oks J (I_JM_min P) :=
  ⟨qq_iln X 0 rfl d_JM_min_0,
  qq_iln X 1 rfl d_JM_min_1,
  qq_icgt X 9 (by decide) d_JM_min_2,
  qq_iln X 0 rfl d_JM_min_5,
  qq_go X 10 (by decide) d_JM_min_6,
  qq_iln X 1 rfl d_JM_min_9,
  qq_ri Z d_JM_min_10, trivial⟩
def pre_JM_min : List Value → ev_M → ev_L → Prop := fun as _ _ => ∃ (a b : Int32), as = [.int a, .int b]
def post_JM_min : List Value → ev_M → ev_L → Int32 → ev_M → ev_L → Prop := fun as σ τ r σ' τ' => match as with
  | [.int a, .int b] => r = (if b < a then b else a) ∧ σ' = σ ∧ τ' = τ
  | _ => False
set_option maxHeartbeats 4000000 in
set_option maxRecDepth 100000 in
theorem c_JM_min (l : Launch) : ev_C ev_i l y_JM_min ws_JM_min rm_JM_min evLY evCl pre_JM_min post_JM_min := by
  refine ev_methF0 (by decide +kernel) rfl ev_rop_i ?_ I_JM_min (ok_JM_min l) 30 ?_
  · rintro _ σ τ ⟨a, b, rfl⟩
    exact Nat.le_refl _
  · rintro _ σ τ ⟨a, b, rfl⟩
    refine br_c (fun h => ?_) (fun h => ?_)
    · exact ⟨(if_pos h).symm, rfl, rfl⟩
    · exact ⟨(if_neg h).symm, rfl, rfl⟩
def sp_fm (x y : Int32) : Int32 := if x ^^^ y < 0 ∧ ¬ (x - x / y * y) = 0 then (x - x / y * y) + y else (x - x / y * y)
def y_JM_floorMod : MethodName := ⟨"java/lang/Math", "floorMod", "(II)I"⟩
def ws_JM_floorMod : List Cond := .code y_JM_floorMod prog_14_method_50_code 3 (some .int) :: evW
theorem d_JM_floorMod_0 : decode prog_14_method_50_code 0 = .ok (.iload_n 0, 1) := by decide +kernel
theorem d_JM_floorMod_1 : decode prog_14_method_50_code 1 = .ok (.iload_n 1, 1) := by decide +kernel
theorem d_JM_floorMod_2 : decode prog_14_method_50_code 2 = .ok (.irem, 1) := by decide +kernel
theorem d_JM_floorMod_3 : decode prog_14_method_50_code 3 = .ok (.istore_n 2, 1) := by decide +kernel
theorem d_JM_floorMod_4 : decode prog_14_method_50_code 4 = .ok (.iload_n 0, 1) := by decide +kernel
theorem d_JM_floorMod_5 : decode prog_14_method_50_code 5 = .ok (.iload_n 1, 1) := by decide +kernel
theorem d_JM_floorMod_6 : decode prog_14_method_50_code 6 = .ok (.ixor, 1) := by decide +kernel
theorem d_JM_floorMod_7 : decode prog_14_method_50_code 7 = .ok (.ifCond .ge 11, 3) := by decide +kernel
theorem d_JM_floorMod_10 : decode prog_14_method_50_code 10 = .ok (.iload_n 2, 1) := by decide +kernel
theorem d_JM_floorMod_11 : decode prog_14_method_50_code 11 = .ok (.ifCond .eq 7, 3) := by decide +kernel
theorem d_JM_floorMod_14 : decode prog_14_method_50_code 14 = .ok (.iload_n 2, 1) := by decide +kernel
theorem d_JM_floorMod_15 : decode prog_14_method_50_code 15 = .ok (.iload_n 1, 1) := by decide +kernel
theorem d_JM_floorMod_16 : decode prog_14_method_50_code 16 = .ok (.iadd, 1) := by decide +kernel
theorem d_JM_floorMod_17 : decode prog_14_method_50_code 17 = .ok (.ireturn, 1) := by decide +kernel
theorem d_JM_floorMod_18 : decode prog_14_method_50_code 18 = .ok (.iload_n 2, 1) := by decide +kernel
theorem d_JM_floorMod_19 : decode prog_14_method_50_code 19 = .ok (.ireturn, 1) := by decide +kernel
def I_JM_floorMod (P : Int32 → ev_M → ev_L → Prop) : List (Nat × ev_T) := [(0, tt_il 0 1),
  (1, tt_il 1 2),
  (2, tt_irem 3),
  (3, tt_is 2 4),
  (4, tt_il 0 5),
  (5, tt_il 1 6),
  (6, tt_ixor 7),
  (7, tt_ifge 18 10),
  (10, tt_il 2 11),
  (11, tt_ifeq 18 14),
  (14, tt_il 2 15),
  (15, tt_il 1 16),
  (16, tt_iadd 17),
  (17, tt_ri P),
  (18, tt_il 2 19),
  (19, tt_ri P)]
abbrev rm_JM_floorMod : Room := { frames := 0, cells := 0, slots := 0, locals := 0 }
set_option maxRecDepth 20000 in
theorem ok_JM_floorMod (l : Launch) (J : ev_K) (P : Int32 → ev_M → ev_L → Prop) (X : ev_X l rm_JM_floorMod evLY evCl ws_JM_floorMod prog_14_method_50_code 3 y_JM_floorMod.cls J) (Z : ev_Z J prog_14_method_50_code .ireturn ev_i P) : ev_oks J (I_JM_floorMod P) :=
  ⟨qq_iln X 0 rfl d_JM_floorMod_0,
  qq_iln X 1 rfl d_JM_floorMod_1,
  qq_irem X d_JM_floorMod_2,
  qq_isn X 2 rfl (by decide) d_JM_floorMod_3,
  qq_iln X 0 rfl d_JM_floorMod_4,
  qq_iln X 1 rfl d_JM_floorMod_5,
  qq_ixor X d_JM_floorMod_6,
  qq_ifge X 18 (by decide) d_JM_floorMod_7,
  qq_iln X 2 rfl d_JM_floorMod_10,
  qq_ifeq X 18 (by decide) d_JM_floorMod_11,
  qq_iln X 2 rfl d_JM_floorMod_14,
  qq_iln X 1 rfl d_JM_floorMod_15,
  qq_iadd X d_JM_floorMod_16,
  qq_ri Z d_JM_floorMod_17,
  qq_iln X 2 rfl d_JM_floorMod_18,
  qq_ri Z d_JM_floorMod_19, trivial⟩
def pre_JM_floorMod : List Value → ev_M → ev_L → Prop := fun as _ _ => ∃ (a b : Int32), as = [.int a, .int b] ∧ ¬ b = 0
def post_JM_floorMod : List Value → ev_M → ev_L → Int32 → ev_M → ev_L → Prop := fun as σ τ r σ' τ' => match as with
  | [.int a, .int b] => r = sp_fm a b ∧ σ' = σ ∧ τ' = τ
  | _ => False
set_option maxHeartbeats 4000000 in
set_option maxRecDepth 100000 in
theorem c_JM_floorMod (l : Launch) : ev_C ev_i l y_JM_floorMod ws_JM_floorMod rm_JM_floorMod evLY evCl pre_JM_floorMod post_JM_floorMod := by
  refine ev_methF0 (by decide +kernel) rfl ev_rop_i ?_ I_JM_floorMod (ok_JM_floorMod l) 30 ?_
  · rintro _ σ τ ⟨a, b, rfl, h⟩
    exact Nat.le_of_ble_eq_true rfl
  · rintro _ σ τ ⟨a, b, rfl, h⟩
    refine ⟨h, br_c (fun h2 => ?_) (fun h2 => br_c (fun h3 => ?_) (fun h3 => ?_))⟩
    · exact ⟨(if_neg fun q => absurd q.1 (Int32.not_lt.mpr h2)).symm, rfl, rfl⟩
    · exact ⟨(if_neg fun q => q.2 h3).symm, rfl, rfl⟩
    · exact ⟨(if_pos ⟨Int32.not_le.mp h2, h3⟩).symm, rfl, rfl⟩
def y_J_fillI : MethodName := ⟨"java/util/Arrays", "fill", "([II)V"⟩
def ws_J_fillI : List Cond := .code y_J_fillI prog_20_method_103_code 4 none :: evW
theorem d_J_fillI_0 : decode prog_20_method_103_code 0 = .ok (.iconst 0, 1) := by decide +kernel
theorem d_J_fillI_1 : decode prog_20_method_103_code 1 = .ok (.istore_n 2, 1) := by decide +kernel
theorem d_J_fillI_2 : decode prog_20_method_103_code 2 = .ok (.aload_n 0, 1) := by decide +kernel
theorem d_J_fillI_3 : decode prog_20_method_103_code 3 = .ok (.arraylength, 1) := by decide +kernel
theorem d_J_fillI_4 : decode prog_20_method_103_code 4 = .ok (.istore_n 3, 1) := by decide +kernel
theorem d_J_fillI_5 : decode prog_20_method_103_code 5 = .ok (.iload_n 2, 1) := by decide +kernel
theorem d_J_fillI_6 : decode prog_20_method_103_code 6 = .ok (.iload_n 3, 1) := by decide +kernel
theorem d_J_fillI_7 : decode prog_20_method_103_code 7 = .ok (.if_icmp .ge 13, 3) := by decide +kernel
theorem d_J_fillI_10 : decode prog_20_method_103_code 10 = .ok (.aload_n 0, 1) := by decide +kernel
theorem d_J_fillI_11 : decode prog_20_method_103_code 11 = .ok (.iload_n 2, 1) := by decide +kernel
theorem d_J_fillI_12 : decode prog_20_method_103_code 12 = .ok (.iload_n 1, 1) := by decide +kernel
theorem d_J_fillI_13 : decode prog_20_method_103_code 13 = .ok (.iastore, 1) := by decide +kernel
theorem d_J_fillI_14 : decode prog_20_method_103_code 14 = .ok (.iinc 2 1, 3) := by decide +kernel
theorem d_J_fillI_17 : decode prog_20_method_103_code 17 = .ok (.goto (-12), 3) := by decide +kernel
theorem d_J_fillI_20 : decode prog_20_method_103_code 20 = .ok (.return_, 1) := by decide +kernel
def I_J_fillI (P : Unit → ev_M → ev_L → Prop) : List (Nat × ev_T) := [(0, tt_k 0 1),
  (1, tt_is 2 2),
  (2, tt_al 0 3),
  (3, tt_alen evLY 4),
  (4, tt_is 3 5),
  (5, tt_il 2 6),
  (6, tt_il 3 7),
  (7, tt_icge 20 10),
  (10, tt_al 0 11),
  (11, tt_il 2 12),
  (12, tt_il 1 13),
  (13, tt_ias evLY 14),
  (14, tt_ii 2 1 17),
  (17, tt_go 5),
  (20, tt_rv P)]
abbrev rm_J_fillI : Room := { frames := 0, cells := 0, slots := 0, locals := 0 }
set_option maxRecDepth 20000 in
theorem ok_J_fillI (l : Launch) (J : ev_K) (P : Unit → ev_M → ev_L → Prop) (X : ev_X l rm_J_fillI evLY evCl ws_J_fillI prog_20_method_103_code 4 y_J_fillI.cls J) (Z : ev_Z J prog_20_method_103_code .return_ ev_n P) : ev_oks J (I_J_fillI P) :=
  ⟨qq_ic X 0 (by decide) d_J_fillI_0,
  qq_isn X 2 rfl (by decide) d_J_fillI_1,
  qq_aln X 0 rfl d_J_fillI_2,
  qq_alen X d_J_fillI_3,
  qq_isn X 3 rfl (by decide) d_J_fillI_4,
  qq_iln X 2 rfl d_J_fillI_5,
  qq_iln X 3 rfl d_J_fillI_6,
  qq_icge X 20 (by decide) d_J_fillI_7,
  qq_aln X 0 rfl d_J_fillI_10,
  qq_iln X 2 rfl d_J_fillI_11,
  qq_iln X 1 rfl d_J_fillI_12,
  qq_ias X d_J_fillI_13,
  qq_ii X 2 1 (by decide) (by decide) d_J_fillI_14,
  qq_go X 5 (by decide) d_J_fillI_17,
  qq_rv Z d_J_fillI_20, trivial⟩
def sp_fill {α : Type} (f : Nat → α) (n : Nat) (v : α) : Nat → α := fun j => if j < n then v else f j
theorem sp_fill_0 {α : Type} (f : Nat → α) (v : α) : sp_fill f 0 v = f := by funext j; simp [sp_fill]
theorem sp_fill_s (f : Nat → Int32) (n : Nat) (v : Int32) : upd (sp_fill f n v) n v = sp_fill f (n + 1) v := by
  funext j
  unfold upd sp_fill
  by_cases h : j = n
  · simp [h]
  · by_cases h2 : j < n
    · simp [h, h2, show j < n + 1 by omega]
    · simp [h, h2, show ¬ j < n + 1 by omega]
theorem sp_fill_sL (f : Nat → Int64) (n : Nat) (v : Int64) : vp_updL (sp_fill f n v) n v = sp_fill f (n + 1) v := by
  funext j
  unfold vp_updL sp_fill
  by_cases h : j = n
  · simp [h]
  · by_cases h2 : j < n
    · simp [h, h2, show j < n + 1 by omega]
    · simp [h, h2, show ¬ j < n + 1 by omega]
theorem ev_p_p {α : Type} (σ : Nat → Nat → α) (k : Nat) (f g : Nat → α) : ev_p (ev_p σ k f) k g = ev_p σ k g := by
  funext q
  unfold ev_p
  by_cases h : q = k <;> simp [h]
theorem ev_p_k {α : Type} (σ : Nat → Nat → α) (k : Nat) (f : Nat → α) : ev_p σ k f k = f := if_pos rfl
def pre_J_fillI : List Value → ev_M → ev_L → Prop := fun as _ _ => ∃ (k : Nat) (v : Int32), as = [.ref k, .int v] ∧ (k = 14 ∨ k = 25)
def post_J_fillI : List Value → ev_M → ev_L → Unit → ev_M → ev_L → Prop := fun as σ τ _ σ' τ' => match as with
  | [.ref k, .int v] => σ' = ev_p σ k (sp_fill (σ k) (if k = 14 then 96 else 4) v) ∧ τ' = τ
  | _ => False
set_option maxHeartbeats 4000000 in
set_option maxRecDepth 100000 in
theorem c_J_fillI (l : Launch) : ev_C ev_n l y_J_fillI ws_J_fillI rm_J_fillI evLY evCl pre_J_fillI post_J_fillI := by
  refine ev_methL (by decide) rfl ev_rop_v ?_ I_J_fillI (ok_J_fillI l) [5] 40 ?_
  · rintro _ σ τ ⟨k, v, rfl, h⟩
    exact Nat.le_of_ble_eq_true rfl
  · rintro _ σ τ ⟨k, v, rfl, rfl | rfl⟩
    · refine ⟨fun μ pc lv st σ' τ' n => τ' = τ ∧ st = [] ∧ n = 0 ∧ ((pc = 0 ∧ μ = 200 ∧ lv = [.ref 14, .int v, .null, .null] ∧ σ' = σ) ∨ (pc = 5 ∧ ∃ i : Nat, i ≤ 96 ∧ μ = 96 - i ∧ lv = [.ref 14, .int v, .int (nI i), .int 96] ∧ σ' = ev_p σ 14 (sp_fill (σ 14) i v))), ⟨200, rfl, rfl, rfl, Or.inl ⟨rfl, rfl, rfl, rfl⟩⟩, ?_⟩
      rintro μ pc lv st σ' τ' n ⟨rfl, rfl, rfl, ⟨rfl, rfl, rfl, rfl⟩ | ⟨rfl, i, hi, rfl, rfl, rfl⟩⟩
      · exact ⟨96, by omega, rfl, rfl, rfl, Or.inr ⟨rfl, 0, Nat.zero_le _, rfl, rfl, by rw [sp_fill_0, ev_p_same]⟩⟩
      · refine br_c (fun h => ?_) (fun h => ?_)
        · have hin : 96 ≤ i := (nI_leI (a := 96) (by omega) (by omega)).mp h
          have : i = 96 := by omega
          subst this
          exact ⟨rfl, rfl⟩
        · have hin : i < 96 := Nat.not_le.mp fun q => h ((nI_leI (a := 96) (by omega) (by omega)).mpr q)
          refine ⟨vp_in_nI hin (by omega), ⟨96 - (i + 1), by omega, rfl, rfl, rfl, Or.inr ⟨rfl, i + 1, by omega, rfl, by rw [← nI_1], ?_⟩⟩⟩
          show ev_u _ 14 _ _ = _
          unfold ev_u
          rw [ev_p_k, ev_p_p, nI_clamp (by omega), sp_fill_s]
    · refine ⟨fun μ pc lv st σ' τ' n => τ' = τ ∧ st = [] ∧ n = 0 ∧ ((pc = 0 ∧ μ = 200 ∧ lv = [.ref 25, .int v, .null, .null] ∧ σ' = σ) ∨ (pc = 5 ∧ ∃ i : Nat, i ≤ 4 ∧ μ = 4 - i ∧ lv = [.ref 25, .int v, .int (nI i), .int 4] ∧ σ' = ev_p σ 25 (sp_fill (σ 25) i v))), ⟨200, rfl, rfl, rfl, Or.inl ⟨rfl, rfl, rfl, rfl⟩⟩, ?_⟩
      rintro μ pc lv st σ' τ' n ⟨rfl, rfl, rfl, ⟨rfl, rfl, rfl, rfl⟩ | ⟨rfl, i, hi, rfl, rfl, rfl⟩⟩
      · exact ⟨4, by omega, rfl, rfl, rfl, Or.inr ⟨rfl, 0, Nat.zero_le _, rfl, rfl, by rw [sp_fill_0, ev_p_same]⟩⟩
      · refine br_c (fun h => ?_) (fun h => ?_)
        · have hin : 4 ≤ i := (nI_leI (a := 4) (by omega) (by omega)).mp h
          have : i = 4 := by omega
          subst this
          exact ⟨rfl, rfl⟩
        · have hin : i < 4 := Nat.not_le.mp fun q => h ((nI_leI (a := 4) (by omega) (by omega)).mpr q)
          refine ⟨vp_in_nI hin (by omega), ⟨4 - (i + 1), by omega, rfl, rfl, rfl, Or.inr ⟨rfl, i + 1, by omega, rfl, by rw [← nI_1], ?_⟩⟩⟩
          show ev_u _ 25 _ _ = _
          unfold ev_u
          rw [ev_p_k, ev_p_p, nI_clamp (by omega), sp_fill_s]
def y_J_fillJ : MethodName := ⟨"java/util/Arrays", "fill", "([JJ)V"⟩
def ws_J_fillJ : List Cond := .code y_J_fillJ prog_20_method_101_code 5 none :: evW
theorem d_J_fillJ_0 : decode prog_20_method_101_code 0 = .ok (.iconst 0, 1) := by decide +kernel
theorem d_J_fillJ_1 : decode prog_20_method_101_code 1 = .ok (.istore_n 3, 1) := by decide +kernel
theorem d_J_fillJ_2 : decode prog_20_method_101_code 2 = .ok (.aload_n 0, 1) := by decide +kernel
theorem d_J_fillJ_3 : decode prog_20_method_101_code 3 = .ok (.arraylength, 1) := by decide +kernel
theorem d_J_fillJ_4 : decode prog_20_method_101_code 4 = .ok (.istore 4, 2) := by decide +kernel
theorem d_J_fillJ_6 : decode prog_20_method_101_code 6 = .ok (.iload_n 3, 1) := by decide +kernel
theorem d_J_fillJ_7 : decode prog_20_method_101_code 7 = .ok (.iload 4, 2) := by decide +kernel
theorem d_J_fillJ_9 : decode prog_20_method_101_code 9 = .ok (.if_icmp .ge 13, 3) := by decide +kernel
theorem d_J_fillJ_12 : decode prog_20_method_101_code 12 = .ok (.aload_n 0, 1) := by decide +kernel
theorem d_J_fillJ_13 : decode prog_20_method_101_code 13 = .ok (.iload_n 3, 1) := by decide +kernel
theorem d_J_fillJ_14 : decode prog_20_method_101_code 14 = .ok (.lload_n 1, 1) := by decide +kernel
theorem d_J_fillJ_15 : decode prog_20_method_101_code 15 = .ok (.lastore, 1) := by decide +kernel
theorem d_J_fillJ_16 : decode prog_20_method_101_code 16 = .ok (.iinc 3 1, 3) := by decide +kernel
theorem d_J_fillJ_19 : decode prog_20_method_101_code 19 = .ok (.goto (-13), 3) := by decide +kernel
theorem d_J_fillJ_22 : decode prog_20_method_101_code 22 = .ok (.return_, 1) := by decide +kernel
def I_J_fillJ (P : Unit → ev_M → ev_L → Prop) : List (Nat × ev_T) := [(0, tt_k 0 1),
  (1, tt_is 3 2),
  (2, tt_al 0 3),
  (3, tt_alen evLY 4),
  (4, tt_is 4 6),
  (6, tt_il 3 7),
  (7, tt_il 4 9),
  (9, tt_icge 22 12),
  (12, tt_al 0 13),
  (13, tt_il 3 14),
  (14, tt_ll 1 15),
  (15, tt_las evLY 16),
  (16, tt_ii 3 1 19),
  (19, tt_go 6),
  (22, tt_rv P)]
abbrev rm_J_fillJ : Room := { frames := 0, cells := 0, slots := 0, locals := 0 }
set_option maxRecDepth 20000 in
theorem ok_J_fillJ (l : Launch) (J : ev_K) (P : Unit → ev_M → ev_L → Prop) (X : ev_X l rm_J_fillJ evLY evCl ws_J_fillJ prog_20_method_101_code 5 y_J_fillJ.cls J) (Z : ev_Z J prog_20_method_101_code .return_ ev_n P) : ev_oks J (I_J_fillJ P) :=
  ⟨qq_ic X 0 (by decide) d_J_fillJ_0,
  qq_isn X 3 rfl (by decide) d_J_fillJ_1,
  qq_aln X 0 rfl d_J_fillJ_2,
  qq_alen X d_J_fillJ_3,
  qq_is X 4 (by decide) d_J_fillJ_4,
  qq_iln X 3 rfl d_J_fillJ_6,
  qq_il X 4 d_J_fillJ_7,
  qq_icge X 22 (by decide) d_J_fillJ_9,
  qq_aln X 0 rfl d_J_fillJ_12,
  qq_iln X 3 rfl d_J_fillJ_13,
  qq_lln X 1 rfl d_J_fillJ_14,
  qq_las X d_J_fillJ_15,
  qq_ii X 3 1 (by decide) (by decide) d_J_fillJ_16,
  qq_go X 6 (by decide) d_J_fillJ_19,
  qq_rv Z d_J_fillJ_22, trivial⟩
def pre_J_fillJ : List Value → ev_M → ev_L → Prop := fun as _ _ => ∃ v : Int64, as = [.ref 29, .long v]
def post_J_fillJ : List Value → ev_M → ev_L → Unit → ev_M → ev_L → Prop := fun as σ τ _ σ' τ' => match as with
  | [.ref _, .long v] => σ' = σ ∧ τ' = ev_p τ 29 (sp_fill (τ 29) 64 v)
  | _ => False
set_option maxHeartbeats 4000000 in
set_option maxRecDepth 100000 in
theorem c_J_fillJ (l : Launch) : ev_C ev_n l y_J_fillJ ws_J_fillJ rm_J_fillJ evLY evCl pre_J_fillJ post_J_fillJ := by
  refine ev_methL (by decide) rfl ev_rop_v ?_ I_J_fillJ (ok_J_fillJ l) [6] 40 ?_
  · rintro _ σ τ ⟨v, rfl⟩
    exact Nat.le_of_ble_eq_true rfl
  · rintro _ σ τ ⟨v, rfl⟩
    refine ⟨fun μ pc lv st σ' τ' n => σ' = σ ∧ st = [] ∧ n = 0 ∧ ((pc = 0 ∧ μ = 200 ∧ lv = [.ref 29, .long v, .null, .null, .null] ∧ τ' = τ) ∨ (pc = 6 ∧ ∃ i : Nat, i ≤ 64 ∧ μ = 64 - i ∧ lv = [.ref 29, .long v, .null, .int (nI i), .int 64] ∧ τ' = ev_p τ 29 (sp_fill (τ 29) i v))), ⟨200, rfl, rfl, rfl, Or.inl ⟨rfl, rfl, rfl, rfl⟩⟩, ?_⟩
    rintro μ pc lv st σ' τ' n ⟨rfl, rfl, rfl, ⟨rfl, rfl, rfl, rfl⟩ | ⟨rfl, i, hi, rfl, rfl, rfl⟩⟩
    · exact ⟨64, by omega, rfl, rfl, rfl, Or.inr ⟨rfl, 0, Nat.zero_le _, rfl, rfl, by rw [sp_fill_0, ev_p_same]⟩⟩
    · refine br_c (fun h => ?_) (fun h => ?_)
      · have hin : 64 ≤ i := (nI_leI (a := 64) (by omega) (by omega)).mp h
        have : i = 64 := by omega
        subst this
        exact ⟨rfl, rfl⟩
      · have hin : i < 64 := Nat.not_le.mp fun q => h ((nI_leI (a := 64) (by omega) (by omega)).mpr q)
        refine ⟨vp_in_nI hin (by omega), ⟨64 - (i + 1), by omega, rfl, rfl, rfl, Or.inr ⟨rfl, i + 1, by omega, rfl, by rw [← nI_1], ?_⟩⟩⟩
        show ev_w _ 29 _ _ = _
        unfold ev_w
        rw [ev_p_k, ev_p_p, nI_clamp (by omega), sp_fill_sL]
end
section
/-! Program -/
def y_P_at : MethodName := ⟨RX3, "at", "(I)I"⟩
def ws_P_at : List Cond := .code y_P_at prog_5_method_2_code 2 (some .int) :: evW
theorem d_P_at_0 : decode prog_5_method_2_code 0 = .ok (.iload_n 1, 1) := by decide +kernel
theorem d_P_at_1 : decode prog_5_method_2_code 1 = .ok (.ifCond .lt 19, 3) := by decide +kernel
theorem d_P_at_4 : decode prog_5_method_2_code 4 = .ok (.iload_n 1, 1) := by decide +kernel
theorem d_P_at_5 : decode prog_5_method_2_code 5 = .ok (.sipush 256, 3) := by decide +kernel
theorem d_P_at_8 : decode prog_5_method_2_code 8 = .ok (.if_icmp .ge 12, 3) := by decide +kernel
theorem d_P_at_11 : decode prog_5_method_2_code 11 = .ok (.aload_n 0, 1) := by decide +kernel
theorem d_P_at_12 : decode prog_5_method_2_code 12 = .ok (.getfield 9, 3) := by decide +kernel
theorem d_P_at_15 : decode prog_5_method_2_code 15 = .ok (.iload_n 1, 1) := by decide +kernel
theorem d_P_at_16 : decode prog_5_method_2_code 16 = .ok (.iaload, 1) := by decide +kernel
theorem d_P_at_17 : decode prog_5_method_2_code 17 = .ok (.goto 4, 3) := by decide +kernel
theorem d_P_at_20 : decode prog_5_method_2_code 20 = .ok (.iconst 0, 1) := by decide +kernel
theorem d_P_at_21 : decode prog_5_method_2_code 21 = .ok (.ireturn, 1) := by decide +kernel
def I_P_at (P : Int32 → ev_M → ev_L → Prop) : List (Nat × ev_T) := [(0, tt_il 1 1),
  (1, tt_iflt 20 4),
  (4, tt_il 1 5),
  (5, tt_k 256 8),
  (8, tt_icge 20 11),
  (11, tt_al 0 12),
  (12, tt_gf evLY 3 0 15),
  (15, tt_il 1 16),
  (16, tt_ia evLY 17),
  (17, tt_go 21),
  (20, tt_k 0 21),
  (21, tt_ri P)]
abbrev rm_P_at : Room := { frames := 0, cells := 0, slots := 0, locals := 0 }
set_option maxRecDepth 20000 in
theorem ok_P_at (l : Launch) (J : ev_K) (P : Int32 → ev_M → ev_L → Prop) (X : ev_X l rm_P_at evLY evCl ws_P_at prog_5_method_2_code 2 y_P_at.cls J) (Z : ev_Z J prog_5_method_2_code .ireturn ev_i P) : ev_oks J (I_P_at P) :=
  ⟨qq_iln X 1 rfl d_P_at_0,
  qq_iflt X 20 (by decide) d_P_at_1,
  qq_iln X 1 rfl d_P_at_4,
  qq_sp X 256 (by decide) d_P_at_5,
  qq_icge X 20 (by decide) d_P_at_8,
  qq_aln X 0 rfl d_P_at_11,
  qq_gf X 3 0 rfl (fun w h => List.mem_cons_of_mem _ (inE_P w h)) (by decide) (List.mem_cons_of_mem _ mw_33) d_P_at_12,
  qq_iln X 1 rfl d_P_at_15,
  qq_ia X d_P_at_16,
  qq_go X 21 (by decide) d_P_at_17,
  qq_ic X 0 (by decide) d_P_at_20,
  qq_ri Z d_P_at_21, trivial⟩
def pre_P_at : List Value → ev_M → ev_L → Prop := fun as _ _ => ∃ (k : Nat) (a : Int32), as = [.ref k, .int a] ∧ (k = 1 ∨ k = 20)
def post_P_at : List Value → ev_M → ev_L → Int32 → ev_M → ev_L → Prop := fun as σ τ r σ' τ' => match as with
  | [.ref k, .int a] => r = sp_at (σ (k + 1)) a ∧ σ' = σ ∧ τ' = τ
  | _ => False
set_option maxHeartbeats 4000000 in
set_option maxRecDepth 100000 in
theorem c_P_at (l : Launch) : ev_C ev_i l y_P_at ws_P_at rm_P_at evLY evCl pre_P_at post_P_at := by
  refine ev_meth0 (by decide) rfl ev_rop_i ?_ I_P_at (ok_P_at l) 30 ?_
  · rintro _ σ τ ⟨k, a, rfl, hk⟩
    exact Nat.le_refl _
  · rintro _ σ τ ⟨k, a, rfl, rfl | rfl⟩
    · refine br_c (fun h => ?_) (fun h => br_c (fun h2 => ?_) (fun h2 => ?_))
      · exact ⟨(sp_at_lo h).symm, rfl, rfl⟩
      · exact ⟨(sp_at_hi h2).symm, rfl, rfl⟩
      · exact ⟨i_vin rfl h h2, (sp_at_in h h2).symm, rfl, rfl⟩
    · refine br_c (fun h => ?_) (fun h => br_c (fun h2 => ?_) (fun h2 => ?_))
      · exact ⟨(sp_at_lo h).symm, rfl, rfl⟩
      · exact ⟨(sp_at_hi h2).symm, rfl, rfl⟩
      · exact ⟨i_vin rfl h h2, (sp_at_in h h2).symm, rfl, rfl⟩
def sp_put (σ : ev_M) (k : Nat) (a v : Int32) : ev_M := if 0 ≤ a ∧ a < 256 then ev_u σ k a.toNatClampNeg (v &&& 255) else σ
def y_P_put : MethodName := ⟨RX3, "put", "(II)V"⟩
def ws_P_put : List Cond := .code y_P_put prog_5_method_3_code 3 none :: evW
theorem d_P_put_0 : decode prog_5_method_3_code 0 = .ok (.iload_n 1, 1) := by decide +kernel
theorem d_P_put_1 : decode prog_5_method_3_code 1 = .ok (.ifCond .lt 21, 3) := by decide +kernel
theorem d_P_put_4 : decode prog_5_method_3_code 4 = .ok (.iload_n 1, 1) := by decide +kernel
theorem d_P_put_5 : decode prog_5_method_3_code 5 = .ok (.sipush 256, 3) := by decide +kernel
theorem d_P_put_8 : decode prog_5_method_3_code 8 = .ok (.if_icmp .ge 14, 3) := by decide +kernel
theorem d_P_put_11 : decode prog_5_method_3_code 11 = .ok (.aload_n 0, 1) := by decide +kernel
theorem d_P_put_12 : decode prog_5_method_3_code 12 = .ok (.getfield 9, 3) := by decide +kernel
theorem d_P_put_15 : decode prog_5_method_3_code 15 = .ok (.iload_n 1, 1) := by decide +kernel
theorem d_P_put_16 : decode prog_5_method_3_code 16 = .ok (.iload_n 2, 1) := by decide +kernel
theorem d_P_put_17 : decode prog_5_method_3_code 17 = .ok (.sipush 255, 3) := by decide +kernel
theorem d_P_put_20 : decode prog_5_method_3_code 20 = .ok (.iand, 1) := by decide +kernel
theorem d_P_put_21 : decode prog_5_method_3_code 21 = .ok (.iastore, 1) := by decide +kernel
theorem d_P_put_22 : decode prog_5_method_3_code 22 = .ok (.return_, 1) := by decide +kernel
def I_P_put (P : Unit → ev_M → ev_L → Prop) : List (Nat × ev_T) := [(0, tt_il 1 1),
  (1, tt_iflt 22 4),
  (4, tt_il 1 5),
  (5, tt_k 256 8),
  (8, tt_icge 22 11),
  (11, tt_al 0 12),
  (12, tt_gf evLY 3 0 15),
  (15, tt_il 1 16),
  (16, tt_il 2 17),
  (17, tt_k 255 20),
  (20, tt_iand 21),
  (21, tt_ias evLY 22),
  (22, tt_rv P)]
abbrev rm_P_put : Room := { frames := 0, cells := 0, slots := 0, locals := 0 }
set_option maxRecDepth 20000 in
theorem ok_P_put (l : Launch) (J : ev_K) (P : Unit → ev_M → ev_L → Prop) (X : ev_X l rm_P_put evLY evCl ws_P_put prog_5_method_3_code 3 y_P_put.cls J) (Z : ev_Z J prog_5_method_3_code .return_ ev_n P) : ev_oks J (I_P_put P) :=
  ⟨qq_iln X 1 rfl d_P_put_0,
  qq_iflt X 22 (by decide) d_P_put_1,
  qq_iln X 1 rfl d_P_put_4,
  qq_sp X 256 (by decide) d_P_put_5,
  qq_icge X 22 (by decide) d_P_put_8,
  qq_aln X 0 rfl d_P_put_11,
  qq_gf X 3 0 rfl (fun w h => List.mem_cons_of_mem _ (inE_P w h)) (by decide) (List.mem_cons_of_mem _ mw_33) d_P_put_12,
  qq_iln X 1 rfl d_P_put_15,
  qq_iln X 2 rfl d_P_put_16,
  qq_sp X 255 (by decide) d_P_put_17,
  qq_iand X d_P_put_20,
  qq_ias X d_P_put_21,
  qq_rv Z d_P_put_22, trivial⟩
def pre_P_put : List Value → ev_M → ev_L → Prop := fun as _ _ => ∃ (k : Nat) (a v : Int32), as = [.ref k, .int a, .int v] ∧ (k = 1 ∨ k = 20)
def post_P_put : List Value → ev_M → ev_L → Unit → ev_M → ev_L → Prop := fun as σ τ _ σ' τ' => match as with
  | [.ref k, .int a, .int v] => σ' = sp_put σ (k + 1) a v ∧ τ' = τ
  | _ => False
set_option maxHeartbeats 4000000 in
set_option maxRecDepth 100000 in
theorem c_P_put (l : Launch) : ev_C ev_n l y_P_put ws_P_put rm_P_put evLY evCl pre_P_put post_P_put := by
  refine ev_meth0 (by decide) rfl ev_rop_v ?_ I_P_put (ok_P_put l) 30 ?_
  · rintro _ σ τ ⟨k, a, v, rfl, hk⟩
    exact Nat.le_refl _
  · rintro _ σ τ ⟨k, a, v, rfl, rfl | rfl⟩
    all_goals
      refine br_c (fun h => ?_) (fun h => br_c (fun h2 => ?_) (fun h2 => ?_))
      · exact ⟨(if_neg fun q => absurd (Int32.not_lt.mpr q.1) (fun w => w h)).symm, rfl⟩
      · exact ⟨(if_neg fun q => absurd (Int32.not_le.mpr q.2) (fun w => w h2)).symm, rfl⟩
      · exact ⟨i_vin rfl h h2, (if_pos ⟨Int32.not_lt.mp h, Int32.not_le.mp h2⟩).symm, rfl⟩
def sp_trap (f : Nat → Int32) (a : Int32) : Int32 := if (0 ≤ a ∧ a < 96) ∧ ¬ f a.toNatClampNeg = 0 then f a.toNatClampNeg else -1
def y_P_trapAt : MethodName := ⟨RX3, "trapAt", "(I)I"⟩
def ws_P_trapAt : List Cond := .code y_P_trapAt prog_5_method_4_code 2 (some .int) :: evW
theorem d_P_trapAt_0 : decode prog_5_method_4_code 0 = .ok (.iload_n 1, 1) := by decide +kernel
theorem d_P_trapAt_1 : decode prog_5_method_4_code 1 = .ok (.ifCond .lt 18, 3) := by decide +kernel
theorem d_P_trapAt_4 : decode prog_5_method_4_code 4 = .ok (.iload_n 1, 1) := by decide +kernel
theorem d_P_trapAt_5 : decode prog_5_method_4_code 5 = .ok (.bipush 96, 2) := by decide +kernel
theorem d_P_trapAt_7 : decode prog_5_method_4_code 7 = .ok (.if_icmp .ge 12, 3) := by decide +kernel
theorem d_P_trapAt_10 : decode prog_5_method_4_code 10 = .ok (.aload_n 0, 1) := by decide +kernel
theorem d_P_trapAt_11 : decode prog_5_method_4_code 11 = .ok (.getfield 15, 3) := by decide +kernel
theorem d_P_trapAt_14 : decode prog_5_method_4_code 14 = .ok (.iload_n 1, 1) := by decide +kernel
theorem d_P_trapAt_15 : decode prog_5_method_4_code 15 = .ok (.iaload, 1) := by decide +kernel
theorem d_P_trapAt_16 : decode prog_5_method_4_code 16 = .ok (.ifCond .ne 5, 3) := by decide +kernel
theorem d_P_trapAt_19 : decode prog_5_method_4_code 19 = .ok (.iconst (-1), 1) := by decide +kernel
theorem d_P_trapAt_20 : decode prog_5_method_4_code 20 = .ok (.ireturn, 1) := by decide +kernel
theorem d_P_trapAt_21 : decode prog_5_method_4_code 21 = .ok (.aload_n 0, 1) := by decide +kernel
theorem d_P_trapAt_22 : decode prog_5_method_4_code 22 = .ok (.getfield 15, 3) := by decide +kernel
theorem d_P_trapAt_25 : decode prog_5_method_4_code 25 = .ok (.iload_n 1, 1) := by decide +kernel
theorem d_P_trapAt_26 : decode prog_5_method_4_code 26 = .ok (.iaload, 1) := by decide +kernel
theorem d_P_trapAt_27 : decode prog_5_method_4_code 27 = .ok (.ireturn, 1) := by decide +kernel
def I_P_trapAt (P : Int32 → ev_M → ev_L → Prop) : List (Nat × ev_T) := [(0, tt_il 1 1),
  (1, tt_iflt 19 4),
  (4, tt_il 1 5),
  (5, tt_k 96 7),
  (7, tt_icge 19 10),
  (10, tt_al 0 11),
  (11, tt_gf evLY 3 1 14),
  (14, tt_il 1 15),
  (15, tt_ia evLY 16),
  (16, tt_ifne 21 19),
  (19, tt_k (-1) 20),
  (20, tt_ri P),
  (21, tt_al 0 22),
  (22, tt_gf evLY 3 1 25),
  (25, tt_il 1 26),
  (26, tt_ia evLY 27),
  (27, tt_ri P)]
abbrev rm_P_trapAt : Room := { frames := 0, cells := 0, slots := 0, locals := 0 }
set_option maxRecDepth 20000 in
theorem ok_P_trapAt (l : Launch) (J : ev_K) (P : Int32 → ev_M → ev_L → Prop) (X : ev_X l rm_P_trapAt evLY evCl ws_P_trapAt prog_5_method_4_code 2 y_P_trapAt.cls J) (Z : ev_Z J prog_5_method_4_code .ireturn ev_i P) : ev_oks J (I_P_trapAt P) :=
  ⟨qq_iln X 1 rfl d_P_trapAt_0,
  qq_iflt X 19 (by decide) d_P_trapAt_1,
  qq_iln X 1 rfl d_P_trapAt_4,
  qq_bp X 96 (by decide) d_P_trapAt_5,
  qq_icge X 19 (by decide) d_P_trapAt_7,
  qq_aln X 0 rfl d_P_trapAt_10,
  qq_gf X 3 1 rfl (fun w h => List.mem_cons_of_mem _ (inE_P w h)) (by decide) (List.mem_cons_of_mem _ mw_34) d_P_trapAt_11,
  qq_iln X 1 rfl d_P_trapAt_14,
  qq_ia X d_P_trapAt_15,
  qq_ifne X 21 (by decide) d_P_trapAt_16,
  qq_ic X (-1) (by decide) d_P_trapAt_19,
  qq_ri Z d_P_trapAt_20,
  qq_aln X 0 rfl d_P_trapAt_21,
  qq_gf X 3 1 rfl (fun w h => List.mem_cons_of_mem _ (inE_P w h)) (by decide) (List.mem_cons_of_mem _ mw_34) d_P_trapAt_22,
  qq_iln X 1 rfl d_P_trapAt_25,
  qq_ia X d_P_trapAt_26,
  qq_ri Z d_P_trapAt_27, trivial⟩
def pre_P_trapAt : List Value → ev_M → ev_L → Prop := fun as _ _ => ∃ (k : Nat) (a : Int32), as = [.ref k, .int a] ∧ (k = 1 ∨ k = 20)
def post_P_trapAt : List Value → ev_M → ev_L → Int32 → ev_M → ev_L → Prop := fun as σ τ r σ' τ' => match as with
  | [.ref k, .int a] => r = sp_trap (σ (k + 2)) a ∧ σ' = σ ∧ τ' = τ
  | _ => False
set_option maxHeartbeats 4000000 in
set_option maxRecDepth 100000 in
theorem c_P_trapAt (l : Launch) : ev_C ev_i l y_P_trapAt ws_P_trapAt rm_P_trapAt evLY evCl pre_P_trapAt post_P_trapAt := by
  refine ev_meth0 (by decide) rfl ev_rop_i ?_ I_P_trapAt (ok_P_trapAt l) 30 ?_
  · rintro _ σ τ ⟨k, a, rfl, hk⟩
    exact Nat.le_refl _
  · rintro _ σ τ ⟨k, a, rfl, rfl | rfl⟩
    all_goals
      refine br_c (fun h => ?_) (fun h => br_c (fun h2 => ?_) (fun h2 => ⟨i_vin rfl h h2, br_n (fun h3 => ?_) (fun h3 => ?_)⟩))
      · exact ⟨(if_neg fun q => absurd (Int32.not_lt.mpr q.1.1) (fun w => w h)).symm, rfl, rfl⟩
      · exact ⟨(if_neg fun q => absurd (Int32.not_le.mpr q.1.2) (fun w => w h2)).symm, rfl, rfl⟩
      · exact ⟨i_vin rfl h h2, (if_pos ⟨⟨Int32.not_lt.mp h, Int32.not_le.mp h2⟩, h3⟩).symm, rfl, rfl⟩
      · exact ⟨(if_neg fun q => q.2 h3).symm, rfl, rfl⟩
def sp_putTrap (σ : ev_M) (k : Nat) (a v : Int32) : ev_M := if 0 ≤ a ∧ a < 96 then ev_u σ k a.toNatClampNeg v else σ
def y_P_putTrap : MethodName := ⟨RX3, "putTrap", "(II)V"⟩
def ws_P_putTrap : List Cond := .code y_P_putTrap prog_5_method_5_code 3 none :: evW
theorem d_P_putTrap_0 : decode prog_5_method_5_code 0 = .ok (.iload_n 1, 1) := by decide +kernel
theorem d_P_putTrap_1 : decode prog_5_method_5_code 1 = .ok (.ifCond .lt 16, 3) := by decide +kernel
theorem d_P_putTrap_4 : decode prog_5_method_5_code 4 = .ok (.iload_n 1, 1) := by decide +kernel
theorem d_P_putTrap_5 : decode prog_5_method_5_code 5 = .ok (.bipush 96, 2) := by decide +kernel
theorem d_P_putTrap_7 : decode prog_5_method_5_code 7 = .ok (.if_icmp .ge 10, 3) := by decide +kernel
theorem d_P_putTrap_10 : decode prog_5_method_5_code 10 = .ok (.aload_n 0, 1) := by decide +kernel
theorem d_P_putTrap_11 : decode prog_5_method_5_code 11 = .ok (.getfield 15, 3) := by decide +kernel
theorem d_P_putTrap_14 : decode prog_5_method_5_code 14 = .ok (.iload_n 1, 1) := by decide +kernel
theorem d_P_putTrap_15 : decode prog_5_method_5_code 15 = .ok (.iload_n 2, 1) := by decide +kernel
theorem d_P_putTrap_16 : decode prog_5_method_5_code 16 = .ok (.iastore, 1) := by decide +kernel
theorem d_P_putTrap_17 : decode prog_5_method_5_code 17 = .ok (.return_, 1) := by decide +kernel
def I_P_putTrap (P : Unit → ev_M → ev_L → Prop) : List (Nat × ev_T) := [(0, tt_il 1 1),
  (1, tt_iflt 17 4),
  (4, tt_il 1 5),
  (5, tt_k 96 7),
  (7, tt_icge 17 10),
  (10, tt_al 0 11),
  (11, tt_gf evLY 3 1 14),
  (14, tt_il 1 15),
  (15, tt_il 2 16),
  (16, tt_ias evLY 17),
  (17, tt_rv P)]
abbrev rm_P_putTrap : Room := { frames := 0, cells := 0, slots := 0, locals := 0 }
set_option maxRecDepth 20000 in
theorem ok_P_putTrap (l : Launch) (J : ev_K) (P : Unit → ev_M → ev_L → Prop) (X : ev_X l rm_P_putTrap evLY evCl ws_P_putTrap prog_5_method_5_code 3 y_P_putTrap.cls J) (Z : ev_Z J prog_5_method_5_code .return_ ev_n P) : ev_oks J (I_P_putTrap P) :=
  ⟨qq_iln X 1 rfl d_P_putTrap_0,
  qq_iflt X 17 (by decide) d_P_putTrap_1,
  qq_iln X 1 rfl d_P_putTrap_4,
  qq_bp X 96 (by decide) d_P_putTrap_5,
  qq_icge X 17 (by decide) d_P_putTrap_7,
  qq_aln X 0 rfl d_P_putTrap_10,
  qq_gf X 3 1 rfl (fun w h => List.mem_cons_of_mem _ (inE_P w h)) (by decide) (List.mem_cons_of_mem _ mw_34) d_P_putTrap_11,
  qq_iln X 1 rfl d_P_putTrap_14,
  qq_iln X 2 rfl d_P_putTrap_15,
  qq_ias X d_P_putTrap_16,
  qq_rv Z d_P_putTrap_17, trivial⟩
def pre_P_putTrap : List Value → ev_M → ev_L → Prop := fun as _ _ => ∃ (a v : Int32), as = [.ref 20, .int a, .int v]
def post_P_putTrap : List Value → ev_M → ev_L → Unit → ev_M → ev_L → Prop := fun as σ τ _ σ' τ' => match as with
  | [.ref _, .int a, .int v] => σ' = sp_putTrap σ 22 a v ∧ τ' = τ
  | _ => False
set_option maxHeartbeats 4000000 in
set_option maxRecDepth 100000 in
theorem c_P_putTrap (l : Launch) : ev_C ev_n l y_P_putTrap ws_P_putTrap rm_P_putTrap evLY evCl pre_P_putTrap post_P_putTrap := by
  refine ev_meth0 (by decide) rfl ev_rop_v ?_ I_P_putTrap (ok_P_putTrap l) 30 ?_
  · rintro _ σ τ ⟨a, v, rfl⟩
    exact Nat.le_refl _
  · rintro _ σ τ ⟨a, v, rfl⟩
    refine br_c (fun h => ?_) (fun h => br_c (fun h2 => ?_) (fun h2 => ?_))
    · exact ⟨(if_neg fun q => absurd (Int32.not_lt.mpr q.1) (fun w => w h)).symm, rfl⟩
    · exact ⟨(if_neg fun q => absurd (Int32.not_le.mpr q.2) (fun w => w h2)).symm, rfl⟩
    · exact ⟨i_vin rfl h h2, (if_pos ⟨Int32.not_lt.mp h, Int32.not_le.mp h2⟩).symm, rfl⟩
def y_P_becomeCopyOf : MethodName := ⟨RX3, "becomeCopyOf", "(LBlockCounter$Program;)V"⟩
def ws_P_becomeCopyOf : List Cond := .code y_P_becomeCopyOf prog_5_method_6_code 2 none :: evW
theorem d_P_becomeCopyOf_0 : decode prog_5_method_6_code 0 = .ok (.aload_n 1, 1) := by decide +kernel
theorem d_P_becomeCopyOf_1 : decode prog_5_method_6_code 1 = .ok (.getfield 9, 3) := by decide +kernel
theorem d_P_becomeCopyOf_4 : decode prog_5_method_6_code 4 = .ok (.iconst 0, 1) := by decide +kernel
theorem d_P_becomeCopyOf_5 : decode prog_5_method_6_code 5 = .ok (.aload_n 0, 1) := by decide +kernel
theorem d_P_becomeCopyOf_6 : decode prog_5_method_6_code 6 = .ok (.getfield 9, 3) := by decide +kernel
theorem d_P_becomeCopyOf_9 : decode prog_5_method_6_code 9 = .ok (.iconst 0, 1) := by decide +kernel
theorem d_P_becomeCopyOf_10 : decode prog_5_method_6_code 10 = .ok (.sipush 256, 3) := by decide +kernel
theorem d_P_becomeCopyOf_13 : decode prog_5_method_6_code 13 = .ok (.invokestatic 18, 3) := by decide +kernel
theorem d_P_becomeCopyOf_16 : decode prog_5_method_6_code 16 = .ok (.aload_n 1, 1) := by decide +kernel
theorem d_P_becomeCopyOf_17 : decode prog_5_method_6_code 17 = .ok (.getfield 15, 3) := by decide +kernel
theorem d_P_becomeCopyOf_20 : decode prog_5_method_6_code 20 = .ok (.iconst 0, 1) := by decide +kernel
theorem d_P_becomeCopyOf_21 : decode prog_5_method_6_code 21 = .ok (.aload_n 0, 1) := by decide +kernel
theorem d_P_becomeCopyOf_22 : decode prog_5_method_6_code 22 = .ok (.getfield 15, 3) := by decide +kernel
theorem d_P_becomeCopyOf_25 : decode prog_5_method_6_code 25 = .ok (.iconst 0, 1) := by decide +kernel
theorem d_P_becomeCopyOf_26 : decode prog_5_method_6_code 26 = .ok (.bipush 96, 2) := by decide +kernel
theorem d_P_becomeCopyOf_28 : decode prog_5_method_6_code 28 = .ok (.invokestatic 18, 3) := by decide +kernel
theorem d_P_becomeCopyOf_31 : decode prog_5_method_6_code 31 = .ok (.return_, 1) := by decide +kernel
def I_P_becomeCopyOf (P : Unit → ev_M → ev_L → Prop) : List (Nat × ev_T) := [(0, tt_al 1 1),
  (1, tt_gf evLY 3 0 4),
  (4, tt_k 0 5),
  (5, tt_al 0 6),
  (6, tt_gf evLY 3 0 9),
  (9, tt_k 0 10),
  (10, tt_k 256 13),
  (13, tt_cpy evLY 16),
  (16, tt_al 1 17),
  (17, tt_gf evLY 3 1 20),
  (20, tt_k 0 21),
  (21, tt_al 0 22),
  (22, tt_gf evLY 3 1 25),
  (25, tt_k 0 26),
  (26, tt_k 96 28),
  (28, tt_cpy evLY 31),
  (31, tt_rv P)]
abbrev rm_P_becomeCopyOf : Room := { frames := 1, cells := 0, slots := 0, locals := 32 }
set_option maxRecDepth 20000 in
theorem ok_P_becomeCopyOf (l : Launch) (J : ev_K) (P : Unit → ev_M → ev_L → Prop) (X : ev_X l rm_P_becomeCopyOf evLY evCl ws_P_becomeCopyOf prog_5_method_6_code 2 y_P_becomeCopyOf.cls J) (Z : ev_Z J prog_5_method_6_code .return_ ev_n P) : ev_oks J (I_P_becomeCopyOf P) :=
  ⟨qq_aln X 1 rfl d_P_becomeCopyOf_0,
  qq_gf X 3 0 rfl (fun w h => List.mem_cons_of_mem _ (inE_P w h)) (by decide) (List.mem_cons_of_mem _ mw_33) d_P_becomeCopyOf_1,
  qq_ic X 0 (by decide) d_P_becomeCopyOf_4,
  qq_aln X 0 rfl d_P_becomeCopyOf_5,
  qq_gf X 3 0 rfl (fun w h => List.mem_cons_of_mem _ (inE_P w h)) (by decide) (List.mem_cons_of_mem _ mw_33) d_P_becomeCopyOf_6,
  qq_ic X 0 (by decide) d_P_becomeCopyOf_9,
  qq_sp X 256 (by decide) d_P_becomeCopyOf_10,
  qq_cpy X (List.mem_cons_of_mem _ mw_529) (List.mem_cons_of_mem _ mw_531) (List.mem_cons_of_mem _ mw_530) (List.mem_cons_of_mem _ mw_17) (by decide) (by decide) d_P_becomeCopyOf_13,
  qq_aln X 1 rfl d_P_becomeCopyOf_16,
  qq_gf X 3 1 rfl (fun w h => List.mem_cons_of_mem _ (inE_P w h)) (by decide) (List.mem_cons_of_mem _ mw_34) d_P_becomeCopyOf_17,
  qq_ic X 0 (by decide) d_P_becomeCopyOf_20,
  qq_aln X 0 rfl d_P_becomeCopyOf_21,
  qq_gf X 3 1 rfl (fun w h => List.mem_cons_of_mem _ (inE_P w h)) (by decide) (List.mem_cons_of_mem _ mw_34) d_P_becomeCopyOf_22,
  qq_ic X 0 (by decide) d_P_becomeCopyOf_25,
  qq_bp X 96 (by decide) d_P_becomeCopyOf_26,
  qq_cpy X (List.mem_cons_of_mem _ mw_529) (List.mem_cons_of_mem _ mw_531) (List.mem_cons_of_mem _ mw_530) (List.mem_cons_of_mem _ mw_17) (by decide) (by decide) d_P_becomeCopyOf_28,
  qq_rv Z d_P_becomeCopyOf_31, trivial⟩
def sp_copy (σ : ev_M) : ev_M := ev_p (ev_p σ 21 (va_cpy (σ 2) (σ 21) 0 0 256)) 22 (va_cpy (σ 3) (σ 22) 0 0 96)
def pre_P_becomeCopyOf : List Value → ev_M → ev_L → Prop := fun as _ _ => as = [.ref 20, .ref 1]
def post_P_becomeCopyOf : List Value → ev_M → ev_L → Unit → ev_M → ev_L → Prop := fun _ σ τ _ σ' τ' => σ' = sp_copy σ ∧ τ' = τ
set_option maxHeartbeats 4000000 in
set_option maxRecDepth 100000 in
theorem c_P_becomeCopyOf (l : Launch) : ev_C ev_n l y_P_becomeCopyOf ws_P_becomeCopyOf rm_P_becomeCopyOf evLY evCl pre_P_becomeCopyOf post_P_becomeCopyOf := by
  refine ev_meth0 (by decide) rfl ev_rop_v ?_ I_P_becomeCopyOf (ok_P_becomeCopyOf l) 30 ?_
  · rintro _ σ τ rfl
    exact Nat.le_refl _
  · rintro _ σ τ rfl
    exact ⟨by decide, ⟨by decide, ⟨rfl, rfl⟩⟩⟩
end
section
/-! Tables; Math.min -/
theorem bz {b : Bool} (h : (cond b 1 0 : Int32) = 0) : b = false := by cases b with | true => exact absurd h (by decide) | false => rfl
theorem bnz {b : Bool} (h : ¬ (cond b 1 0 : Int32) = 0) : b = true := by cases b with | true => rfl | false => exact absurd rfl h
def y_T_size : MethodName := ⟨RX5, "size", "()I"⟩
def ws_T_size : List Cond := .code y_T_size prog_7_method_2_code 1 (some .int) :: evW
theorem d_T_size_0 : decode prog_7_method_2_code 0 = .ok (.aload_n 0, 1) := by decide +kernel
theorem d_T_size_1 : decode prog_7_method_2_code 1 = .ok (.getfield 16, 3) := by decide +kernel
theorem d_T_size_4 : decode prog_7_method_2_code 4 = .ok (.ireturn, 1) := by decide +kernel
def I_T_size (P : Int32 → ev_M → ev_L → Prop) : List (Nat × ev_T) := [(0, tt_al 0 1),
  (1, tt_gf evLY 5 2 4),
  (4, tt_ri P)]
abbrev rm_T_size : Room := { frames := 0, cells := 0, slots := 0, locals := 0 }
set_option maxRecDepth 20000 in
theorem ok_T_size (l : Launch) (J : ev_K) (P : Int32 → ev_M → ev_L → Prop) (X : ev_X l rm_T_size evLY evCl ws_T_size prog_7_method_2_code 1 y_T_size.cls J) (Z : ev_Z J prog_7_method_2_code .ireturn ev_i P) : ev_oks J (I_T_size P) :=
  ⟨qq_aln X 0 rfl d_T_size_0,
  qq_gf X 5 2 rfl (fun w h => List.mem_cons_of_mem _ (inE_T w h)) (by decide) (List.mem_cons_of_mem _ mw_49) d_T_size_1,
  qq_ri Z d_T_size_4, trivial⟩
def pre_T_size : List Value → ev_M → ev_L → Prop := fun as _ _ => as = [.ref 4]
def post_T_size : List Value → ev_M → ev_L → Int32 → ev_M → ev_L → Prop := fun _ σ τ r σ' τ' => r = σ 4 2 ∧ σ' = σ ∧ τ' = τ
set_option maxHeartbeats 4000000 in
set_option maxRecDepth 100000 in
theorem c_T_size (l : Launch) : ev_C ev_i l y_T_size ws_T_size rm_T_size evLY evCl pre_T_size post_T_size := by
  refine ev_meth0 (by decide) rfl ev_rop_i ?_ I_T_size (ok_T_size l) 30 ?_
  · rintro _ σ τ rfl
    exact Nat.le_refl _
  · rintro _ σ τ rfl
    exact ⟨rfl, rfl, rfl⟩
def y_T_isFull : MethodName := ⟨RX5, "isFull", "()Z"⟩
def ws_T_isFull : List Cond := .code y_T_isFull prog_7_method_3_code 1 (some .boolean) :: evW
theorem d_T_isFull_0 : decode prog_7_method_3_code 0 = .ok (.aload_n 0, 1) := by decide +kernel
theorem d_T_isFull_1 : decode prog_7_method_3_code 1 = .ok (.getfield 16, 3) := by decide +kernel
theorem d_T_isFull_4 : decode prog_7_method_3_code 4 = .ok (.iconst 4, 1) := by decide +kernel
theorem d_T_isFull_5 : decode prog_7_method_3_code 5 = .ok (.if_icmp .lt 7, 3) := by decide +kernel
theorem d_T_isFull_8 : decode prog_7_method_3_code 8 = .ok (.iconst 1, 1) := by decide +kernel
theorem d_T_isFull_9 : decode prog_7_method_3_code 9 = .ok (.goto 4, 3) := by decide +kernel
theorem d_T_isFull_12 : decode prog_7_method_3_code 12 = .ok (.iconst 0, 1) := by decide +kernel
theorem d_T_isFull_13 : decode prog_7_method_3_code 13 = .ok (.ireturn, 1) := by decide +kernel
def I_T_isFull (P : Bool → ev_M → ev_L → Prop) : List (Nat × ev_T) := [(0, tt_al 0 1),
  (1, tt_gf evLY 5 2 4),
  (4, tt_k 4 5),
  (5, tt_iclt 12 8),
  (8, tt_k 1 9),
  (9, tt_go 13),
  (12, tt_k 0 13),
  (13, tt_rz P)]
abbrev rm_T_isFull : Room := { frames := 0, cells := 0, slots := 0, locals := 0 }
set_option maxRecDepth 20000 in
theorem ok_T_isFull (l : Launch) (J : ev_K) (P : Bool → ev_M → ev_L → Prop) (X : ev_X l rm_T_isFull evLY evCl ws_T_isFull prog_7_method_3_code 1 y_T_isFull.cls J) (Z : ev_Z J prog_7_method_3_code .ireturn ev_b P) : ev_oks J (I_T_isFull P) :=
  ⟨qq_aln X 0 rfl d_T_isFull_0,
  qq_gf X 5 2 rfl (fun w h => List.mem_cons_of_mem _ (inE_T w h)) (by decide) (List.mem_cons_of_mem _ mw_49) d_T_isFull_1,
  qq_ic X 4 (by decide) d_T_isFull_4,
  qq_iclt X 12 (by decide) d_T_isFull_5,
  qq_ic X 1 (by decide) d_T_isFull_8,
  qq_go X 13 (by decide) d_T_isFull_9,
  qq_ic X 0 (by decide) d_T_isFull_12,
  qq_rz Z d_T_isFull_13, trivial⟩
def pre_T_isFull : List Value → ev_M → ev_L → Prop := fun as _ _ => as = [.ref 4]
def post_T_isFull : List Value → ev_M → ev_L → Bool → ev_M → ev_L → Prop := fun _ σ τ r σ' τ' => r = decide (4 ≤ σ 4 2) ∧ σ' = σ ∧ τ' = τ
set_option maxHeartbeats 4000000 in
set_option maxRecDepth 100000 in
theorem c_T_isFull (l : Launch) : ev_C ev_b l y_T_isFull ws_T_isFull rm_T_isFull evLY evCl pre_T_isFull post_T_isFull := by
  refine ev_meth0 (by decide) rfl ev_rop_b ?_ I_T_isFull (ok_T_isFull l) 30 ?_
  · rintro _ σ τ rfl
    exact Nat.le_refl _
  · rintro _ σ τ rfl
    refine br_c (fun h => ?_) (fun h => ?_)
    · exact ⟨false, rfl, (decide_eq_false (Int32.not_le.mpr h)).symm, rfl, rfl⟩
    · exact ⟨true, rfl, (decide_eq_true (Int32.not_lt.mp h)).symm, rfl, rfl⟩
def y_T_add : MethodName := ⟨RX5, "add", "(II)V"⟩
def ws_T_add : List Cond := .code y_T_add prog_7_method_4_code 3 none :: evW
theorem d_T_add_0 : decode prog_7_method_4_code 0 = .ok (.aload_n 0, 1) := by decide +kernel
theorem d_T_add_1 : decode prog_7_method_4_code 1 = .ok (.invokevirtual 20, 3) := by decide +kernel
theorem d_T_add_4 : decode prog_7_method_4_code 4 = .ok (.ifCond .ne 33, 3) := by decide +kernel
theorem d_T_add_7 : decode prog_7_method_4_code 7 = .ok (.aload_n 0, 1) := by decide +kernel
theorem d_T_add_8 : decode prog_7_method_4_code 8 = .ok (.getfield 9, 3) := by decide +kernel
theorem d_T_add_11 : decode prog_7_method_4_code 11 = .ok (.aload_n 0, 1) := by decide +kernel
theorem d_T_add_12 : decode prog_7_method_4_code 12 = .ok (.getfield 16, 3) := by decide +kernel
theorem d_T_add_15 : decode prog_7_method_4_code 15 = .ok (.iload_n 1, 1) := by decide +kernel
theorem d_T_add_16 : decode prog_7_method_4_code 16 = .ok (.iastore, 1) := by decide +kernel
theorem d_T_add_17 : decode prog_7_method_4_code 17 = .ok (.aload_n 0, 1) := by decide +kernel
theorem d_T_add_18 : decode prog_7_method_4_code 18 = .ok (.getfield 13, 3) := by decide +kernel
theorem d_T_add_21 : decode prog_7_method_4_code 21 = .ok (.aload_n 0, 1) := by decide +kernel
theorem d_T_add_22 : decode prog_7_method_4_code 22 = .ok (.getfield 16, 3) := by decide +kernel
theorem d_T_add_25 : decode prog_7_method_4_code 25 = .ok (.iload_n 2, 1) := by decide +kernel
theorem d_T_add_26 : decode prog_7_method_4_code 26 = .ok (.iastore, 1) := by decide +kernel
theorem d_T_add_27 : decode prog_7_method_4_code 27 = .ok (.aload_n 0, 1) := by decide +kernel
theorem d_T_add_28 : decode prog_7_method_4_code 28 = .ok (.dup, 1) := by decide +kernel
theorem d_T_add_29 : decode prog_7_method_4_code 29 = .ok (.getfield 16, 3) := by decide +kernel
theorem d_T_add_32 : decode prog_7_method_4_code 32 = .ok (.iconst 1, 1) := by decide +kernel
theorem d_T_add_33 : decode prog_7_method_4_code 33 = .ok (.iadd, 1) := by decide +kernel
theorem d_T_add_34 : decode prog_7_method_4_code 34 = .ok (.putfield 16, 3) := by decide +kernel
theorem d_T_add_37 : decode prog_7_method_4_code 37 = .ok (.return_, 1) := by decide +kernel
def I_T_add (P : Unit → ev_M → ev_L → Prop) : List (Nat × ev_T) := [(0, tt_al 0 1),
  (1, tt_cV evLY 5 0 ev_b pre_T_isFull post_T_isFull 4),
  (4, tt_ifne 37 7),
  (7, tt_al 0 8),
  (8, tt_gf evLY 5 0 11),
  (11, tt_al 0 12),
  (12, tt_gf evLY 5 2 15),
  (15, tt_il 1 16),
  (16, tt_ias evLY 17),
  (17, tt_al 0 18),
  (18, tt_gf evLY 5 1 21),
  (21, tt_al 0 22),
  (22, tt_gf evLY 5 2 25),
  (25, tt_il 2 26),
  (26, tt_ias evLY 27),
  (27, tt_al 0 28),
  (28, tt_dup 29),
  (29, tt_gf evLY 5 2 32),
  (32, tt_k 1 33),
  (33, tt_iadd 34),
  (34, tt_pf evLY 5 2 37),
  (37, tt_rv P)]
abbrev rm_T_add : Room := { frames := 1, cells := 0, slots := 0, locals := 32 }
set_option maxRecDepth 20000 in
theorem ok_T_add (l : Launch) (J : ev_K) (P : Unit → ev_M → ev_L → Prop) (X : ev_X l rm_T_add evLY evCl ws_T_add prog_7_method_4_code 3 y_T_add.cls J) (Z : ev_Z J prog_7_method_4_code .return_ ev_n P) : ev_oks J (I_T_add P) :=
  ⟨qq_aln X 0 rfl d_T_add_0,
  qq_cV X 5 rfl (c_T_isFull l) (fun hts => cwV 0 hts (evGV (mw_374) (mw_351) (mw_352) (mw_3) (mw_353)) rfl rfl rfl (by decide +kernel) ⟨Nat.le_of_ble_eq_true rfl, Nat.le_of_ble_eq_true rfl⟩) d_T_add_1,
  qq_ifne X 37 (by decide) d_T_add_4,
  qq_aln X 0 rfl d_T_add_7,
  qq_gf X 5 0 rfl (fun w h => List.mem_cons_of_mem _ (inE_T w h)) (by decide) (List.mem_cons_of_mem _ mw_47) d_T_add_8,
  qq_aln X 0 rfl d_T_add_11,
  qq_gf X 5 2 rfl (fun w h => List.mem_cons_of_mem _ (inE_T w h)) (by decide) (List.mem_cons_of_mem _ mw_49) d_T_add_12,
  qq_iln X 1 rfl d_T_add_15,
  qq_ias X d_T_add_16,
  qq_aln X 0 rfl d_T_add_17,
  qq_gf X 5 1 rfl (fun w h => List.mem_cons_of_mem _ (inE_T w h)) (by decide) (List.mem_cons_of_mem _ mw_48) d_T_add_18,
  qq_aln X 0 rfl d_T_add_21,
  qq_gf X 5 2 rfl (fun w h => List.mem_cons_of_mem _ (inE_T w h)) (by decide) (List.mem_cons_of_mem _ mw_49) d_T_add_22,
  qq_iln X 2 rfl d_T_add_25,
  qq_ias X d_T_add_26,
  qq_aln X 0 rfl d_T_add_27,
  qq_dup X d_T_add_28,
  qq_gf X 5 2 rfl (fun w h => List.mem_cons_of_mem _ (inE_T w h)) (by decide) (List.mem_cons_of_mem _ mw_49) d_T_add_29,
  qq_ic X 1 (by decide) d_T_add_32,
  qq_iadd X d_T_add_33,
  qq_pf X 5 2 rfl (fun w h => List.mem_cons_of_mem _ (inE_T w h)) (by decide) tyX5 tyX5_ok nmX5 rfl (by decide +kernel) (List.mem_cons_of_mem _ mw_49) d_T_add_34,
  qq_rv Z d_T_add_37, trivial⟩
def sp_tadd (σ : ev_M) (b c : Int32) : ev_M := ev_u (ev_u (ev_u σ 5 (σ 4 2).toNatClampNeg b) 6 (σ 4 2).toNatClampNeg c) 4 2 (σ 4 2 + 1)
def pre_T_add : List Value → ev_M → ev_L → Prop := fun as σ _ => ∃ (b c : Int32), as = [.ref 4, .int b, .int c] ∧ 0 ≤ σ 4 2 ∧ σ 4 2 < 4
def post_T_add : List Value → ev_M → ev_L → Unit → ev_M → ev_L → Prop := fun as σ τ _ σ' τ' => match as with
  | [_, .int b, .int c] => σ' = sp_tadd σ b c ∧ τ' = τ
  | _ => False
set_option maxHeartbeats 4000000 in
set_option maxRecDepth 100000 in
theorem c_T_add (l : Launch) : ev_C ev_n l y_T_add ws_T_add rm_T_add evLY evCl pre_T_add post_T_add := by
  refine ev_meth0 (by decide) rfl ev_rop_v ?_ I_T_add (ok_T_add l) 40 ?_
  · rintro _ σ τ ⟨b, c, rfl, h⟩
    exact Nat.le_refl _
  · rintro _ σ τ ⟨b, c, rfl, h0, h4⟩
    refine ⟨rfl, ?_⟩
    rintro _ σ τ ⟨rfl, rfl, rfl⟩
    refine br_n (fun h => ?_) (fun h => ?_)
    · exact absurd (of_decide_eq_true (bnz h)) (Int32.not_le.mpr h4)
    · have hv : vp_in (σ 4 2) 4 := i_vin2 (b := 4) rfl h0 h4
      exact ⟨hv, hv, rfl, rfl⟩
def y_T_has : MethodName := ⟨RX5, "has", "(II)Z"⟩
def ws_T_has : List Cond := .code y_T_has prog_7_method_5_code 4 (some .boolean) :: evW
theorem d_T_has_0 : decode prog_7_method_5_code 0 = .ok (.iconst 0, 1) := by decide +kernel
theorem d_T_has_1 : decode prog_7_method_5_code 1 = .ok (.istore_n 3, 1) := by decide +kernel
theorem d_T_has_2 : decode prog_7_method_5_code 2 = .ok (.iload_n 3, 1) := by decide +kernel
theorem d_T_has_3 : decode prog_7_method_5_code 3 = .ok (.aload_n 0, 1) := by decide +kernel
theorem d_T_has_4 : decode prog_7_method_5_code 4 = .ok (.getfield 16, 3) := by decide +kernel
theorem d_T_has_7 : decode prog_7_method_5_code 7 = .ok (.if_icmp .ge 31, 3) := by decide +kernel
theorem d_T_has_10 : decode prog_7_method_5_code 10 = .ok (.aload_n 0, 1) := by decide +kernel
theorem d_T_has_11 : decode prog_7_method_5_code 11 = .ok (.getfield 9, 3) := by decide +kernel
theorem d_T_has_14 : decode prog_7_method_5_code 14 = .ok (.iload_n 3, 1) := by decide +kernel
theorem d_T_has_15 : decode prog_7_method_5_code 15 = .ok (.iaload, 1) := by decide +kernel
theorem d_T_has_16 : decode prog_7_method_5_code 16 = .ok (.iload_n 1, 1) := by decide +kernel
theorem d_T_has_17 : decode prog_7_method_5_code 17 = .ok (.if_icmp .ne 15, 3) := by decide +kernel
theorem d_T_has_20 : decode prog_7_method_5_code 20 = .ok (.aload_n 0, 1) := by decide +kernel
theorem d_T_has_21 : decode prog_7_method_5_code 21 = .ok (.getfield 13, 3) := by decide +kernel
theorem d_T_has_24 : decode prog_7_method_5_code 24 = .ok (.iload_n 3, 1) := by decide +kernel
theorem d_T_has_25 : decode prog_7_method_5_code 25 = .ok (.iaload, 1) := by decide +kernel
theorem d_T_has_26 : decode prog_7_method_5_code 26 = .ok (.iload_n 2, 1) := by decide +kernel
theorem d_T_has_27 : decode prog_7_method_5_code 27 = .ok (.if_icmp .ne 5, 3) := by decide +kernel
theorem d_T_has_30 : decode prog_7_method_5_code 30 = .ok (.iconst 1, 1) := by decide +kernel
theorem d_T_has_31 : decode prog_7_method_5_code 31 = .ok (.ireturn, 1) := by decide +kernel
theorem d_T_has_32 : decode prog_7_method_5_code 32 = .ok (.iinc 3 1, 3) := by decide +kernel
theorem d_T_has_35 : decode prog_7_method_5_code 35 = .ok (.goto (-33), 3) := by decide +kernel
theorem d_T_has_38 : decode prog_7_method_5_code 38 = .ok (.iconst 0, 1) := by decide +kernel
theorem d_T_has_39 : decode prog_7_method_5_code 39 = .ok (.ireturn, 1) := by decide +kernel
def I_T_has (P : Bool → ev_M → ev_L → Prop) : List (Nat × ev_T) := [(0, tt_k 0 1),
  (1, tt_is 3 2),
  (2, tt_il 3 3),
  (3, tt_al 0 4),
  (4, tt_gf evLY 5 2 7),
  (7, tt_icge 38 10),
  (10, tt_al 0 11),
  (11, tt_gf evLY 5 0 14),
  (14, tt_il 3 15),
  (15, tt_ia evLY 16),
  (16, tt_il 1 17),
  (17, tt_icne 32 20),
  (20, tt_al 0 21),
  (21, tt_gf evLY 5 1 24),
  (24, tt_il 3 25),
  (25, tt_ia evLY 26),
  (26, tt_il 2 27),
  (27, tt_icne 32 30),
  (30, tt_k 1 31),
  (31, tt_rz P),
  (32, tt_ii 3 1 35),
  (35, tt_go 2),
  (38, tt_k 0 39),
  (39, tt_rz P)]
abbrev rm_T_has : Room := { frames := 0, cells := 0, slots := 0, locals := 0 }
set_option maxRecDepth 20000 in
theorem ok_T_has (l : Launch) (J : ev_K) (P : Bool → ev_M → ev_L → Prop) (X : ev_X l rm_T_has evLY evCl ws_T_has prog_7_method_5_code 4 y_T_has.cls J) (Z : ev_Z J prog_7_method_5_code .ireturn ev_b P) : ev_oks J (I_T_has P) :=
  ⟨qq_ic X 0 (by decide) d_T_has_0,
  qq_isn X 3 rfl (by decide) d_T_has_1,
  qq_iln X 3 rfl d_T_has_2,
  qq_aln X 0 rfl d_T_has_3,
  qq_gf X 5 2 rfl (fun w h => List.mem_cons_of_mem _ (inE_T w h)) (by decide) (List.mem_cons_of_mem _ mw_49) d_T_has_4,
  qq_icge X 38 (by decide) d_T_has_7,
  qq_aln X 0 rfl d_T_has_10,
  qq_gf X 5 0 rfl (fun w h => List.mem_cons_of_mem _ (inE_T w h)) (by decide) (List.mem_cons_of_mem _ mw_47) d_T_has_11,
  qq_iln X 3 rfl d_T_has_14,
  qq_ia X d_T_has_15,
  qq_iln X 1 rfl d_T_has_16,
  qq_icne X 32 (by decide) d_T_has_17,
  qq_aln X 0 rfl d_T_has_20,
  qq_gf X 5 1 rfl (fun w h => List.mem_cons_of_mem _ (inE_T w h)) (by decide) (List.mem_cons_of_mem _ mw_48) d_T_has_21,
  qq_iln X 3 rfl d_T_has_24,
  qq_ia X d_T_has_25,
  qq_iln X 2 rfl d_T_has_26,
  qq_icne X 32 (by decide) d_T_has_27,
  qq_ic X 1 (by decide) d_T_has_30,
  qq_rz Z d_T_has_31,
  qq_ii X 3 1 (by decide) (by decide) d_T_has_32,
  qq_go X 2 (by decide) d_T_has_35,
  qq_ic X 0 (by decide) d_T_has_38,
  qq_rz Z d_T_has_39, trivial⟩
/-- the table (b, c) is declared -/
def sp_has (σ : ev_M) (b c : Int32) : Prop := ∃ i : Nat, i < (σ 4 2).toNatClampNeg ∧ σ 5 i = b ∧ σ 6 i = c
def pre_T_has : List Value → ev_M → ev_L → Prop := fun as σ _ => ∃ (b c : Int32), as = [.ref 4, .int b, .int c] ∧ ∃ n : Nat, n ≤ 4 ∧ σ 4 2 = nI n
def post_T_has : List Value → ev_M → ev_L → Bool → ev_M → ev_L → Prop := fun as σ τ r σ' τ' => match as with
  | [_, .int b, .int c] => (r = true ↔ sp_has σ b c) ∧ σ' = σ ∧ τ' = τ
  | _ => False
set_option maxHeartbeats 4000000 in
set_option maxRecDepth 100000 in
theorem c_T_has (l : Launch) : ev_C ev_b l y_T_has ws_T_has rm_T_has evLY evCl pre_T_has post_T_has := by
  refine ev_methL (by decide) rfl ev_rop_b ?_ I_T_has (ok_T_has l) [2] 40 ?_
  · rintro _ σ τ ⟨b, c, rfl, h⟩
    exact Nat.le_of_ble_eq_true rfl
  · rintro _ σ τ ⟨b, c, rfl, n, hn, hd⟩
    refine ⟨fun μ pc lv st σ' τ' k => σ' = σ ∧ τ' = τ ∧ st = [] ∧ k = 0 ∧ ((pc = 0 ∧ μ = 10 ∧ lv = [.ref 4, .int b, .int c, .null]) ∨ (pc = 2 ∧ ∃ i : Nat, i ≤ n ∧ μ = n - i ∧ lv = [.ref 4, .int b, .int c, .int (nI i)] ∧ ∀ j, j < i → ¬ (σ 5 j = b ∧ σ 6 j = c))), ⟨10, rfl, rfl, rfl, rfl, Or.inl ⟨rfl, rfl, rfl⟩⟩, ?_⟩
    rintro μ pc lv st σ' τ' k ⟨rfl, rfl, rfl, rfl, ⟨rfl, rfl, rfl⟩ | ⟨rfl, i, hi, rfl, rfl, hj⟩⟩
    · exact ⟨n, by omega, rfl, rfl, rfl, rfl, Or.inr ⟨rfl, 0, Nat.zero_le _, rfl, rfl, fun j h => by omega⟩⟩
    · refine br_c (fun h => ?_) (fun h => ?_)
      · refine ⟨false, rfl, ?_, rfl, rfl⟩
        rw [hd] at h
        have hin : n ≤ i := (nI_leI (by omega) (by omega)).mp h
        constructor
        · intro q; cases q
        · rintro ⟨j, h1, h2⟩
          rw [hd, nI_clamp (by omega)] at h1
          exact absurd h2 (hj j (by omega))
      · rw [hd] at h
        have hin : i < n := Nat.not_le.mp fun q => h ((nI_leI (by omega) (by omega)).mpr q)
        have hv : vp_in (nI i) 4 := vp_in_nI (by omega) (by omega)
        have hcl : (nI i).toNatClampNeg = i := nI_clamp (by omega)
        have more : ¬ (σ' 5 (nI i).toNatClampNeg = b ∧ σ' 6 (nI i).toNatClampNeg = c) → ∃ μ', μ' < n - i ∧ σ' = σ' ∧ τ' = τ' ∧ ([] : List Value) = [] ∧ 0 = 0 ∧ ((2 = 0 ∧ μ' = 10 ∧ ([.ref 4, .int b, .int c, .int (nI i + 1)] : List Value) = [.ref 4, .int b, .int c, .null]) ∨ (2 = 2 ∧ ∃ i2 : Nat, i2 ≤ n ∧ μ' = n - i2 ∧ ([.ref 4, .int b, .int c, .int (nI i + 1)] : List Value) = [.ref 4, .int b, .int c, .int (nI i2)] ∧ ∀ j, j < i2 → ¬ (σ' 5 j = b ∧ σ' 6 j = c))) := by
          intro hne
          rw [hcl] at hne
          refine ⟨n - (i + 1), by omega, rfl, rfl, rfl, rfl, Or.inr ⟨rfl, i + 1, by omega, rfl, by rw [nI_1], fun j hj2 => ?_⟩⟩
          by_cases hji : j = i
          · rw [hji]; exact hne
          · exact hj j (by omega)
        refine ⟨hv, br_n (fun h2 => ?_) (fun h2 => ⟨hv, br_n (fun h3 => ?_) (fun h3 => ?_)⟩)⟩
        · exact more (fun q => h2 q.1)
        · exact more (fun q => h3 q.2)
        · exact ⟨true, rfl, ⟨fun _ => ⟨i, by rw [hd, nI_clamp (by omega)]; exact hin, by rw [← hcl]; exact h2, by rw [← hcl]; exact h3⟩, fun _ => rfl⟩, rfl, rfl⟩
end
section
/-! Instruction -/
def sp_kind (x : Int32) : Int32 := if x < 4 ∨ (68 ≤ x ∧ x ≤ 70) ∨ x = 76 ∨ x = 77 then x else if 16 ≤ x ∧ x < 48 then (if x < 32 then 16 else 32) else if x < 68 ∨ (72 ≤ x ∧ x < 76) then x &&& (-4) else -1
def sp_len (k : Int32) : Int32 := if k < 48 then 1 else if k = 72 ∨ k = 77 then 3 else 2
def sp_reg (k x : Int32) : Int32 := if k = 16 ∨ k = 32 then x >>> (2 &&& 31) &&& 3 else x &&& 3
def y_I_kindOf : MethodName := ⟨RX1, "kindOf", "(I)I"⟩
def ws_I_kindOf : List Cond := .code y_I_kindOf prog_3_method_3_code 1 (some .int) :: evW
theorem d_I_kindOf_0 : decode prog_3_method_3_code 0 = .ok (.iload_n 0, 1) := by decide +kernel
theorem d_I_kindOf_1 : decode prog_3_method_3_code 1 = .ok (.iconst 4, 1) := by decide +kernel
theorem d_I_kindOf_2 : decode prog_3_method_3_code 2 = .ok (.if_icmp .lt 27, 3) := by decide +kernel
theorem d_I_kindOf_5 : decode prog_3_method_3_code 5 = .ok (.iload_n 0, 1) := by decide +kernel
theorem d_I_kindOf_6 : decode prog_3_method_3_code 6 = .ok (.bipush 68, 2) := by decide +kernel
theorem d_I_kindOf_8 : decode prog_3_method_3_code 8 = .ok (.if_icmp .lt 9, 3) := by decide +kernel
theorem d_I_kindOf_11 : decode prog_3_method_3_code 11 = .ok (.iload_n 0, 1) := by decide +kernel
theorem d_I_kindOf_12 : decode prog_3_method_3_code 12 = .ok (.bipush 70, 2) := by decide +kernel
theorem d_I_kindOf_14 : decode prog_3_method_3_code 14 = .ok (.if_icmp .le 15, 3) := by decide +kernel
theorem d_I_kindOf_17 : decode prog_3_method_3_code 17 = .ok (.iload_n 0, 1) := by decide +kernel
theorem d_I_kindOf_18 : decode prog_3_method_3_code 18 = .ok (.bipush 76, 2) := by decide +kernel
theorem d_I_kindOf_20 : decode prog_3_method_3_code 20 = .ok (.if_icmp .eq 9, 3) := by decide +kernel
theorem d_I_kindOf_23 : decode prog_3_method_3_code 23 = .ok (.iload_n 0, 1) := by decide +kernel
theorem d_I_kindOf_24 : decode prog_3_method_3_code 24 = .ok (.bipush 77, 2) := by decide +kernel
theorem d_I_kindOf_26 : decode prog_3_method_3_code 26 = .ok (.if_icmp .ne 5, 3) := by decide +kernel
theorem d_I_kindOf_29 : decode prog_3_method_3_code 29 = .ok (.iload_n 0, 1) := by decide +kernel
theorem d_I_kindOf_30 : decode prog_3_method_3_code 30 = .ok (.ireturn, 1) := by decide +kernel
theorem d_I_kindOf_31 : decode prog_3_method_3_code 31 = .ok (.iload_n 0, 1) := by decide +kernel
theorem d_I_kindOf_32 : decode prog_3_method_3_code 32 = .ok (.bipush 16, 2) := by decide +kernel
theorem d_I_kindOf_34 : decode prog_3_method_3_code 34 = .ok (.if_icmp .lt 23, 3) := by decide +kernel
theorem d_I_kindOf_37 : decode prog_3_method_3_code 37 = .ok (.iload_n 0, 1) := by decide +kernel
theorem d_I_kindOf_38 : decode prog_3_method_3_code 38 = .ok (.bipush 48, 2) := by decide +kernel
theorem d_I_kindOf_40 : decode prog_3_method_3_code 40 = .ok (.if_icmp .ge 17, 3) := by decide +kernel
theorem d_I_kindOf_43 : decode prog_3_method_3_code 43 = .ok (.iload_n 0, 1) := by decide +kernel
theorem d_I_kindOf_44 : decode prog_3_method_3_code 44 = .ok (.bipush 32, 2) := by decide +kernel
theorem d_I_kindOf_46 : decode prog_3_method_3_code 46 = .ok (.if_icmp .ge 8, 3) := by decide +kernel
theorem d_I_kindOf_49 : decode prog_3_method_3_code 49 = .ok (.bipush 16, 2) := by decide +kernel
theorem d_I_kindOf_51 : decode prog_3_method_3_code 51 = .ok (.goto 5, 3) := by decide +kernel
theorem d_I_kindOf_54 : decode prog_3_method_3_code 54 = .ok (.bipush 32, 2) := by decide +kernel
theorem d_I_kindOf_56 : decode prog_3_method_3_code 56 = .ok (.ireturn, 1) := by decide +kernel
theorem d_I_kindOf_57 : decode prog_3_method_3_code 57 = .ok (.iload_n 0, 1) := by decide +kernel
theorem d_I_kindOf_58 : decode prog_3_method_3_code 58 = .ok (.bipush 68, 2) := by decide +kernel
theorem d_I_kindOf_60 : decode prog_3_method_3_code 60 = .ok (.if_icmp .lt 15, 3) := by decide +kernel
theorem d_I_kindOf_63 : decode prog_3_method_3_code 63 = .ok (.iload_n 0, 1) := by decide +kernel
theorem d_I_kindOf_64 : decode prog_3_method_3_code 64 = .ok (.bipush 72, 2) := by decide +kernel
theorem d_I_kindOf_66 : decode prog_3_method_3_code 66 = .ok (.if_icmp .lt 14, 3) := by decide +kernel
theorem d_I_kindOf_69 : decode prog_3_method_3_code 69 = .ok (.iload_n 0, 1) := by decide +kernel
theorem d_I_kindOf_70 : decode prog_3_method_3_code 70 = .ok (.bipush 76, 2) := by decide +kernel
theorem d_I_kindOf_72 : decode prog_3_method_3_code 72 = .ok (.if_icmp .ge 8, 3) := by decide +kernel
theorem d_I_kindOf_75 : decode prog_3_method_3_code 75 = .ok (.iload_n 0, 1) := by decide +kernel
theorem d_I_kindOf_76 : decode prog_3_method_3_code 76 = .ok (.bipush (-4), 2) := by decide +kernel
theorem d_I_kindOf_78 : decode prog_3_method_3_code 78 = .ok (.iand, 1) := by decide +kernel
theorem d_I_kindOf_79 : decode prog_3_method_3_code 79 = .ok (.ireturn, 1) := by decide +kernel
theorem d_I_kindOf_80 : decode prog_3_method_3_code 80 = .ok (.iconst (-1), 1) := by decide +kernel
theorem d_I_kindOf_81 : decode prog_3_method_3_code 81 = .ok (.ireturn, 1) := by decide +kernel
def I_I_kindOf (P : Int32 → ev_M → ev_L → Prop) : List (Nat × ev_T) := [(0, tt_il 0 1),
  (1, tt_k 4 2),
  (2, tt_iclt 29 5),
  (5, tt_il 0 6),
  (6, tt_k 68 8),
  (8, tt_iclt 17 11),
  (11, tt_il 0 12),
  (12, tt_k 70 14),
  (14, tt_icle 29 17),
  (17, tt_il 0 18),
  (18, tt_k 76 20),
  (20, tt_iceq 29 23),
  (23, tt_il 0 24),
  (24, tt_k 77 26),
  (26, tt_icne 31 29),
  (29, tt_il 0 30),
  (30, tt_ri P),
  (31, tt_il 0 32),
  (32, tt_k 16 34),
  (34, tt_iclt 57 37),
  (37, tt_il 0 38),
  (38, tt_k 48 40),
  (40, tt_icge 57 43),
  (43, tt_il 0 44),
  (44, tt_k 32 46),
  (46, tt_icge 54 49),
  (49, tt_k 16 51),
  (51, tt_go 56),
  (54, tt_k 32 56),
  (56, tt_ri P),
  (57, tt_il 0 58),
  (58, tt_k 68 60),
  (60, tt_iclt 75 63),
  (63, tt_il 0 64),
  (64, tt_k 72 66),
  (66, tt_iclt 80 69),
  (69, tt_il 0 70),
  (70, tt_k 76 72),
  (72, tt_icge 80 75),
  (75, tt_il 0 76),
  (76, tt_k (-4) 78),
  (78, tt_iand 79),
  (79, tt_ri P),
  (80, tt_k (-1) 81),
  (81, tt_ri P)]
abbrev rm_I_kindOf : Room := { frames := 0, cells := 0, slots := 0, locals := 0 }
set_option maxRecDepth 20000 in
theorem ok_I_kindOf (l : Launch) (J : ev_K) (P : Int32 → ev_M → ev_L → Prop) (X : ev_X l rm_I_kindOf evLY evCl ws_I_kindOf prog_3_method_3_code 1 y_I_kindOf.cls J) (Z : ev_Z J prog_3_method_3_code .ireturn ev_i P) : ev_oks J (I_I_kindOf P) :=
  ⟨qq_iln X 0 rfl d_I_kindOf_0,
  qq_ic X 4 (by decide) d_I_kindOf_1,
  qq_iclt X 29 (by decide) d_I_kindOf_2,
  qq_iln X 0 rfl d_I_kindOf_5,
  qq_bp X 68 (by decide) d_I_kindOf_6,
  qq_iclt X 17 (by decide) d_I_kindOf_8,
  qq_iln X 0 rfl d_I_kindOf_11,
  qq_bp X 70 (by decide) d_I_kindOf_12,
  qq_icle X 29 (by decide) d_I_kindOf_14,
  qq_iln X 0 rfl d_I_kindOf_17,
  qq_bp X 76 (by decide) d_I_kindOf_18,
  qq_iceq X 29 (by decide) d_I_kindOf_20,
  qq_iln X 0 rfl d_I_kindOf_23,
  qq_bp X 77 (by decide) d_I_kindOf_24,
  qq_icne X 31 (by decide) d_I_kindOf_26,
  qq_iln X 0 rfl d_I_kindOf_29,
  qq_ri Z d_I_kindOf_30,
  qq_iln X 0 rfl d_I_kindOf_31,
  qq_bp X 16 (by decide) d_I_kindOf_32,
  qq_iclt X 57 (by decide) d_I_kindOf_34,
  qq_iln X 0 rfl d_I_kindOf_37,
  qq_bp X 48 (by decide) d_I_kindOf_38,
  qq_icge X 57 (by decide) d_I_kindOf_40,
  qq_iln X 0 rfl d_I_kindOf_43,
  qq_bp X 32 (by decide) d_I_kindOf_44,
  qq_icge X 54 (by decide) d_I_kindOf_46,
  qq_bp X 16 (by decide) d_I_kindOf_49,
  qq_go X 56 (by decide) d_I_kindOf_51,
  qq_bp X 32 (by decide) d_I_kindOf_54,
  qq_ri Z d_I_kindOf_56,
  qq_iln X 0 rfl d_I_kindOf_57,
  qq_bp X 68 (by decide) d_I_kindOf_58,
  qq_iclt X 75 (by decide) d_I_kindOf_60,
  qq_iln X 0 rfl d_I_kindOf_63,
  qq_bp X 72 (by decide) d_I_kindOf_64,
  qq_iclt X 80 (by decide) d_I_kindOf_66,
  qq_iln X 0 rfl d_I_kindOf_69,
  qq_bp X 76 (by decide) d_I_kindOf_70,
  qq_icge X 80 (by decide) d_I_kindOf_72,
  qq_iln X 0 rfl d_I_kindOf_75,
  qq_bp X (-4) (by decide) d_I_kindOf_76,
  qq_iand X d_I_kindOf_78,
  qq_ri Z d_I_kindOf_79,
  qq_ic X (-1) (by decide) d_I_kindOf_80,
  qq_ri Z d_I_kindOf_81, trivial⟩
def pre_I_kindOf : List Value → ev_M → ev_L → Prop := fun as _ _ => ∃ x : Int32, as = [.int x]
def post_I_kindOf : List Value → ev_M → ev_L → Int32 → ev_M → ev_L → Prop := fun as σ τ r σ' τ' => match as with
  | [.int x] => r = sp_kind x ∧ σ' = σ ∧ τ' = τ
  | _ => False
set_option maxHeartbeats 4000000 in
set_option maxRecDepth 100000 in
theorem c_I_kindOf (l : Launch) : ev_C ev_i l y_I_kindOf ws_I_kindOf rm_I_kindOf evLY evCl pre_I_kindOf post_I_kindOf := by
  refine ev_meth0 (by decide) rfl ev_rop_i ?_ I_I_kindOf (ok_I_kindOf l) 60 ?_
  · rintro _ σ τ ⟨x, rfl⟩
    exact Nat.le_refl _
  · rintro _ σ τ ⟨x, rfl⟩
    repeat' first | refine br_c (fun _ => ?_) (fun _ => ?_) | refine br_n (fun _ => ?_) (fun _ => ?_)
    all_goals
      refine ⟨?_, rfl, rfl⟩
      unfold sp_kind
      repeat' split
      all_goals first | rfl | (exfalso; simp only [Int32.lt_iff_toInt_lt, Int32.le_iff_toInt_le, ← Int32.toInt_inj, Int32.reduceToInt] at *; omega)
def y_I_length : MethodName := ⟨RX1, "length", "()I"⟩
def ws_I_length : List Cond := .code y_I_length prog_3_method_4_code 1 (some .int) :: evW
theorem d_I_length_0 : decode prog_3_method_4_code 0 = .ok (.aload_n 0, 1) := by decide +kernel
theorem d_I_length_1 : decode prog_3_method_4_code 1 = .ok (.getfield 25, 3) := by decide +kernel
theorem d_I_length_4 : decode prog_3_method_4_code 4 = .ok (.bipush 48, 2) := by decide +kernel
theorem d_I_length_6 : decode prog_3_method_4_code 6 = .ok (.if_icmp .ge 5, 3) := by decide +kernel
theorem d_I_length_9 : decode prog_3_method_4_code 9 = .ok (.iconst 1, 1) := by decide +kernel
theorem d_I_length_10 : decode prog_3_method_4_code 10 = .ok (.ireturn, 1) := by decide +kernel
theorem d_I_length_11 : decode prog_3_method_4_code 11 = .ok (.aload_n 0, 1) := by decide +kernel
theorem d_I_length_12 : decode prog_3_method_4_code 12 = .ok (.getfield 25, 3) := by decide +kernel
theorem d_I_length_15 : decode prog_3_method_4_code 15 = .ok (.bipush 72, 2) := by decide +kernel
theorem d_I_length_17 : decode prog_3_method_4_code 17 = .ok (.if_icmp .eq 12, 3) := by decide +kernel
theorem d_I_length_20 : decode prog_3_method_4_code 20 = .ok (.aload_n 0, 1) := by decide +kernel
theorem d_I_length_21 : decode prog_3_method_4_code 21 = .ok (.getfield 25, 3) := by decide +kernel
theorem d_I_length_24 : decode prog_3_method_4_code 24 = .ok (.bipush 77, 2) := by decide +kernel
theorem d_I_length_26 : decode prog_3_method_4_code 26 = .ok (.if_icmp .ne 7, 3) := by decide +kernel
theorem d_I_length_29 : decode prog_3_method_4_code 29 = .ok (.iconst 3, 1) := by decide +kernel
theorem d_I_length_30 : decode prog_3_method_4_code 30 = .ok (.goto 4, 3) := by decide +kernel
theorem d_I_length_33 : decode prog_3_method_4_code 33 = .ok (.iconst 2, 1) := by decide +kernel
theorem d_I_length_34 : decode prog_3_method_4_code 34 = .ok (.ireturn, 1) := by decide +kernel
def I_I_length (P : Int32 → ev_M → ev_L → Prop) : List (Nat × ev_T) := [(0, tt_al 0 1),
  (1, tt_gf evLY 1 2 4),
  (4, tt_k 48 6),
  (6, tt_icge 11 9),
  (9, tt_k 1 10),
  (10, tt_ri P),
  (11, tt_al 0 12),
  (12, tt_gf evLY 1 2 15),
  (15, tt_k 72 17),
  (17, tt_iceq 29 20),
  (20, tt_al 0 21),
  (21, tt_gf evLY 1 2 24),
  (24, tt_k 77 26),
  (26, tt_icne 33 29),
  (29, tt_k 3 30),
  (30, tt_go 34),
  (33, tt_k 2 34),
  (34, tt_ri P)]
abbrev rm_I_length : Room := { frames := 0, cells := 0, slots := 0, locals := 0 }
set_option maxRecDepth 20000 in
theorem ok_I_length (l : Launch) (J : ev_K) (P : Int32 → ev_M → ev_L → Prop) (X : ev_X l rm_I_length evLY evCl ws_I_length prog_3_method_4_code 1 y_I_length.cls J) (Z : ev_Z J prog_3_method_4_code .ireturn ev_i P) : ev_oks J (I_I_length P) :=
  ⟨qq_aln X 0 rfl d_I_length_0,
  qq_gf X 1 2 rfl (fun w h => List.mem_cons_of_mem _ (inE_I w h)) (by decide) (List.mem_cons_of_mem _ mw_72) d_I_length_1,
  qq_bp X 48 (by decide) d_I_length_4,
  qq_icge X 11 (by decide) d_I_length_6,
  qq_ic X 1 (by decide) d_I_length_9,
  qq_ri Z d_I_length_10,
  qq_aln X 0 rfl d_I_length_11,
  qq_gf X 1 2 rfl (fun w h => List.mem_cons_of_mem _ (inE_I w h)) (by decide) (List.mem_cons_of_mem _ mw_72) d_I_length_12,
  qq_bp X 72 (by decide) d_I_length_15,
  qq_iceq X 29 (by decide) d_I_length_17,
  qq_aln X 0 rfl d_I_length_20,
  qq_gf X 1 2 rfl (fun w h => List.mem_cons_of_mem _ (inE_I w h)) (by decide) (List.mem_cons_of_mem _ mw_72) d_I_length_21,
  qq_bp X 77 (by decide) d_I_length_24,
  qq_icne X 33 (by decide) d_I_length_26,
  qq_ic X 3 (by decide) d_I_length_29,
  qq_go X 34 (by decide) d_I_length_30,
  qq_ic X 2 (by decide) d_I_length_33,
  qq_ri Z d_I_length_34, trivial⟩
def pre_I_length : List Value → ev_M → ev_L → Prop := fun as _ _ => ∃ k : Nat, as = [.ref k] ∧ (k = 9 ∨ k = 19 ∨ k = 24)
def post_I_length : List Value → ev_M → ev_L → Int32 → ev_M → ev_L → Prop := fun as σ τ r σ' τ' => match as with
  | [.ref k] => r = sp_len (σ k 2) ∧ σ' = σ ∧ τ' = τ
  | _ => False
set_option maxHeartbeats 4000000 in
set_option maxRecDepth 100000 in
theorem c_I_length (l : Launch) : ev_C ev_i l y_I_length ws_I_length rm_I_length evLY evCl pre_I_length post_I_length := by
  refine ev_meth0 (by decide) rfl ev_rop_i ?_ I_I_length (ok_I_length l) 60 ?_
  · rintro _ σ τ ⟨k, rfl, hk⟩
    exact Nat.le_refl _
  · rintro _ σ τ ⟨k, rfl, rfl | rfl | rfl⟩
    all_goals
      repeat' first | refine br_c (fun _ => ?_) (fun _ => ?_) | refine br_n (fun _ => ?_) (fun _ => ?_)
      all_goals
        refine ⟨?_, rfl, rfl⟩
        simp_all [sp_len, Int32.not_lt, Int32.not_le]
def y_I_behind : MethodName := ⟨RX1, "behind", "()I"⟩
def ws_I_behind : List Cond := .code y_I_behind prog_3_method_5_code 1 (some .int) :: evW
theorem d_I_behind_0 : decode prog_3_method_5_code 0 = .ok (.aload_n 0, 1) := by decide +kernel
theorem d_I_behind_1 : decode prog_3_method_5_code 1 = .ok (.getfield 7, 3) := by decide +kernel
theorem d_I_behind_4 : decode prog_3_method_5_code 4 = .ok (.aload_n 0, 1) := by decide +kernel
theorem d_I_behind_5 : decode prog_3_method_5_code 5 = .ok (.invokevirtual 38, 3) := by decide +kernel
theorem d_I_behind_8 : decode prog_3_method_5_code 8 = .ok (.iadd, 1) := by decide +kernel
theorem d_I_behind_9 : decode prog_3_method_5_code 9 = .ok (.ireturn, 1) := by decide +kernel
def I_I_behind (P : Int32 → ev_M → ev_L → Prop) : List (Nat × ev_T) := [(0, tt_al 0 1),
  (1, tt_gf evLY 1 0 4),
  (4, tt_al 0 5),
  (5, tt_cV evLY 1 0 ev_i pre_I_length post_I_length 8),
  (8, tt_iadd 9),
  (9, tt_ri P)]
abbrev rm_I_behind : Room := { frames := 1, cells := 0, slots := 0, locals := 32 }
set_option maxRecDepth 20000 in
theorem ok_I_behind (l : Launch) (J : ev_K) (P : Int32 → ev_M → ev_L → Prop) (X : ev_X l rm_I_behind evLY evCl ws_I_behind prog_3_method_5_code 1 y_I_behind.cls J) (Z : ev_Z J prog_3_method_5_code .ireturn ev_i P) : ev_oks J (I_I_behind P) :=
  ⟨qq_aln X 0 rfl d_I_behind_0,
  qq_gf X 1 0 rfl (fun w h => List.mem_cons_of_mem _ (inE_I w h)) (by decide) (List.mem_cons_of_mem _ mw_69) d_I_behind_1,
  qq_aln X 0 rfl d_I_behind_4,
  qq_cV X 1 rfl (c_I_length l) (fun hts => cwV 0 hts (evGV (mw_433) (mw_434) (mw_435) (mw_5) (mw_436)) rfl rfl rfl (by decide +kernel) ⟨Nat.le_of_ble_eq_true rfl, Nat.le_of_ble_eq_true rfl⟩) d_I_behind_5,
  qq_iadd X d_I_behind_8,
  qq_ri Z d_I_behind_9, trivial⟩
def pre_I_behind : List Value → ev_M → ev_L → Prop := pre_I_length
def post_I_behind : List Value → ev_M → ev_L → Int32 → ev_M → ev_L → Prop := fun as σ τ r σ' τ' => match as with
  | [.ref k] => r = σ k 0 + sp_len (σ k 2) ∧ σ' = σ ∧ τ' = τ
  | _ => False
set_option maxHeartbeats 4000000 in
set_option maxRecDepth 100000 in
theorem c_I_behind (l : Launch) : ev_C ev_i l y_I_behind ws_I_behind rm_I_behind evLY evCl pre_I_behind post_I_behind := by
  refine ev_meth0 (by decide) rfl ev_rop_i ?_ I_I_behind (ok_I_behind l) 60 ?_
  · rintro _ σ τ ⟨k, rfl, hk⟩
    exact Nat.le_refl _
  · rintro _ σ τ ⟨k, rfl, rfl | rfl | rfl⟩
    all_goals
      refine ⟨⟨_, rfl, by decide⟩, ?_⟩
      rintro _ σ τ ⟨rfl, rfl, rfl⟩
      exact ⟨rfl, rfl, rfl⟩
def y_I_branchTarget : MethodName := ⟨RX1, "branchTarget", "()I"⟩
def ws_I_branchTarget : List Cond := .code y_I_branchTarget prog_3_method_6_code 1 (some .int) :: evW
theorem d_I_branchTarget_0 : decode prog_3_method_6_code 0 = .ok (.aload_n 0, 1) := by decide +kernel
theorem d_I_branchTarget_1 : decode prog_3_method_6_code 1 = .ok (.invokevirtual 28, 3) := by decide +kernel
theorem d_I_branchTarget_4 : decode prog_3_method_6_code 4 = .ok (.aload_n 0, 1) := by decide +kernel
theorem d_I_branchTarget_5 : decode prog_3_method_6_code 5 = .ok (.getfield 32, 3) := by decide +kernel
theorem d_I_branchTarget_8 : decode prog_3_method_6_code 8 = .ok (.i2b, 1) := by decide +kernel
theorem d_I_branchTarget_9 : decode prog_3_method_6_code 9 = .ok (.iadd, 1) := by decide +kernel
theorem d_I_branchTarget_10 : decode prog_3_method_6_code 10 = .ok (.ireturn, 1) := by decide +kernel
def I_I_branchTarget (P : Int32 → ev_M → ev_L → Prop) : List (Nat × ev_T) := [(0, tt_al 0 1),
  (1, tt_cV evLY 1 0 ev_i pre_I_behind post_I_behind 4),
  (4, tt_al 0 5),
  (5, tt_gf evLY 1 3 8),
  (8, tt_i2b 9),
  (9, tt_iadd 10),
  (10, tt_ri P)]
abbrev rm_I_branchTarget : Room := { frames := 2, cells := 0, slots := 0, locals := 64 }
set_option maxRecDepth 20000 in
theorem ok_I_branchTarget (l : Launch) (J : ev_K) (P : Int32 → ev_M → ev_L → Prop) (X : ev_X l rm_I_branchTarget evLY evCl ws_I_branchTarget prog_3_method_6_code 1 y_I_branchTarget.cls J) (Z : ev_Z J prog_3_method_6_code .ireturn ev_i P) : ev_oks J (I_I_branchTarget P) :=
  ⟨qq_aln X 0 rfl d_I_branchTarget_0,
  qq_cV X 1 rfl (c_I_behind l) (fun hts => cwV 0 hts (evGV (mw_429) (mw_430) (mw_431) (mw_5) (mw_432)) rfl rfl rfl (by decide +kernel) ⟨Nat.le_of_ble_eq_true rfl, Nat.le_of_ble_eq_true rfl⟩) d_I_branchTarget_1,
  qq_aln X 0 rfl d_I_branchTarget_4,
  qq_gf X 1 3 rfl (fun w h => List.mem_cons_of_mem _ (inE_I w h)) (by decide) (List.mem_cons_of_mem _ mw_76) d_I_branchTarget_5,
  qq_i2b X d_I_branchTarget_8,
  qq_iadd X d_I_branchTarget_9,
  qq_ri Z d_I_branchTarget_10, trivial⟩
def pre_I_branchTarget : List Value → ev_M → ev_L → Prop := pre_I_length
def post_I_branchTarget : List Value → ev_M → ev_L → Int32 → ev_M → ev_L → Prop := fun as σ τ r σ' τ' => match as with
  | [.ref k] => r = σ k 0 + sp_len (σ k 2) + (σ k 3).toInt8.toInt32 ∧ σ' = σ ∧ τ' = τ
  | _ => False
set_option maxHeartbeats 4000000 in
set_option maxRecDepth 100000 in
theorem c_I_branchTarget (l : Launch) : ev_C ev_i l y_I_branchTarget ws_I_branchTarget rm_I_branchTarget evLY evCl pre_I_branchTarget post_I_branchTarget := by
  refine ev_meth0 (by decide) rfl ev_rop_i ?_ I_I_branchTarget (ok_I_branchTarget l) 60 ?_
  · rintro _ σ τ ⟨k, rfl, hk⟩
    exact Nat.le_refl _
  · rintro _ σ τ ⟨k, rfl, rfl | rfl | rfl⟩
    all_goals
      refine ⟨⟨_, rfl, by decide⟩, ?_⟩
      rintro _ σ τ ⟨rfl, rfl, rfl⟩
      exact ⟨rfl, rfl, rfl⟩
def y_I_registerNumber : MethodName := ⟨RX1, "registerNumber", "()I"⟩
def ws_I_registerNumber : List Cond := .code y_I_registerNumber prog_3_method_7_code 1 (some .int) :: evW
theorem d_I_registerNumber_0 : decode prog_3_method_7_code 0 = .ok (.aload_n 0, 1) := by decide +kernel
theorem d_I_registerNumber_1 : decode prog_3_method_7_code 1 = .ok (.getfield 25, 3) := by decide +kernel
theorem d_I_registerNumber_4 : decode prog_3_method_7_code 4 = .ok (.bipush 16, 2) := by decide +kernel
theorem d_I_registerNumber_6 : decode prog_3_method_7_code 6 = .ok (.if_icmp .eq 12, 3) := by decide +kernel
theorem d_I_registerNumber_9 : decode prog_3_method_7_code 9 = .ok (.aload_n 0, 1) := by decide +kernel
theorem d_I_registerNumber_10 : decode prog_3_method_7_code 10 = .ok (.getfield 25, 3) := by decide +kernel
theorem d_I_registerNumber_13 : decode prog_3_method_7_code 13 = .ok (.bipush 32, 2) := by decide +kernel
theorem d_I_registerNumber_15 : decode prog_3_method_7_code 15 = .ok (.if_icmp .ne 14, 3) := by decide +kernel
theorem d_I_registerNumber_18 : decode prog_3_method_7_code 18 = .ok (.aload_n 0, 1) := by decide +kernel
theorem d_I_registerNumber_19 : decode prog_3_method_7_code 19 = .ok (.getfield 19, 3) := by decide +kernel
theorem d_I_registerNumber_22 : decode prog_3_method_7_code 22 = .ok (.iconst 2, 1) := by decide +kernel
theorem d_I_registerNumber_23 : decode prog_3_method_7_code 23 = .ok (.ishr, 1) := by decide +kernel
theorem d_I_registerNumber_24 : decode prog_3_method_7_code 24 = .ok (.iconst 3, 1) := by decide +kernel
theorem d_I_registerNumber_25 : decode prog_3_method_7_code 25 = .ok (.iand, 1) := by decide +kernel
theorem d_I_registerNumber_26 : decode prog_3_method_7_code 26 = .ok (.goto 9, 3) := by decide +kernel
theorem d_I_registerNumber_29 : decode prog_3_method_7_code 29 = .ok (.aload_n 0, 1) := by decide +kernel
theorem d_I_registerNumber_30 : decode prog_3_method_7_code 30 = .ok (.getfield 19, 3) := by decide +kernel
theorem d_I_registerNumber_33 : decode prog_3_method_7_code 33 = .ok (.iconst 3, 1) := by decide +kernel
theorem d_I_registerNumber_34 : decode prog_3_method_7_code 34 = .ok (.iand, 1) := by decide +kernel
theorem d_I_registerNumber_35 : decode prog_3_method_7_code 35 = .ok (.ireturn, 1) := by decide +kernel
def I_I_registerNumber (P : Int32 → ev_M → ev_L → Prop) : List (Nat × ev_T) := [(0, tt_al 0 1),
  (1, tt_gf evLY 1 2 4),
  (4, tt_k 16 6),
  (6, tt_iceq 18 9),
  (9, tt_al 0 10),
  (10, tt_gf evLY 1 2 13),
  (13, tt_k 32 15),
  (15, tt_icne 29 18),
  (18, tt_al 0 19),
  (19, tt_gf evLY 1 1 22),
  (22, tt_k 2 23),
  (23, tt_ishr 24),
  (24, tt_k 3 25),
  (25, tt_iand 26),
  (26, tt_go 35),
  (29, tt_al 0 30),
  (30, tt_gf evLY 1 1 33),
  (33, tt_k 3 34),
  (34, tt_iand 35),
  (35, tt_ri P)]
abbrev rm_I_registerNumber : Room := { frames := 0, cells := 0, slots := 0, locals := 0 }
set_option maxRecDepth 20000 in
theorem ok_I_registerNumber (l : Launch) (J : ev_K) (P : Int32 → ev_M → ev_L → Prop) (X : ev_X l rm_I_registerNumber evLY evCl ws_I_registerNumber prog_3_method_7_code 1 y_I_registerNumber.cls J) (Z : ev_Z J prog_3_method_7_code .ireturn ev_i P) : ev_oks J (I_I_registerNumber P) :=
  ⟨qq_aln X 0 rfl d_I_registerNumber_0,
  qq_gf X 1 2 rfl (fun w h => List.mem_cons_of_mem _ (inE_I w h)) (by decide) (List.mem_cons_of_mem _ mw_72) d_I_registerNumber_1,
  qq_bp X 16 (by decide) d_I_registerNumber_4,
  qq_iceq X 18 (by decide) d_I_registerNumber_6,
  qq_aln X 0 rfl d_I_registerNumber_9,
  qq_gf X 1 2 rfl (fun w h => List.mem_cons_of_mem _ (inE_I w h)) (by decide) (List.mem_cons_of_mem _ mw_72) d_I_registerNumber_10,
  qq_bp X 32 (by decide) d_I_registerNumber_13,
  qq_icne X 29 (by decide) d_I_registerNumber_15,
  qq_aln X 0 rfl d_I_registerNumber_18,
  qq_gf X 1 1 rfl (fun w h => List.mem_cons_of_mem _ (inE_I w h)) (by decide) (List.mem_cons_of_mem _ mw_70) d_I_registerNumber_19,
  qq_ic X 2 (by decide) d_I_registerNumber_22,
  qq_ishr X d_I_registerNumber_23,
  qq_ic X 3 (by decide) d_I_registerNumber_24,
  qq_iand X d_I_registerNumber_25,
  qq_go X 35 (by decide) d_I_registerNumber_26,
  qq_aln X 0 rfl d_I_registerNumber_29,
  qq_gf X 1 1 rfl (fun w h => List.mem_cons_of_mem _ (inE_I w h)) (by decide) (List.mem_cons_of_mem _ mw_70) d_I_registerNumber_30,
  qq_ic X 3 (by decide) d_I_registerNumber_33,
  qq_iand X d_I_registerNumber_34,
  qq_ri Z d_I_registerNumber_35, trivial⟩
def pre_I_registerNumber : List Value → ev_M → ev_L → Prop := pre_I_length
def post_I_registerNumber : List Value → ev_M → ev_L → Int32 → ev_M → ev_L → Prop := fun as σ τ r σ' τ' => match as with
  | [.ref k] => r = sp_reg (σ k 2) (σ k 1) ∧ σ' = σ ∧ τ' = τ
  | _ => False
set_option maxHeartbeats 4000000 in
set_option maxRecDepth 100000 in
theorem c_I_registerNumber (l : Launch) : ev_C ev_i l y_I_registerNumber ws_I_registerNumber rm_I_registerNumber evLY evCl pre_I_registerNumber post_I_registerNumber := by
  refine ev_meth0 (by decide) rfl ev_rop_i ?_ I_I_registerNumber (ok_I_registerNumber l) 60 ?_
  · rintro _ σ τ ⟨k, rfl, hk⟩
    exact Nat.le_refl _
  · rintro _ σ τ ⟨k, rfl, rfl | rfl | rfl⟩
    all_goals
      repeat' first | refine br_c (fun _ => ?_) (fun _ => ?_) | refine br_n (fun _ => ?_) (fun _ => ?_)
      all_goals
        refine ⟨?_, rfl, rfl⟩
        simp_all [sp_reg]
def y_I_otherRegister : MethodName := ⟨RX1, "otherRegister", "()I"⟩
def ws_I_otherRegister : List Cond := .code y_I_otherRegister prog_3_method_8_code 1 (some .int) :: evW
theorem d_I_otherRegister_0 : decode prog_3_method_8_code 0 = .ok (.aload_n 0, 1) := by decide +kernel
theorem d_I_otherRegister_1 : decode prog_3_method_8_code 1 = .ok (.getfield 19, 3) := by decide +kernel
theorem d_I_otherRegister_4 : decode prog_3_method_8_code 4 = .ok (.iconst 3, 1) := by decide +kernel
theorem d_I_otherRegister_5 : decode prog_3_method_8_code 5 = .ok (.iand, 1) := by decide +kernel
theorem d_I_otherRegister_6 : decode prog_3_method_8_code 6 = .ok (.ireturn, 1) := by decide +kernel
def I_I_otherRegister (P : Int32 → ev_M → ev_L → Prop) : List (Nat × ev_T) := [(0, tt_al 0 1),
  (1, tt_gf evLY 1 1 4),
  (4, tt_k 3 5),
  (5, tt_iand 6),
  (6, tt_ri P)]
abbrev rm_I_otherRegister : Room := { frames := 0, cells := 0, slots := 0, locals := 0 }
set_option maxRecDepth 20000 in
theorem ok_I_otherRegister (l : Launch) (J : ev_K) (P : Int32 → ev_M → ev_L → Prop) (X : ev_X l rm_I_otherRegister evLY evCl ws_I_otherRegister prog_3_method_8_code 1 y_I_otherRegister.cls J) (Z : ev_Z J prog_3_method_8_code .ireturn ev_i P) : ev_oks J (I_I_otherRegister P) :=
  ⟨qq_aln X 0 rfl d_I_otherRegister_0,
  qq_gf X 1 1 rfl (fun w h => List.mem_cons_of_mem _ (inE_I w h)) (by decide) (List.mem_cons_of_mem _ mw_70) d_I_otherRegister_1,
  qq_ic X 3 (by decide) d_I_otherRegister_4,
  qq_iand X d_I_otherRegister_5,
  qq_ri Z d_I_otherRegister_6, trivial⟩
def pre_I_otherRegister : List Value → ev_M → ev_L → Prop := pre_I_length
def post_I_otherRegister : List Value → ev_M → ev_L → Int32 → ev_M → ev_L → Prop := fun as σ τ r σ' τ' => match as with
  | [.ref k] => r = σ k 1 &&& 3 ∧ σ' = σ ∧ τ' = τ
  | _ => False
set_option maxHeartbeats 4000000 in
set_option maxRecDepth 100000 in
theorem c_I_otherRegister (l : Launch) : ev_C ev_i l y_I_otherRegister ws_I_otherRegister rm_I_otherRegister evLY evCl pre_I_otherRegister post_I_otherRegister := by
  refine ev_meth0 (by decide) rfl ev_rop_i ?_ I_I_otherRegister (ok_I_otherRegister l) 60 ?_
  · rintro _ σ τ ⟨k, rfl, hk⟩
    exact Nat.le_refl _
  · rintro _ σ τ ⟨k, rfl, rfl | rfl | rfl⟩
    all_goals exact ⟨rfl, rfl, rfl⟩
def sp_isC (k : Int32) : Bool := decide (k = 60 ∨ k = 64)
def sp_ends (k : Int32) : Bool := decide (k = 0 ∨ k = 3 ∨ (60 ≤ k ∧ k ≤ 72))
def sp_isR (k : Int32) : Bool := decide (k = 2 ∨ k = 76 ∨ k = 77)
def y_I_isConditional : MethodName := ⟨RX1, "isConditional", "()Z"⟩
def ws_I_isConditional : List Cond := .code y_I_isConditional prog_3_method_9_code 1 (some .boolean) :: evW
theorem d_I_isConditional_0 : decode prog_3_method_9_code 0 = .ok (.aload_n 0, 1) := by decide +kernel
theorem d_I_isConditional_1 : decode prog_3_method_9_code 1 = .ok (.getfield 25, 3) := by decide +kernel
theorem d_I_isConditional_4 : decode prog_3_method_9_code 4 = .ok (.bipush 60, 2) := by decide +kernel
theorem d_I_isConditional_6 : decode prog_3_method_9_code 6 = .ok (.if_icmp .eq 12, 3) := by decide +kernel
theorem d_I_isConditional_9 : decode prog_3_method_9_code 9 = .ok (.aload_n 0, 1) := by decide +kernel
theorem d_I_isConditional_10 : decode prog_3_method_9_code 10 = .ok (.getfield 25, 3) := by decide +kernel
theorem d_I_isConditional_13 : decode prog_3_method_9_code 13 = .ok (.bipush 64, 2) := by decide +kernel
theorem d_I_isConditional_15 : decode prog_3_method_9_code 15 = .ok (.if_icmp .ne 7, 3) := by decide +kernel
theorem d_I_isConditional_18 : decode prog_3_method_9_code 18 = .ok (.iconst 1, 1) := by decide +kernel
theorem d_I_isConditional_19 : decode prog_3_method_9_code 19 = .ok (.goto 4, 3) := by decide +kernel
theorem d_I_isConditional_22 : decode prog_3_method_9_code 22 = .ok (.iconst 0, 1) := by decide +kernel
theorem d_I_isConditional_23 : decode prog_3_method_9_code 23 = .ok (.ireturn, 1) := by decide +kernel
def I_I_isConditional (P : Bool → ev_M → ev_L → Prop) : List (Nat × ev_T) := [(0, tt_al 0 1),
  (1, tt_gf evLY 1 2 4),
  (4, tt_k 60 6),
  (6, tt_iceq 18 9),
  (9, tt_al 0 10),
  (10, tt_gf evLY 1 2 13),
  (13, tt_k 64 15),
  (15, tt_icne 22 18),
  (18, tt_k 1 19),
  (19, tt_go 23),
  (22, tt_k 0 23),
  (23, tt_rz P)]
abbrev rm_I_isConditional : Room := { frames := 0, cells := 0, slots := 0, locals := 0 }
set_option maxRecDepth 20000 in
theorem ok_I_isConditional (l : Launch) (J : ev_K) (P : Bool → ev_M → ev_L → Prop) (X : ev_X l rm_I_isConditional evLY evCl ws_I_isConditional prog_3_method_9_code 1 y_I_isConditional.cls J) (Z : ev_Z J prog_3_method_9_code .ireturn ev_b P) : ev_oks J (I_I_isConditional P) :=
  ⟨qq_aln X 0 rfl d_I_isConditional_0,
  qq_gf X 1 2 rfl (fun w h => List.mem_cons_of_mem _ (inE_I w h)) (by decide) (List.mem_cons_of_mem _ mw_72) d_I_isConditional_1,
  qq_bp X 60 (by decide) d_I_isConditional_4,
  qq_iceq X 18 (by decide) d_I_isConditional_6,
  qq_aln X 0 rfl d_I_isConditional_9,
  qq_gf X 1 2 rfl (fun w h => List.mem_cons_of_mem _ (inE_I w h)) (by decide) (List.mem_cons_of_mem _ mw_72) d_I_isConditional_10,
  qq_bp X 64 (by decide) d_I_isConditional_13,
  qq_icne X 22 (by decide) d_I_isConditional_15,
  qq_ic X 1 (by decide) d_I_isConditional_18,
  qq_go X 23 (by decide) d_I_isConditional_19,
  qq_ic X 0 (by decide) d_I_isConditional_22,
  qq_rz Z d_I_isConditional_23, trivial⟩
def pre_I_isConditional : List Value → ev_M → ev_L → Prop := pre_I_length
def post_I_isConditional : List Value → ev_M → ev_L → Bool → ev_M → ev_L → Prop := fun as σ τ r σ' τ' => match as with
  | [.ref k] => r = sp_isC (σ k 2) ∧ σ' = σ ∧ τ' = τ
  | _ => False
set_option maxHeartbeats 4000000 in
set_option maxRecDepth 100000 in
theorem c_I_isConditional (l : Launch) : ev_C ev_b l y_I_isConditional ws_I_isConditional rm_I_isConditional evLY evCl pre_I_isConditional post_I_isConditional := by
  refine ev_meth0 (by decide) rfl ev_rop_b ?_ I_I_isConditional (ok_I_isConditional l) 60 ?_
  · rintro _ σ τ ⟨k, rfl, hk⟩
    exact Nat.le_refl _
  · rintro _ σ τ ⟨k, rfl, rfl | rfl | rfl⟩
    all_goals
      repeat' first | refine br_c (fun _ => ?_) (fun _ => ?_) | refine br_n (fun _ => ?_) (fun _ => ?_)
      all_goals
        first
        | (refine ⟨true, rfl, ?_, rfl, rfl⟩; simp_all [sp_isC, Int32.not_lt, Int32.not_le]; done)
        | (refine ⟨false, rfl, ?_, rfl, rfl⟩; simp_all [sp_isC, Int32.not_lt, Int32.not_le]; done)
def y_I_endsBlock : MethodName := ⟨RX1, "endsBlock", "()Z"⟩
def ws_I_endsBlock : List Cond := .code y_I_endsBlock prog_3_method_10_code 1 (some .boolean) :: evW
theorem d_I_endsBlock_0 : decode prog_3_method_10_code 0 = .ok (.aload_n 0, 1) := by decide +kernel
theorem d_I_endsBlock_1 : decode prog_3_method_10_code 1 = .ok (.getfield 25, 3) := by decide +kernel
theorem d_I_endsBlock_4 : decode prog_3_method_10_code 4 = .ok (.ifCond .eq 29, 3) := by decide +kernel
theorem d_I_endsBlock_7 : decode prog_3_method_10_code 7 = .ok (.aload_n 0, 1) := by decide +kernel
theorem d_I_endsBlock_8 : decode prog_3_method_10_code 8 = .ok (.getfield 25, 3) := by decide +kernel
theorem d_I_endsBlock_11 : decode prog_3_method_10_code 11 = .ok (.iconst 3, 1) := by decide +kernel
theorem d_I_endsBlock_12 : decode prog_3_method_10_code 12 = .ok (.if_icmp .eq 21, 3) := by decide +kernel
theorem d_I_endsBlock_15 : decode prog_3_method_10_code 15 = .ok (.aload_n 0, 1) := by decide +kernel
theorem d_I_endsBlock_16 : decode prog_3_method_10_code 16 = .ok (.getfield 25, 3) := by decide +kernel
theorem d_I_endsBlock_19 : decode prog_3_method_10_code 19 = .ok (.bipush 60, 2) := by decide +kernel
theorem d_I_endsBlock_21 : decode prog_3_method_10_code 21 = .ok (.if_icmp .lt 16, 3) := by decide +kernel
theorem d_I_endsBlock_24 : decode prog_3_method_10_code 24 = .ok (.aload_n 0, 1) := by decide +kernel
theorem d_I_endsBlock_25 : decode prog_3_method_10_code 25 = .ok (.getfield 25, 3) := by decide +kernel
theorem d_I_endsBlock_28 : decode prog_3_method_10_code 28 = .ok (.bipush 72, 2) := by decide +kernel
theorem d_I_endsBlock_30 : decode prog_3_method_10_code 30 = .ok (.if_icmp .gt 7, 3) := by decide +kernel
theorem d_I_endsBlock_33 : decode prog_3_method_10_code 33 = .ok (.iconst 1, 1) := by decide +kernel
theorem d_I_endsBlock_34 : decode prog_3_method_10_code 34 = .ok (.goto 4, 3) := by decide +kernel
theorem d_I_endsBlock_37 : decode prog_3_method_10_code 37 = .ok (.iconst 0, 1) := by decide +kernel
theorem d_I_endsBlock_38 : decode prog_3_method_10_code 38 = .ok (.ireturn, 1) := by decide +kernel
def I_I_endsBlock (P : Bool → ev_M → ev_L → Prop) : List (Nat × ev_T) := [(0, tt_al 0 1),
  (1, tt_gf evLY 1 2 4),
  (4, tt_ifeq 33 7),
  (7, tt_al 0 8),
  (8, tt_gf evLY 1 2 11),
  (11, tt_k 3 12),
  (12, tt_iceq 33 15),
  (15, tt_al 0 16),
  (16, tt_gf evLY 1 2 19),
  (19, tt_k 60 21),
  (21, tt_iclt 37 24),
  (24, tt_al 0 25),
  (25, tt_gf evLY 1 2 28),
  (28, tt_k 72 30),
  (30, tt_icgt 37 33),
  (33, tt_k 1 34),
  (34, tt_go 38),
  (37, tt_k 0 38),
  (38, tt_rz P)]
abbrev rm_I_endsBlock : Room := { frames := 0, cells := 0, slots := 0, locals := 0 }
set_option maxRecDepth 20000 in
theorem ok_I_endsBlock (l : Launch) (J : ev_K) (P : Bool → ev_M → ev_L → Prop) (X : ev_X l rm_I_endsBlock evLY evCl ws_I_endsBlock prog_3_method_10_code 1 y_I_endsBlock.cls J) (Z : ev_Z J prog_3_method_10_code .ireturn ev_b P) : ev_oks J (I_I_endsBlock P) :=
  ⟨qq_aln X 0 rfl d_I_endsBlock_0,
  qq_gf X 1 2 rfl (fun w h => List.mem_cons_of_mem _ (inE_I w h)) (by decide) (List.mem_cons_of_mem _ mw_72) d_I_endsBlock_1,
  qq_ifeq X 33 (by decide) d_I_endsBlock_4,
  qq_aln X 0 rfl d_I_endsBlock_7,
  qq_gf X 1 2 rfl (fun w h => List.mem_cons_of_mem _ (inE_I w h)) (by decide) (List.mem_cons_of_mem _ mw_72) d_I_endsBlock_8,
  qq_ic X 3 (by decide) d_I_endsBlock_11,
  qq_iceq X 33 (by decide) d_I_endsBlock_12,
  qq_aln X 0 rfl d_I_endsBlock_15,
  qq_gf X 1 2 rfl (fun w h => List.mem_cons_of_mem _ (inE_I w h)) (by decide) (List.mem_cons_of_mem _ mw_72) d_I_endsBlock_16,
  qq_bp X 60 (by decide) d_I_endsBlock_19,
  qq_iclt X 37 (by decide) d_I_endsBlock_21,
  qq_aln X 0 rfl d_I_endsBlock_24,
  qq_gf X 1 2 rfl (fun w h => List.mem_cons_of_mem _ (inE_I w h)) (by decide) (List.mem_cons_of_mem _ mw_72) d_I_endsBlock_25,
  qq_bp X 72 (by decide) d_I_endsBlock_28,
  qq_icgt X 37 (by decide) d_I_endsBlock_30,
  qq_ic X 1 (by decide) d_I_endsBlock_33,
  qq_go X 38 (by decide) d_I_endsBlock_34,
  qq_ic X 0 (by decide) d_I_endsBlock_37,
  qq_rz Z d_I_endsBlock_38, trivial⟩
def pre_I_endsBlock : List Value → ev_M → ev_L → Prop := pre_I_length
def post_I_endsBlock : List Value → ev_M → ev_L → Bool → ev_M → ev_L → Prop := fun as σ τ r σ' τ' => match as with
  | [.ref k] => r = sp_ends (σ k 2) ∧ σ' = σ ∧ τ' = τ
  | _ => False
set_option maxHeartbeats 4000000 in
set_option maxRecDepth 100000 in
theorem c_I_endsBlock (l : Launch) : ev_C ev_b l y_I_endsBlock ws_I_endsBlock rm_I_endsBlock evLY evCl pre_I_endsBlock post_I_endsBlock := by
  refine ev_meth0 (by decide) rfl ev_rop_b ?_ I_I_endsBlock (ok_I_endsBlock l) 60 ?_
  · rintro _ σ τ ⟨k, rfl, hk⟩
    exact Nat.le_refl _
  · rintro _ σ τ ⟨k, rfl, rfl | rfl | rfl⟩
    all_goals
      repeat' first | refine br_c (fun _ => ?_) (fun _ => ?_) | refine br_n (fun _ => ?_) (fun _ => ?_)
      all_goals
        first
        | exact ⟨true, rfl, (decide_eq_true (by simp only [Int32.lt_iff_toInt_lt, Int32.le_iff_toInt_le, ← Int32.toInt_inj, Int32.reduceToInt] at *; omega)).symm, rfl, rfl⟩
        | exact ⟨false, rfl, (decide_eq_false (by simp only [Int32.lt_iff_toInt_lt, Int32.le_iff_toInt_le, ← Int32.toInt_inj, Int32.reduceToInt] at *; omega)).symm, rfl, rfl⟩
def y_I_isOfRewriting : MethodName := ⟨RX1, "isOfRewriting", "()Z"⟩
def ws_I_isOfRewriting : List Cond := .code y_I_isOfRewriting prog_3_method_11_code 1 (some .boolean) :: evW
theorem d_I_isOfRewriting_0 : decode prog_3_method_11_code 0 = .ok (.aload_n 0, 1) := by decide +kernel
theorem d_I_isOfRewriting_1 : decode prog_3_method_11_code 1 = .ok (.getfield 25, 3) := by decide +kernel
theorem d_I_isOfRewriting_4 : decode prog_3_method_11_code 4 = .ok (.iconst 2, 1) := by decide +kernel
theorem d_I_isOfRewriting_5 : decode prog_3_method_11_code 5 = .ok (.if_icmp .eq 21, 3) := by decide +kernel
theorem d_I_isOfRewriting_8 : decode prog_3_method_11_code 8 = .ok (.aload_n 0, 1) := by decide +kernel
theorem d_I_isOfRewriting_9 : decode prog_3_method_11_code 9 = .ok (.getfield 25, 3) := by decide +kernel
theorem d_I_isOfRewriting_12 : decode prog_3_method_11_code 12 = .ok (.bipush 76, 2) := by decide +kernel
theorem d_I_isOfRewriting_14 : decode prog_3_method_11_code 14 = .ok (.if_icmp .eq 12, 3) := by decide +kernel
theorem d_I_isOfRewriting_17 : decode prog_3_method_11_code 17 = .ok (.aload_n 0, 1) := by decide +kernel
theorem d_I_isOfRewriting_18 : decode prog_3_method_11_code 18 = .ok (.getfield 25, 3) := by decide +kernel
theorem d_I_isOfRewriting_21 : decode prog_3_method_11_code 21 = .ok (.bipush 77, 2) := by decide +kernel
theorem d_I_isOfRewriting_23 : decode prog_3_method_11_code 23 = .ok (.if_icmp .ne 7, 3) := by decide +kernel
theorem d_I_isOfRewriting_26 : decode prog_3_method_11_code 26 = .ok (.iconst 1, 1) := by decide +kernel
theorem d_I_isOfRewriting_27 : decode prog_3_method_11_code 27 = .ok (.goto 4, 3) := by decide +kernel
theorem d_I_isOfRewriting_30 : decode prog_3_method_11_code 30 = .ok (.iconst 0, 1) := by decide +kernel
theorem d_I_isOfRewriting_31 : decode prog_3_method_11_code 31 = .ok (.ireturn, 1) := by decide +kernel
def I_I_isOfRewriting (P : Bool → ev_M → ev_L → Prop) : List (Nat × ev_T) := [(0, tt_al 0 1),
  (1, tt_gf evLY 1 2 4),
  (4, tt_k 2 5),
  (5, tt_iceq 26 8),
  (8, tt_al 0 9),
  (9, tt_gf evLY 1 2 12),
  (12, tt_k 76 14),
  (14, tt_iceq 26 17),
  (17, tt_al 0 18),
  (18, tt_gf evLY 1 2 21),
  (21, tt_k 77 23),
  (23, tt_icne 30 26),
  (26, tt_k 1 27),
  (27, tt_go 31),
  (30, tt_k 0 31),
  (31, tt_rz P)]
abbrev rm_I_isOfRewriting : Room := { frames := 0, cells := 0, slots := 0, locals := 0 }
set_option maxRecDepth 20000 in
theorem ok_I_isOfRewriting (l : Launch) (J : ev_K) (P : Bool → ev_M → ev_L → Prop) (X : ev_X l rm_I_isOfRewriting evLY evCl ws_I_isOfRewriting prog_3_method_11_code 1 y_I_isOfRewriting.cls J) (Z : ev_Z J prog_3_method_11_code .ireturn ev_b P) : ev_oks J (I_I_isOfRewriting P) :=
  ⟨qq_aln X 0 rfl d_I_isOfRewriting_0,
  qq_gf X 1 2 rfl (fun w h => List.mem_cons_of_mem _ (inE_I w h)) (by decide) (List.mem_cons_of_mem _ mw_72) d_I_isOfRewriting_1,
  qq_ic X 2 (by decide) d_I_isOfRewriting_4,
  qq_iceq X 26 (by decide) d_I_isOfRewriting_5,
  qq_aln X 0 rfl d_I_isOfRewriting_8,
  qq_gf X 1 2 rfl (fun w h => List.mem_cons_of_mem _ (inE_I w h)) (by decide) (List.mem_cons_of_mem _ mw_72) d_I_isOfRewriting_9,
  qq_bp X 76 (by decide) d_I_isOfRewriting_12,
  qq_iceq X 26 (by decide) d_I_isOfRewriting_14,
  qq_aln X 0 rfl d_I_isOfRewriting_17,
  qq_gf X 1 2 rfl (fun w h => List.mem_cons_of_mem _ (inE_I w h)) (by decide) (List.mem_cons_of_mem _ mw_72) d_I_isOfRewriting_18,
  qq_bp X 77 (by decide) d_I_isOfRewriting_21,
  qq_icne X 30 (by decide) d_I_isOfRewriting_23,
  qq_ic X 1 (by decide) d_I_isOfRewriting_26,
  qq_go X 31 (by decide) d_I_isOfRewriting_27,
  qq_ic X 0 (by decide) d_I_isOfRewriting_30,
  qq_rz Z d_I_isOfRewriting_31, trivial⟩
def pre_I_isOfRewriting : List Value → ev_M → ev_L → Prop := pre_I_length
def post_I_isOfRewriting : List Value → ev_M → ev_L → Bool → ev_M → ev_L → Prop := fun as σ τ r σ' τ' => match as with
  | [.ref k] => r = sp_isR (σ k 2) ∧ σ' = σ ∧ τ' = τ
  | _ => False
set_option maxHeartbeats 4000000 in
set_option maxRecDepth 100000 in
theorem c_I_isOfRewriting (l : Launch) : ev_C ev_b l y_I_isOfRewriting ws_I_isOfRewriting rm_I_isOfRewriting evLY evCl pre_I_isOfRewriting post_I_isOfRewriting := by
  refine ev_meth0 (by decide) rfl ev_rop_b ?_ I_I_isOfRewriting (ok_I_isOfRewriting l) 60 ?_
  · rintro _ σ τ ⟨k, rfl, hk⟩
    exact Nat.le_refl _
  · rintro _ σ τ ⟨k, rfl, rfl | rfl | rfl⟩
    all_goals
      repeat' first | refine br_c (fun _ => ?_) (fun _ => ?_) | refine br_n (fun _ => ?_) (fun _ => ?_)
      all_goals
        first
        | (refine ⟨true, rfl, ?_, rfl, rfl⟩; simp_all [sp_isR, Int32.not_lt, Int32.not_le]; done)
        | (refine ⟨false, rfl, ?_, rfl, rfl⟩; simp_all [sp_isR, Int32.not_lt, Int32.not_le]; done)
/-- reading the instruction at a, below a limit: whether there is one, and the store behind it -/
def sp_rd1 (σ : ev_M) (k : Nat) (f : Nat → Int32) (a : Int32) : ev_M := ev_u (ev_u (ev_u σ k 0 a) k 1 (sp_at f a)) k 2 (sp_kind (sp_at f a))
def sp_rd2 (σ : ev_M) (k : Nat) (f : Nat → Int32) (a : Int32) : ev_M := ev_u (ev_u (sp_rd1 σ k f a) k 3 (sp_at f (a + 1))) k 4 (sp_at f (a + 2))
def sp_okR (f : Nat → Int32) (a m : Int32) : Prop := ¬ a < 0 ∧ a < m ∧ ¬ sp_kind (sp_at f a) = -1 ∧ a + sp_len (sp_kind (sp_at f a)) ≤ m
def y_I_read : MethodName := ⟨RX1, "read", "(LBlockCounter$Program;II)Z"⟩
def ws_I_read : List Cond := .code y_I_read prog_3_method_2_code 4 (some .boolean) :: evW
theorem d_I_read_0 : decode prog_3_method_2_code 0 = .ok (.iload_n 2, 1) := by decide +kernel
theorem d_I_read_1 : decode prog_3_method_2_code 1 = .ok (.ifCond .lt 8, 3) := by decide +kernel
theorem d_I_read_4 : decode prog_3_method_2_code 4 = .ok (.iload_n 2, 1) := by decide +kernel
theorem d_I_read_5 : decode prog_3_method_2_code 5 = .ok (.iload_n 3, 1) := by decide +kernel
theorem d_I_read_6 : decode prog_3_method_2_code 6 = .ok (.if_icmp .lt 5, 3) := by decide +kernel
theorem d_I_read_9 : decode prog_3_method_2_code 9 = .ok (.iconst 0, 1) := by decide +kernel
theorem d_I_read_10 : decode prog_3_method_2_code 10 = .ok (.ireturn, 1) := by decide +kernel
theorem d_I_read_11 : decode prog_3_method_2_code 11 = .ok (.aload_n 0, 1) := by decide +kernel
theorem d_I_read_12 : decode prog_3_method_2_code 12 = .ok (.iload_n 2, 1) := by decide +kernel
theorem d_I_read_13 : decode prog_3_method_2_code 13 = .ok (.putfield 7, 3) := by decide +kernel
theorem d_I_read_16 : decode prog_3_method_2_code 16 = .ok (.aload_n 0, 1) := by decide +kernel
theorem d_I_read_17 : decode prog_3_method_2_code 17 = .ok (.aload_n 1, 1) := by decide +kernel
theorem d_I_read_18 : decode prog_3_method_2_code 18 = .ok (.iload_n 2, 1) := by decide +kernel
theorem d_I_read_19 : decode prog_3_method_2_code 19 = .ok (.invokevirtual 13, 3) := by decide +kernel
theorem d_I_read_22 : decode prog_3_method_2_code 22 = .ok (.putfield 19, 3) := by decide +kernel
theorem d_I_read_25 : decode prog_3_method_2_code 25 = .ok (.aload_n 0, 1) := by decide +kernel
theorem d_I_read_26 : decode prog_3_method_2_code 26 = .ok (.aload_n 0, 1) := by decide +kernel
theorem d_I_read_27 : decode prog_3_method_2_code 27 = .ok (.getfield 19, 3) := by decide +kernel
theorem d_I_read_30 : decode prog_3_method_2_code 30 = .ok (.invokestatic 22, 3) := by decide +kernel
theorem d_I_read_33 : decode prog_3_method_2_code 33 = .ok (.putfield 25, 3) := by decide +kernel
theorem d_I_read_36 : decode prog_3_method_2_code 36 = .ok (.aload_n 0, 1) := by decide +kernel
theorem d_I_read_37 : decode prog_3_method_2_code 37 = .ok (.getfield 25, 3) := by decide +kernel
theorem d_I_read_40 : decode prog_3_method_2_code 40 = .ok (.iconst (-1), 1) := by decide +kernel
theorem d_I_read_41 : decode prog_3_method_2_code 41 = .ok (.if_icmp .eq 11, 3) := by decide +kernel
theorem d_I_read_44 : decode prog_3_method_2_code 44 = .ok (.aload_n 0, 1) := by decide +kernel
theorem d_I_read_45 : decode prog_3_method_2_code 45 = .ok (.invokevirtual 28, 3) := by decide +kernel
theorem d_I_read_48 : decode prog_3_method_2_code 48 = .ok (.iload_n 3, 1) := by decide +kernel
theorem d_I_read_49 : decode prog_3_method_2_code 49 = .ok (.if_icmp .le 5, 3) := by decide +kernel
theorem d_I_read_52 : decode prog_3_method_2_code 52 = .ok (.iconst 0, 1) := by decide +kernel
theorem d_I_read_53 : decode prog_3_method_2_code 53 = .ok (.ireturn, 1) := by decide +kernel
theorem d_I_read_54 : decode prog_3_method_2_code 54 = .ok (.aload_n 0, 1) := by decide +kernel
theorem d_I_read_55 : decode prog_3_method_2_code 55 = .ok (.aload_n 1, 1) := by decide +kernel
theorem d_I_read_56 : decode prog_3_method_2_code 56 = .ok (.iload_n 2, 1) := by decide +kernel
theorem d_I_read_57 : decode prog_3_method_2_code 57 = .ok (.iconst 1, 1) := by decide +kernel
theorem d_I_read_58 : decode prog_3_method_2_code 58 = .ok (.iadd, 1) := by decide +kernel
theorem d_I_read_59 : decode prog_3_method_2_code 59 = .ok (.invokevirtual 13, 3) := by decide +kernel
theorem d_I_read_62 : decode prog_3_method_2_code 62 = .ok (.putfield 32, 3) := by decide +kernel
theorem d_I_read_65 : decode prog_3_method_2_code 65 = .ok (.aload_n 0, 1) := by decide +kernel
theorem d_I_read_66 : decode prog_3_method_2_code 66 = .ok (.aload_n 1, 1) := by decide +kernel
theorem d_I_read_67 : decode prog_3_method_2_code 67 = .ok (.iload_n 2, 1) := by decide +kernel
theorem d_I_read_68 : decode prog_3_method_2_code 68 = .ok (.iconst 2, 1) := by decide +kernel
theorem d_I_read_69 : decode prog_3_method_2_code 69 = .ok (.iadd, 1) := by decide +kernel
theorem d_I_read_70 : decode prog_3_method_2_code 70 = .ok (.invokevirtual 13, 3) := by decide +kernel
theorem d_I_read_73 : decode prog_3_method_2_code 73 = .ok (.putfield 35, 3) := by decide +kernel
theorem d_I_read_76 : decode prog_3_method_2_code 76 = .ok (.iconst 1, 1) := by decide +kernel
theorem d_I_read_77 : decode prog_3_method_2_code 77 = .ok (.ireturn, 1) := by decide +kernel
def I_I_read (P : Bool → ev_M → ev_L → Prop) : List (Nat × ev_T) := [(0, tt_il 2 1),
  (1, tt_iflt 9 4),
  (4, tt_il 2 5),
  (5, tt_il 3 6),
  (6, tt_iclt 11 9),
  (9, tt_k 0 10),
  (10, tt_rz P),
  (11, tt_al 0 12),
  (12, tt_il 2 13),
  (13, tt_pf evLY 1 0 16),
  (16, tt_al 0 17),
  (17, tt_al 1 18),
  (18, tt_il 2 19),
  (19, tt_cV evLY 3 1 ev_i pre_P_at post_P_at 22),
  (22, tt_pf evLY 1 1 25),
  (25, tt_al 0 26),
  (26, tt_al 0 27),
  (27, tt_gf evLY 1 1 30),
  (30, tt_cS 1 ev_i pre_I_kindOf post_I_kindOf 33),
  (33, tt_pf evLY 1 2 36),
  (36, tt_al 0 37),
  (37, tt_gf evLY 1 2 40),
  (40, tt_k (-1) 41),
  (41, tt_iceq 52 44),
  (44, tt_al 0 45),
  (45, tt_cV evLY 1 0 ev_i pre_I_behind post_I_behind 48),
  (48, tt_il 3 49),
  (49, tt_icle 54 52),
  (52, tt_k 0 53),
  (53, tt_rz P),
  (54, tt_al 0 55),
  (55, tt_al 1 56),
  (56, tt_il 2 57),
  (57, tt_k 1 58),
  (58, tt_iadd 59),
  (59, tt_cV evLY 3 1 ev_i pre_P_at post_P_at 62),
  (62, tt_pf evLY 1 3 65),
  (65, tt_al 0 66),
  (66, tt_al 1 67),
  (67, tt_il 2 68),
  (68, tt_k 2 69),
  (69, tt_iadd 70),
  (70, tt_cV evLY 3 1 ev_i pre_P_at post_P_at 73),
  (73, tt_pf evLY 1 4 76),
  (76, tt_k 1 77),
  (77, tt_rz P)]
abbrev rm_I_read : Room := { frames := 2, cells := 0, slots := 0, locals := 64 }
set_option maxRecDepth 20000 in
theorem ok_I_read (l : Launch) (J : ev_K) (P : Bool → ev_M → ev_L → Prop) (X : ev_X l rm_I_read evLY evCl ws_I_read prog_3_method_2_code 4 y_I_read.cls J) (Z : ev_Z J prog_3_method_2_code .ireturn ev_b P) : ev_oks J (I_I_read P) :=
  ⟨qq_iln X 2 rfl d_I_read_0,
  qq_iflt X 9 (by decide) d_I_read_1,
  qq_iln X 2 rfl d_I_read_4,
  qq_iln X 3 rfl d_I_read_5,
  qq_iclt X 11 (by decide) d_I_read_6,
  qq_ic X 0 (by decide) d_I_read_9,
  qq_rz Z d_I_read_10,
  qq_aln X 0 rfl d_I_read_11,
  qq_iln X 2 rfl d_I_read_12,
  qq_pf X 1 0 rfl (fun w h => List.mem_cons_of_mem _ (inE_I w h)) (by decide) tyX1 tyX1_ok nmX1 rfl (by decide +kernel) (List.mem_cons_of_mem _ mw_69) d_I_read_13,
  qq_aln X 0 rfl d_I_read_16,
  qq_aln X 1 rfl d_I_read_17,
  qq_iln X 2 rfl d_I_read_18,
  qq_cV X 3 rfl (c_P_at l) (fun hts => cwV 1 hts (evGV (mw_422) (mw_423) (mw_424) (mw_2) (mw_425)) rfl rfl rfl (by decide +kernel) ⟨Nat.le_of_ble_eq_true rfl, Nat.le_of_ble_eq_true rfl⟩) d_I_read_19,
  qq_pf X 1 1 rfl (fun w h => List.mem_cons_of_mem _ (inE_I w h)) (by decide) tyX1 tyX1_ok nmX1 rfl (by decide +kernel) (List.mem_cons_of_mem _ mw_70) d_I_read_22,
  qq_aln X 0 rfl d_I_read_25,
  qq_aln X 0 rfl d_I_read_26,
  qq_gf X 1 1 rfl (fun w h => List.mem_cons_of_mem _ (inE_I w h)) (by decide) (List.mem_cons_of_mem _ mw_70) d_I_read_27,
  qq_cS X (c_I_kindOf l) (fun hts => va_cwS 1 hts (evGS (mw_426) (mw_427) (mw_5) (mw_428)) rfl rfl rfl (by decide +kernel) ⟨Nat.le_of_ble_eq_true rfl, Nat.le_of_ble_eq_true rfl⟩) d_I_read_30,
  qq_pf X 1 2 rfl (fun w h => List.mem_cons_of_mem _ (inE_I w h)) (by decide) tyX1 tyX1_ok nmX1 rfl (by decide +kernel) (List.mem_cons_of_mem _ mw_72) d_I_read_33,
  qq_aln X 0 rfl d_I_read_36,
  qq_gf X 1 2 rfl (fun w h => List.mem_cons_of_mem _ (inE_I w h)) (by decide) (List.mem_cons_of_mem _ mw_72) d_I_read_37,
  qq_ic X (-1) (by decide) d_I_read_40,
  qq_iceq X 52 (by decide) d_I_read_41,
  qq_aln X 0 rfl d_I_read_44,
  qq_cV X 1 rfl (c_I_behind l) (fun hts => cwV 0 hts (evGV (mw_429) (mw_430) (mw_431) (mw_5) (mw_432)) rfl rfl rfl (by decide +kernel) ⟨Nat.le_of_ble_eq_true rfl, Nat.le_of_ble_eq_true rfl⟩) d_I_read_45,
  qq_iln X 3 rfl d_I_read_48,
  qq_icle X 54 (by decide) d_I_read_49,
  qq_ic X 0 (by decide) d_I_read_52,
  qq_rz Z d_I_read_53,
  qq_aln X 0 rfl d_I_read_54,
  qq_aln X 1 rfl d_I_read_55,
  qq_iln X 2 rfl d_I_read_56,
  qq_ic X 1 (by decide) d_I_read_57,
  qq_iadd X d_I_read_58,
  qq_cV X 3 rfl (c_P_at l) (fun hts => cwV 1 hts (evGV (mw_422) (mw_423) (mw_424) (mw_2) (mw_425)) rfl rfl rfl (by decide +kernel) ⟨Nat.le_of_ble_eq_true rfl, Nat.le_of_ble_eq_true rfl⟩) d_I_read_59,
  qq_pf X 1 3 rfl (fun w h => List.mem_cons_of_mem _ (inE_I w h)) (by decide) tyX1 tyX1_ok nmX1 rfl (by decide +kernel) (List.mem_cons_of_mem _ mw_76) d_I_read_62,
  qq_aln X 0 rfl d_I_read_65,
  qq_aln X 1 rfl d_I_read_66,
  qq_iln X 2 rfl d_I_read_67,
  qq_ic X 2 (by decide) d_I_read_68,
  qq_iadd X d_I_read_69,
  qq_cV X 3 rfl (c_P_at l) (fun hts => cwV 1 hts (evGV (mw_422) (mw_423) (mw_424) (mw_2) (mw_425)) rfl rfl rfl (by decide +kernel) ⟨Nat.le_of_ble_eq_true rfl, Nat.le_of_ble_eq_true rfl⟩) d_I_read_70,
  qq_pf X 1 4 rfl (fun w h => List.mem_cons_of_mem _ (inE_I w h)) (by decide) tyX1 tyX1_ok nmX1 rfl (by decide +kernel) (List.mem_cons_of_mem _ mw_80) d_I_read_73,
  qq_ic X 1 (by decide) d_I_read_76,
  qq_rz Z d_I_read_77, trivial⟩
def pre_I_read : List Value → ev_M → ev_L → Prop := fun as _ _ => ∃ (k q : Nat) (a m : Int32), as = [.ref k, .ref q, .int a, .int m] ∧ ((k = 9 ∧ q = 1) ∨ (k = 19 ∧ q = 1) ∨ (k = 24 ∧ q = 1) ∨ (k = 24 ∧ q = 20))
def post_I_read : List Value → ev_M → ev_L → Bool → ev_M → ev_L → Prop := fun as σ τ r σ' τ' => match as with
  | [.ref k, .ref q, .int a, .int m] => τ' = τ ∧ ((r = true ∧ sp_okR (σ (q + 1)) a m ∧ σ' = sp_rd2 σ k (σ (q + 1)) a) ∨ (r = false ∧ ¬ sp_okR (σ (q + 1)) a m ∧ (σ' = σ ∨ σ' = sp_rd1 σ k (σ (q + 1)) a)))
  | _ => False
set_option maxHeartbeats 4000000 in
set_option maxRecDepth 100000 in
theorem c_I_read (l : Launch) : ev_C ev_b l y_I_read ws_I_read rm_I_read evLY evCl pre_I_read post_I_read := by
  refine ev_meth0 (by decide) rfl ev_rop_b ?_ I_I_read (ok_I_read l) 60 ?_
  · rintro _ σ τ ⟨k, q, a, m, rfl, hk⟩
    exact Nat.le_refl _
  · rintro _ σ τ ⟨k, q, a, m, rfl, ⟨rfl, rfl⟩ | ⟨rfl, rfl⟩ | ⟨rfl, rfl⟩ | ⟨rfl, rfl⟩⟩
    all_goals
      refine br_c (fun h => ?_) (fun h => br_c (fun h2 => ?_) (fun h2 => ?_))
      · exact ⟨false, rfl, rfl, Or.inr ⟨rfl, fun q => q.1 h, Or.inl rfl⟩⟩
      · refine ⟨⟨_, _, rfl, by decide⟩, ?_⟩
        rintro _ σ τ ⟨rfl, rfl, rfl⟩
        refine ⟨⟨_, rfl⟩, ?_⟩
        rintro _ σ τ ⟨rfl, rfl, rfl⟩
        refine br_c (fun h3 => ?_) (fun h3 => ?_)
        · exact ⟨false, rfl, rfl, Or.inr ⟨rfl, fun q => q.2.2.1 h3, Or.inr rfl⟩⟩
        · refine ⟨⟨_, rfl, by decide⟩, ?_⟩
          rintro _ σ τ ⟨rfl, rfl, rfl⟩
          refine br_c (fun h4 => ?_) (fun h4 => ?_)
          · refine ⟨⟨_, _, rfl, by decide⟩, ?_⟩
            rintro _ σ τ ⟨rfl, rfl, rfl⟩
            refine ⟨⟨_, _, rfl, by decide⟩, ?_⟩
            rintro _ σ τ ⟨rfl, rfl, rfl⟩
            exact ⟨true, rfl, rfl, Or.inl ⟨rfl, ⟨h, h2, h3, h4⟩, rfl⟩⟩
          · exact ⟨false, rfl, rfl, Or.inr ⟨rfl, fun q => h4 q.2.2.2, Or.inr rfl⟩⟩
      · exact ⟨false, rfl, rfl, Or.inr ⟨rfl, fun q => h2 q.2.1, Or.inl rfl⟩⟩
end
section
/-! Machine: small methods -/
def y_M_registerValue : MethodName := ⟨RX2, "registerValue", "(I)I"⟩
def ws_M_registerValue : List Cond := .code y_M_registerValue prog_4_method_2_code 2 (some .int) :: evW
theorem d_M_registerValue_0 : decode prog_4_method_2_code 0 = .ok (.aload_n 0, 1) := by decide +kernel
theorem d_M_registerValue_1 : decode prog_4_method_2_code 1 = .ok (.getfield 18, 3) := by decide +kernel
theorem d_M_registerValue_4 : decode prog_4_method_2_code 4 = .ok (.iload_n 1, 1) := by decide +kernel
theorem d_M_registerValue_5 : decode prog_4_method_2_code 5 = .ok (.iconst 3, 1) := by decide +kernel
theorem d_M_registerValue_6 : decode prog_4_method_2_code 6 = .ok (.iand, 1) := by decide +kernel
theorem d_M_registerValue_7 : decode prog_4_method_2_code 7 = .ok (.iaload, 1) := by decide +kernel
theorem d_M_registerValue_8 : decode prog_4_method_2_code 8 = .ok (.ireturn, 1) := by decide +kernel
def I_M_registerValue (P : Int32 → ev_M → ev_L → Prop) : List (Nat × ev_T) := [(0, tt_al 0 1),
  (1, tt_gf evLY 2 1 4),
  (4, tt_il 1 5),
  (5, tt_k 3 6),
  (6, tt_iand 7),
  (7, tt_ia evLY 8),
  (8, tt_ri P)]
abbrev rm_M_registerValue : Room := { frames := 0, cells := 0, slots := 0, locals := 0 }
set_option maxRecDepth 20000 in
theorem ok_M_registerValue (l : Launch) (J : ev_K) (P : Int32 → ev_M → ev_L → Prop) (X : ev_X l rm_M_registerValue evLY evCl ws_M_registerValue prog_4_method_2_code 2 y_M_registerValue.cls J) (Z : ev_Z J prog_4_method_2_code .ireturn ev_i P) : ev_oks J (I_M_registerValue P) :=
  ⟨qq_aln X 0 rfl d_M_registerValue_0,
  qq_gf X 2 1 rfl (fun w h => List.mem_cons_of_mem _ (inE_M w h)) (by decide) (List.mem_cons_of_mem _ mw_162) d_M_registerValue_1,
  qq_iln X 1 rfl d_M_registerValue_4,
  qq_ic X 3 (by decide) d_M_registerValue_5,
  qq_iand X d_M_registerValue_6,
  qq_ia X d_M_registerValue_7,
  qq_ri Z d_M_registerValue_8, trivial⟩
def pre_M_registerValue : List Value → ev_M → ev_L → Prop := fun as σ τ => ∃ (i : Int32), as = [.ref 23, .int i]
def post_M_registerValue : List Value → ev_M → ev_L → Int32 → ev_M → ev_L → Prop := fun as σ τ r σ' τ' => match as with
  | [_, .int i] => r = σ 25 (i &&& 3).toNatClampNeg ∧ σ' = σ ∧ τ' = τ
  | _ => False
set_option maxHeartbeats 4000000 in
set_option maxRecDepth 100000 in
theorem c_M_registerValue (l : Launch) : ev_C ev_i l y_M_registerValue ws_M_registerValue rm_M_registerValue evLY evCl pre_M_registerValue post_M_registerValue := by
  refine ev_meth0 (by decide) rfl ev_rop_i ?_ I_M_registerValue (ok_M_registerValue l) 40 ?_
  · rintro _ σ τ ⟨i, rfl⟩
    exact Nat.le_of_ble_eq_true rfl
  · rintro _ σ τ ⟨i, rfl⟩
    exact ⟨pk_andIn i 2 rfl (by decide), rfl, rfl, rfl⟩
def y_M_cellValue : MethodName := ⟨RX2, "cellValue", "(I)I"⟩
def ws_M_cellValue : List Cond := .code y_M_cellValue prog_4_method_3_code 2 (some .int) :: evW
theorem d_M_cellValue_0 : decode prog_4_method_3_code 0 = .ok (.aload_n 0, 1) := by decide +kernel
theorem d_M_cellValue_1 : decode prog_4_method_3_code 1 = .ok (.getfield 22, 3) := by decide +kernel
theorem d_M_cellValue_4 : decode prog_4_method_3_code 4 = .ok (.iload_n 1, 1) := by decide +kernel
theorem d_M_cellValue_5 : decode prog_4_method_3_code 5 = .ok (.bipush 15, 2) := by decide +kernel
theorem d_M_cellValue_7 : decode prog_4_method_3_code 7 = .ok (.iand, 1) := by decide +kernel
theorem d_M_cellValue_8 : decode prog_4_method_3_code 8 = .ok (.iaload, 1) := by decide +kernel
theorem d_M_cellValue_9 : decode prog_4_method_3_code 9 = .ok (.ireturn, 1) := by decide +kernel
def I_M_cellValue (P : Int32 → ev_M → ev_L → Prop) : List (Nat × ev_T) := [(0, tt_al 0 1),
  (1, tt_gf evLY 2 2 4),
  (4, tt_il 1 5),
  (5, tt_k 15 7),
  (7, tt_iand 8),
  (8, tt_ia evLY 9),
  (9, tt_ri P)]
abbrev rm_M_cellValue : Room := { frames := 0, cells := 0, slots := 0, locals := 0 }
set_option maxRecDepth 20000 in
theorem ok_M_cellValue (l : Launch) (J : ev_K) (P : Int32 → ev_M → ev_L → Prop) (X : ev_X l rm_M_cellValue evLY evCl ws_M_cellValue prog_4_method_3_code 2 y_M_cellValue.cls J) (Z : ev_Z J prog_4_method_3_code .ireturn ev_i P) : ev_oks J (I_M_cellValue P) :=
  ⟨qq_aln X 0 rfl d_M_cellValue_0,
  qq_gf X 2 2 rfl (fun w h => List.mem_cons_of_mem _ (inE_M w h)) (by decide) (List.mem_cons_of_mem _ mw_163) d_M_cellValue_1,
  qq_iln X 1 rfl d_M_cellValue_4,
  qq_bp X 15 (by decide) d_M_cellValue_5,
  qq_iand X d_M_cellValue_7,
  qq_ia X d_M_cellValue_8,
  qq_ri Z d_M_cellValue_9, trivial⟩
def pre_M_cellValue : List Value → ev_M → ev_L → Prop := fun as σ τ => ∃ (i : Int32), as = [.ref 23, .int i]
def post_M_cellValue : List Value → ev_M → ev_L → Int32 → ev_M → ev_L → Prop := fun as σ τ r σ' τ' => match as with
  | [_, .int i] => r = σ 26 (i &&& 15).toNatClampNeg ∧ σ' = σ ∧ τ' = τ
  | _ => False
set_option maxHeartbeats 4000000 in
set_option maxRecDepth 100000 in
theorem c_M_cellValue (l : Launch) : ev_C ev_i l y_M_cellValue ws_M_cellValue rm_M_cellValue evLY evCl pre_M_cellValue post_M_cellValue := by
  refine ev_meth0 (by decide) rfl ev_rop_i ?_ I_M_cellValue (ok_M_cellValue l) 40 ?_
  · rintro _ σ τ ⟨i, rfl⟩
    exact Nat.le_of_ble_eq_true rfl
  · rintro _ σ τ ⟨i, rfl⟩
    exact ⟨pk_andIn i 4 rfl (by decide), rfl, rfl, rfl⟩
def y_M_count : MethodName := ⟨RX2, "count", "(I)J"⟩
def ws_M_count : List Cond := .code y_M_count prog_4_method_4_code 2 (some .long) :: evW
theorem d_M_count_0 : decode prog_4_method_4_code 0 = .ok (.aload_n 0, 1) := by decide +kernel
theorem d_M_count_1 : decode prog_4_method_4_code 1 = .ok (.getfield 31, 3) := by decide +kernel
theorem d_M_count_4 : decode prog_4_method_4_code 4 = .ok (.iload_n 1, 1) := by decide +kernel
theorem d_M_count_5 : decode prog_4_method_4_code 5 = .ok (.bipush 63, 2) := by decide +kernel
theorem d_M_count_7 : decode prog_4_method_4_code 7 = .ok (.iand, 1) := by decide +kernel
theorem d_M_count_8 : decode prog_4_method_4_code 8 = .ok (.laload, 1) := by decide +kernel
theorem d_M_count_9 : decode prog_4_method_4_code 9 = .ok (.lreturn, 1) := by decide +kernel
def I_M_count (P : Int64 → ev_M → ev_L → Prop) : List (Nat × ev_T) := [(0, tt_al 0 1),
  (1, tt_gf evLY 2 5 4),
  (4, tt_il 1 5),
  (5, tt_k 63 7),
  (7, tt_iand 8),
  (8, tt_la evLY 9),
  (9, tt_rl P)]
abbrev rm_M_count : Room := { frames := 0, cells := 0, slots := 0, locals := 0 }
set_option maxRecDepth 20000 in
theorem ok_M_count (l : Launch) (J : ev_K) (P : Int64 → ev_M → ev_L → Prop) (X : ev_X l rm_M_count evLY evCl ws_M_count prog_4_method_4_code 2 y_M_count.cls J) (Z : ev_Z J prog_4_method_4_code .lreturn ev_l P) : ev_oks J (I_M_count P) :=
  ⟨qq_aln X 0 rfl d_M_count_0,
  qq_gf X 2 5 rfl (fun w h => List.mem_cons_of_mem _ (inE_M w h)) (by decide) (List.mem_cons_of_mem _ mw_166) d_M_count_1,
  qq_iln X 1 rfl d_M_count_4,
  qq_bp X 63 (by decide) d_M_count_5,
  qq_iand X d_M_count_7,
  qq_la X d_M_count_8,
  qq_rl Z d_M_count_9, trivial⟩
def pre_M_count : List Value → ev_M → ev_L → Prop := fun as σ τ => ∃ (i : Int32), as = [.ref 23, .int i]
def post_M_count : List Value → ev_M → ev_L → Int64 → ev_M → ev_L → Prop := fun as σ τ r σ' τ' => match as with
  | [_, .int i] => r = τ 29 (i &&& 63).toNatClampNeg ∧ σ' = σ ∧ τ' = τ
  | _ => False
set_option maxHeartbeats 4000000 in
set_option maxRecDepth 100000 in
theorem c_M_count (l : Launch) : ev_C ev_l l y_M_count ws_M_count rm_M_count evLY evCl pre_M_count post_M_count := by
  refine ev_meth0 (by decide) rfl ev_rop_l ?_ I_M_count (ok_M_count l) 40 ?_
  · rintro _ σ τ ⟨i, rfl⟩
    exact Nat.le_of_ble_eq_true rfl
  · rintro _ σ τ ⟨i, rfl⟩
    exact ⟨pk_andIn i 6 rfl (by decide), rfl, rfl, rfl⟩
def sp_idx (c : Int32) (f : Nat → Int32) (i : Int32) : Int32 := if 0 ≤ i ∧ i < c then f i.toNatClampNeg else 0
theorem i_vin3 {a c : Int32} {n : Nat} (hc : c.toInt ≤ n) (h1 : ¬ a < 0) (h2 : ¬ c ≤ a) : vp_in a n := by
  rw [vp_in_iff]
  rw [Int32.lt_iff_toInt_lt] at h1
  rw [Int32.le_iff_toInt_le] at h2
  have : (0 : Int32).toInt = 0 := rfl
  omega
def y_M_printedValue : MethodName := ⟨RX2, "printedValue", "(I)I"⟩
def ws_M_printedValue : List Cond := .code y_M_printedValue prog_4_method_5_code 2 (some .int) :: evW
theorem d_M_printedValue_0 : decode prog_4_method_5_code 0 = .ok (.iload_n 1, 1) := by decide +kernel
theorem d_M_printedValue_1 : decode prog_4_method_5_code 1 = .ok (.ifCond .lt 20, 3) := by decide +kernel
theorem d_M_printedValue_4 : decode prog_4_method_5_code 4 = .ok (.iload_n 1, 1) := by decide +kernel
theorem d_M_printedValue_5 : decode prog_4_method_5_code 5 = .ok (.aload_n 0, 1) := by decide +kernel
theorem d_M_printedValue_6 : decode prog_4_method_5_code 6 = .ok (.getfield 35, 3) := by decide +kernel
theorem d_M_printedValue_9 : decode prog_4_method_5_code 9 = .ok (.if_icmp .ge 12, 3) := by decide +kernel
theorem d_M_printedValue_12 : decode prog_4_method_5_code 12 = .ok (.aload_n 0, 1) := by decide +kernel
theorem d_M_printedValue_13 : decode prog_4_method_5_code 13 = .ok (.getfield 28, 3) := by decide +kernel
theorem d_M_printedValue_16 : decode prog_4_method_5_code 16 = .ok (.iload_n 1, 1) := by decide +kernel
theorem d_M_printedValue_17 : decode prog_4_method_5_code 17 = .ok (.iaload, 1) := by decide +kernel
theorem d_M_printedValue_18 : decode prog_4_method_5_code 18 = .ok (.goto 4, 3) := by decide +kernel
theorem d_M_printedValue_21 : decode prog_4_method_5_code 21 = .ok (.iconst 0, 1) := by decide +kernel
theorem d_M_printedValue_22 : decode prog_4_method_5_code 22 = .ok (.ireturn, 1) := by decide +kernel
def I_M_printedValue (P : Int32 → ev_M → ev_L → Prop) : List (Nat × ev_T) := [(0, tt_il 1 1),
  (1, tt_iflt 21 4),
  (4, tt_il 1 5),
  (5, tt_al 0 6),
  (6, tt_gf evLY 2 8 9),
  (9, tt_icge 21 12),
  (12, tt_al 0 13),
  (13, tt_gf evLY 2 4 16),
  (16, tt_il 1 17),
  (17, tt_ia evLY 18),
  (18, tt_go 22),
  (21, tt_k 0 22),
  (22, tt_ri P)]
abbrev rm_M_printedValue : Room := { frames := 0, cells := 0, slots := 0, locals := 0 }
set_option maxRecDepth 20000 in
theorem ok_M_printedValue (l : Launch) (J : ev_K) (P : Int32 → ev_M → ev_L → Prop) (X : ev_X l rm_M_printedValue evLY evCl ws_M_printedValue prog_4_method_5_code 2 y_M_printedValue.cls J) (Z : ev_Z J prog_4_method_5_code .ireturn ev_i P) : ev_oks J (I_M_printedValue P) :=
  ⟨qq_iln X 1 rfl d_M_printedValue_0,
  qq_iflt X 21 (by decide) d_M_printedValue_1,
  qq_iln X 1 rfl d_M_printedValue_4,
  qq_aln X 0 rfl d_M_printedValue_5,
  qq_gf X 2 8 rfl (fun w h => List.mem_cons_of_mem _ (inE_M w h)) (by decide) (List.mem_cons_of_mem _ mw_169) d_M_printedValue_6,
  qq_icge X 21 (by decide) d_M_printedValue_9,
  qq_aln X 0 rfl d_M_printedValue_12,
  qq_gf X 2 4 rfl (fun w h => List.mem_cons_of_mem _ (inE_M w h)) (by decide) (List.mem_cons_of_mem _ mw_165) d_M_printedValue_13,
  qq_iln X 1 rfl d_M_printedValue_16,
  qq_ia X d_M_printedValue_17,
  qq_go X 22 (by decide) d_M_printedValue_18,
  qq_ic X 0 (by decide) d_M_printedValue_21,
  qq_ri Z d_M_printedValue_22, trivial⟩
def pre_M_printedValue : List Value → ev_M → ev_L → Prop := fun as σ τ => ∃ (i : Int32), as = [.ref 23, .int i] ∧ (σ 23 8).toInt ≤ (40 : Nat)
def post_M_printedValue : List Value → ev_M → ev_L → Int32 → ev_M → ev_L → Prop := fun as σ τ r σ' τ' => match as with
  | [_, .int i] => r = sp_idx (σ 23 8) (σ 28) i ∧ σ' = σ ∧ τ' = τ
  | _ => False
set_option maxHeartbeats 4000000 in
set_option maxRecDepth 100000 in
theorem c_M_printedValue (l : Launch) : ev_C ev_i l y_M_printedValue ws_M_printedValue rm_M_printedValue evLY evCl pre_M_printedValue post_M_printedValue := by
  refine ev_meth0 (by decide) rfl ev_rop_i ?_ I_M_printedValue (ok_M_printedValue l) 40 ?_
  · rintro _ σ τ ⟨i, rfl, hp⟩
    exact Nat.le_of_ble_eq_true rfl
  · rintro _ σ τ ⟨i, rfl, hp⟩
    refine br_c (fun h => ?_) (fun h => br_c (fun h2 => ?_) (fun h2 => ?_))
    · exact ⟨(if_neg fun q => absurd (Int32.not_lt.mpr q.1) (fun w => w h)).symm, rfl, rfl⟩
    · exact ⟨(if_neg fun q => absurd (Int32.not_le.mpr q.2) (fun w => w h2)).symm, rfl, rfl⟩
    · exact ⟨i_vin3 hp h h2, (if_pos ⟨Int32.not_lt.mp h, Int32.not_le.mp h2⟩).symm, rfl, rfl⟩
def y_M_printed : MethodName := ⟨RX2, "printed", "()I"⟩
def ws_M_printed : List Cond := .code y_M_printed prog_4_method_6_code 1 (some .int) :: evW
theorem d_M_printed_0 : decode prog_4_method_6_code 0 = .ok (.aload_n 0, 1) := by decide +kernel
theorem d_M_printed_1 : decode prog_4_method_6_code 1 = .ok (.getfield 35, 3) := by decide +kernel
theorem d_M_printed_4 : decode prog_4_method_6_code 4 = .ok (.ireturn, 1) := by decide +kernel
def I_M_printed (P : Int32 → ev_M → ev_L → Prop) : List (Nat × ev_T) := [(0, tt_al 0 1),
  (1, tt_gf evLY 2 8 4),
  (4, tt_ri P)]
abbrev rm_M_printed : Room := { frames := 0, cells := 0, slots := 0, locals := 0 }
set_option maxRecDepth 20000 in
theorem ok_M_printed (l : Launch) (J : ev_K) (P : Int32 → ev_M → ev_L → Prop) (X : ev_X l rm_M_printed evLY evCl ws_M_printed prog_4_method_6_code 1 y_M_printed.cls J) (Z : ev_Z J prog_4_method_6_code .ireturn ev_i P) : ev_oks J (I_M_printed P) :=
  ⟨qq_aln X 0 rfl d_M_printed_0,
  qq_gf X 2 8 rfl (fun w h => List.mem_cons_of_mem _ (inE_M w h)) (by decide) (List.mem_cons_of_mem _ mw_169) d_M_printed_1,
  qq_ri Z d_M_printed_4, trivial⟩
def pre_M_printed : List Value → ev_M → ev_L → Prop := fun as σ τ => as = [.ref 23]
def post_M_printed : List Value → ev_M → ev_L → Int32 → ev_M → ev_L → Prop := fun as σ τ r σ' τ' => match as with
  | [_] => r = σ 23 8 ∧ σ' = σ ∧ τ' = τ
  | _ => False
set_option maxHeartbeats 4000000 in
set_option maxRecDepth 100000 in
theorem c_M_printed (l : Launch) : ev_C ev_i l y_M_printed ws_M_printed rm_M_printed evLY evCl pre_M_printed post_M_printed := by
  refine ev_meth0 (by decide) rfl ev_rop_i ?_ I_M_printed (ok_M_printed l) 40 ?_
  · rintro _ σ τ rfl
    exact Nat.le_of_ble_eq_true rfl
  · rintro _ σ τ rfl
    exact ⟨rfl, rfl, rfl⟩
def y_M_pushed : MethodName := ⟨RX2, "pushed", "()I"⟩
def ws_M_pushed : List Cond := .code y_M_pushed prog_4_method_7_code 1 (some .int) :: evW
theorem d_M_pushed_0 : decode prog_4_method_7_code 0 = .ok (.aload_n 0, 1) := by decide +kernel
theorem d_M_pushed_1 : decode prog_4_method_7_code 1 = .ok (.getfield 39, 3) := by decide +kernel
theorem d_M_pushed_4 : decode prog_4_method_7_code 4 = .ok (.ireturn, 1) := by decide +kernel
def I_M_pushed (P : Int32 → ev_M → ev_L → Prop) : List (Nat × ev_T) := [(0, tt_al 0 1),
  (1, tt_gf evLY 2 7 4),
  (4, tt_ri P)]
abbrev rm_M_pushed : Room := { frames := 0, cells := 0, slots := 0, locals := 0 }
set_option maxRecDepth 20000 in
theorem ok_M_pushed (l : Launch) (J : ev_K) (P : Int32 → ev_M → ev_L → Prop) (X : ev_X l rm_M_pushed evLY evCl ws_M_pushed prog_4_method_7_code 1 y_M_pushed.cls J) (Z : ev_Z J prog_4_method_7_code .ireturn ev_i P) : ev_oks J (I_M_pushed P) :=
  ⟨qq_aln X 0 rfl d_M_pushed_0,
  qq_gf X 2 7 rfl (fun w h => List.mem_cons_of_mem _ (inE_M w h)) (by decide) (List.mem_cons_of_mem _ mw_168) d_M_pushed_1,
  qq_ri Z d_M_pushed_4, trivial⟩
def pre_M_pushed : List Value → ev_M → ev_L → Prop := fun as σ τ => as = [.ref 23]
def post_M_pushed : List Value → ev_M → ev_L → Int32 → ev_M → ev_L → Prop := fun as σ τ r σ' τ' => match as with
  | [_] => r = σ 23 7 ∧ σ' = σ ∧ τ' = τ
  | _ => False
set_option maxHeartbeats 4000000 in
set_option maxRecDepth 100000 in
theorem c_M_pushed (l : Launch) : ev_C ev_i l y_M_pushed ws_M_pushed rm_M_pushed evLY evCl pre_M_pushed post_M_pushed := by
  refine ev_meth0 (by decide) rfl ev_rop_i ?_ I_M_pushed (ok_M_pushed l) 40 ?_
  · rintro _ σ τ rfl
    exact Nat.le_of_ble_eq_true rfl
  · rintro _ σ τ rfl
    exact ⟨rfl, rfl, rfl⟩
def y_M_position : MethodName := ⟨RX2, "position", "()I"⟩
def ws_M_position : List Cond := .code y_M_position prog_4_method_8_code 1 (some .int) :: evW
theorem d_M_position_0 : decode prog_4_method_8_code 0 = .ok (.aload_n 0, 1) := by decide +kernel
theorem d_M_position_1 : decode prog_4_method_8_code 1 = .ok (.getfield 42, 3) := by decide +kernel
theorem d_M_position_4 : decode prog_4_method_8_code 4 = .ok (.ireturn, 1) := by decide +kernel
def I_M_position (P : Int32 → ev_M → ev_L → Prop) : List (Nat × ev_T) := [(0, tt_al 0 1),
  (1, tt_gf evLY 2 6 4),
  (4, tt_ri P)]
abbrev rm_M_position : Room := { frames := 0, cells := 0, slots := 0, locals := 0 }
set_option maxRecDepth 20000 in
theorem ok_M_position (l : Launch) (J : ev_K) (P : Int32 → ev_M → ev_L → Prop) (X : ev_X l rm_M_position evLY evCl ws_M_position prog_4_method_8_code 1 y_M_position.cls J) (Z : ev_Z J prog_4_method_8_code .ireturn ev_i P) : ev_oks J (I_M_position P) :=
  ⟨qq_aln X 0 rfl d_M_position_0,
  qq_gf X 2 6 rfl (fun w h => List.mem_cons_of_mem _ (inE_M w h)) (by decide) (List.mem_cons_of_mem _ mw_167) d_M_position_1,
  qq_ri Z d_M_position_4, trivial⟩
def pre_M_position : List Value → ev_M → ev_L → Prop := fun as σ τ => as = [.ref 23]
def post_M_position : List Value → ev_M → ev_L → Int32 → ev_M → ev_L → Prop := fun as σ τ r σ' τ' => match as with
  | [_] => r = σ 23 6 ∧ σ' = σ ∧ τ' = τ
  | _ => False
set_option maxHeartbeats 4000000 in
set_option maxRecDepth 100000 in
theorem c_M_position (l : Launch) : ev_C ev_i l y_M_position ws_M_position rm_M_position evLY evCl pre_M_position post_M_position := by
  refine ev_meth0 (by decide) rfl ev_rop_i ?_ I_M_position (ok_M_position l) 40 ?_
  · rintro _ σ τ rfl
    exact Nat.le_of_ble_eq_true rfl
  · rintro _ σ τ rfl
    exact ⟨rfl, rfl, rfl⟩
def y_M_done : MethodName := ⟨RX2, "done", "()I"⟩
def ws_M_done : List Cond := .code y_M_done prog_4_method_9_code 1 (some .int) :: evW
theorem d_M_done_0 : decode prog_4_method_9_code 0 = .ok (.aload_n 0, 1) := by decide +kernel
theorem d_M_done_1 : decode prog_4_method_9_code 1 = .ok (.getfield 45, 3) := by decide +kernel
theorem d_M_done_4 : decode prog_4_method_9_code 4 = .ok (.ireturn, 1) := by decide +kernel
def I_M_done (P : Int32 → ev_M → ev_L → Prop) : List (Nat × ev_T) := [(0, tt_al 0 1),
  (1, tt_gf evLY 2 9 4),
  (4, tt_ri P)]
abbrev rm_M_done : Room := { frames := 0, cells := 0, slots := 0, locals := 0 }
set_option maxRecDepth 20000 in
theorem ok_M_done (l : Launch) (J : ev_K) (P : Int32 → ev_M → ev_L → Prop) (X : ev_X l rm_M_done evLY evCl ws_M_done prog_4_method_9_code 1 y_M_done.cls J) (Z : ev_Z J prog_4_method_9_code .ireturn ev_i P) : ev_oks J (I_M_done P) :=
  ⟨qq_aln X 0 rfl d_M_done_0,
  qq_gf X 2 9 rfl (fun w h => List.mem_cons_of_mem _ (inE_M w h)) (by decide) (List.mem_cons_of_mem _ mw_170) d_M_done_1,
  qq_ri Z d_M_done_4, trivial⟩
def pre_M_done : List Value → ev_M → ev_L → Prop := fun as σ τ => as = [.ref 23]
def post_M_done : List Value → ev_M → ev_L → Int32 → ev_M → ev_L → Prop := fun as σ τ r σ' τ' => match as with
  | [_] => r = σ 23 9 ∧ σ' = σ ∧ τ' = τ
  | _ => False
set_option maxHeartbeats 4000000 in
set_option maxRecDepth 100000 in
theorem c_M_done (l : Launch) : ev_C ev_i l y_M_done ws_M_done rm_M_done evLY evCl pre_M_done post_M_done := by
  refine ev_meth0 (by decide) rfl ev_rop_i ?_ I_M_done (ok_M_done l) 40 ?_
  · rintro _ σ τ rfl
    exact Nat.le_of_ble_eq_true rfl
  · rintro _ σ τ rfl
    exact ⟨rfl, rfl, rfl⟩
def y_M_grow : MethodName := ⟨RX2, "grow", "(I)V"⟩
def ws_M_grow : List Cond := .code y_M_grow prog_4_method_16_code 2 none :: evW
theorem d_M_grow_0 : decode prog_4_method_16_code 0 = .ok (.aload_n 0, 1) := by decide +kernel
theorem d_M_grow_1 : decode prog_4_method_16_code 1 = .ok (.getfield 31, 3) := by decide +kernel
theorem d_M_grow_4 : decode prog_4_method_16_code 4 = .ok (.iload_n 1, 1) := by decide +kernel
theorem d_M_grow_5 : decode prog_4_method_16_code 5 = .ok (.bipush 63, 2) := by decide +kernel
theorem d_M_grow_7 : decode prog_4_method_16_code 7 = .ok (.iand, 1) := by decide +kernel
theorem d_M_grow_8 : decode prog_4_method_16_code 8 = .ok (.dup2, 1) := by decide +kernel
theorem d_M_grow_9 : decode prog_4_method_16_code 9 = .ok (.laload, 1) := by decide +kernel
theorem d_M_grow_10 : decode prog_4_method_16_code 10 = .ok (.lconst 1, 1) := by decide +kernel
theorem d_M_grow_11 : decode prog_4_method_16_code 11 = .ok (.ladd, 1) := by decide +kernel
theorem d_M_grow_12 : decode prog_4_method_16_code 12 = .ok (.lastore, 1) := by decide +kernel
theorem d_M_grow_13 : decode prog_4_method_16_code 13 = .ok (.return_, 1) := by decide +kernel
def I_M_grow (P : Unit → ev_M → ev_L → Prop) : List (Nat × ev_T) := [(0, tt_al 0 1),
  (1, tt_gf evLY 2 5 4),
  (4, tt_il 1 5),
  (5, tt_k 63 7),
  (7, tt_iand 8),
  (8, tt_dup2 9),
  (9, tt_la evLY 10),
  (10, tt_lk 1 11),
  (11, tt_ladd 12),
  (12, tt_las evLY 13),
  (13, tt_rv P)]
abbrev rm_M_grow : Room := { frames := 0, cells := 0, slots := 0, locals := 0 }
set_option maxRecDepth 20000 in
theorem ok_M_grow (l : Launch) (J : ev_K) (P : Unit → ev_M → ev_L → Prop) (X : ev_X l rm_M_grow evLY evCl ws_M_grow prog_4_method_16_code 2 y_M_grow.cls J) (Z : ev_Z J prog_4_method_16_code .return_ ev_n P) : ev_oks J (I_M_grow P) :=
  ⟨qq_aln X 0 rfl d_M_grow_0,
  qq_gf X 2 5 rfl (fun w h => List.mem_cons_of_mem _ (inE_M w h)) (by decide) (List.mem_cons_of_mem _ mw_166) d_M_grow_1,
  qq_iln X 1 rfl d_M_grow_4,
  qq_bp X 63 (by decide) d_M_grow_5,
  qq_iand X d_M_grow_7,
  qq_dup2 X d_M_grow_8,
  qq_la X d_M_grow_9,
  qq_lc X 1 (by decide) d_M_grow_10,
  qq_ladd X d_M_grow_11,
  qq_las X d_M_grow_12,
  qq_rv Z d_M_grow_13, trivial⟩
def pre_M_grow : List Value → ev_M → ev_L → Prop := fun as σ τ => ∃ (i : Int32), as = [.ref 23, .int i]
def post_M_grow : List Value → ev_M → ev_L → Unit → ev_M → ev_L → Prop := fun as σ τ r σ' τ' => match as with
  | [_, .int i] => σ' = σ ∧ τ' = ev_w τ 29 (i &&& 63).toNatClampNeg (τ 29 (i &&& 63).toNatClampNeg + 1)
  | _ => False
set_option maxHeartbeats 4000000 in
set_option maxRecDepth 100000 in
theorem c_M_grow (l : Launch) : ev_C ev_n l y_M_grow ws_M_grow rm_M_grow evLY evCl pre_M_grow post_M_grow := by
  refine ev_meth0 (by decide) rfl ev_rop_v ?_ I_M_grow (ok_M_grow l) 40 ?_
  · rintro _ σ τ ⟨i, rfl⟩
    exact Nat.le_of_ble_eq_true rfl
  · rintro _ σ τ ⟨i, rfl⟩
    have h : vp_in (i &&& 63) 64 := pk_andIn i 6 rfl (by decide)
    exact ⟨h, h, rfl, rfl⟩
def y_M_push : MethodName := ⟨RX2, "push", "(I)Z"⟩
def ws_M_push : List Cond := .code y_M_push prog_4_method_20_code 2 (some .boolean) :: evW
theorem d_M_push_0 : decode prog_4_method_20_code 0 = .ok (.aload_n 0, 1) := by decide +kernel
theorem d_M_push_1 : decode prog_4_method_20_code 1 = .ok (.getfield 39, 3) := by decide +kernel
theorem d_M_push_4 : decode prog_4_method_20_code 4 = .ok (.bipush 8, 2) := by decide +kernel
theorem d_M_push_6 : decode prog_4_method_20_code 6 = .ok (.if_icmp .lt 5, 3) := by decide +kernel
theorem d_M_push_9 : decode prog_4_method_20_code 9 = .ok (.iconst 0, 1) := by decide +kernel
theorem d_M_push_10 : decode prog_4_method_20_code 10 = .ok (.ireturn, 1) := by decide +kernel
theorem d_M_push_11 : decode prog_4_method_20_code 11 = .ok (.aload_n 0, 1) := by decide +kernel
theorem d_M_push_12 : decode prog_4_method_20_code 12 = .ok (.getfield 25, 3) := by decide +kernel
theorem d_M_push_15 : decode prog_4_method_20_code 15 = .ok (.aload_n 0, 1) := by decide +kernel
theorem d_M_push_16 : decode prog_4_method_20_code 16 = .ok (.getfield 39, 3) := by decide +kernel
theorem d_M_push_19 : decode prog_4_method_20_code 19 = .ok (.iload_n 1, 1) := by decide +kernel
theorem d_M_push_20 : decode prog_4_method_20_code 20 = .ok (.iastore, 1) := by decide +kernel
theorem d_M_push_21 : decode prog_4_method_20_code 21 = .ok (.aload_n 0, 1) := by decide +kernel
theorem d_M_push_22 : decode prog_4_method_20_code 22 = .ok (.dup, 1) := by decide +kernel
theorem d_M_push_23 : decode prog_4_method_20_code 23 = .ok (.getfield 39, 3) := by decide +kernel
theorem d_M_push_26 : decode prog_4_method_20_code 26 = .ok (.iconst 1, 1) := by decide +kernel
theorem d_M_push_27 : decode prog_4_method_20_code 27 = .ok (.iadd, 1) := by decide +kernel
theorem d_M_push_28 : decode prog_4_method_20_code 28 = .ok (.putfield 39, 3) := by decide +kernel
theorem d_M_push_31 : decode prog_4_method_20_code 31 = .ok (.iconst 1, 1) := by decide +kernel
theorem d_M_push_32 : decode prog_4_method_20_code 32 = .ok (.ireturn, 1) := by decide +kernel
def I_M_push (P : Bool → ev_M → ev_L → Prop) : List (Nat × ev_T) := [(0, tt_al 0 1),
  (1, tt_gf evLY 2 7 4),
  (4, tt_k 8 6),
  (6, tt_iclt 11 9),
  (9, tt_k 0 10),
  (10, tt_rz P),
  (11, tt_al 0 12),
  (12, tt_gf evLY 2 3 15),
  (15, tt_al 0 16),
  (16, tt_gf evLY 2 7 19),
  (19, tt_il 1 20),
  (20, tt_ias evLY 21),
  (21, tt_al 0 22),
  (22, tt_dup 23),
  (23, tt_gf evLY 2 7 26),
  (26, tt_k 1 27),
  (27, tt_iadd 28),
  (28, tt_pf evLY 2 7 31),
  (31, tt_k 1 32),
  (32, tt_rz P)]
abbrev rm_M_push : Room := { frames := 0, cells := 0, slots := 0, locals := 0 }
set_option maxRecDepth 20000 in
theorem ok_M_push (l : Launch) (J : ev_K) (P : Bool → ev_M → ev_L → Prop) (X : ev_X l rm_M_push evLY evCl ws_M_push prog_4_method_20_code 2 y_M_push.cls J) (Z : ev_Z J prog_4_method_20_code .ireturn ev_b P) : ev_oks J (I_M_push P) :=
  ⟨qq_aln X 0 rfl d_M_push_0,
  qq_gf X 2 7 rfl (fun w h => List.mem_cons_of_mem _ (inE_M w h)) (by decide) (List.mem_cons_of_mem _ mw_168) d_M_push_1,
  qq_bp X 8 (by decide) d_M_push_4,
  qq_iclt X 11 (by decide) d_M_push_6,
  qq_ic X 0 (by decide) d_M_push_9,
  qq_rz Z d_M_push_10,
  qq_aln X 0 rfl d_M_push_11,
  qq_gf X 2 3 rfl (fun w h => List.mem_cons_of_mem _ (inE_M w h)) (by decide) (List.mem_cons_of_mem _ mw_164) d_M_push_12,
  qq_aln X 0 rfl d_M_push_15,
  qq_gf X 2 7 rfl (fun w h => List.mem_cons_of_mem _ (inE_M w h)) (by decide) (List.mem_cons_of_mem _ mw_168) d_M_push_16,
  qq_iln X 1 rfl d_M_push_19,
  qq_ias X d_M_push_20,
  qq_aln X 0 rfl d_M_push_21,
  qq_dup X d_M_push_22,
  qq_gf X 2 7 rfl (fun w h => List.mem_cons_of_mem _ (inE_M w h)) (by decide) (List.mem_cons_of_mem _ mw_168) d_M_push_23,
  qq_ic X 1 (by decide) d_M_push_26,
  qq_iadd X d_M_push_27,
  qq_pf X 2 7 rfl (fun w h => List.mem_cons_of_mem _ (inE_M w h)) (by decide) tyX2 tyX2_ok nmX2 rfl (by decide +kernel) (List.mem_cons_of_mem _ mw_168) d_M_push_28,
  qq_ic X 1 (by decide) d_M_push_31,
  qq_rz Z d_M_push_32, trivial⟩
def pre_M_push : List Value → ev_M → ev_L → Prop := fun as σ τ => ∃ (i : Int32), as = [.ref 23, .int i] ∧ 0 ≤ σ 23 7
def post_M_push : List Value → ev_M → ev_L → Bool → ev_M → ev_L → Prop := fun as σ τ r σ' τ' => match as with
  | [_, .int i] => τ' = τ ∧ ((r = true ∧ σ 23 7 < 8 ∧ σ' = ev_u (ev_u σ 27 (σ 23 7).toNatClampNeg i) 23 7 (σ 23 7 + 1)) ∨ (r = false ∧ ¬ σ 23 7 < 8 ∧ σ' = σ))
  | _ => False
set_option maxHeartbeats 4000000 in
set_option maxRecDepth 100000 in
theorem c_M_push (l : Launch) : ev_C ev_b l y_M_push ws_M_push rm_M_push evLY evCl pre_M_push post_M_push := by
  refine ev_meth0 (by decide) rfl ev_rop_b ?_ I_M_push (ok_M_push l) 40 ?_
  · rintro _ σ τ ⟨i, rfl, hp⟩
    exact Nat.le_of_ble_eq_true rfl
  · rintro _ σ τ ⟨i, rfl, hp⟩
    refine br_c (fun h => ?_) (fun h => ?_)
    · exact ⟨i_vin2 (b := 8) rfl hp h, true, rfl, rfl, Or.inl ⟨rfl, h, rfl⟩⟩
    · exact ⟨false, rfl, rfl, Or.inr ⟨rfl, h, rfl⟩⟩
def y_M_print : MethodName := ⟨RX2, "print", "(I)Z"⟩
def ws_M_print : List Cond := .code y_M_print prog_4_method_22_code 2 (some .boolean) :: evW
theorem d_M_print_0 : decode prog_4_method_22_code 0 = .ok (.aload_n 0, 1) := by decide +kernel
theorem d_M_print_1 : decode prog_4_method_22_code 1 = .ok (.getfield 35, 3) := by decide +kernel
theorem d_M_print_4 : decode prog_4_method_22_code 4 = .ok (.bipush 40, 2) := by decide +kernel
theorem d_M_print_6 : decode prog_4_method_22_code 6 = .ok (.if_icmp .lt 5, 3) := by decide +kernel
theorem d_M_print_9 : decode prog_4_method_22_code 9 = .ok (.iconst 0, 1) := by decide +kernel
theorem d_M_print_10 : decode prog_4_method_22_code 10 = .ok (.ireturn, 1) := by decide +kernel
theorem d_M_print_11 : decode prog_4_method_22_code 11 = .ok (.aload_n 0, 1) := by decide +kernel
theorem d_M_print_12 : decode prog_4_method_22_code 12 = .ok (.getfield 28, 3) := by decide +kernel
theorem d_M_print_15 : decode prog_4_method_22_code 15 = .ok (.aload_n 0, 1) := by decide +kernel
theorem d_M_print_16 : decode prog_4_method_22_code 16 = .ok (.getfield 35, 3) := by decide +kernel
theorem d_M_print_19 : decode prog_4_method_22_code 19 = .ok (.iload_n 1, 1) := by decide +kernel
theorem d_M_print_20 : decode prog_4_method_22_code 20 = .ok (.iastore, 1) := by decide +kernel
theorem d_M_print_21 : decode prog_4_method_22_code 21 = .ok (.aload_n 0, 1) := by decide +kernel
theorem d_M_print_22 : decode prog_4_method_22_code 22 = .ok (.dup, 1) := by decide +kernel
theorem d_M_print_23 : decode prog_4_method_22_code 23 = .ok (.getfield 35, 3) := by decide +kernel
theorem d_M_print_26 : decode prog_4_method_22_code 26 = .ok (.iconst 1, 1) := by decide +kernel
theorem d_M_print_27 : decode prog_4_method_22_code 27 = .ok (.iadd, 1) := by decide +kernel
theorem d_M_print_28 : decode prog_4_method_22_code 28 = .ok (.putfield 35, 3) := by decide +kernel
theorem d_M_print_31 : decode prog_4_method_22_code 31 = .ok (.iconst 1, 1) := by decide +kernel
theorem d_M_print_32 : decode prog_4_method_22_code 32 = .ok (.ireturn, 1) := by decide +kernel
def I_M_print (P : Bool → ev_M → ev_L → Prop) : List (Nat × ev_T) := [(0, tt_al 0 1),
  (1, tt_gf evLY 2 8 4),
  (4, tt_k 40 6),
  (6, tt_iclt 11 9),
  (9, tt_k 0 10),
  (10, tt_rz P),
  (11, tt_al 0 12),
  (12, tt_gf evLY 2 4 15),
  (15, tt_al 0 16),
  (16, tt_gf evLY 2 8 19),
  (19, tt_il 1 20),
  (20, tt_ias evLY 21),
  (21, tt_al 0 22),
  (22, tt_dup 23),
  (23, tt_gf evLY 2 8 26),
  (26, tt_k 1 27),
  (27, tt_iadd 28),
  (28, tt_pf evLY 2 8 31),
  (31, tt_k 1 32),
  (32, tt_rz P)]
abbrev rm_M_print : Room := { frames := 0, cells := 0, slots := 0, locals := 0 }
set_option maxRecDepth 20000 in
theorem ok_M_print (l : Launch) (J : ev_K) (P : Bool → ev_M → ev_L → Prop) (X : ev_X l rm_M_print evLY evCl ws_M_print prog_4_method_22_code 2 y_M_print.cls J) (Z : ev_Z J prog_4_method_22_code .ireturn ev_b P) : ev_oks J (I_M_print P) :=
  ⟨qq_aln X 0 rfl d_M_print_0,
  qq_gf X 2 8 rfl (fun w h => List.mem_cons_of_mem _ (inE_M w h)) (by decide) (List.mem_cons_of_mem _ mw_169) d_M_print_1,
  qq_bp X 40 (by decide) d_M_print_4,
  qq_iclt X 11 (by decide) d_M_print_6,
  qq_ic X 0 (by decide) d_M_print_9,
  qq_rz Z d_M_print_10,
  qq_aln X 0 rfl d_M_print_11,
  qq_gf X 2 4 rfl (fun w h => List.mem_cons_of_mem _ (inE_M w h)) (by decide) (List.mem_cons_of_mem _ mw_165) d_M_print_12,
  qq_aln X 0 rfl d_M_print_15,
  qq_gf X 2 8 rfl (fun w h => List.mem_cons_of_mem _ (inE_M w h)) (by decide) (List.mem_cons_of_mem _ mw_169) d_M_print_16,
  qq_iln X 1 rfl d_M_print_19,
  qq_ias X d_M_print_20,
  qq_aln X 0 rfl d_M_print_21,
  qq_dup X d_M_print_22,
  qq_gf X 2 8 rfl (fun w h => List.mem_cons_of_mem _ (inE_M w h)) (by decide) (List.mem_cons_of_mem _ mw_169) d_M_print_23,
  qq_ic X 1 (by decide) d_M_print_26,
  qq_iadd X d_M_print_27,
  qq_pf X 2 8 rfl (fun w h => List.mem_cons_of_mem _ (inE_M w h)) (by decide) tyX2 tyX2_ok nmX2 rfl (by decide +kernel) (List.mem_cons_of_mem _ mw_169) d_M_print_28,
  qq_ic X 1 (by decide) d_M_print_31,
  qq_rz Z d_M_print_32, trivial⟩
def pre_M_print : List Value → ev_M → ev_L → Prop := fun as σ τ => ∃ (i : Int32), as = [.ref 23, .int i] ∧ 0 ≤ σ 23 8
def post_M_print : List Value → ev_M → ev_L → Bool → ev_M → ev_L → Prop := fun as σ τ r σ' τ' => match as with
  | [_, .int i] => τ' = τ ∧ ((r = true ∧ σ 23 8 < 40 ∧ σ' = ev_u (ev_u σ 28 (σ 23 8).toNatClampNeg i) 23 8 (σ 23 8 + 1)) ∨ (r = false ∧ ¬ σ 23 8 < 40 ∧ σ' = σ))
  | _ => False
set_option maxHeartbeats 4000000 in
set_option maxRecDepth 100000 in
theorem c_M_print (l : Launch) : ev_C ev_b l y_M_print ws_M_print rm_M_print evLY evCl pre_M_print post_M_print := by
  refine ev_meth0 (by decide) rfl ev_rop_b ?_ I_M_print (ok_M_print l) 40 ?_
  · rintro _ σ τ ⟨i, rfl, hp⟩
    exact Nat.le_of_ble_eq_true rfl
  · rintro _ σ τ ⟨i, rfl, hp⟩
    refine br_c (fun h => ?_) (fun h => ?_)
    · exact ⟨i_vin2 (b := 40) rfl hp h, true, rfl, rfl, Or.inl ⟨rfl, h, rfl⟩⟩
    · exact ⟨false, rfl, rfl, Or.inr ⟨rfl, h, rfl⟩⟩
theorem i_sub1 {x : Int32} (h : 0 < x) : (x - 1).toInt = x.toInt - 1 := by
  rw [Int32.lt_iff_toInt_lt] at h
  have h0 : (0 : Int32).toInt = 0 := rfl
  have h1 : (1 : Int32).toInt = 1 := rfl
  have h2 := Int32.toInt_lt x
  have h3 := Int32.le_toInt x
  rw [Int32.toInt_sub, h1]
  exact Int.bmod_eq_of_le (by omega) (by omega)
theorem i_add1 {x : Int32} (h : x.toInt < 2000000000) : (x + 1).toInt = x.toInt + 1 := by
  have h1 : (1 : Int32).toInt = 1 := rfl
  have h3 := Int32.le_toInt x
  rw [Int32.toInt_add, h1]
  exact Int.bmod_eq_of_le (by omega) (by omega)
def y_M_pop : MethodName := ⟨RX2, "pop", "()I"⟩
def ws_M_pop : List Cond := .code y_M_pop prog_4_method_21_code 1 (some .int) :: evW
theorem d_M_pop_0 : decode prog_4_method_21_code 0 = .ok (.aload_n 0, 1) := by decide +kernel
theorem d_M_pop_1 : decode prog_4_method_21_code 1 = .ok (.getfield 39, 3) := by decide +kernel
theorem d_M_pop_4 : decode prog_4_method_21_code 4 = .ok (.ifCond .gt 5, 3) := by decide +kernel
theorem d_M_pop_7 : decode prog_4_method_21_code 7 = .ok (.iconst (-1), 1) := by decide +kernel
theorem d_M_pop_8 : decode prog_4_method_21_code 8 = .ok (.ireturn, 1) := by decide +kernel
theorem d_M_pop_9 : decode prog_4_method_21_code 9 = .ok (.aload_n 0, 1) := by decide +kernel
theorem d_M_pop_10 : decode prog_4_method_21_code 10 = .ok (.dup, 1) := by decide +kernel
theorem d_M_pop_11 : decode prog_4_method_21_code 11 = .ok (.getfield 39, 3) := by decide +kernel
theorem d_M_pop_14 : decode prog_4_method_21_code 14 = .ok (.iconst 1, 1) := by decide +kernel
theorem d_M_pop_15 : decode prog_4_method_21_code 15 = .ok (.isub, 1) := by decide +kernel
theorem d_M_pop_16 : decode prog_4_method_21_code 16 = .ok (.putfield 39, 3) := by decide +kernel
theorem d_M_pop_19 : decode prog_4_method_21_code 19 = .ok (.aload_n 0, 1) := by decide +kernel
theorem d_M_pop_20 : decode prog_4_method_21_code 20 = .ok (.getfield 25, 3) := by decide +kernel
theorem d_M_pop_23 : decode prog_4_method_21_code 23 = .ok (.aload_n 0, 1) := by decide +kernel
theorem d_M_pop_24 : decode prog_4_method_21_code 24 = .ok (.getfield 39, 3) := by decide +kernel
theorem d_M_pop_27 : decode prog_4_method_21_code 27 = .ok (.iaload, 1) := by decide +kernel
theorem d_M_pop_28 : decode prog_4_method_21_code 28 = .ok (.ireturn, 1) := by decide +kernel
def I_M_pop (P : Int32 → ev_M → ev_L → Prop) : List (Nat × ev_T) := [(0, tt_al 0 1),
  (1, tt_gf evLY 2 7 4),
  (4, tt_ifgt 9 7),
  (7, tt_k (-1) 8),
  (8, tt_ri P),
  (9, tt_al 0 10),
  (10, tt_dup 11),
  (11, tt_gf evLY 2 7 14),
  (14, tt_k 1 15),
  (15, tt_isub 16),
  (16, tt_pf evLY 2 7 19),
  (19, tt_al 0 20),
  (20, tt_gf evLY 2 3 23),
  (23, tt_al 0 24),
  (24, tt_gf evLY 2 7 27),
  (27, tt_ia evLY 28),
  (28, tt_ri P)]
abbrev rm_M_pop : Room := { frames := 0, cells := 0, slots := 0, locals := 0 }
set_option maxRecDepth 20000 in
theorem ok_M_pop (l : Launch) (J : ev_K) (P : Int32 → ev_M → ev_L → Prop) (X : ev_X l rm_M_pop evLY evCl ws_M_pop prog_4_method_21_code 1 y_M_pop.cls J) (Z : ev_Z J prog_4_method_21_code .ireturn ev_i P) : ev_oks J (I_M_pop P) :=
  ⟨qq_aln X 0 rfl d_M_pop_0,
  qq_gf X 2 7 rfl (fun w h => List.mem_cons_of_mem _ (inE_M w h)) (by decide) (List.mem_cons_of_mem _ mw_168) d_M_pop_1,
  qq_ifgt X 9 (by decide) d_M_pop_4,
  qq_ic X (-1) (by decide) d_M_pop_7,
  qq_ri Z d_M_pop_8,
  qq_aln X 0 rfl d_M_pop_9,
  qq_dup X d_M_pop_10,
  qq_gf X 2 7 rfl (fun w h => List.mem_cons_of_mem _ (inE_M w h)) (by decide) (List.mem_cons_of_mem _ mw_168) d_M_pop_11,
  qq_ic X 1 (by decide) d_M_pop_14,
  qq_isub X d_M_pop_15,
  qq_pf X 2 7 rfl (fun w h => List.mem_cons_of_mem _ (inE_M w h)) (by decide) tyX2 tyX2_ok nmX2 rfl (by decide +kernel) (List.mem_cons_of_mem _ mw_168) d_M_pop_16,
  qq_aln X 0 rfl d_M_pop_19,
  qq_gf X 2 3 rfl (fun w h => List.mem_cons_of_mem _ (inE_M w h)) (by decide) (List.mem_cons_of_mem _ mw_164) d_M_pop_20,
  qq_aln X 0 rfl d_M_pop_23,
  qq_gf X 2 7 rfl (fun w h => List.mem_cons_of_mem _ (inE_M w h)) (by decide) (List.mem_cons_of_mem _ mw_168) d_M_pop_24,
  qq_ia X d_M_pop_27,
  qq_ri Z d_M_pop_28, trivial⟩
def pre_M_pop : List Value → ev_M → ev_L → Prop := fun as σ τ => as = [.ref 23] ∧ (σ 23 7).toInt ≤ 8
def post_M_pop : List Value → ev_M → ev_L → Int32 → ev_M → ev_L → Prop := fun as σ τ r σ' τ' => match as with
  | [_] => τ' = τ ∧ ((0 < σ 23 7 ∧ r = σ 27 (σ 23 7 - 1).toNatClampNeg ∧ σ' = ev_u σ 23 7 (σ 23 7 - 1)) ∨ (¬ 0 < σ 23 7 ∧ r = -1 ∧ σ' = σ))
  | _ => False
set_option maxHeartbeats 4000000 in
set_option maxRecDepth 100000 in
theorem c_M_pop (l : Launch) : ev_C ev_i l y_M_pop ws_M_pop rm_M_pop evLY evCl pre_M_pop post_M_pop := by
  refine ev_meth0 (by decide) rfl ev_rop_i ?_ I_M_pop (ok_M_pop l) 40 ?_
  · rintro _ σ τ ⟨rfl, hp⟩
    exact Nat.le_of_ble_eq_true rfl
  · rintro _ σ τ ⟨rfl, hp⟩
    refine br_c (fun h => ?_) (fun h => ?_)
    · have hv : vp_in (σ 23 7 - 1) 8 := by
        rw [vp_in_iff, i_sub1 h]
        rw [Int32.lt_iff_toInt_lt] at h
        have h0 : (0 : Int32).toInt = 0 := rfl
        omega
      exact ⟨hv, rfl, Or.inl ⟨h, rfl, rfl⟩⟩
    · exact ⟨rfl, Or.inr ⟨h, rfl, rfl⟩⟩
def y_A_forget : MethodName := ⟨RX0, "forget", "()V"⟩
def ws_A_forget : List Cond := .code y_A_forget prog_2_method_2_code 1 none :: evW
theorem d_A_forget_0 : decode prog_2_method_2_code 0 = .ok (.aload_n 0, 1) := by decide +kernel
theorem d_A_forget_1 : decode prog_2_method_2_code 1 = .ok (.iconst 0, 1) := by decide +kernel
theorem d_A_forget_2 : decode prog_2_method_2_code 2 = .ok (.putfield 44, 3) := by decide +kernel
theorem d_A_forget_5 : decode prog_2_method_2_code 5 = .ok (.return_, 1) := by decide +kernel
def I_A_forget (P : Unit → ev_M → ev_L → Prop) : List (Nat × ev_T) := [(0, tt_al 0 1),
  (1, tt_k 0 2),
  (2, tt_pf evLY 0 10 5),
  (5, tt_rv P)]
abbrev rm_A_forget : Room := { frames := 0, cells := 0, slots := 0, locals := 0 }
set_option maxRecDepth 20000 in
theorem ok_A_forget (l : Launch) (J : ev_K) (P : Unit → ev_M → ev_L → Prop) (X : ev_X l rm_A_forget evLY evCl ws_A_forget prog_2_method_2_code 1 y_A_forget.cls J) (Z : ev_Z J prog_2_method_2_code .return_ ev_n P) : ev_oks J (I_A_forget P) :=
  ⟨qq_aln X 0 rfl d_A_forget_0,
  qq_ic X 0 (by decide) d_A_forget_1,
  qq_pf X 0 10 rfl (fun w h => List.mem_cons_of_mem _ (inE_A w h)) (by decide) tyX0 tyX0_ok nmX0 rfl (by decide +kernel) (List.mem_cons_of_mem _ mw_105) d_A_forget_2,
  qq_rv Z d_A_forget_5, trivial⟩
def pre_A_forget : List Value → ev_M → ev_L → Prop := fun as σ τ => as = [.ref 8]
def post_A_forget : List Value → ev_M → ev_L → Unit → ev_M → ev_L → Prop := fun as σ τ r σ' τ' => match as with
  | [_] => σ' = ev_u σ 8 10 0 ∧ τ' = τ
  | _ => False
set_option maxHeartbeats 4000000 in
set_option maxRecDepth 100000 in
theorem c_A_forget (l : Launch) : ev_C ev_n l y_A_forget ws_A_forget rm_A_forget evLY evCl pre_A_forget post_A_forget := by
  refine ev_meth0 (by decide) rfl ev_rop_v ?_ I_A_forget (ok_A_forget l) 40 ?_
  · rintro _ σ τ rfl
    exact Nat.le_of_ble_eq_true rfl
  · rintro _ σ τ rfl
    exact ⟨rfl, rfl⟩
def y_A_exists : MethodName := ⟨RX0, "exists", "()Z"⟩
def ws_A_exists : List Cond := .code y_A_exists prog_2_method_3_code 1 (some .boolean) :: evW
theorem d_A_exists_0 : decode prog_2_method_3_code 0 = .ok (.aload_n 0, 1) := by decide +kernel
theorem d_A_exists_1 : decode prog_2_method_3_code 1 = .ok (.getfield 44, 3) := by decide +kernel
theorem d_A_exists_4 : decode prog_2_method_3_code 4 = .ok (.ifCond .le 7, 3) := by decide +kernel
theorem d_A_exists_7 : decode prog_2_method_3_code 7 = .ok (.iconst 1, 1) := by decide +kernel
theorem d_A_exists_8 : decode prog_2_method_3_code 8 = .ok (.goto 4, 3) := by decide +kernel
theorem d_A_exists_11 : decode prog_2_method_3_code 11 = .ok (.iconst 0, 1) := by decide +kernel
theorem d_A_exists_12 : decode prog_2_method_3_code 12 = .ok (.ireturn, 1) := by decide +kernel
def I_A_exists (P : Bool → ev_M → ev_L → Prop) : List (Nat × ev_T) := [(0, tt_al 0 1),
  (1, tt_gf evLY 0 10 4),
  (4, tt_ifle 11 7),
  (7, tt_k 1 8),
  (8, tt_go 12),
  (11, tt_k 0 12),
  (12, tt_rz P)]
abbrev rm_A_exists : Room := { frames := 0, cells := 0, slots := 0, locals := 0 }
set_option maxRecDepth 20000 in
theorem ok_A_exists (l : Launch) (J : ev_K) (P : Bool → ev_M → ev_L → Prop) (X : ev_X l rm_A_exists evLY evCl ws_A_exists prog_2_method_3_code 1 y_A_exists.cls J) (Z : ev_Z J prog_2_method_3_code .ireturn ev_b P) : ev_oks J (I_A_exists P) :=
  ⟨qq_aln X 0 rfl d_A_exists_0,
  qq_gf X 0 10 rfl (fun w h => List.mem_cons_of_mem _ (inE_A w h)) (by decide) (List.mem_cons_of_mem _ mw_105) d_A_exists_1,
  qq_ifle X 11 (by decide) d_A_exists_4,
  qq_ic X 1 (by decide) d_A_exists_7,
  qq_go X 12 (by decide) d_A_exists_8,
  qq_ic X 0 (by decide) d_A_exists_11,
  qq_rz Z d_A_exists_12, trivial⟩
def pre_A_exists : List Value → ev_M → ev_L → Prop := fun as σ τ => as = [.ref 8]
def post_A_exists : List Value → ev_M → ev_L → Bool → ev_M → ev_L → Prop := fun as σ τ r σ' τ' => match as with
  | [_] => r = decide (0 < σ 8 10) ∧ σ' = σ ∧ τ' = τ
  | _ => False
set_option maxHeartbeats 4000000 in
set_option maxRecDepth 100000 in
theorem c_A_exists (l : Launch) : ev_C ev_b l y_A_exists ws_A_exists rm_A_exists evLY evCl pre_A_exists post_A_exists := by
  refine ev_meth0 (by decide) rfl ev_rop_b ?_ I_A_exists (ok_A_exists l) 40 ?_
  · rintro _ σ τ rfl
    exact Nat.le_of_ble_eq_true rfl
  · rintro _ σ τ rfl
    refine br_c (fun h => ?_) (fun h => ?_)
    · exact ⟨false, rfl, (decide_eq_false (Int32.not_lt.mpr h)).symm, rfl, rfl⟩
    · exact ⟨true, rfl, (decide_eq_true (Int32.not_le.mp h)).symm, rfl, rfl⟩
def y_A_size : MethodName := ⟨RX0, "size", "()I"⟩
def ws_A_size : List Cond := .code y_A_size prog_2_method_4_code 1 (some .int) :: evW
theorem d_A_size_0 : decode prog_2_method_4_code 0 = .ok (.aload_n 0, 1) := by decide +kernel
theorem d_A_size_1 : decode prog_2_method_4_code 1 = .ok (.getfield 44, 3) := by decide +kernel
theorem d_A_size_4 : decode prog_2_method_4_code 4 = .ok (.ireturn, 1) := by decide +kernel
def I_A_size (P : Int32 → ev_M → ev_L → Prop) : List (Nat × ev_T) := [(0, tt_al 0 1),
  (1, tt_gf evLY 0 10 4),
  (4, tt_ri P)]
abbrev rm_A_size : Room := { frames := 0, cells := 0, slots := 0, locals := 0 }
set_option maxRecDepth 20000 in
theorem ok_A_size (l : Launch) (J : ev_K) (P : Int32 → ev_M → ev_L → Prop) (X : ev_X l rm_A_size evLY evCl ws_A_size prog_2_method_4_code 1 y_A_size.cls J) (Z : ev_Z J prog_2_method_4_code .ireturn ev_i P) : ev_oks J (I_A_size P) :=
  ⟨qq_aln X 0 rfl d_A_size_0,
  qq_gf X 0 10 rfl (fun w h => List.mem_cons_of_mem _ (inE_A w h)) (by decide) (List.mem_cons_of_mem _ mw_105) d_A_size_1,
  qq_ri Z d_A_size_4, trivial⟩
def pre_A_size : List Value → ev_M → ev_L → Prop := fun as σ τ => as = [.ref 8]
def post_A_size : List Value → ev_M → ev_L → Int32 → ev_M → ev_L → Prop := fun as σ τ r σ' τ' => match as with
  | [_] => r = σ 8 10 ∧ σ' = σ ∧ τ' = τ
  | _ => False
set_option maxHeartbeats 4000000 in
set_option maxRecDepth 100000 in
theorem c_A_size (l : Launch) : ev_C ev_i l y_A_size ws_A_size rm_A_size evLY evCl pre_A_size post_A_size := by
  refine ev_meth0 (by decide) rfl ev_rop_i ?_ I_A_size (ok_A_size l) 40 ?_
  · rintro _ σ τ rfl
    exact Nat.le_of_ble_eq_true rfl
  · rintro _ σ τ rfl
    exact ⟨rfl, rfl, rfl⟩
def y_A_headOf : MethodName := ⟨RX0, "headOf", "(I)I"⟩
def ws_A_headOf : List Cond := .code y_A_headOf prog_2_method_5_code 2 (some .int) :: evW
theorem d_A_headOf_0 : decode prog_2_method_5_code 0 = .ok (.iload_n 1, 1) := by decide +kernel
theorem d_A_headOf_1 : decode prog_2_method_5_code 1 = .ok (.ifCond .lt 20, 3) := by decide +kernel
theorem d_A_headOf_4 : decode prog_2_method_5_code 4 = .ok (.iload_n 1, 1) := by decide +kernel
theorem d_A_headOf_5 : decode prog_2_method_5_code 5 = .ok (.aload_n 0, 1) := by decide +kernel
theorem d_A_headOf_6 : decode prog_2_method_5_code 6 = .ok (.getfield 44, 3) := by decide +kernel
theorem d_A_headOf_9 : decode prog_2_method_5_code 9 = .ok (.if_icmp .ge 12, 3) := by decide +kernel
theorem d_A_headOf_12 : decode prog_2_method_5_code 12 = .ok (.aload_n 0, 1) := by decide +kernel
theorem d_A_headOf_13 : decode prog_2_method_5_code 13 = .ok (.getfield 35, 3) := by decide +kernel
theorem d_A_headOf_16 : decode prog_2_method_5_code 16 = .ok (.iload_n 1, 1) := by decide +kernel
theorem d_A_headOf_17 : decode prog_2_method_5_code 17 = .ok (.iaload, 1) := by decide +kernel
theorem d_A_headOf_18 : decode prog_2_method_5_code 18 = .ok (.goto 4, 3) := by decide +kernel
theorem d_A_headOf_21 : decode prog_2_method_5_code 21 = .ok (.iconst 0, 1) := by decide +kernel
theorem d_A_headOf_22 : decode prog_2_method_5_code 22 = .ok (.ireturn, 1) := by decide +kernel
def I_A_headOf (P : Int32 → ev_M → ev_L → Prop) : List (Nat × ev_T) := [(0, tt_il 1 1),
  (1, tt_iflt 21 4),
  (4, tt_il 1 5),
  (5, tt_al 0 6),
  (6, tt_gf evLY 0 10 9),
  (9, tt_icge 21 12),
  (12, tt_al 0 13),
  (13, tt_gf evLY 0 6 16),
  (16, tt_il 1 17),
  (17, tt_ia evLY 18),
  (18, tt_go 22),
  (21, tt_k 0 22),
  (22, tt_ri P)]
abbrev rm_A_headOf : Room := { frames := 0, cells := 0, slots := 0, locals := 0 }
set_option maxRecDepth 20000 in
theorem ok_A_headOf (l : Launch) (J : ev_K) (P : Int32 → ev_M → ev_L → Prop) (X : ev_X l rm_A_headOf evLY evCl ws_A_headOf prog_2_method_5_code 2 y_A_headOf.cls J) (Z : ev_Z J prog_2_method_5_code .ireturn ev_i P) : ev_oks J (I_A_headOf P) :=
  ⟨qq_iln X 1 rfl d_A_headOf_0,
  qq_iflt X 21 (by decide) d_A_headOf_1,
  qq_iln X 1 rfl d_A_headOf_4,
  qq_aln X 0 rfl d_A_headOf_5,
  qq_gf X 0 10 rfl (fun w h => List.mem_cons_of_mem _ (inE_A w h)) (by decide) (List.mem_cons_of_mem _ mw_105) d_A_headOf_6,
  qq_icge X 21 (by decide) d_A_headOf_9,
  qq_aln X 0 rfl d_A_headOf_12,
  qq_gf X 0 6 rfl (fun w h => List.mem_cons_of_mem _ (inE_A w h)) (by decide) (List.mem_cons_of_mem _ mw_101) d_A_headOf_13,
  qq_iln X 1 rfl d_A_headOf_16,
  qq_ia X d_A_headOf_17,
  qq_go X 22 (by decide) d_A_headOf_18,
  qq_ic X 0 (by decide) d_A_headOf_21,
  qq_ri Z d_A_headOf_22, trivial⟩
def pre_A_headOf : List Value → ev_M → ev_L → Prop := fun as σ τ => ∃ (i : Int32), as = [.ref 8, .int i] ∧ (σ 8 10).toInt ≤ (96 : Nat)
def post_A_headOf : List Value → ev_M → ev_L → Int32 → ev_M → ev_L → Prop := fun as σ τ r σ' τ' => match as with
  | [_, .int i] => r = sp_idx (σ 8 10) (σ 15) i ∧ σ' = σ ∧ τ' = τ
  | _ => False
set_option maxHeartbeats 4000000 in
set_option maxRecDepth 100000 in
theorem c_A_headOf (l : Launch) : ev_C ev_i l y_A_headOf ws_A_headOf rm_A_headOf evLY evCl pre_A_headOf post_A_headOf := by
  refine ev_meth0 (by decide) rfl ev_rop_i ?_ I_A_headOf (ok_A_headOf l) 40 ?_
  · rintro _ σ τ ⟨i, rfl, hp⟩
    exact Nat.le_of_ble_eq_true rfl
  · rintro _ σ τ ⟨i, rfl, hp⟩
    refine br_c (fun h => ?_) (fun h => br_c (fun h2 => ?_) (fun h2 => ?_))
    · exact ⟨(if_neg fun q => absurd (Int32.not_lt.mpr q.1) (fun w => w h)).symm, rfl, rfl⟩
    · exact ⟨(if_neg fun q => absurd (Int32.not_le.mpr q.2) (fun w => w h2)).symm, rfl, rfl⟩
    · exact ⟨i_vin3 hp h h2, (if_pos ⟨Int32.not_lt.mp h, Int32.not_le.mp h2⟩).symm, rfl, rfl⟩
def y_A_bytesOf : MethodName := ⟨RX0, "bytesOf", "(I)I"⟩
def ws_A_bytesOf : List Cond := .code y_A_bytesOf prog_2_method_6_code 2 (some .int) :: evW
theorem d_A_bytesOf_0 : decode prog_2_method_6_code 0 = .ok (.iload_n 1, 1) := by decide +kernel
theorem d_A_bytesOf_1 : decode prog_2_method_6_code 1 = .ok (.ifCond .lt 20, 3) := by decide +kernel
theorem d_A_bytesOf_4 : decode prog_2_method_6_code 4 = .ok (.iload_n 1, 1) := by decide +kernel
theorem d_A_bytesOf_5 : decode prog_2_method_6_code 5 = .ok (.aload_n 0, 1) := by decide +kernel
theorem d_A_bytesOf_6 : decode prog_2_method_6_code 6 = .ok (.getfield 44, 3) := by decide +kernel
theorem d_A_bytesOf_9 : decode prog_2_method_6_code 9 = .ok (.if_icmp .ge 12, 3) := by decide +kernel
theorem d_A_bytesOf_12 : decode prog_2_method_6_code 12 = .ok (.aload_n 0, 1) := by decide +kernel
theorem d_A_bytesOf_13 : decode prog_2_method_6_code 13 = .ok (.getfield 38, 3) := by decide +kernel
theorem d_A_bytesOf_16 : decode prog_2_method_6_code 16 = .ok (.iload_n 1, 1) := by decide +kernel
theorem d_A_bytesOf_17 : decode prog_2_method_6_code 17 = .ok (.iaload, 1) := by decide +kernel
theorem d_A_bytesOf_18 : decode prog_2_method_6_code 18 = .ok (.goto 4, 3) := by decide +kernel
theorem d_A_bytesOf_21 : decode prog_2_method_6_code 21 = .ok (.iconst 0, 1) := by decide +kernel
theorem d_A_bytesOf_22 : decode prog_2_method_6_code 22 = .ok (.ireturn, 1) := by decide +kernel
def I_A_bytesOf (P : Int32 → ev_M → ev_L → Prop) : List (Nat × ev_T) := [(0, tt_il 1 1),
  (1, tt_iflt 21 4),
  (4, tt_il 1 5),
  (5, tt_al 0 6),
  (6, tt_gf evLY 0 10 9),
  (9, tt_icge 21 12),
  (12, tt_al 0 13),
  (13, tt_gf evLY 0 7 16),
  (16, tt_il 1 17),
  (17, tt_ia evLY 18),
  (18, tt_go 22),
  (21, tt_k 0 22),
  (22, tt_ri P)]
abbrev rm_A_bytesOf : Room := { frames := 0, cells := 0, slots := 0, locals := 0 }
set_option maxRecDepth 20000 in
theorem ok_A_bytesOf (l : Launch) (J : ev_K) (P : Int32 → ev_M → ev_L → Prop) (X : ev_X l rm_A_bytesOf evLY evCl ws_A_bytesOf prog_2_method_6_code 2 y_A_bytesOf.cls J) (Z : ev_Z J prog_2_method_6_code .ireturn ev_i P) : ev_oks J (I_A_bytesOf P) :=
  ⟨qq_iln X 1 rfl d_A_bytesOf_0,
  qq_iflt X 21 (by decide) d_A_bytesOf_1,
  qq_iln X 1 rfl d_A_bytesOf_4,
  qq_aln X 0 rfl d_A_bytesOf_5,
  qq_gf X 0 10 rfl (fun w h => List.mem_cons_of_mem _ (inE_A w h)) (by decide) (List.mem_cons_of_mem _ mw_105) d_A_bytesOf_6,
  qq_icge X 21 (by decide) d_A_bytesOf_9,
  qq_aln X 0 rfl d_A_bytesOf_12,
  qq_gf X 0 7 rfl (fun w h => List.mem_cons_of_mem _ (inE_A w h)) (by decide) (List.mem_cons_of_mem _ mw_102) d_A_bytesOf_13,
  qq_iln X 1 rfl d_A_bytesOf_16,
  qq_ia X d_A_bytesOf_17,
  qq_go X 22 (by decide) d_A_bytesOf_18,
  qq_ic X 0 (by decide) d_A_bytesOf_21,
  qq_ri Z d_A_bytesOf_22, trivial⟩
def pre_A_bytesOf : List Value → ev_M → ev_L → Prop := fun as σ τ => ∃ (i : Int32), as = [.ref 8, .int i] ∧ (σ 8 10).toInt ≤ (96 : Nat)
def post_A_bytesOf : List Value → ev_M → ev_L → Int32 → ev_M → ev_L → Prop := fun as σ τ r σ' τ' => match as with
  | [_, .int i] => r = sp_idx (σ 8 10) (σ 16) i ∧ σ' = σ ∧ τ' = τ
  | _ => False
set_option maxHeartbeats 4000000 in
set_option maxRecDepth 100000 in
theorem c_A_bytesOf (l : Launch) : ev_C ev_i l y_A_bytesOf ws_A_bytesOf rm_A_bytesOf evLY evCl pre_A_bytesOf post_A_bytesOf := by
  refine ev_meth0 (by decide) rfl ev_rop_i ?_ I_A_bytesOf (ok_A_bytesOf l) 40 ?_
  · rintro _ σ τ ⟨i, rfl, hp⟩
    exact Nat.le_of_ble_eq_true rfl
  · rintro _ σ τ ⟨i, rfl, hp⟩
    refine br_c (fun h => ?_) (fun h => br_c (fun h2 => ?_) (fun h2 => ?_))
    · exact ⟨(if_neg fun q => absurd (Int32.not_lt.mpr q.1) (fun w => w h)).symm, rfl, rfl⟩
    · exact ⟨(if_neg fun q => absurd (Int32.not_le.mpr q.2) (fun w => w h2)).symm, rfl, rfl⟩
    · exact ⟨i_vin3 hp h h2, (if_pos ⟨Int32.not_lt.mp h, Int32.not_le.mp h2⟩).symm, rfl, rfl⟩
def y_A_instructionsOf : MethodName := ⟨RX0, "instructionsOf", "(I)I"⟩
def ws_A_instructionsOf : List Cond := .code y_A_instructionsOf prog_2_method_7_code 2 (some .int) :: evW
theorem d_A_instructionsOf_0 : decode prog_2_method_7_code 0 = .ok (.iload_n 1, 1) := by decide +kernel
theorem d_A_instructionsOf_1 : decode prog_2_method_7_code 1 = .ok (.ifCond .lt 20, 3) := by decide +kernel
theorem d_A_instructionsOf_4 : decode prog_2_method_7_code 4 = .ok (.iload_n 1, 1) := by decide +kernel
theorem d_A_instructionsOf_5 : decode prog_2_method_7_code 5 = .ok (.aload_n 0, 1) := by decide +kernel
theorem d_A_instructionsOf_6 : decode prog_2_method_7_code 6 = .ok (.getfield 44, 3) := by decide +kernel
theorem d_A_instructionsOf_9 : decode prog_2_method_7_code 9 = .ok (.if_icmp .ge 12, 3) := by decide +kernel
theorem d_A_instructionsOf_12 : decode prog_2_method_7_code 12 = .ok (.aload_n 0, 1) := by decide +kernel
theorem d_A_instructionsOf_13 : decode prog_2_method_7_code 13 = .ok (.getfield 41, 3) := by decide +kernel
theorem d_A_instructionsOf_16 : decode prog_2_method_7_code 16 = .ok (.iload_n 1, 1) := by decide +kernel
theorem d_A_instructionsOf_17 : decode prog_2_method_7_code 17 = .ok (.iaload, 1) := by decide +kernel
theorem d_A_instructionsOf_18 : decode prog_2_method_7_code 18 = .ok (.goto 4, 3) := by decide +kernel
theorem d_A_instructionsOf_21 : decode prog_2_method_7_code 21 = .ok (.iconst 0, 1) := by decide +kernel
theorem d_A_instructionsOf_22 : decode prog_2_method_7_code 22 = .ok (.ireturn, 1) := by decide +kernel
def I_A_instructionsOf (P : Int32 → ev_M → ev_L → Prop) : List (Nat × ev_T) := [(0, tt_il 1 1),
  (1, tt_iflt 21 4),
  (4, tt_il 1 5),
  (5, tt_al 0 6),
  (6, tt_gf evLY 0 10 9),
  (9, tt_icge 21 12),
  (12, tt_al 0 13),
  (13, tt_gf evLY 0 8 16),
  (16, tt_il 1 17),
  (17, tt_ia evLY 18),
  (18, tt_go 22),
  (21, tt_k 0 22),
  (22, tt_ri P)]
abbrev rm_A_instructionsOf : Room := { frames := 0, cells := 0, slots := 0, locals := 0 }
set_option maxRecDepth 20000 in
theorem ok_A_instructionsOf (l : Launch) (J : ev_K) (P : Int32 → ev_M → ev_L → Prop) (X : ev_X l rm_A_instructionsOf evLY evCl ws_A_instructionsOf prog_2_method_7_code 2 y_A_instructionsOf.cls J) (Z : ev_Z J prog_2_method_7_code .ireturn ev_i P) : ev_oks J (I_A_instructionsOf P) :=
  ⟨qq_iln X 1 rfl d_A_instructionsOf_0,
  qq_iflt X 21 (by decide) d_A_instructionsOf_1,
  qq_iln X 1 rfl d_A_instructionsOf_4,
  qq_aln X 0 rfl d_A_instructionsOf_5,
  qq_gf X 0 10 rfl (fun w h => List.mem_cons_of_mem _ (inE_A w h)) (by decide) (List.mem_cons_of_mem _ mw_105) d_A_instructionsOf_6,
  qq_icge X 21 (by decide) d_A_instructionsOf_9,
  qq_aln X 0 rfl d_A_instructionsOf_12,
  qq_gf X 0 8 rfl (fun w h => List.mem_cons_of_mem _ (inE_A w h)) (by decide) (List.mem_cons_of_mem _ mw_103) d_A_instructionsOf_13,
  qq_iln X 1 rfl d_A_instructionsOf_16,
  qq_ia X d_A_instructionsOf_17,
  qq_go X 22 (by decide) d_A_instructionsOf_18,
  qq_ic X 0 (by decide) d_A_instructionsOf_21,
  qq_ri Z d_A_instructionsOf_22, trivial⟩
def pre_A_instructionsOf : List Value → ev_M → ev_L → Prop := fun as σ τ => ∃ (i : Int32), as = [.ref 8, .int i] ∧ (σ 8 10).toInt ≤ (96 : Nat)
def post_A_instructionsOf : List Value → ev_M → ev_L → Int32 → ev_M → ev_L → Prop := fun as σ τ r σ' τ' => match as with
  | [_, .int i] => r = sp_idx (σ 8 10) (σ 17) i ∧ σ' = σ ∧ τ' = τ
  | _ => False
set_option maxHeartbeats 4000000 in
set_option maxRecDepth 100000 in
theorem c_A_instructionsOf (l : Launch) : ev_C ev_i l y_A_instructionsOf ws_A_instructionsOf rm_A_instructionsOf evLY evCl pre_A_instructionsOf post_A_instructionsOf := by
  refine ev_meth0 (by decide) rfl ev_rop_i ?_ I_A_instructionsOf (ok_A_instructionsOf l) 40 ?_
  · rintro _ σ τ ⟨i, rfl, hp⟩
    exact Nat.le_of_ble_eq_true rfl
  · rintro _ σ τ ⟨i, rfl, hp⟩
    refine br_c (fun h => ?_) (fun h => br_c (fun h2 => ?_) (fun h2 => ?_))
    · exact ⟨(if_neg fun q => absurd (Int32.not_lt.mpr q.1) (fun w => w h)).symm, rfl, rfl⟩
    · exact ⟨(if_neg fun q => absurd (Int32.not_le.mpr q.2) (fun w => w h2)).symm, rfl, rfl⟩
    · exact ⟨i_vin3 hp h h2, (if_pos ⟨Int32.not_lt.mp h, Int32.not_le.mp h2⟩).symm, rfl, rfl⟩
/-- the number of the block at an address -/
def sp_num (c : Int32) (f : Nat → Int32) (a : Int32) : Int32 := if 0 < c ∧ 0 ≤ a ∧ a < 96 then f a.toNatClampNeg else -1
def y_A_numberAt : MethodName := ⟨RX0, "numberAt", "(I)I"⟩
def ws_A_numberAt : List Cond := .code y_A_numberAt prog_2_method_8_code 2 (some .int) :: evW
theorem d_A_numberAt_0 : decode prog_2_method_8_code 0 = .ok (.aload_n 0, 1) := by decide +kernel
theorem d_A_numberAt_1 : decode prog_2_method_8_code 1 = .ok (.invokevirtual 48, 3) := by decide +kernel
theorem d_A_numberAt_4 : decode prog_2_method_8_code 4 = .ok (.ifCond .eq 22, 3) := by decide +kernel
theorem d_A_numberAt_7 : decode prog_2_method_8_code 7 = .ok (.iload_n 1, 1) := by decide +kernel
theorem d_A_numberAt_8 : decode prog_2_method_8_code 8 = .ok (.ifCond .lt 18, 3) := by decide +kernel
theorem d_A_numberAt_11 : decode prog_2_method_8_code 11 = .ok (.iload_n 1, 1) := by decide +kernel
theorem d_A_numberAt_12 : decode prog_2_method_8_code 12 = .ok (.bipush 96, 2) := by decide +kernel
theorem d_A_numberAt_14 : decode prog_2_method_8_code 14 = .ok (.if_icmp .ge 12, 3) := by decide +kernel
theorem d_A_numberAt_17 : decode prog_2_method_8_code 17 = .ok (.aload_n 0, 1) := by decide +kernel
theorem d_A_numberAt_18 : decode prog_2_method_8_code 18 = .ok (.getfield 32, 3) := by decide +kernel
theorem d_A_numberAt_21 : decode prog_2_method_8_code 21 = .ok (.iload_n 1, 1) := by decide +kernel
theorem d_A_numberAt_22 : decode prog_2_method_8_code 22 = .ok (.iaload, 1) := by decide +kernel
theorem d_A_numberAt_23 : decode prog_2_method_8_code 23 = .ok (.goto 4, 3) := by decide +kernel
theorem d_A_numberAt_26 : decode prog_2_method_8_code 26 = .ok (.iconst (-1), 1) := by decide +kernel
theorem d_A_numberAt_27 : decode prog_2_method_8_code 27 = .ok (.ireturn, 1) := by decide +kernel
def I_A_numberAt (P : Int32 → ev_M → ev_L → Prop) : List (Nat × ev_T) := [(0, tt_al 0 1),
  (1, tt_cV evLY 0 0 ev_b pre_A_exists post_A_exists 4),
  (4, tt_ifeq 26 7),
  (7, tt_il 1 8),
  (8, tt_iflt 26 11),
  (11, tt_il 1 12),
  (12, tt_k 96 14),
  (14, tt_icge 26 17),
  (17, tt_al 0 18),
  (18, tt_gf evLY 0 5 21),
  (21, tt_il 1 22),
  (22, tt_ia evLY 23),
  (23, tt_go 27),
  (26, tt_k (-1) 27),
  (27, tt_ri P)]
abbrev rm_A_numberAt : Room := { frames := 1, cells := 0, slots := 0, locals := 32 }
set_option maxRecDepth 20000 in
theorem ok_A_numberAt (l : Launch) (J : ev_K) (P : Int32 → ev_M → ev_L → Prop) (X : ev_X l rm_A_numberAt evLY evCl ws_A_numberAt prog_2_method_8_code 2 y_A_numberAt.cls J) (Z : ev_Z J prog_2_method_8_code .ireturn ev_i P) : ev_oks J (I_A_numberAt P) :=
  ⟨qq_aln X 0 rfl d_A_numberAt_0,
  qq_cV X 0 rfl (c_A_exists l) (fun hts => cwV 0 hts (evGV (mw_220) (mw_221) (mw_222) (mw_4) (mw_223)) rfl rfl rfl (by decide +kernel) ⟨Nat.le_of_ble_eq_true rfl, Nat.le_of_ble_eq_true rfl⟩) d_A_numberAt_1,
  qq_ifeq X 26 (by decide) d_A_numberAt_4,
  qq_iln X 1 rfl d_A_numberAt_7,
  qq_iflt X 26 (by decide) d_A_numberAt_8,
  qq_iln X 1 rfl d_A_numberAt_11,
  qq_bp X 96 (by decide) d_A_numberAt_12,
  qq_icge X 26 (by decide) d_A_numberAt_14,
  qq_aln X 0 rfl d_A_numberAt_17,
  qq_gf X 0 5 rfl (fun w h => List.mem_cons_of_mem _ (inE_A w h)) (by decide) (List.mem_cons_of_mem _ mw_100) d_A_numberAt_18,
  qq_iln X 1 rfl d_A_numberAt_21,
  qq_ia X d_A_numberAt_22,
  qq_go X 27 (by decide) d_A_numberAt_23,
  qq_ic X (-1) (by decide) d_A_numberAt_26,
  qq_ri Z d_A_numberAt_27, trivial⟩
def pre_A_numberAt : List Value → ev_M → ev_L → Prop := fun as σ τ => ∃ (i : Int32), as = [.ref 8, .int i]
def post_A_numberAt : List Value → ev_M → ev_L → Int32 → ev_M → ev_L → Prop := fun as σ τ r σ' τ' => match as with
  | [_, .int i] => r = sp_num (σ 8 10) (σ 14) i ∧ σ' = σ ∧ τ' = τ
  | _ => False
set_option maxHeartbeats 4000000 in
set_option maxRecDepth 100000 in
theorem c_A_numberAt (l : Launch) : ev_C ev_i l y_A_numberAt ws_A_numberAt rm_A_numberAt evLY evCl pre_A_numberAt post_A_numberAt := by
  refine ev_meth0 (by decide) rfl ev_rop_i ?_ I_A_numberAt (ok_A_numberAt l) 40 ?_
  · rintro _ σ τ ⟨i, rfl⟩
    exact Nat.le_of_ble_eq_true rfl
  · rintro _ σ τ ⟨i, rfl⟩
    refine ⟨rfl, ?_⟩
    rintro _ σ τ ⟨rfl, rfl, rfl⟩
    refine br_c (fun h => ?_) (fun h => br_c (fun h2 => ?_) (fun h2 => br_c (fun h3 => ?_) (fun h3 => ?_)))
    · exact ⟨(if_neg fun q => absurd q.1 (of_decide_eq_false (bz h))).symm, rfl, rfl⟩
    · exact ⟨(if_neg fun q => absurd (Int32.not_lt.mpr q.2.1) (fun w => w h2)).symm, rfl, rfl⟩
    · exact ⟨(if_neg fun q => absurd (Int32.not_le.mpr q.2.2) (fun w => w h3)).symm, rfl, rfl⟩
    · exact ⟨i_vin rfl h2 h3, (if_pos ⟨of_decide_eq_true (bnz h), Int32.not_lt.mp h2, Int32.not_le.mp h3⟩).symm, rfl, rfl⟩
def sp_nhd (c : Int32) (f g : Nat → Int32) (a : Int32) : Int32 := if ¬ sp_num c f a = -1 ∧ sp_idx c g (sp_num c f a) = a then sp_num c f a else -1
def y_A_numberOfHead : MethodName := ⟨RX0, "numberOfHead", "(I)I"⟩
def ws_A_numberOfHead : List Cond := .code y_A_numberOfHead prog_2_method_9_code 3 (some .int) :: evW
theorem d_A_numberOfHead_0 : decode prog_2_method_9_code 0 = .ok (.aload_n 0, 1) := by decide +kernel
theorem d_A_numberOfHead_1 : decode prog_2_method_9_code 1 = .ok (.iload_n 1, 1) := by decide +kernel
theorem d_A_numberOfHead_2 : decode prog_2_method_9_code 2 = .ok (.invokevirtual 52, 3) := by decide +kernel
theorem d_A_numberOfHead_5 : decode prog_2_method_9_code 5 = .ok (.istore_n 2, 1) := by decide +kernel
theorem d_A_numberOfHead_6 : decode prog_2_method_9_code 6 = .ok (.iload_n 2, 1) := by decide +kernel
theorem d_A_numberOfHead_7 : decode prog_2_method_9_code 7 = .ok (.iconst (-1), 1) := by decide +kernel
theorem d_A_numberOfHead_8 : decode prog_2_method_9_code 8 = .ok (.if_icmp .eq 16, 3) := by decide +kernel
theorem d_A_numberOfHead_11 : decode prog_2_method_9_code 11 = .ok (.aload_n 0, 1) := by decide +kernel
theorem d_A_numberOfHead_12 : decode prog_2_method_9_code 12 = .ok (.iload_n 2, 1) := by decide +kernel
theorem d_A_numberOfHead_13 : decode prog_2_method_9_code 13 = .ok (.invokevirtual 56, 3) := by decide +kernel
theorem d_A_numberOfHead_16 : decode prog_2_method_9_code 16 = .ok (.iload_n 1, 1) := by decide +kernel
theorem d_A_numberOfHead_17 : decode prog_2_method_9_code 17 = .ok (.if_icmp .ne 7, 3) := by decide +kernel
theorem d_A_numberOfHead_20 : decode prog_2_method_9_code 20 = .ok (.iload_n 2, 1) := by decide +kernel
theorem d_A_numberOfHead_21 : decode prog_2_method_9_code 21 = .ok (.goto 4, 3) := by decide +kernel
theorem d_A_numberOfHead_24 : decode prog_2_method_9_code 24 = .ok (.iconst (-1), 1) := by decide +kernel
theorem d_A_numberOfHead_25 : decode prog_2_method_9_code 25 = .ok (.ireturn, 1) := by decide +kernel
def I_A_numberOfHead (P : Int32 → ev_M → ev_L → Prop) : List (Nat × ev_T) := [(0, tt_al 0 1),
  (1, tt_il 1 2),
  (2, tt_cV evLY 0 1 ev_i pre_A_numberAt post_A_numberAt 5),
  (5, tt_is 2 6),
  (6, tt_il 2 7),
  (7, tt_k (-1) 8),
  (8, tt_iceq 24 11),
  (11, tt_al 0 12),
  (12, tt_il 2 13),
  (13, tt_cV evLY 0 1 ev_i pre_A_headOf post_A_headOf 16),
  (16, tt_il 1 17),
  (17, tt_icne 24 20),
  (20, tt_il 2 21),
  (21, tt_go 25),
  (24, tt_k (-1) 25),
  (25, tt_ri P)]
abbrev rm_A_numberOfHead : Room := { frames := 2, cells := 0, slots := 0, locals := 64 }
set_option maxRecDepth 20000 in
theorem ok_A_numberOfHead (l : Launch) (J : ev_K) (P : Int32 → ev_M → ev_L → Prop) (X : ev_X l rm_A_numberOfHead evLY evCl ws_A_numberOfHead prog_2_method_9_code 3 y_A_numberOfHead.cls J) (Z : ev_Z J prog_2_method_9_code .ireturn ev_i P) : ev_oks J (I_A_numberOfHead P) :=
  ⟨qq_aln X 0 rfl d_A_numberOfHead_0,
  qq_iln X 1 rfl d_A_numberOfHead_1,
  qq_cV X 0 rfl (c_A_numberAt l) (fun hts => cwV 1 hts (evGV (mw_687) (mw_217) (mw_218) (mw_4) (mw_219)) rfl rfl rfl (by decide +kernel) ⟨Nat.le_of_ble_eq_true rfl, Nat.le_of_ble_eq_true rfl⟩) d_A_numberOfHead_2,
  qq_isn X 2 rfl (by decide) d_A_numberOfHead_5,
  qq_iln X 2 rfl d_A_numberOfHead_6,
  qq_ic X (-1) (by decide) d_A_numberOfHead_7,
  qq_iceq X 24 (by decide) d_A_numberOfHead_8,
  qq_aln X 0 rfl d_A_numberOfHead_11,
  qq_iln X 2 rfl d_A_numberOfHead_12,
  qq_cV X 0 rfl (c_A_headOf l) (fun hts => cwV 1 hts (evGV (mw_688) (mw_500) (mw_501) (mw_4) (mw_502)) rfl rfl rfl (by decide +kernel) ⟨Nat.le_of_ble_eq_true rfl, Nat.le_of_ble_eq_true rfl⟩) d_A_numberOfHead_13,
  qq_iln X 1 rfl d_A_numberOfHead_16,
  qq_icne X 24 (by decide) d_A_numberOfHead_17,
  qq_iln X 2 rfl d_A_numberOfHead_20,
  qq_go X 25 (by decide) d_A_numberOfHead_21,
  qq_ic X (-1) (by decide) d_A_numberOfHead_24,
  qq_ri Z d_A_numberOfHead_25, trivial⟩
def pre_A_numberOfHead : List Value → ev_M → ev_L → Prop := fun as σ τ => ∃ (i : Int32), as = [.ref 8, .int i] ∧ (σ 8 10).toInt ≤ (96 : Nat)
def post_A_numberOfHead : List Value → ev_M → ev_L → Int32 → ev_M → ev_L → Prop := fun as σ τ r σ' τ' => match as with
  | [_, .int i] => r = sp_nhd (σ 8 10) (σ 14) (σ 15) i ∧ σ' = σ ∧ τ' = τ
  | _ => False
set_option maxHeartbeats 4000000 in
set_option maxRecDepth 100000 in
theorem c_A_numberOfHead (l : Launch) : ev_C ev_i l y_A_numberOfHead ws_A_numberOfHead rm_A_numberOfHead evLY evCl pre_A_numberOfHead post_A_numberOfHead := by
  refine ev_meth0 (by decide) rfl ev_rop_i ?_ I_A_numberOfHead (ok_A_numberOfHead l) 40 ?_
  · rintro _ σ τ ⟨i, rfl, hp⟩
    exact Nat.le_of_ble_eq_true rfl
  · rintro _ σ τ ⟨i, rfl, hp⟩
    refine ⟨⟨_, rfl⟩, ?_⟩
    rintro _ σ τ ⟨rfl, rfl, rfl⟩
    refine br_c (fun h => ?_) (fun h => ⟨⟨_, rfl, hp⟩, ?_⟩)
    · exact ⟨(if_neg fun q => q.1 h).symm, rfl, rfl⟩
    · rintro _ σ τ ⟨rfl, rfl, rfl⟩
      refine br_n (fun h2 => ?_) (fun h2 => ?_)
      · exact ⟨(if_neg fun q => h2 q.2).symm, rfl, rfl⟩
      · exact ⟨(if_pos ⟨h, h2⟩).symm, rfl, rfl⟩
def y_R_forget : MethodName := ⟨RX4, "forget", "()V"⟩
def ws_R_forget : List Cond := .code y_R_forget prog_6_method_2_code 1 none :: evW
theorem d_R_forget_0 : decode prog_6_method_2_code 0 = .ok (.aload_n 0, 1) := by decide +kernel
theorem d_R_forget_1 : decode prog_6_method_2_code 1 = .ok (.iconst 0, 1) := by decide +kernel
theorem d_R_forget_2 : decode prog_6_method_2_code 2 = .ok (.putfield 25, 3) := by decide +kernel
theorem d_R_forget_5 : decode prog_6_method_2_code 5 = .ok (.return_, 1) := by decide +kernel
def I_R_forget (P : Unit → ev_M → ev_L → Prop) : List (Nat × ev_T) := [(0, tt_al 0 1),
  (1, tt_k 0 2),
  (2, tt_pz evLY 4 3 5),
  (5, tt_rv P)]
abbrev rm_R_forget : Room := { frames := 0, cells := 0, slots := 0, locals := 0 }
set_option maxRecDepth 20000 in
theorem ok_R_forget (l : Launch) (J : ev_K) (P : Unit → ev_M → ev_L → Prop) (X : ev_X l rm_R_forget evLY evCl ws_R_forget prog_6_method_2_code 1 y_R_forget.cls J) (Z : ev_Z J prog_6_method_2_code .return_ ev_n P) : ev_oks J (I_R_forget P) :=
  ⟨qq_aln X 0 rfl d_R_forget_0,
  qq_ic X 0 (by decide) d_R_forget_1,
  qq_pz X 4 3 rfl (fun w h => List.mem_cons_of_mem _ (inE_R w h)) (by decide) tyX4 tyX4_ok nmX4 rfl (by decide +kernel) (List.mem_cons_of_mem _ mw_143) d_R_forget_2,
  qq_rv Z d_R_forget_5, trivial⟩
def pre_R_forget : List Value → ev_M → ev_L → Prop := fun as σ τ => as = [.ref 18]
def post_R_forget : List Value → ev_M → ev_L → Unit → ev_M → ev_L → Prop := fun as σ τ r σ' τ' => match as with
  | [_] => σ' = ev_u σ 18 3 0 ∧ τ' = τ
  | _ => False
set_option maxHeartbeats 4000000 in
set_option maxRecDepth 100000 in
theorem c_R_forget (l : Launch) : ev_C ev_n l y_R_forget ws_R_forget rm_R_forget evLY evCl pre_R_forget post_R_forget := by
  refine ev_meth0 (by decide) rfl ev_rop_v ?_ I_R_forget (ok_R_forget l) 40 ?_
  · rintro _ σ τ rfl
    exact Nat.le_of_ble_eq_true rfl
  · rintro _ σ τ rfl
    exact ⟨Or.inl rfl, rfl, rfl⟩
def y_R_exists : MethodName := ⟨RX4, "exists", "()Z"⟩
def ws_R_exists : List Cond := .code y_R_exists prog_6_method_3_code 1 (some .boolean) :: evW
theorem d_R_exists_0 : decode prog_6_method_3_code 0 = .ok (.aload_n 0, 1) := by decide +kernel
theorem d_R_exists_1 : decode prog_6_method_3_code 1 = .ok (.getfield 25, 3) := by decide +kernel
theorem d_R_exists_4 : decode prog_6_method_3_code 4 = .ok (.ireturn, 1) := by decide +kernel
def I_R_exists (P : Bool → ev_M → ev_L → Prop) : List (Nat × ev_T) := [(0, tt_al 0 1),
  (1, tt_gf evLY 4 3 4),
  (4, tt_rz P)]
abbrev rm_R_exists : Room := { frames := 0, cells := 0, slots := 0, locals := 0 }
set_option maxRecDepth 20000 in
theorem ok_R_exists (l : Launch) (J : ev_K) (P : Bool → ev_M → ev_L → Prop) (X : ev_X l rm_R_exists evLY evCl ws_R_exists prog_6_method_3_code 1 y_R_exists.cls J) (Z : ev_Z J prog_6_method_3_code .ireturn ev_b P) : ev_oks J (I_R_exists P) :=
  ⟨qq_aln X 0 rfl d_R_exists_0,
  qq_gf X 4 3 rfl (fun w h => List.mem_cons_of_mem _ (inE_R w h)) (by decide) (List.mem_cons_of_mem _ mw_143) d_R_exists_1,
  qq_rz Z d_R_exists_4, trivial⟩
def pre_R_exists : List Value → ev_M → ev_L → Prop := fun as σ τ => as = [.ref 18] ∧ (σ 18 3 = 0 ∨ σ 18 3 = 1)
def post_R_exists : List Value → ev_M → ev_L → Bool → ev_M → ev_L → Prop := fun as σ τ r σ' τ' => match as with
  | [_] => r = decide (σ 18 3 = 1) ∧ σ' = σ ∧ τ' = τ
  | _ => False
set_option maxHeartbeats 4000000 in
set_option maxRecDepth 100000 in
theorem c_R_exists (l : Launch) : ev_C ev_b l y_R_exists ws_R_exists rm_R_exists evLY evCl pre_R_exists post_R_exists := by
  refine ev_meth0 (by decide) rfl ev_rop_b ?_ I_R_exists (ok_R_exists l) 40 ?_
  · rintro _ σ τ ⟨rfl, hp⟩
    exact Nat.le_of_ble_eq_true rfl
  · rintro _ σ τ ⟨rfl, hp⟩
    rcases hp with hp | hp
    · exact ⟨false, hp, (decide_eq_false (by rw [hp]; decide)).symm, rfl, rfl⟩
    · exact ⟨true, hp, (decide_eq_true hp).symm, rfl, rfl⟩
def y_R_result : MethodName := ⟨RX4, "result", "()LBlockCounter$Program;"⟩
def ws_R_result : List Cond := .code y_R_result prog_6_method_4_code 1 (some (.object "BlockCounter$Program")) :: evW
theorem d_R_result_0 : decode prog_6_method_4_code 0 = .ok (.aload_n 0, 1) := by decide +kernel
theorem d_R_result_1 : decode prog_6_method_4_code 1 = .ok (.getfield 21, 3) := by decide +kernel
theorem d_R_result_4 : decode prog_6_method_4_code 4 = .ok (.areturn, 1) := by decide +kernel
def I_R_result (P : Nat → ev_M → ev_L → Prop) : List (Nat × ev_T) := [(0, tt_al 0 1),
  (1, tt_gf evLY 4 1 4),
  (4, tt_ra P)]
abbrev rm_R_result : Room := { frames := 0, cells := 0, slots := 0, locals := 0 }
set_option maxRecDepth 20000 in
theorem ok_R_result (l : Launch) (J : ev_K) (P : Nat → ev_M → ev_L → Prop) (X : ev_X l rm_R_result evLY evCl ws_R_result prog_6_method_4_code 1 y_R_result.cls J) (Z : ev_Z J prog_6_method_4_code .areturn ev_r P) : ev_oks J (I_R_result P) :=
  ⟨qq_aln X 0 rfl d_R_result_0,
  qq_gf X 4 1 rfl (fun w h => List.mem_cons_of_mem _ (inE_R w h)) (by decide) (List.mem_cons_of_mem _ mw_141) d_R_result_1,
  qq_ra Z d_R_result_4, trivial⟩
def pre_R_result : List Value → ev_M → ev_L → Prop := fun as σ τ => as = [.ref 18]
def post_R_result : List Value → ev_M → ev_L → Nat → ev_M → ev_L → Prop := fun as σ τ r σ' τ' => match as with
  | [_] => r = 20 ∧ σ' = σ ∧ τ' = τ
  | _ => False
set_option maxHeartbeats 4000000 in
set_option maxRecDepth 100000 in
theorem c_R_result (l : Launch) : ev_C ev_r l y_R_result ws_R_result rm_R_result evLY evCl pre_R_result post_R_result := by
  refine ev_meth0 (by decide) rfl (ev_rop_r _) ?_ I_R_result (ok_R_result l) 40 ?_
  · rintro _ σ τ rfl
    exact Nat.le_of_ble_eq_true rfl
  · rintro _ σ τ rfl
    exact ⟨rfl, rfl, rfl⟩
def y_R_used : MethodName := ⟨RX4, "used", "()I"⟩
def ws_R_used : List Cond := .code y_R_used prog_6_method_5_code 1 (some .int) :: evW
theorem d_R_used_0 : decode prog_6_method_5_code 0 = .ok (.aload_n 0, 1) := by decide +kernel
theorem d_R_used_1 : decode prog_6_method_5_code 1 = .ok (.getfield 29, 3) := by decide +kernel
theorem d_R_used_4 : decode prog_6_method_5_code 4 = .ok (.bipush 96, 2) := by decide +kernel
theorem d_R_used_6 : decode prog_6_method_5_code 6 = .ok (.isub, 1) := by decide +kernel
theorem d_R_used_7 : decode prog_6_method_5_code 7 = .ok (.ireturn, 1) := by decide +kernel
def I_R_used (P : Int32 → ev_M → ev_L → Prop) : List (Nat × ev_T) := [(0, tt_al 0 1),
  (1, tt_gf evLY 4 2 4),
  (4, tt_k 96 6),
  (6, tt_isub 7),
  (7, tt_ri P)]
abbrev rm_R_used : Room := { frames := 0, cells := 0, slots := 0, locals := 0 }
set_option maxRecDepth 20000 in
theorem ok_R_used (l : Launch) (J : ev_K) (P : Int32 → ev_M → ev_L → Prop) (X : ev_X l rm_R_used evLY evCl ws_R_used prog_6_method_5_code 1 y_R_used.cls J) (Z : ev_Z J prog_6_method_5_code .ireturn ev_i P) : ev_oks J (I_R_used P) :=
  ⟨qq_aln X 0 rfl d_R_used_0,
  qq_gf X 4 2 rfl (fun w h => List.mem_cons_of_mem _ (inE_R w h)) (by decide) (List.mem_cons_of_mem _ mw_142) d_R_used_1,
  qq_bp X 96 (by decide) d_R_used_4,
  qq_isub X d_R_used_6,
  qq_ri Z d_R_used_7, trivial⟩
def pre_R_used : List Value → ev_M → ev_L → Prop := fun as σ τ => as = [.ref 18]
def post_R_used : List Value → ev_M → ev_L → Int32 → ev_M → ev_L → Prop := fun as σ τ r σ' τ' => match as with
  | [_] => r = σ 18 2 - 96 ∧ σ' = σ ∧ τ' = τ
  | _ => False
set_option maxHeartbeats 4000000 in
set_option maxRecDepth 100000 in
theorem c_R_used (l : Launch) : ev_C ev_i l y_R_used ws_R_used rm_R_used evLY evCl pre_R_used post_R_used := by
  refine ev_meth0 (by decide) rfl ev_rop_i ?_ I_R_used (ok_R_used l) 40 ?_
  · rintro _ σ τ rfl
    exact Nat.le_of_ble_eq_true rfl
  · rintro _ σ τ rfl
    exact ⟨rfl, rfl, rfl⟩
/-- one byte more of new code -/
def sp_app (σ : ev_M) (v : Int32) : ev_M := ev_u (sp_put σ 21 (σ 18 2) v) 18 2 (σ 18 2 + 1)
theorem sp_put_18 (σ : ev_M) (a v : Int32) : sp_put σ 21 a v 18 = σ 18 := by
  unfold sp_put
  split <;> rfl
def y_R_append : MethodName := ⟨RX4, "append", "(I)V"⟩
def ws_R_append : List Cond := .code y_R_append prog_6_method_12_code 2 none :: evW
theorem d_R_append_0 : decode prog_6_method_12_code 0 = .ok (.aload_n 0, 1) := by decide +kernel
theorem d_R_append_1 : decode prog_6_method_12_code 1 = .ok (.getfield 21, 3) := by decide +kernel
theorem d_R_append_4 : decode prog_6_method_12_code 4 = .ok (.aload_n 0, 1) := by decide +kernel
theorem d_R_append_5 : decode prog_6_method_12_code 5 = .ok (.getfield 29, 3) := by decide +kernel
theorem d_R_append_8 : decode prog_6_method_12_code 8 = .ok (.iload_n 1, 1) := by decide +kernel
theorem d_R_append_9 : decode prog_6_method_12_code 9 = .ok (.invokevirtual 68, 3) := by decide +kernel
theorem d_R_append_12 : decode prog_6_method_12_code 12 = .ok (.aload_n 0, 1) := by decide +kernel
theorem d_R_append_13 : decode prog_6_method_12_code 13 = .ok (.dup, 1) := by decide +kernel
theorem d_R_append_14 : decode prog_6_method_12_code 14 = .ok (.getfield 29, 3) := by decide +kernel
theorem d_R_append_17 : decode prog_6_method_12_code 17 = .ok (.iconst 1, 1) := by decide +kernel
theorem d_R_append_18 : decode prog_6_method_12_code 18 = .ok (.iadd, 1) := by decide +kernel
theorem d_R_append_19 : decode prog_6_method_12_code 19 = .ok (.putfield 29, 3) := by decide +kernel
theorem d_R_append_22 : decode prog_6_method_12_code 22 = .ok (.return_, 1) := by decide +kernel
def I_R_append (P : Unit → ev_M → ev_L → Prop) : List (Nat × ev_T) := [(0, tt_al 0 1),
  (1, tt_gf evLY 4 1 4),
  (4, tt_al 0 5),
  (5, tt_gf evLY 4 2 8),
  (8, tt_il 1 9),
  (9, tt_cV evLY 3 2 ev_n pre_P_put post_P_put 12),
  (12, tt_al 0 13),
  (13, tt_dup 14),
  (14, tt_gf evLY 4 2 17),
  (17, tt_k 1 18),
  (18, tt_iadd 19),
  (19, tt_pf evLY 4 2 22),
  (22, tt_rv P)]
abbrev rm_R_append : Room := { frames := 1, cells := 0, slots := 0, locals := 32 }
set_option maxRecDepth 20000 in
theorem ok_R_append (l : Launch) (J : ev_K) (P : Unit → ev_M → ev_L → Prop) (X : ev_X l rm_R_append evLY evCl ws_R_append prog_6_method_12_code 2 y_R_append.cls J) (Z : ev_Z J prog_6_method_12_code .return_ ev_n P) : ev_oks J (I_R_append P) :=
  ⟨qq_aln X 0 rfl d_R_append_0,
  qq_gf X 4 1 rfl (fun w h => List.mem_cons_of_mem _ (inE_R w h)) (by decide) (List.mem_cons_of_mem _ mw_141) d_R_append_1,
  qq_aln X 0 rfl d_R_append_4,
  qq_gf X 4 2 rfl (fun w h => List.mem_cons_of_mem _ (inE_R w h)) (by decide) (List.mem_cons_of_mem _ mw_142) d_R_append_5,
  qq_iln X 1 rfl d_R_append_8,
  qq_cV X 3 rfl (c_P_put l) (fun hts => cwV 2 hts (evGV (mw_539) (mw_310) (mw_311) (mw_2) (mw_312)) rfl rfl rfl (by decide +kernel) ⟨Nat.le_of_ble_eq_true rfl, Nat.le_of_ble_eq_true rfl⟩) d_R_append_9,
  qq_aln X 0 rfl d_R_append_12,
  qq_dup X d_R_append_13,
  qq_gf X 4 2 rfl (fun w h => List.mem_cons_of_mem _ (inE_R w h)) (by decide) (List.mem_cons_of_mem _ mw_142) d_R_append_14,
  qq_ic X 1 (by decide) d_R_append_17,
  qq_iadd X d_R_append_18,
  qq_pf X 4 2 rfl (fun w h => List.mem_cons_of_mem _ (inE_R w h)) (by decide) tyX4 tyX4_ok nmX4 rfl (by decide +kernel) (List.mem_cons_of_mem _ mw_142) d_R_append_19,
  qq_rv Z d_R_append_22, trivial⟩
def pre_R_append : List Value → ev_M → ev_L → Prop := fun as σ τ => ∃ (v : Int32), as = [.ref 18, .int v]
def post_R_append : List Value → ev_M → ev_L → Unit → ev_M → ev_L → Prop := fun as σ τ r σ' τ' => match as with
  | [_, .int v] => σ' = sp_app σ v ∧ τ' = τ
  | _ => False
set_option maxHeartbeats 4000000 in
set_option maxRecDepth 100000 in
theorem c_R_append (l : Launch) : ev_C ev_n l y_R_append ws_R_append rm_R_append evLY evCl pre_R_append post_R_append := by
  refine ev_meth0 (by decide) rfl ev_rop_v ?_ I_R_append (ok_R_append l) 40 ?_
  · rintro _ σ τ ⟨v, rfl⟩
    exact Nat.le_of_ble_eq_true rfl
  · rintro _ σ τ ⟨v, rfl⟩
    refine ⟨⟨_, _, _, rfl, by decide⟩, ?_⟩
    rintro _ σ1 τ ⟨rfl, rfl⟩
    refine ⟨?_, rfl⟩
    show ev_u _ 18 2 (sp_put σ 21 (σ 18 2) v 18 2 + 1) = _
    rw [sp_put_18]; rfl
def y_R_appendJump : MethodName := ⟨RX4, "appendJump", "(I)V"⟩
def ws_R_appendJump : List Cond := .code y_R_appendJump prog_6_method_11_code 2 none :: evW
theorem d_R_appendJump_0 : decode prog_6_method_11_code 0 = .ok (.aload_n 0, 1) := by decide +kernel
theorem d_R_appendJump_1 : decode prog_6_method_11_code 1 = .ok (.bipush 69, 2) := by decide +kernel
theorem d_R_appendJump_3 : decode prog_6_method_11_code 3 = .ok (.invokevirtual 50, 3) := by decide +kernel
theorem d_R_appendJump_6 : decode prog_6_method_11_code 6 = .ok (.aload_n 0, 1) := by decide +kernel
theorem d_R_appendJump_7 : decode prog_6_method_11_code 7 = .ok (.iload_n 1, 1) := by decide +kernel
theorem d_R_appendJump_8 : decode prog_6_method_11_code 8 = .ok (.invokevirtual 50, 3) := by decide +kernel
theorem d_R_appendJump_11 : decode prog_6_method_11_code 11 = .ok (.return_, 1) := by decide +kernel
def I_R_appendJump (P : Unit → ev_M → ev_L → Prop) : List (Nat × ev_T) := [(0, tt_al 0 1),
  (1, tt_k 69 3),
  (3, tt_cV evLY 4 1 ev_n pre_R_append post_R_append 6),
  (6, tt_al 0 7),
  (7, tt_il 1 8),
  (8, tt_cV evLY 4 1 ev_n pre_R_append post_R_append 11),
  (11, tt_rv P)]
abbrev rm_R_appendJump : Room := { frames := 2, cells := 0, slots := 0, locals := 64 }
set_option maxRecDepth 20000 in
theorem ok_R_appendJump (l : Launch) (J : ev_K) (P : Unit → ev_M → ev_L → Prop) (X : ev_X l rm_R_appendJump evLY evCl ws_R_appendJump prog_6_method_11_code 2 y_R_appendJump.cls J) (Z : ev_Z J prog_6_method_11_code .return_ ev_n P) : ev_oks J (I_R_appendJump P) :=
  ⟨qq_aln X 0 rfl d_R_appendJump_0,
  qq_bp X 69 (by decide) d_R_appendJump_1,
  qq_cV X 4 rfl (c_R_append l) (fun hts => cwV 1 hts (evGV (mw_535) (mw_537) (mp_10) (mw_6) (mw_538)) rfl rfl rfl (by decide +kernel) ⟨Nat.le_of_ble_eq_true rfl, Nat.le_of_ble_eq_true rfl⟩) d_R_appendJump_3,
  qq_aln X 0 rfl d_R_appendJump_6,
  qq_iln X 1 rfl d_R_appendJump_7,
  qq_cV X 4 rfl (c_R_append l) (fun hts => cwV 1 hts (evGV (mw_535) (mw_537) (mp_10) (mw_6) (mw_538)) rfl rfl rfl (by decide +kernel) ⟨Nat.le_of_ble_eq_true rfl, Nat.le_of_ble_eq_true rfl⟩) d_R_appendJump_8,
  qq_rv Z d_R_appendJump_11, trivial⟩
def pre_R_appendJump : List Value → ev_M → ev_L → Prop := fun as σ τ => ∃ (v : Int32), as = [.ref 18, .int v]
def post_R_appendJump : List Value → ev_M → ev_L → Unit → ev_M → ev_L → Prop := fun as σ τ r σ' τ' => match as with
  | [_, .int v] => σ' = sp_app (sp_app σ 69) v ∧ τ' = τ
  | _ => False
set_option maxHeartbeats 4000000 in
set_option maxRecDepth 100000 in
theorem c_R_appendJump (l : Launch) : ev_C ev_n l y_R_appendJump ws_R_appendJump rm_R_appendJump evLY evCl pre_R_appendJump post_R_appendJump := by
  refine ev_meth0 (by decide) rfl ev_rop_v ?_ I_R_appendJump (ok_R_appendJump l) 40 ?_
  · rintro _ σ τ ⟨v, rfl⟩
    exact Nat.le_of_ble_eq_true rfl
  · rintro _ σ τ ⟨v, rfl⟩
    refine ⟨⟨_, rfl⟩, ?_⟩
    rintro _ _ _ ⟨rfl, rfl⟩
    refine ⟨⟨_, rfl⟩, ?_⟩
    rintro _ _ _ ⟨rfl, rfl⟩
    exact ⟨rfl, rfl⟩
end
section
/-! the machine's step, as a function: registers, cells, stack, output, counters, pc, height, shown, done -/
abbrev mst : Type := (Nat → Int32) × (Nat → Int32) × (Nat → Int32) × (Nat → Int32) × (Nat → Int64) × Int32 × Int32 × Int32 × Int32
def sp_br (t : Int32) : Int32 := if 0 ≤ t ∧ t < 256 then t else -1
def sp_look (f : Nat → Int32) (n m v : Int32) : Int32 := if m = 0 then -1 else if n + sp_fm v m < 256 then sp_at f (n + sp_fm v m) else -1
def ms_calc (kd op n : Int32) (x : mst) : mst := match x with
  | (r, c, s, o, t, pc, h, sh, dn) =>
    if kd = 4 then (upd r (sp_reg kd op).toNatClampNeg (r (sp_reg kd op).toNatClampNeg + 1), c, s, o, t, pc, h, sh, dn)
    else if kd = 8 then (upd r (sp_reg kd op).toNatClampNeg (r (sp_reg kd op).toNatClampNeg - 1), c, s, o, t, pc, h, sh, dn)
    else if kd = 16 then (upd r (sp_reg kd op).toNatClampNeg (r (sp_reg kd op).toNatClampNeg + r (op &&& 3).toNatClampNeg), c, s, o, t, pc, h, sh, dn)
    else if kd = 32 then (upd r (sp_reg kd op).toNatClampNeg (r (sp_reg kd op).toNatClampNeg - r (op &&& 3).toNatClampNeg), c, s, o, t, pc, h, sh, dn)
    else if kd = 48 then (upd r (sp_reg kd op).toNatClampNeg n.toInt8.toInt32, c, s, o, t, pc, h, sh, dn)
    else if kd = 52 then (upd r (sp_reg kd op).toNatClampNeg (c (n &&& 15).toNatClampNeg), c, s, o, t, pc, h, sh, dn)
    else if kd = 56 then (r, upd c (n &&& 15).toNatClampNeg (r (sp_reg kd op).toNatClampNeg), s, o, t, pc, h, sh, dn)
    else if kd = 76 then (r, c, s, o, vp_updL t (n &&& 63).toNatClampNeg (t (n &&& 63).toNatClampNeg + 1), pc, h, sh, dn)
    else (r, c, s, o, t, pc, h, sh, dn)
def ms_perf (f : Nat → Int32) (tr : Int32 → Int32) (kd op n m bh : Int32) (x : mst) : Int32 × mst := match x with
  | (r, c, s, o, t, pc, h, sh, dn) =>
    if kd = 2 then (tr pc, (r, c, s, o, t, pc, h, sh, dn))
    else if kd = 3 then (if 0 < h then (s (h - 1).toNatClampNeg, (r, c, s, o, t, pc, h - 1, sh, dn)) else (-1, (r, c, s, o, t, pc, h, sh, dn)))
    else if kd = 12 then (if sh < 40 then (bh, (r, c, s, upd o sh.toNatClampNeg (r (sp_reg kd op).toNatClampNeg), t, pc, h, sh + 1, dn)) else (-1, (r, c, s, o, t, pc, h, sh, dn)))
    else if kd = 60 then (if r (sp_reg kd op).toNatClampNeg = 0 then sp_br (bh + n.toInt8.toInt32) else bh, (r, c, s, o, t, pc, h, sh, dn))
    else if kd = 64 then (if r (sp_reg kd op).toNatClampNeg < 0 then sp_br (bh + n.toInt8.toInt32) else bh, (r, c, s, o, t, pc, h, sh, dn))
    else if kd = 68 then (sp_br (bh + n.toInt8.toInt32), (r, c, s, o, t, pc, h, sh, dn))
    else if kd = 69 then (n, (r, c, s, o, t, pc, h, sh, dn))
    else if kd = 70 then (if h < 8 then (n, (r, c, upd s h.toNatClampNeg bh, o, t, pc, h + 1, sh, dn)) else (-1, (r, c, s, o, t, pc, h, sh, dn)))
    else if kd = 72 then (sp_look f n m (r (sp_reg kd op).toNatClampNeg), (r, c, s, o, t, pc, h, sh, dn))
    else if kd = 77 then (if h < 8 then (n, (r, c, upd s h.toNatClampNeg m, o, t, pc, h + 1, sh, dn)) else (-1, (r, c, s, o, t, pc, h, sh, dn)))
    else (bh, ms_calc kd op n (r, c, s, o, t, pc, h, sh, dn))
def ms_go (x : mst) (nx : Int32) : mst := match x with
  | (r, c, s, o, t, _, h, sh, dn) => (r, c, s, o, t, nx, h, sh, dn + 1)
def ms_pc (x : mst) : Int32 := x.2.2.2.2.2.1
def ms_1 (x : mst) : mst := match x with
  | (r, c, s, o, t, pc, h, sh, dn) => (r, c, s, o, t, pc, h, sh, dn + 1)
/-- one step: 0 goes on, 1 halted, 2 faulted -/
def ms_step (f : Nat → Int32) (tr : Int32 → Int32) (x : mst) : Int32 × mst :=
  if ¬ ms_pc x < 0 ∧ ms_pc x < 256 ∧ ¬ sp_kind (sp_at f (ms_pc x)) = -1 ∧ ms_pc x + sp_len (sp_kind (sp_at f (ms_pc x))) ≤ 256 then
    (if sp_kind (sp_at f (ms_pc x)) = 0 then (1, ms_1 x) else
      (if (ms_perf f tr (sp_kind (sp_at f (ms_pc x))) (sp_at f (ms_pc x)) (sp_at f (ms_pc x + 1)) (sp_at f (ms_pc x + 2)) (ms_pc x + sp_len (sp_kind (sp_at f (ms_pc x)))) x).1 = -1
        then (2, (ms_perf f tr (sp_kind (sp_at f (ms_pc x))) (sp_at f (ms_pc x)) (sp_at f (ms_pc x + 1)) (sp_at f (ms_pc x + 2)) (ms_pc x + sp_len (sp_kind (sp_at f (ms_pc x)))) x).2)
        else (0, ms_go (ms_perf f tr (sp_kind (sp_at f (ms_pc x))) (sp_at f (ms_pc x)) (sp_at f (ms_pc x + 1)) (sp_at f (ms_pc x + 2)) (ms_pc x + sp_len (sp_kind (sp_at f (ms_pc x)))) x).2 (ms_perf f tr (sp_kind (sp_at f (ms_pc x))) (sp_at f (ms_pc x)) (sp_at f (ms_pc x + 1)) (sp_at f (ms_pc x + 2)) (ms_pc x + sp_len (sp_kind (sp_at f (ms_pc x)))) x).1)))
  else (2, x)
def mvC (σ : ev_M) (τ : ev_L) : mst := (σ 25, σ 26, σ 27, σ 28, τ 29, σ 23 6, σ 23 7, σ 23 8, σ 23 9)
/-- nothing but the machine's cells has changed -/
def frC (σ σ' : ev_M) (τ τ' : ev_L) : Prop := (∀ k, k < 23 ∨ 29 < k → σ' k = σ k) ∧ ∀ k, ¬ k = 29 → τ' k = τ k
theorem frC_rf (σ : ev_M) (τ : ev_L) : frC σ σ τ τ := ⟨fun _ _ => rfl, fun _ _ => rfl⟩
theorem frC_tr {σ σ1 σ2 : ev_M} {τ τ1 τ2 : ev_L} (h1 : frC σ σ1 τ τ1) (h2 : frC σ1 σ2 τ1 τ2) : frC σ σ2 τ τ2 := ⟨fun k hk => (h2.1 k hk).trans (h1.1 k hk), fun k hk => (h2.2 k hk).trans (h1.2 k hk)⟩
theorem frC_u {σ : ev_M} {τ : ev_L} (k j : Nat) (x : Int32) (hk : 23 ≤ k ∧ k ≤ 29) : frC σ (ev_u σ k j x) τ τ := ⟨fun q hq => if_neg (by omega), fun _ _ => rfl⟩
theorem frC_w {σ : ev_M} {τ : ev_L} (j : Nat) (x : Int64) : frC σ σ τ (ev_w τ 29 j x) := ⟨fun _ _ => rfl, fun q hq => if_neg hq⟩
theorem sp_reg_in (k x : Int32) : vp_in (sp_reg k x) 4 := by
  unfold sp_reg
  split
  · exact pk_andIn _ 2 rfl (by decide)
  · exact pk_andIn _ 2 rfl (by decide)
def y_M_trap : MethodName := ⟨RX2, "trap", "(LBlockCounter$Program;)I"⟩
def ws_M_trap : List Cond := .code y_M_trap prog_4_method_17_code 3 (some .int) :: evW
theorem d_M_trap_0 : decode prog_4_method_17_code 0 = .ok (.aload_n 1, 1) := by decide +kernel
theorem d_M_trap_1 : decode prog_4_method_17_code 1 = .ok (.aload_n 0, 1) := by decide +kernel
theorem d_M_trap_2 : decode prog_4_method_17_code 2 = .ok (.getfield 42, 3) := by decide +kernel
theorem d_M_trap_5 : decode prog_4_method_17_code 5 = .ok (.invokevirtual 126, 3) := by decide +kernel
theorem d_M_trap_8 : decode prog_4_method_17_code 8 = .ok (.istore_n 2, 1) := by decide +kernel
theorem d_M_trap_9 : decode prog_4_method_17_code 9 = .ok (.iload_n 2, 1) := by decide +kernel
theorem d_M_trap_10 : decode prog_4_method_17_code 10 = .ok (.iconst (-1), 1) := by decide +kernel
theorem d_M_trap_11 : decode prog_4_method_17_code 11 = .ok (.if_icmp .ne 7, 3) := by decide +kernel
theorem d_M_trap_14 : decode prog_4_method_17_code 14 = .ok (.iconst (-1), 1) := by decide +kernel
theorem d_M_trap_15 : decode prog_4_method_17_code 15 = .ok (.goto 4, 3) := by decide +kernel
theorem d_M_trap_18 : decode prog_4_method_17_code 18 = .ok (.iload_n 2, 1) := by decide +kernel
theorem d_M_trap_19 : decode prog_4_method_17_code 19 = .ok (.ireturn, 1) := by decide +kernel
def I_M_trap (P : Int32 → ev_M → ev_L → Prop) : List (Nat × ev_T) := [(0, tt_al 1 1),
  (1, tt_al 0 2),
  (2, tt_gf evLY 2 6 5),
  (5, tt_cV evLY 3 1 ev_i pre_P_trapAt post_P_trapAt 8),
  (8, tt_is 2 9),
  (9, tt_il 2 10),
  (10, tt_k (-1) 11),
  (11, tt_icne 18 14),
  (14, tt_k (-1) 15),
  (15, tt_go 19),
  (18, tt_il 2 19),
  (19, tt_ri P)]
abbrev rm_M_trap : Room := { frames := 1, cells := 0, slots := 0, locals := 32 }
set_option maxRecDepth 20000 in
theorem ok_M_trap (l : Launch) (J : ev_K) (P : Int32 → ev_M → ev_L → Prop) (X : ev_X l rm_M_trap evLY evCl ws_M_trap prog_4_method_17_code 3 y_M_trap.cls J) (Z : ev_Z J prog_4_method_17_code .ireturn ev_i P) : ev_oks J (I_M_trap P) :=
  ⟨qq_aln X 1 rfl d_M_trap_0,
  qq_aln X 0 rfl d_M_trap_1,
  qq_gf X 2 6 rfl (fun w h => List.mem_cons_of_mem _ (inE_M w h)) (by decide) (List.mem_cons_of_mem _ mw_167) d_M_trap_2,
  qq_cV X 3 rfl (c_P_trapAt l) (fun hts => cwV 1 hts (evGV (mw_637) (mw_638) (mw_639) (mw_2) (mw_640)) rfl rfl rfl (by decide +kernel) ⟨Nat.le_of_ble_eq_true rfl, Nat.le_of_ble_eq_true rfl⟩) d_M_trap_5,
  qq_isn X 2 rfl (by decide) d_M_trap_8,
  qq_iln X 2 rfl d_M_trap_9,
  qq_ic X (-1) (by decide) d_M_trap_10,
  qq_icne X 18 (by decide) d_M_trap_11,
  qq_ic X (-1) (by decide) d_M_trap_14,
  qq_go X 19 (by decide) d_M_trap_15,
  qq_iln X 2 rfl d_M_trap_18,
  qq_ri Z d_M_trap_19, trivial⟩
def pre_M_trap : List Value → ev_M → ev_L → Prop := fun as σ τ => ∃ q : Nat, as = [.ref 23, .ref q] ∧ (q = 1 ∨ q = 20)
def post_M_trap : List Value → ev_M → ev_L → Int32 → ev_M → ev_L → Prop := fun as σ τ r σ' τ' => match as with
  | [_, .ref q] => r = sp_trap (σ (q + 2)) (σ 23 6) ∧ σ' = σ ∧ τ' = τ
  | _ => False
set_option maxHeartbeats 4000000 in
set_option maxRecDepth 100000 in
theorem c_M_trap (l : Launch) : ev_C ev_i l y_M_trap ws_M_trap rm_M_trap evLY evCl pre_M_trap post_M_trap := by
  refine ev_meth0 (by decide) rfl ev_rop_i ?_ I_M_trap (ok_M_trap l) 40 ?_
  · rintro _ σ τ ⟨q, rfl, hq⟩
    exact Nat.le_of_ble_eq_true rfl
  · rintro _ σ τ ⟨q, rfl, rfl | rfl⟩
    all_goals
      refine ⟨⟨_, _, rfl, by decide⟩, ?_⟩
      rintro _ σ τ ⟨rfl, rfl, rfl⟩
      refine br_n (fun h => ?_) (fun h => ?_)
      · exact ⟨rfl, rfl, rfl⟩
      · exact ⟨h.symm, rfl, rfl⟩
def y_M_branch : MethodName := ⟨RX2, "branch", "()I"⟩
def ws_M_branch : List Cond := .code y_M_branch prog_4_method_18_code 2 (some .int) :: evW
theorem d_M_branch_0 : decode prog_4_method_18_code 0 = .ok (.aload_n 0, 1) := by decide +kernel
theorem d_M_branch_1 : decode prog_4_method_18_code 1 = .ok (.getfield 12, 3) := by decide +kernel
theorem d_M_branch_4 : decode prog_4_method_18_code 4 = .ok (.invokevirtual 131, 3) := by decide +kernel
theorem d_M_branch_7 : decode prog_4_method_18_code 7 = .ok (.istore_n 1, 1) := by decide +kernel
theorem d_M_branch_8 : decode prog_4_method_18_code 8 = .ok (.iload_n 1, 1) := by decide +kernel
theorem d_M_branch_9 : decode prog_4_method_18_code 9 = .ok (.ifCond .lt 14, 3) := by decide +kernel
theorem d_M_branch_12 : decode prog_4_method_18_code 12 = .ok (.iload_n 1, 1) := by decide +kernel
theorem d_M_branch_13 : decode prog_4_method_18_code 13 = .ok (.sipush 256, 3) := by decide +kernel
theorem d_M_branch_16 : decode prog_4_method_18_code 16 = .ok (.if_icmp .ge 7, 3) := by decide +kernel
theorem d_M_branch_19 : decode prog_4_method_18_code 19 = .ok (.iload_n 1, 1) := by decide +kernel
theorem d_M_branch_20 : decode prog_4_method_18_code 20 = .ok (.goto 4, 3) := by decide +kernel
theorem d_M_branch_23 : decode prog_4_method_18_code 23 = .ok (.iconst (-1), 1) := by decide +kernel
theorem d_M_branch_24 : decode prog_4_method_18_code 24 = .ok (.ireturn, 1) := by decide +kernel
def I_M_branch (P : Int32 → ev_M → ev_L → Prop) : List (Nat × ev_T) := [(0, tt_al 0 1),
  (1, tt_gf evLY 2 0 4),
  (4, tt_cV evLY 1 0 ev_i pre_I_branchTarget post_I_branchTarget 7),
  (7, tt_is 1 8),
  (8, tt_il 1 9),
  (9, tt_iflt 23 12),
  (12, tt_il 1 13),
  (13, tt_k 256 16),
  (16, tt_icge 23 19),
  (19, tt_il 1 20),
  (20, tt_go 24),
  (23, tt_k (-1) 24),
  (24, tt_ri P)]
abbrev rm_M_branch : Room := { frames := 3, cells := 0, slots := 0, locals := 96 }
set_option maxRecDepth 20000 in
theorem ok_M_branch (l : Launch) (J : ev_K) (P : Int32 → ev_M → ev_L → Prop) (X : ev_X l rm_M_branch evLY evCl ws_M_branch prog_4_method_18_code 2 y_M_branch.cls J) (Z : ev_Z J prog_4_method_18_code .ireturn ev_i P) : ev_oks J (I_M_branch P) :=
  ⟨qq_aln X 0 rfl d_M_branch_0,
  qq_gf X 2 0 rfl (fun w h => List.mem_cons_of_mem _ (inE_M w h)) (by decide) (List.mem_cons_of_mem _ mw_161) d_M_branch_1,
  qq_cV X 1 rfl (c_I_branchTarget l) (fun hts => cwV 0 hts (evGV (mw_649) (mw_443) (mw_444) (mw_5) (mw_445)) rfl rfl rfl (by decide +kernel) ⟨Nat.le_of_ble_eq_true rfl, Nat.le_of_ble_eq_true rfl⟩) d_M_branch_4,
  qq_isn X 1 rfl (by decide) d_M_branch_7,
  qq_iln X 1 rfl d_M_branch_8,
  qq_iflt X 23 (by decide) d_M_branch_9,
  qq_iln X 1 rfl d_M_branch_12,
  qq_sp X 256 (by decide) d_M_branch_13,
  qq_icge X 23 (by decide) d_M_branch_16,
  qq_iln X 1 rfl d_M_branch_19,
  qq_go X 24 (by decide) d_M_branch_20,
  qq_ic X (-1) (by decide) d_M_branch_23,
  qq_ri Z d_M_branch_24, trivial⟩
def pre_M_branch : List Value → ev_M → ev_L → Prop := fun as σ τ => as = [.ref 23]
def post_M_branch : List Value → ev_M → ev_L → Int32 → ev_M → ev_L → Prop := fun as σ τ r σ' τ' => r = sp_br (σ 24 0 + sp_len (σ 24 2) + (σ 24 3).toInt8.toInt32) ∧ σ' = σ ∧ τ' = τ
set_option maxHeartbeats 4000000 in
set_option maxRecDepth 100000 in
theorem c_M_branch (l : Launch) : ev_C ev_i l y_M_branch ws_M_branch rm_M_branch evLY evCl pre_M_branch post_M_branch := by
  refine ev_meth0 (by decide) rfl ev_rop_i ?_ I_M_branch (ok_M_branch l) 40 ?_
  · rintro _ σ τ rfl
    exact Nat.le_of_ble_eq_true rfl
  · rintro _ σ τ rfl
    refine ⟨⟨_, rfl, by decide⟩, ?_⟩
    rintro _ σ τ ⟨rfl, rfl, rfl⟩
    refine br_c (fun h => ?_) (fun h => br_c (fun h2 => ?_) (fun h2 => ?_))
    · exact ⟨(if_neg fun q => absurd (Int32.not_lt.mpr q.1) (fun w => w h)).symm, rfl, rfl⟩
    · exact ⟨(if_neg fun q => absurd (Int32.not_le.mpr q.2) (fun w => w h2)).symm, rfl, rfl⟩
    · exact ⟨(if_pos ⟨Int32.not_lt.mp h, Int32.not_le.mp h2⟩).symm, rfl, rfl⟩
def y_M_lookUp : MethodName := ⟨RX2, "lookUp", "(LBlockCounter$Program;I)I"⟩
def ws_M_lookUp : List Cond := .code y_M_lookUp prog_4_method_19_code 4 (some .int) :: evW
theorem d_M_lookUp_0 : decode prog_4_method_19_code 0 = .ok (.aload_n 0, 1) := by decide +kernel
theorem d_M_lookUp_1 : decode prog_4_method_19_code 1 = .ok (.getfield 12, 3) := by decide +kernel
theorem d_M_lookUp_4 : decode prog_4_method_19_code 4 = .ok (.getfield 110, 3) := by decide +kernel
theorem d_M_lookUp_7 : decode prog_4_method_19_code 7 = .ok (.ifCond .ne 5, 3) := by decide +kernel
theorem d_M_lookUp_10 : decode prog_4_method_19_code 10 = .ok (.iconst (-1), 1) := by decide +kernel
theorem d_M_lookUp_11 : decode prog_4_method_19_code 11 = .ok (.ireturn, 1) := by decide +kernel
theorem d_M_lookUp_12 : decode prog_4_method_19_code 12 = .ok (.aload_n 0, 1) := by decide +kernel
theorem d_M_lookUp_13 : decode prog_4_method_19_code 13 = .ok (.getfield 12, 3) := by decide +kernel
theorem d_M_lookUp_16 : decode prog_4_method_19_code 16 = .ok (.getfield 103, 3) := by decide +kernel
theorem d_M_lookUp_19 : decode prog_4_method_19_code 19 = .ok (.iload_n 2, 1) := by decide +kernel
theorem d_M_lookUp_20 : decode prog_4_method_19_code 20 = .ok (.aload_n 0, 1) := by decide +kernel
theorem d_M_lookUp_21 : decode prog_4_method_19_code 21 = .ok (.getfield 12, 3) := by decide +kernel
theorem d_M_lookUp_24 : decode prog_4_method_19_code 24 = .ok (.getfield 110, 3) := by decide +kernel
theorem d_M_lookUp_27 : decode prog_4_method_19_code 27 = .ok (.invokestatic 134, 3) := by decide +kernel
theorem d_M_lookUp_30 : decode prog_4_method_19_code 30 = .ok (.iadd, 1) := by decide +kernel
theorem d_M_lookUp_31 : decode prog_4_method_19_code 31 = .ok (.istore_n 3, 1) := by decide +kernel
theorem d_M_lookUp_32 : decode prog_4_method_19_code 32 = .ok (.iload_n 3, 1) := by decide +kernel
theorem d_M_lookUp_33 : decode prog_4_method_19_code 33 = .ok (.sipush 256, 3) := by decide +kernel
theorem d_M_lookUp_36 : decode prog_4_method_19_code 36 = .ok (.if_icmp .ge 11, 3) := by decide +kernel
theorem d_M_lookUp_39 : decode prog_4_method_19_code 39 = .ok (.aload_n 1, 1) := by decide +kernel
theorem d_M_lookUp_40 : decode prog_4_method_19_code 40 = .ok (.iload_n 3, 1) := by decide +kernel
theorem d_M_lookUp_41 : decode prog_4_method_19_code 41 = .ok (.invokevirtual 140, 3) := by decide +kernel
theorem d_M_lookUp_44 : decode prog_4_method_19_code 44 = .ok (.goto 4, 3) := by decide +kernel
theorem d_M_lookUp_47 : decode prog_4_method_19_code 47 = .ok (.iconst (-1), 1) := by decide +kernel
theorem d_M_lookUp_48 : decode prog_4_method_19_code 48 = .ok (.ireturn, 1) := by decide +kernel
def I_M_lookUp (P : Int32 → ev_M → ev_L → Prop) : List (Nat × ev_T) := [(0, tt_al 0 1),
  (1, tt_gf evLY 2 0 4),
  (4, tt_gf evLY 1 4 7),
  (7, tt_ifne 12 10),
  (10, tt_k (-1) 11),
  (11, tt_ri P),
  (12, tt_al 0 13),
  (13, tt_gf evLY 2 0 16),
  (16, tt_gf evLY 1 3 19),
  (19, tt_il 2 20),
  (20, tt_al 0 21),
  (21, tt_gf evLY 2 0 24),
  (24, tt_gf evLY 1 4 27),
  (27, tt_cS 2 ev_i pre_JM_floorMod post_JM_floorMod 30),
  (30, tt_iadd 31),
  (31, tt_is 3 32),
  (32, tt_il 3 33),
  (33, tt_k 256 36),
  (36, tt_icge 47 39),
  (39, tt_al 1 40),
  (40, tt_il 3 41),
  (41, tt_cV evLY 3 1 ev_i pre_P_at post_P_at 44),
  (44, tt_go 48),
  (47, tt_k (-1) 48),
  (48, tt_ri P)]
abbrev rm_M_lookUp : Room := { frames := 1, cells := 0, slots := 0, locals := 32 }
set_option maxRecDepth 20000 in
theorem ok_M_lookUp (l : Launch) (J : ev_K) (P : Int32 → ev_M → ev_L → Prop) (X : ev_X l rm_M_lookUp evLY evCl ws_M_lookUp prog_4_method_19_code 4 y_M_lookUp.cls J) (Z : ev_Z J prog_4_method_19_code .ireturn ev_i P) : ev_oks J (I_M_lookUp P) :=
  ⟨qq_aln X 0 rfl d_M_lookUp_0,
  qq_gf X 2 0 rfl (fun w h => List.mem_cons_of_mem _ (inE_M w h)) (by decide) (List.mem_cons_of_mem _ mw_161) d_M_lookUp_1,
  qq_gf X 1 4 rfl (fun w h => List.mem_cons_of_mem _ (inE_I w h)) (by decide) (List.mem_cons_of_mem _ mw_82) d_M_lookUp_4,
  qq_ifne X 12 (by decide) d_M_lookUp_7,
  qq_ic X (-1) (by decide) d_M_lookUp_10,
  qq_ri Z d_M_lookUp_11,
  qq_aln X 0 rfl d_M_lookUp_12,
  qq_gf X 2 0 rfl (fun w h => List.mem_cons_of_mem _ (inE_M w h)) (by decide) (List.mem_cons_of_mem _ mw_161) d_M_lookUp_13,
  qq_gf X 1 3 rfl (fun w h => List.mem_cons_of_mem _ (inE_I w h)) (by decide) (List.mem_cons_of_mem _ mw_79) d_M_lookUp_16,
  qq_iln X 2 rfl d_M_lookUp_19,
  qq_aln X 0 rfl d_M_lookUp_20,
  qq_gf X 2 0 rfl (fun w h => List.mem_cons_of_mem _ (inE_M w h)) (by decide) (List.mem_cons_of_mem _ mw_161) d_M_lookUp_21,
  qq_gf X 1 4 rfl (fun w h => List.mem_cons_of_mem _ (inE_I w h)) (by decide) (List.mem_cons_of_mem _ mw_82) d_M_lookUp_24,
  qq_cS X (c_JM_floorMod l) (fun hts => va_cwS 2 hts (evGS (mw_659) (mw_660) (mw_18) (mw_661)) rfl rfl rfl (by decide +kernel) ⟨Nat.le_of_ble_eq_true rfl, Nat.le_of_ble_eq_true rfl⟩) d_M_lookUp_27,
  qq_iadd X d_M_lookUp_30,
  qq_isn X 3 rfl (by decide) d_M_lookUp_31,
  qq_iln X 3 rfl d_M_lookUp_32,
  qq_sp X 256 (by decide) d_M_lookUp_33,
  qq_icge X 47 (by decide) d_M_lookUp_36,
  qq_aln X 1 rfl d_M_lookUp_39,
  qq_iln X 3 rfl d_M_lookUp_40,
  qq_cV X 3 rfl (c_P_at l) (fun hts => cwV 1 hts (evGV (mw_662) (mw_423) (mw_424) (mw_2) (mw_425)) rfl rfl rfl (by decide +kernel) ⟨Nat.le_of_ble_eq_true rfl, Nat.le_of_ble_eq_true rfl⟩) d_M_lookUp_41,
  qq_go X 48 (by decide) d_M_lookUp_44,
  qq_ic X (-1) (by decide) d_M_lookUp_47,
  qq_ri Z d_M_lookUp_48, trivial⟩
def pre_M_lookUp : List Value → ev_M → ev_L → Prop := fun as σ τ => ∃ (q : Nat) (v : Int32), as = [.ref 23, .ref q, .int v] ∧ (q = 1 ∨ q = 20)
def post_M_lookUp : List Value → ev_M → ev_L → Int32 → ev_M → ev_L → Prop := fun as σ τ r σ' τ' => match as with
  | [_, .ref q, .int v] => r = sp_look (σ (q + 1)) (σ 24 3) (σ 24 4) v ∧ σ' = σ ∧ τ' = τ
  | _ => False
set_option maxHeartbeats 4000000 in
set_option maxRecDepth 100000 in
theorem c_M_lookUp (l : Launch) : ev_C ev_i l y_M_lookUp ws_M_lookUp rm_M_lookUp evLY evCl pre_M_lookUp post_M_lookUp := by
  refine ev_meth0 (by decide) rfl ev_rop_i ?_ I_M_lookUp (ok_M_lookUp l) 60 ?_
  · rintro _ σ τ ⟨q, v, rfl, hq⟩
    exact Nat.le_of_ble_eq_true rfl
  · rintro _ σ τ ⟨q, v, rfl, rfl | rfl⟩
    all_goals
      refine br_n (fun h => ?_) (fun h => ?_)
      · refine ⟨⟨_, _, rfl, h⟩, ?_⟩
        rintro _ σ τ ⟨rfl, rfl, rfl⟩
        refine br_c (fun h2 => ?_) (fun h2 => ?_)
        · refine ⟨?_, rfl, rfl⟩
          unfold sp_look
          rw [if_neg h, if_neg (Int32.not_lt.mpr h2)]
        · refine ⟨⟨_, _, rfl, by decide⟩, ?_⟩
          rintro _ σ τ ⟨rfl, rfl, rfl⟩
          refine ⟨?_, rfl, rfl⟩
          unfold sp_look
          rw [if_neg h, if_pos (Int32.not_le.mp h2)]
      · exact ⟨(if_pos h).symm, rfl, rfl⟩
def y_M_calculate : MethodName := ⟨RX2, "calculate", "()V"⟩
def ws_M_calculate : List Cond := .code y_M_calculate prog_4_method_15_code 2 none :: evW
theorem d_M_calculate_0 : decode prog_4_method_15_code 0 = .ok (.aload_n 0, 1) := by decide +kernel
theorem d_M_calculate_1 : decode prog_4_method_15_code 1 = .ok (.getfield 12, 3) := by decide +kernel
theorem d_M_calculate_4 : decode prog_4_method_15_code 4 = .ok (.invokevirtual 87, 3) := by decide +kernel
theorem d_M_calculate_7 : decode prog_4_method_15_code 7 = .ok (.istore_n 1, 1) := by decide +kernel
theorem d_M_calculate_8 : decode prog_4_method_15_code 8 = .ok (.aload_n 0, 1) := by decide +kernel
theorem d_M_calculate_9 : decode prog_4_method_15_code 9 = .ok (.getfield 12, 3) := by decide +kernel
theorem d_M_calculate_12 : decode prog_4_method_15_code 12 = .ok (.getfield 81, 3) := by decide +kernel
theorem d_M_calculate_15 : decode prog_4_method_15_code 15 = .ok (.lookupswitch 234 #[(1, 234), (4, 81), (8, 94), (16, 107), (32, 131), (48, 155), (52, 172), (56, 196), (76, 220)], 81) := by decide +kernel
theorem d_M_calculate_96 : decode prog_4_method_15_code 96 = .ok (.aload_n 0, 1) := by decide +kernel
theorem d_M_calculate_97 : decode prog_4_method_15_code 97 = .ok (.getfield 18, 3) := by decide +kernel
theorem d_M_calculate_100 : decode prog_4_method_15_code 100 = .ok (.iload_n 1, 1) := by decide +kernel
theorem d_M_calculate_101 : decode prog_4_method_15_code 101 = .ok (.dup2, 1) := by decide +kernel
theorem d_M_calculate_102 : decode prog_4_method_15_code 102 = .ok (.iaload, 1) := by decide +kernel
theorem d_M_calculate_103 : decode prog_4_method_15_code 103 = .ok (.iconst 1, 1) := by decide +kernel
theorem d_M_calculate_104 : decode prog_4_method_15_code 104 = .ok (.iadd, 1) := by decide +kernel
theorem d_M_calculate_105 : decode prog_4_method_15_code 105 = .ok (.iastore, 1) := by decide +kernel
theorem d_M_calculate_106 : decode prog_4_method_15_code 106 = .ok (.goto 143, 3) := by decide +kernel
theorem d_M_calculate_109 : decode prog_4_method_15_code 109 = .ok (.aload_n 0, 1) := by decide +kernel
theorem d_M_calculate_110 : decode prog_4_method_15_code 110 = .ok (.getfield 18, 3) := by decide +kernel
theorem d_M_calculate_113 : decode prog_4_method_15_code 113 = .ok (.iload_n 1, 1) := by decide +kernel
theorem d_M_calculate_114 : decode prog_4_method_15_code 114 = .ok (.dup2, 1) := by decide +kernel
theorem d_M_calculate_115 : decode prog_4_method_15_code 115 = .ok (.iaload, 1) := by decide +kernel
theorem d_M_calculate_116 : decode prog_4_method_15_code 116 = .ok (.iconst 1, 1) := by decide +kernel
theorem d_M_calculate_117 : decode prog_4_method_15_code 117 = .ok (.isub, 1) := by decide +kernel
theorem d_M_calculate_118 : decode prog_4_method_15_code 118 = .ok (.iastore, 1) := by decide +kernel
theorem d_M_calculate_119 : decode prog_4_method_15_code 119 = .ok (.goto 130, 3) := by decide +kernel
theorem d_M_calculate_122 : decode prog_4_method_15_code 122 = .ok (.aload_n 0, 1) := by decide +kernel
theorem d_M_calculate_123 : decode prog_4_method_15_code 123 = .ok (.getfield 18, 3) := by decide +kernel
theorem d_M_calculate_126 : decode prog_4_method_15_code 126 = .ok (.iload_n 1, 1) := by decide +kernel
theorem d_M_calculate_127 : decode prog_4_method_15_code 127 = .ok (.dup2, 1) := by decide +kernel
theorem d_M_calculate_128 : decode prog_4_method_15_code 128 = .ok (.iaload, 1) := by decide +kernel
theorem d_M_calculate_129 : decode prog_4_method_15_code 129 = .ok (.aload_n 0, 1) := by decide +kernel
theorem d_M_calculate_130 : decode prog_4_method_15_code 130 = .ok (.getfield 18, 3) := by decide +kernel
theorem d_M_calculate_133 : decode prog_4_method_15_code 133 = .ok (.aload_n 0, 1) := by decide +kernel
theorem d_M_calculate_134 : decode prog_4_method_15_code 134 = .ok (.getfield 12, 3) := by decide +kernel
theorem d_M_calculate_137 : decode prog_4_method_15_code 137 = .ok (.invokevirtual 123, 3) := by decide +kernel
theorem d_M_calculate_140 : decode prog_4_method_15_code 140 = .ok (.iaload, 1) := by decide +kernel
theorem d_M_calculate_141 : decode prog_4_method_15_code 141 = .ok (.iadd, 1) := by decide +kernel
theorem d_M_calculate_142 : decode prog_4_method_15_code 142 = .ok (.iastore, 1) := by decide +kernel
theorem d_M_calculate_143 : decode prog_4_method_15_code 143 = .ok (.goto 106, 3) := by decide +kernel
theorem d_M_calculate_146 : decode prog_4_method_15_code 146 = .ok (.aload_n 0, 1) := by decide +kernel
theorem d_M_calculate_147 : decode prog_4_method_15_code 147 = .ok (.getfield 18, 3) := by decide +kernel
theorem d_M_calculate_150 : decode prog_4_method_15_code 150 = .ok (.iload_n 1, 1) := by decide +kernel
theorem d_M_calculate_151 : decode prog_4_method_15_code 151 = .ok (.dup2, 1) := by decide +kernel
theorem d_M_calculate_152 : decode prog_4_method_15_code 152 = .ok (.iaload, 1) := by decide +kernel
theorem d_M_calculate_153 : decode prog_4_method_15_code 153 = .ok (.aload_n 0, 1) := by decide +kernel
theorem d_M_calculate_154 : decode prog_4_method_15_code 154 = .ok (.getfield 18, 3) := by decide +kernel
theorem d_M_calculate_157 : decode prog_4_method_15_code 157 = .ok (.aload_n 0, 1) := by decide +kernel
theorem d_M_calculate_158 : decode prog_4_method_15_code 158 = .ok (.getfield 12, 3) := by decide +kernel
theorem d_M_calculate_161 : decode prog_4_method_15_code 161 = .ok (.invokevirtual 123, 3) := by decide +kernel
theorem d_M_calculate_164 : decode prog_4_method_15_code 164 = .ok (.iaload, 1) := by decide +kernel
theorem d_M_calculate_165 : decode prog_4_method_15_code 165 = .ok (.isub, 1) := by decide +kernel
theorem d_M_calculate_166 : decode prog_4_method_15_code 166 = .ok (.iastore, 1) := by decide +kernel
theorem d_M_calculate_167 : decode prog_4_method_15_code 167 = .ok (.goto 82, 3) := by decide +kernel
theorem d_M_calculate_170 : decode prog_4_method_15_code 170 = .ok (.aload_n 0, 1) := by decide +kernel
theorem d_M_calculate_171 : decode prog_4_method_15_code 171 = .ok (.getfield 18, 3) := by decide +kernel
theorem d_M_calculate_174 : decode prog_4_method_15_code 174 = .ok (.iload_n 1, 1) := by decide +kernel
theorem d_M_calculate_175 : decode prog_4_method_15_code 175 = .ok (.aload_n 0, 1) := by decide +kernel
theorem d_M_calculate_176 : decode prog_4_method_15_code 176 = .ok (.getfield 12, 3) := by decide +kernel
theorem d_M_calculate_179 : decode prog_4_method_15_code 179 = .ok (.getfield 103, 3) := by decide +kernel
theorem d_M_calculate_182 : decode prog_4_method_15_code 182 = .ok (.i2b, 1) := by decide +kernel
theorem d_M_calculate_183 : decode prog_4_method_15_code 183 = .ok (.iastore, 1) := by decide +kernel
theorem d_M_calculate_184 : decode prog_4_method_15_code 184 = .ok (.goto 65, 3) := by decide +kernel
theorem d_M_calculate_187 : decode prog_4_method_15_code 187 = .ok (.aload_n 0, 1) := by decide +kernel
theorem d_M_calculate_188 : decode prog_4_method_15_code 188 = .ok (.getfield 18, 3) := by decide +kernel
theorem d_M_calculate_191 : decode prog_4_method_15_code 191 = .ok (.iload_n 1, 1) := by decide +kernel
theorem d_M_calculate_192 : decode prog_4_method_15_code 192 = .ok (.aload_n 0, 1) := by decide +kernel
theorem d_M_calculate_193 : decode prog_4_method_15_code 193 = .ok (.getfield 22, 3) := by decide +kernel
theorem d_M_calculate_196 : decode prog_4_method_15_code 196 = .ok (.aload_n 0, 1) := by decide +kernel
theorem d_M_calculate_197 : decode prog_4_method_15_code 197 = .ok (.getfield 12, 3) := by decide +kernel
theorem d_M_calculate_200 : decode prog_4_method_15_code 200 = .ok (.getfield 103, 3) := by decide +kernel
theorem d_M_calculate_203 : decode prog_4_method_15_code 203 = .ok (.bipush 15, 2) := by decide +kernel
theorem d_M_calculate_205 : decode prog_4_method_15_code 205 = .ok (.iand, 1) := by decide +kernel
theorem d_M_calculate_206 : decode prog_4_method_15_code 206 = .ok (.iaload, 1) := by decide +kernel
theorem d_M_calculate_207 : decode prog_4_method_15_code 207 = .ok (.iastore, 1) := by decide +kernel
theorem d_M_calculate_208 : decode prog_4_method_15_code 208 = .ok (.goto 41, 3) := by decide +kernel
theorem d_M_calculate_211 : decode prog_4_method_15_code 211 = .ok (.aload_n 0, 1) := by decide +kernel
theorem d_M_calculate_212 : decode prog_4_method_15_code 212 = .ok (.getfield 22, 3) := by decide +kernel
theorem d_M_calculate_215 : decode prog_4_method_15_code 215 = .ok (.aload_n 0, 1) := by decide +kernel
theorem d_M_calculate_216 : decode prog_4_method_15_code 216 = .ok (.getfield 12, 3) := by decide +kernel
theorem d_M_calculate_219 : decode prog_4_method_15_code 219 = .ok (.getfield 103, 3) := by decide +kernel
theorem d_M_calculate_222 : decode prog_4_method_15_code 222 = .ok (.bipush 15, 2) := by decide +kernel
theorem d_M_calculate_224 : decode prog_4_method_15_code 224 = .ok (.iand, 1) := by decide +kernel
theorem d_M_calculate_225 : decode prog_4_method_15_code 225 = .ok (.aload_n 0, 1) := by decide +kernel
theorem d_M_calculate_226 : decode prog_4_method_15_code 226 = .ok (.getfield 18, 3) := by decide +kernel
theorem d_M_calculate_229 : decode prog_4_method_15_code 229 = .ok (.iload_n 1, 1) := by decide +kernel
theorem d_M_calculate_230 : decode prog_4_method_15_code 230 = .ok (.iaload, 1) := by decide +kernel
theorem d_M_calculate_231 : decode prog_4_method_15_code 231 = .ok (.iastore, 1) := by decide +kernel
theorem d_M_calculate_232 : decode prog_4_method_15_code 232 = .ok (.goto 17, 3) := by decide +kernel
theorem d_M_calculate_235 : decode prog_4_method_15_code 235 = .ok (.aload_n 0, 1) := by decide +kernel
theorem d_M_calculate_236 : decode prog_4_method_15_code 236 = .ok (.aload_n 0, 1) := by decide +kernel
theorem d_M_calculate_237 : decode prog_4_method_15_code 237 = .ok (.getfield 12, 3) := by decide +kernel
theorem d_M_calculate_240 : decode prog_4_method_15_code 240 = .ok (.getfield 103, 3) := by decide +kernel
theorem d_M_calculate_243 : decode prog_4_method_15_code 243 = .ok (.invokevirtual 73, 3) := by decide +kernel
theorem d_M_calculate_246 : decode prog_4_method_15_code 246 = .ok (.goto 3, 3) := by decide +kernel
theorem d_M_calculate_249 : decode prog_4_method_15_code 249 = .ok (.return_, 1) := by decide +kernel
def I_M_calculate (P : Unit → ev_M → ev_L → Prop) : List (Nat × ev_T) := [(0, tt_al 0 1),
  (1, tt_gf evLY 2 0 4),
  (4, tt_cV evLY 1 0 ev_i pre_I_registerNumber post_I_registerNumber 7),
  (7, tt_is 1 8),
  (8, tt_al 0 9),
  (9, tt_gf evLY 2 0 12),
  (12, tt_gf evLY 1 2 15),
  (15, tt_sw [(1, 249), (4, 96), (8, 109), (16, 122), (32, 146), (48, 170), (52, 187), (56, 211), (76, 235)] 249),
  (96, tt_al 0 97),
  (97, tt_gf evLY 2 1 100),
  (100, tt_il 1 101),
  (101, tt_dup2 102),
  (102, tt_ia evLY 103),
  (103, tt_k 1 104),
  (104, tt_iadd 105),
  (105, tt_ias evLY 106),
  (106, tt_go 249),
  (109, tt_al 0 110),
  (110, tt_gf evLY 2 1 113),
  (113, tt_il 1 114),
  (114, tt_dup2 115),
  (115, tt_ia evLY 116),
  (116, tt_k 1 117),
  (117, tt_isub 118),
  (118, tt_ias evLY 119),
  (119, tt_go 249),
  (122, tt_al 0 123),
  (123, tt_gf evLY 2 1 126),
  (126, tt_il 1 127),
  (127, tt_dup2 128),
  (128, tt_ia evLY 129),
  (129, tt_al 0 130),
  (130, tt_gf evLY 2 1 133),
  (133, tt_al 0 134),
  (134, tt_gf evLY 2 0 137),
  (137, tt_cV evLY 1 0 ev_i pre_I_otherRegister post_I_otherRegister 140),
  (140, tt_ia evLY 141),
  (141, tt_iadd 142),
  (142, tt_ias evLY 143),
  (143, tt_go 249),
  (146, tt_al 0 147),
  (147, tt_gf evLY 2 1 150),
  (150, tt_il 1 151),
  (151, tt_dup2 152),
  (152, tt_ia evLY 153),
  (153, tt_al 0 154),
  (154, tt_gf evLY 2 1 157),
  (157, tt_al 0 158),
  (158, tt_gf evLY 2 0 161),
  (161, tt_cV evLY 1 0 ev_i pre_I_otherRegister post_I_otherRegister 164),
  (164, tt_ia evLY 165),
  (165, tt_isub 166),
  (166, tt_ias evLY 167),
  (167, tt_go 249),
  (170, tt_al 0 171),
  (171, tt_gf evLY 2 1 174),
  (174, tt_il 1 175),
  (175, tt_al 0 176),
  (176, tt_gf evLY 2 0 179),
  (179, tt_gf evLY 1 3 182),
  (182, tt_i2b 183),
  (183, tt_ias evLY 184),
  (184, tt_go 249),
  (187, tt_al 0 188),
  (188, tt_gf evLY 2 1 191),
  (191, tt_il 1 192),
  (192, tt_al 0 193),
  (193, tt_gf evLY 2 2 196),
  (196, tt_al 0 197),
  (197, tt_gf evLY 2 0 200),
  (200, tt_gf evLY 1 3 203),
  (203, tt_k 15 205),
  (205, tt_iand 206),
  (206, tt_ia evLY 207),
  (207, tt_ias evLY 208),
  (208, tt_go 249),
  (211, tt_al 0 212),
  (212, tt_gf evLY 2 2 215),
  (215, tt_al 0 216),
  (216, tt_gf evLY 2 0 219),
  (219, tt_gf evLY 1 3 222),
  (222, tt_k 15 224),
  (224, tt_iand 225),
  (225, tt_al 0 226),
  (226, tt_gf evLY 2 1 229),
  (229, tt_il 1 230),
  (230, tt_ia evLY 231),
  (231, tt_ias evLY 232),
  (232, tt_go 249),
  (235, tt_al 0 236),
  (236, tt_al 0 237),
  (237, tt_gf evLY 2 0 240),
  (240, tt_gf evLY 1 3 243),
  (243, tt_cV evLY 2 1 ev_n pre_M_grow post_M_grow 246),
  (246, tt_go 249),
  (249, tt_rv P)]
abbrev rm_M_calculate : Room := { frames := 1, cells := 0, slots := 0, locals := 32 }
set_option maxRecDepth 20000 in
theorem ok_M_calculate (l : Launch) (J : ev_K) (P : Unit → ev_M → ev_L → Prop) (X : ev_X l rm_M_calculate evLY evCl ws_M_calculate prog_4_method_15_code 2 y_M_calculate.cls J) (Z : ev_Z J prog_4_method_15_code .return_ ev_n P) : ev_oks J (I_M_calculate P) :=
  ⟨qq_aln X 0 rfl d_M_calculate_0,
  qq_gf X 2 0 rfl (fun w h => List.mem_cons_of_mem _ (inE_M w h)) (by decide) (List.mem_cons_of_mem _ mw_161) d_M_calculate_1,
  qq_cV X 1 rfl (c_I_registerNumber l) (fun hts => cwV 0 hts (evGV (mw_629) (mw_630) (mw_631) (mw_5) (mw_632)) rfl rfl rfl (by decide +kernel) ⟨Nat.le_of_ble_eq_true rfl, Nat.le_of_ble_eq_true rfl⟩) d_M_calculate_4,
  qq_isn X 1 rfl (by decide) d_M_calculate_7,
  qq_aln X 0 rfl d_M_calculate_8,
  qq_gf X 2 0 rfl (fun w h => List.mem_cons_of_mem _ (inE_M w h)) (by decide) (List.mem_cons_of_mem _ mw_161) d_M_calculate_9,
  qq_gf X 1 2 rfl (fun w h => List.mem_cons_of_mem _ (inE_I w h)) (by decide) (List.mem_cons_of_mem _ mw_74) d_M_calculate_12,
  qq_lsw X [(1, 249), (4, 96), (8, 109), (16, 122), (32, 146), (48, 170), (52, 187), (56, 211), (76, 235)] 249 (by decide) (by simp [ev_swOk]) d_M_calculate_15,
  qq_aln X 0 rfl d_M_calculate_96,
  qq_gf X 2 1 rfl (fun w h => List.mem_cons_of_mem _ (inE_M w h)) (by decide) (List.mem_cons_of_mem _ mw_162) d_M_calculate_97,
  qq_iln X 1 rfl d_M_calculate_100,
  qq_dup2 X d_M_calculate_101,
  qq_ia X d_M_calculate_102,
  qq_ic X 1 (by decide) d_M_calculate_103,
  qq_iadd X d_M_calculate_104,
  qq_ias X d_M_calculate_105,
  qq_go X 249 (by decide) d_M_calculate_106,
  qq_aln X 0 rfl d_M_calculate_109,
  qq_gf X 2 1 rfl (fun w h => List.mem_cons_of_mem _ (inE_M w h)) (by decide) (List.mem_cons_of_mem _ mw_162) d_M_calculate_110,
  qq_iln X 1 rfl d_M_calculate_113,
  qq_dup2 X d_M_calculate_114,
  qq_ia X d_M_calculate_115,
  qq_ic X 1 (by decide) d_M_calculate_116,
  qq_isub X d_M_calculate_117,
  qq_ias X d_M_calculate_118,
  qq_go X 249 (by decide) d_M_calculate_119,
  qq_aln X 0 rfl d_M_calculate_122,
  qq_gf X 2 1 rfl (fun w h => List.mem_cons_of_mem _ (inE_M w h)) (by decide) (List.mem_cons_of_mem _ mw_162) d_M_calculate_123,
  qq_iln X 1 rfl d_M_calculate_126,
  qq_dup2 X d_M_calculate_127,
  qq_ia X d_M_calculate_128,
  qq_aln X 0 rfl d_M_calculate_129,
  qq_gf X 2 1 rfl (fun w h => List.mem_cons_of_mem _ (inE_M w h)) (by decide) (List.mem_cons_of_mem _ mw_162) d_M_calculate_130,
  qq_aln X 0 rfl d_M_calculate_133,
  qq_gf X 2 0 rfl (fun w h => List.mem_cons_of_mem _ (inE_M w h)) (by decide) (List.mem_cons_of_mem _ mw_161) d_M_calculate_134,
  qq_cV X 1 rfl (c_I_otherRegister l) (fun hts => cwV 0 hts (evGV (mw_671) (mw_672) (mw_673) (mw_5) (mw_674)) rfl rfl rfl (by decide +kernel) ⟨Nat.le_of_ble_eq_true rfl, Nat.le_of_ble_eq_true rfl⟩) d_M_calculate_137,
  qq_ia X d_M_calculate_140,
  qq_iadd X d_M_calculate_141,
  qq_ias X d_M_calculate_142,
  qq_go X 249 (by decide) d_M_calculate_143,
  qq_aln X 0 rfl d_M_calculate_146,
  qq_gf X 2 1 rfl (fun w h => List.mem_cons_of_mem _ (inE_M w h)) (by decide) (List.mem_cons_of_mem _ mw_162) d_M_calculate_147,
  qq_iln X 1 rfl d_M_calculate_150,
  qq_dup2 X d_M_calculate_151,
  qq_ia X d_M_calculate_152,
  qq_aln X 0 rfl d_M_calculate_153,
  qq_gf X 2 1 rfl (fun w h => List.mem_cons_of_mem _ (inE_M w h)) (by decide) (List.mem_cons_of_mem _ mw_162) d_M_calculate_154,
  qq_aln X 0 rfl d_M_calculate_157,
  qq_gf X 2 0 rfl (fun w h => List.mem_cons_of_mem _ (inE_M w h)) (by decide) (List.mem_cons_of_mem _ mw_161) d_M_calculate_158,
  qq_cV X 1 rfl (c_I_otherRegister l) (fun hts => cwV 0 hts (evGV (mw_671) (mw_672) (mw_673) (mw_5) (mw_674)) rfl rfl rfl (by decide +kernel) ⟨Nat.le_of_ble_eq_true rfl, Nat.le_of_ble_eq_true rfl⟩) d_M_calculate_161,
  qq_ia X d_M_calculate_164,
  qq_isub X d_M_calculate_165,
  qq_ias X d_M_calculate_166,
  qq_go X 249 (by decide) d_M_calculate_167,
  qq_aln X 0 rfl d_M_calculate_170,
  qq_gf X 2 1 rfl (fun w h => List.mem_cons_of_mem _ (inE_M w h)) (by decide) (List.mem_cons_of_mem _ mw_162) d_M_calculate_171,
  qq_iln X 1 rfl d_M_calculate_174,
  qq_aln X 0 rfl d_M_calculate_175,
  qq_gf X 2 0 rfl (fun w h => List.mem_cons_of_mem _ (inE_M w h)) (by decide) (List.mem_cons_of_mem _ mw_161) d_M_calculate_176,
  qq_gf X 1 3 rfl (fun w h => List.mem_cons_of_mem _ (inE_I w h)) (by decide) (List.mem_cons_of_mem _ mw_79) d_M_calculate_179,
  qq_i2b X d_M_calculate_182,
  qq_ias X d_M_calculate_183,
  qq_go X 249 (by decide) d_M_calculate_184,
  qq_aln X 0 rfl d_M_calculate_187,
  qq_gf X 2 1 rfl (fun w h => List.mem_cons_of_mem _ (inE_M w h)) (by decide) (List.mem_cons_of_mem _ mw_162) d_M_calculate_188,
  qq_iln X 1 rfl d_M_calculate_191,
  qq_aln X 0 rfl d_M_calculate_192,
  qq_gf X 2 2 rfl (fun w h => List.mem_cons_of_mem _ (inE_M w h)) (by decide) (List.mem_cons_of_mem _ mw_163) d_M_calculate_193,
  qq_aln X 0 rfl d_M_calculate_196,
  qq_gf X 2 0 rfl (fun w h => List.mem_cons_of_mem _ (inE_M w h)) (by decide) (List.mem_cons_of_mem _ mw_161) d_M_calculate_197,
  qq_gf X 1 3 rfl (fun w h => List.mem_cons_of_mem _ (inE_I w h)) (by decide) (List.mem_cons_of_mem _ mw_79) d_M_calculate_200,
  qq_bp X 15 (by decide) d_M_calculate_203,
  qq_iand X d_M_calculate_205,
  qq_ia X d_M_calculate_206,
  qq_ias X d_M_calculate_207,
  qq_go X 249 (by decide) d_M_calculate_208,
  qq_aln X 0 rfl d_M_calculate_211,
  qq_gf X 2 2 rfl (fun w h => List.mem_cons_of_mem _ (inE_M w h)) (by decide) (List.mem_cons_of_mem _ mw_163) d_M_calculate_212,
  qq_aln X 0 rfl d_M_calculate_215,
  qq_gf X 2 0 rfl (fun w h => List.mem_cons_of_mem _ (inE_M w h)) (by decide) (List.mem_cons_of_mem _ mw_161) d_M_calculate_216,
  qq_gf X 1 3 rfl (fun w h => List.mem_cons_of_mem _ (inE_I w h)) (by decide) (List.mem_cons_of_mem _ mw_79) d_M_calculate_219,
  qq_bp X 15 (by decide) d_M_calculate_222,
  qq_iand X d_M_calculate_224,
  qq_aln X 0 rfl d_M_calculate_225,
  qq_gf X 2 1 rfl (fun w h => List.mem_cons_of_mem _ (inE_M w h)) (by decide) (List.mem_cons_of_mem _ mw_162) d_M_calculate_226,
  qq_iln X 1 rfl d_M_calculate_229,
  qq_ia X d_M_calculate_230,
  qq_ias X d_M_calculate_231,
  qq_go X 249 (by decide) d_M_calculate_232,
  qq_aln X 0 rfl d_M_calculate_235,
  qq_aln X 0 rfl d_M_calculate_236,
  qq_gf X 2 0 rfl (fun w h => List.mem_cons_of_mem _ (inE_M w h)) (by decide) (List.mem_cons_of_mem _ mw_161) d_M_calculate_237,
  qq_gf X 1 3 rfl (fun w h => List.mem_cons_of_mem _ (inE_I w h)) (by decide) (List.mem_cons_of_mem _ mw_79) d_M_calculate_240,
  qq_cV X 2 rfl (c_M_grow l) (fun hts => cwV 1 hts (evGV (mw_675) (mw_677) (mp_25) (mw_7) (mw_678)) rfl rfl rfl (by decide +kernel) ⟨Nat.le_of_ble_eq_true rfl, Nat.le_of_ble_eq_true rfl⟩) d_M_calculate_243,
  qq_go X 249 (by decide) d_M_calculate_246,
  qq_rv Z d_M_calculate_249, trivial⟩
def pre_M_calculate : List Value → ev_M → ev_L → Prop := fun as σ τ => as = [.ref 23]
def post_M_calculate : List Value → ev_M → ev_L → Unit → ev_M → ev_L → Prop := fun as σ τ _ σ' τ' => mvC σ' τ' = ms_calc (σ 24 2) (σ 24 1) (σ 24 3) (mvC σ τ) ∧ σ' 24 = σ 24 ∧ frC σ σ' τ τ'
set_option maxHeartbeats 4000000 in
set_option maxRecDepth 100000 in
theorem c_M_calculate (l : Launch) : ev_C ev_n l y_M_calculate ws_M_calculate rm_M_calculate evLY evCl pre_M_calculate post_M_calculate := by
  refine ev_meth0 (by decide) rfl ev_rop_v ?_ I_M_calculate (ok_M_calculate l) 60 ?_
  · rintro _ σ τ rfl
    exact Nat.le_of_ble_eq_true rfl
  · rintro _ σ τ rfl
    refine ⟨⟨_, rfl, by decide⟩, ?_⟩
    rintro _ σ τ ⟨rfl, rfl, rfl⟩
    have hr := sp_reg_in (σ 24 2) (σ 24 1)
    refine br_c (fun h => ?_) (fun h1 => br_c (fun h => ?_) (fun h4 => br_c (fun h => ?_) (fun h8 => br_c (fun h => ?_) (fun h16 => br_c (fun h => ?_) (fun h32 => br_c (fun h => ?_) (fun h48 => br_c (fun h => ?_) (fun h52 => br_c (fun h => ?_) (fun h56 => br_c (fun h => ?_) (fun h76 => ?_)))))))))
    · exact ⟨by unfold ms_calc mvC; rw [h]; rfl, rfl, frC_rf σ τ⟩
    · exact ⟨hr, hr, by unfold ms_calc mvC; rw [h]; rfl, rfl, frC_u _ _ _ (by decide)⟩
    · exact ⟨hr, hr, by unfold ms_calc mvC; rw [h]; rfl, rfl, frC_u _ _ _ (by decide)⟩
    · refine ⟨hr, ⟨⟨_, rfl, by decide⟩, ?_⟩⟩
      rintro _ σ τ ⟨rfl, rfl, rfl⟩
      exact ⟨pk_andIn _ 2 rfl (by decide), hr, by unfold ms_calc mvC; rw [h]; rfl, rfl, frC_u _ _ _ (by decide)⟩
    · refine ⟨hr, ⟨⟨_, rfl, by decide⟩, ?_⟩⟩
      rintro _ σ τ ⟨rfl, rfl, rfl⟩
      exact ⟨pk_andIn _ 2 rfl (by decide), hr, by unfold ms_calc mvC; rw [h]; rfl, rfl, frC_u _ _ _ (by decide)⟩
    · exact ⟨hr, by unfold ms_calc mvC; rw [h]; rfl, rfl, frC_u _ _ _ (by decide)⟩
    · exact ⟨pk_andIn _ 4 rfl (by decide), hr, by unfold ms_calc mvC; rw [h]; rfl, rfl, frC_u _ _ _ (by decide)⟩
    · exact ⟨hr, pk_andIn _ 4 rfl (by decide), by unfold ms_calc mvC; rw [h]; rfl, rfl, frC_u _ _ _ (by decide)⟩
    · refine ⟨⟨_, rfl⟩, ?_⟩
      rintro _ σ _ ⟨rfl, rfl⟩
      exact ⟨by unfold ms_calc mvC; rw [h]; rfl, rfl, frC_w _ _⟩
    · exact ⟨by simp [ms_calc, mvC, h4, h8, h16, h32, h48, h52, h56, h76], rfl, frC_rf σ τ⟩
end
section
/-! Machine.perform, step -/
def pfC (σ : ev_M) (τ : ev_L) (q : Nat) : Int32 × mst := ms_perf (σ (q + 1)) (sp_trap (σ (q + 2))) (σ 24 2) (σ 24 1) (σ 24 3) (σ 24 4) (σ 24 0 + sp_len (σ 24 2)) (mvC σ τ)
def y_M_perform : MethodName := ⟨RX2, "perform", "(LBlockCounter$Program;)I"⟩
def ws_M_perform : List Cond := .code y_M_perform prog_4_method_14_code 3 (some .int) :: evW
theorem d_M_perform_0 : decode prog_4_method_14_code 0 = .ok (.aload_n 0, 1) := by decide +kernel
theorem d_M_perform_1 : decode prog_4_method_14_code 1 = .ok (.getfield 18, 3) := by decide +kernel
theorem d_M_perform_4 : decode prog_4_method_14_code 4 = .ok (.aload_n 0, 1) := by decide +kernel
theorem d_M_perform_5 : decode prog_4_method_14_code 5 = .ok (.getfield 12, 3) := by decide +kernel
theorem d_M_perform_8 : decode prog_4_method_14_code 8 = .ok (.invokevirtual 87, 3) := by decide +kernel
theorem d_M_perform_11 : decode prog_4_method_14_code 11 = .ok (.iaload, 1) := by decide +kernel
theorem d_M_perform_12 : decode prog_4_method_14_code 12 = .ok (.istore_n 2, 1) := by decide +kernel
theorem d_M_perform_13 : decode prog_4_method_14_code 13 = .ok (.aload_n 0, 1) := by decide +kernel
theorem d_M_perform_14 : decode prog_4_method_14_code 14 = .ok (.getfield 12, 3) := by decide +kernel
theorem d_M_perform_17 : decode prog_4_method_14_code 17 = .ok (.getfield 81, 3) := by decide +kernel
theorem d_M_perform_20 : decode prog_4_method_14_code 20 = .ok (.lookupswitch 233 #[(2, 92), (3, 98), (12, 213), (60, 103), (64, 122), (68, 141), (69, 146), (70, 154), (72, 206), (77, 180)], 92) := by decide +kernel
theorem d_M_perform_112 : decode prog_4_method_14_code 112 = .ok (.aload_n 0, 1) := by decide +kernel
theorem d_M_perform_113 : decode prog_4_method_14_code 113 = .ok (.aload_n 1, 1) := by decide +kernel
theorem d_M_perform_114 : decode prog_4_method_14_code 114 = .ok (.invokevirtual 91, 3) := by decide +kernel
theorem d_M_perform_117 : decode prog_4_method_14_code 117 = .ok (.ireturn, 1) := by decide +kernel
theorem d_M_perform_118 : decode prog_4_method_14_code 118 = .ok (.aload_n 0, 1) := by decide +kernel
theorem d_M_perform_119 : decode prog_4_method_14_code 119 = .ok (.invokevirtual 94, 3) := by decide +kernel
theorem d_M_perform_122 : decode prog_4_method_14_code 122 = .ok (.ireturn, 1) := by decide +kernel
theorem d_M_perform_123 : decode prog_4_method_14_code 123 = .ok (.iload_n 2, 1) := by decide +kernel
theorem d_M_perform_124 : decode prog_4_method_14_code 124 = .ok (.ifCond .ne 10, 3) := by decide +kernel
theorem d_M_perform_127 : decode prog_4_method_14_code 127 = .ok (.aload_n 0, 1) := by decide +kernel
theorem d_M_perform_128 : decode prog_4_method_14_code 128 = .ok (.invokevirtual 97, 3) := by decide +kernel
theorem d_M_perform_131 : decode prog_4_method_14_code 131 = .ok (.goto 10, 3) := by decide +kernel
theorem d_M_perform_134 : decode prog_4_method_14_code 134 = .ok (.aload_n 0, 1) := by decide +kernel
theorem d_M_perform_135 : decode prog_4_method_14_code 135 = .ok (.getfield 12, 3) := by decide +kernel
theorem d_M_perform_138 : decode prog_4_method_14_code 138 = .ok (.invokevirtual 100, 3) := by decide +kernel
theorem d_M_perform_141 : decode prog_4_method_14_code 141 = .ok (.ireturn, 1) := by decide +kernel
theorem d_M_perform_142 : decode prog_4_method_14_code 142 = .ok (.iload_n 2, 1) := by decide +kernel
theorem d_M_perform_143 : decode prog_4_method_14_code 143 = .ok (.ifCond .ge 10, 3) := by decide +kernel
theorem d_M_perform_146 : decode prog_4_method_14_code 146 = .ok (.aload_n 0, 1) := by decide +kernel
theorem d_M_perform_147 : decode prog_4_method_14_code 147 = .ok (.invokevirtual 97, 3) := by decide +kernel
theorem d_M_perform_150 : decode prog_4_method_14_code 150 = .ok (.goto 10, 3) := by decide +kernel
theorem d_M_perform_153 : decode prog_4_method_14_code 153 = .ok (.aload_n 0, 1) := by decide +kernel
theorem d_M_perform_154 : decode prog_4_method_14_code 154 = .ok (.getfield 12, 3) := by decide +kernel
theorem d_M_perform_157 : decode prog_4_method_14_code 157 = .ok (.invokevirtual 100, 3) := by decide +kernel
theorem d_M_perform_160 : decode prog_4_method_14_code 160 = .ok (.ireturn, 1) := by decide +kernel
theorem d_M_perform_161 : decode prog_4_method_14_code 161 = .ok (.aload_n 0, 1) := by decide +kernel
theorem d_M_perform_162 : decode prog_4_method_14_code 162 = .ok (.invokevirtual 97, 3) := by decide +kernel
theorem d_M_perform_165 : decode prog_4_method_14_code 165 = .ok (.ireturn, 1) := by decide +kernel
theorem d_M_perform_166 : decode prog_4_method_14_code 166 = .ok (.aload_n 0, 1) := by decide +kernel
theorem d_M_perform_167 : decode prog_4_method_14_code 167 = .ok (.getfield 12, 3) := by decide +kernel
theorem d_M_perform_170 : decode prog_4_method_14_code 170 = .ok (.getfield 103, 3) := by decide +kernel
theorem d_M_perform_173 : decode prog_4_method_14_code 173 = .ok (.ireturn, 1) := by decide +kernel
theorem d_M_perform_174 : decode prog_4_method_14_code 174 = .ok (.aload_n 0, 1) := by decide +kernel
theorem d_M_perform_175 : decode prog_4_method_14_code 175 = .ok (.aload_n 0, 1) := by decide +kernel
theorem d_M_perform_176 : decode prog_4_method_14_code 176 = .ok (.getfield 12, 3) := by decide +kernel
theorem d_M_perform_179 : decode prog_4_method_14_code 179 = .ok (.invokevirtual 100, 3) := by decide +kernel
theorem d_M_perform_182 : decode prog_4_method_14_code 182 = .ok (.invokevirtual 106, 3) := by decide +kernel
theorem d_M_perform_185 : decode prog_4_method_14_code 185 = .ok (.ifCond .eq 13, 3) := by decide +kernel
theorem d_M_perform_188 : decode prog_4_method_14_code 188 = .ok (.aload_n 0, 1) := by decide +kernel
theorem d_M_perform_189 : decode prog_4_method_14_code 189 = .ok (.getfield 12, 3) := by decide +kernel
theorem d_M_perform_192 : decode prog_4_method_14_code 192 = .ok (.getfield 103, 3) := by decide +kernel
theorem d_M_perform_195 : decode prog_4_method_14_code 195 = .ok (.goto 4, 3) := by decide +kernel
theorem d_M_perform_198 : decode prog_4_method_14_code 198 = .ok (.iconst (-1), 1) := by decide +kernel
theorem d_M_perform_199 : decode prog_4_method_14_code 199 = .ok (.ireturn, 1) := by decide +kernel
theorem d_M_perform_200 : decode prog_4_method_14_code 200 = .ok (.aload_n 0, 1) := by decide +kernel
theorem d_M_perform_201 : decode prog_4_method_14_code 201 = .ok (.aload_n 0, 1) := by decide +kernel
theorem d_M_perform_202 : decode prog_4_method_14_code 202 = .ok (.getfield 12, 3) := by decide +kernel
theorem d_M_perform_205 : decode prog_4_method_14_code 205 = .ok (.getfield 110, 3) := by decide +kernel
theorem d_M_perform_208 : decode prog_4_method_14_code 208 = .ok (.invokevirtual 106, 3) := by decide +kernel
theorem d_M_perform_211 : decode prog_4_method_14_code 211 = .ok (.ifCond .eq 13, 3) := by decide +kernel
theorem d_M_perform_214 : decode prog_4_method_14_code 214 = .ok (.aload_n 0, 1) := by decide +kernel
theorem d_M_perform_215 : decode prog_4_method_14_code 215 = .ok (.getfield 12, 3) := by decide +kernel
theorem d_M_perform_218 : decode prog_4_method_14_code 218 = .ok (.getfield 103, 3) := by decide +kernel
theorem d_M_perform_221 : decode prog_4_method_14_code 221 = .ok (.goto 4, 3) := by decide +kernel
theorem d_M_perform_224 : decode prog_4_method_14_code 224 = .ok (.iconst (-1), 1) := by decide +kernel
theorem d_M_perform_225 : decode prog_4_method_14_code 225 = .ok (.ireturn, 1) := by decide +kernel
theorem d_M_perform_226 : decode prog_4_method_14_code 226 = .ok (.aload_n 0, 1) := by decide +kernel
theorem d_M_perform_227 : decode prog_4_method_14_code 227 = .ok (.aload_n 1, 1) := by decide +kernel
theorem d_M_perform_228 : decode prog_4_method_14_code 228 = .ok (.iload_n 2, 1) := by decide +kernel
theorem d_M_perform_229 : decode prog_4_method_14_code 229 = .ok (.invokevirtual 113, 3) := by decide +kernel
theorem d_M_perform_232 : decode prog_4_method_14_code 232 = .ok (.ireturn, 1) := by decide +kernel
theorem d_M_perform_233 : decode prog_4_method_14_code 233 = .ok (.aload_n 0, 1) := by decide +kernel
theorem d_M_perform_234 : decode prog_4_method_14_code 234 = .ok (.iload_n 2, 1) := by decide +kernel
theorem d_M_perform_235 : decode prog_4_method_14_code 235 = .ok (.invokevirtual 117, 3) := by decide +kernel
theorem d_M_perform_238 : decode prog_4_method_14_code 238 = .ok (.ifCond .eq 13, 3) := by decide +kernel
theorem d_M_perform_241 : decode prog_4_method_14_code 241 = .ok (.aload_n 0, 1) := by decide +kernel
theorem d_M_perform_242 : decode prog_4_method_14_code 242 = .ok (.getfield 12, 3) := by decide +kernel
theorem d_M_perform_245 : decode prog_4_method_14_code 245 = .ok (.invokevirtual 100, 3) := by decide +kernel
theorem d_M_perform_248 : decode prog_4_method_14_code 248 = .ok (.goto 4, 3) := by decide +kernel
theorem d_M_perform_251 : decode prog_4_method_14_code 251 = .ok (.iconst (-1), 1) := by decide +kernel
theorem d_M_perform_252 : decode prog_4_method_14_code 252 = .ok (.ireturn, 1) := by decide +kernel
theorem d_M_perform_253 : decode prog_4_method_14_code 253 = .ok (.aload_n 0, 1) := by decide +kernel
theorem d_M_perform_254 : decode prog_4_method_14_code 254 = .ok (.invokevirtual 120, 3) := by decide +kernel
theorem d_M_perform_257 : decode prog_4_method_14_code 257 = .ok (.aload_n 0, 1) := by decide +kernel
theorem d_M_perform_258 : decode prog_4_method_14_code 258 = .ok (.getfield 12, 3) := by decide +kernel
theorem d_M_perform_261 : decode prog_4_method_14_code 261 = .ok (.invokevirtual 100, 3) := by decide +kernel
theorem d_M_perform_264 : decode prog_4_method_14_code 264 = .ok (.ireturn, 1) := by decide +kernel
def I_M_perform (P : Int32 → ev_M → ev_L → Prop) : List (Nat × ev_T) := [(0, tt_al 0 1),
  (1, tt_gf evLY 2 1 4),
  (4, tt_al 0 5),
  (5, tt_gf evLY 2 0 8),
  (8, tt_cV evLY 1 0 ev_i pre_I_registerNumber post_I_registerNumber 11),
  (11, tt_ia evLY 12),
  (12, tt_is 2 13),
  (13, tt_al 0 14),
  (14, tt_gf evLY 2 0 17),
  (17, tt_gf evLY 1 2 20),
  (20, tt_sw [(2, 112), (3, 118), (12, 233), (60, 123), (64, 142), (68, 161), (69, 166), (70, 174), (72, 226), (77, 200)] 253),
  (112, tt_al 0 113),
  (113, tt_al 1 114),
  (114, tt_cV evLY 2 1 ev_i pre_M_trap post_M_trap 117),
  (117, tt_ri P),
  (118, tt_al 0 119),
  (119, tt_cV evLY 2 0 ev_i pre_M_pop post_M_pop 122),
  (122, tt_ri P),
  (123, tt_il 2 124),
  (124, tt_ifne 134 127),
  (127, tt_al 0 128),
  (128, tt_cV evLY 2 0 ev_i pre_M_branch post_M_branch 131),
  (131, tt_go 141),
  (134, tt_al 0 135),
  (135, tt_gf evLY 2 0 138),
  (138, tt_cV evLY 1 0 ev_i pre_I_behind post_I_behind 141),
  (141, tt_ri P),
  (142, tt_il 2 143),
  (143, tt_ifge 153 146),
  (146, tt_al 0 147),
  (147, tt_cV evLY 2 0 ev_i pre_M_branch post_M_branch 150),
  (150, tt_go 160),
  (153, tt_al 0 154),
  (154, tt_gf evLY 2 0 157),
  (157, tt_cV evLY 1 0 ev_i pre_I_behind post_I_behind 160),
  (160, tt_ri P),
  (161, tt_al 0 162),
  (162, tt_cV evLY 2 0 ev_i pre_M_branch post_M_branch 165),
  (165, tt_ri P),
  (166, tt_al 0 167),
  (167, tt_gf evLY 2 0 170),
  (170, tt_gf evLY 1 3 173),
  (173, tt_ri P),
  (174, tt_al 0 175),
  (175, tt_al 0 176),
  (176, tt_gf evLY 2 0 179),
  (179, tt_cV evLY 1 0 ev_i pre_I_behind post_I_behind 182),
  (182, tt_cV evLY 2 1 ev_b pre_M_push post_M_push 185),
  (185, tt_ifeq 198 188),
  (188, tt_al 0 189),
  (189, tt_gf evLY 2 0 192),
  (192, tt_gf evLY 1 3 195),
  (195, tt_go 199),
  (198, tt_k (-1) 199),
  (199, tt_ri P),
  (200, tt_al 0 201),
  (201, tt_al 0 202),
  (202, tt_gf evLY 2 0 205),
  (205, tt_gf evLY 1 4 208),
  (208, tt_cV evLY 2 1 ev_b pre_M_push post_M_push 211),
  (211, tt_ifeq 224 214),
  (214, tt_al 0 215),
  (215, tt_gf evLY 2 0 218),
  (218, tt_gf evLY 1 3 221),
  (221, tt_go 225),
  (224, tt_k (-1) 225),
  (225, tt_ri P),
  (226, tt_al 0 227),
  (227, tt_al 1 228),
  (228, tt_il 2 229),
  (229, tt_cV evLY 2 2 ev_i pre_M_lookUp post_M_lookUp 232),
  (232, tt_ri P),
  (233, tt_al 0 234),
  (234, tt_il 2 235),
  (235, tt_cV evLY 2 1 ev_b pre_M_print post_M_print 238),
  (238, tt_ifeq 251 241),
  (241, tt_al 0 242),
  (242, tt_gf evLY 2 0 245),
  (245, tt_cV evLY 1 0 ev_i pre_I_behind post_I_behind 248),
  (248, tt_go 252),
  (251, tt_k (-1) 252),
  (252, tt_ri P),
  (253, tt_al 0 254),
  (254, tt_cV evLY 2 0 ev_n pre_M_calculate post_M_calculate 257),
  (257, tt_al 0 258),
  (258, tt_gf evLY 2 0 261),
  (261, tt_cV evLY 1 0 ev_i pre_I_behind post_I_behind 264),
  (264, tt_ri P)]
abbrev rm_M_perform : Room := { frames := 4, cells := 0, slots := 0, locals := 128 }
set_option maxRecDepth 20000 in
theorem ok_M_perform (l : Launch) (J : ev_K) (P : Int32 → ev_M → ev_L → Prop) (X : ev_X l rm_M_perform evLY evCl ws_M_perform prog_4_method_14_code 3 y_M_perform.cls J) (Z : ev_Z J prog_4_method_14_code .ireturn ev_i P) : ev_oks J (I_M_perform P) :=
  ⟨qq_aln X 0 rfl d_M_perform_0,
  qq_gf X 2 1 rfl (fun w h => List.mem_cons_of_mem _ (inE_M w h)) (by decide) (List.mem_cons_of_mem _ mw_162) d_M_perform_1,
  qq_aln X 0 rfl d_M_perform_4,
  qq_gf X 2 0 rfl (fun w h => List.mem_cons_of_mem _ (inE_M w h)) (by decide) (List.mem_cons_of_mem _ mw_161) d_M_perform_5,
  qq_cV X 1 rfl (c_I_registerNumber l) (fun hts => cwV 0 hts (evGV (mw_629) (mw_630) (mw_631) (mw_5) (mw_632)) rfl rfl rfl (by decide +kernel) ⟨Nat.le_of_ble_eq_true rfl, Nat.le_of_ble_eq_true rfl⟩) d_M_perform_8,
  qq_ia X d_M_perform_11,
  qq_isn X 2 rfl (by decide) d_M_perform_12,
  qq_aln X 0 rfl d_M_perform_13,
  qq_gf X 2 0 rfl (fun w h => List.mem_cons_of_mem _ (inE_M w h)) (by decide) (List.mem_cons_of_mem _ mw_161) d_M_perform_14,
  qq_gf X 1 2 rfl (fun w h => List.mem_cons_of_mem _ (inE_I w h)) (by decide) (List.mem_cons_of_mem _ mw_74) d_M_perform_17,
  qq_lsw X [(2, 112), (3, 118), (12, 233), (60, 123), (64, 142), (68, 161), (69, 166), (70, 174), (72, 226), (77, 200)] 253 (by decide) (by simp [ev_swOk]) d_M_perform_20,
  qq_aln X 0 rfl d_M_perform_112,
  qq_aln X 1 rfl d_M_perform_113,
  qq_cV X 2 rfl (c_M_trap l) (fun hts => cwV 1 hts (evGV (mw_633) (mw_635) (mp_18) (mw_7) (mw_636)) rfl rfl rfl (by decide +kernel) ⟨Nat.le_of_ble_eq_true rfl, Nat.le_of_ble_eq_true rfl⟩) d_M_perform_114,
  qq_ri Z d_M_perform_117,
  qq_aln X 0 rfl d_M_perform_118,
  qq_cV X 2 rfl (c_M_pop l) (fun hts => cwV 0 hts (evGV (mw_641) (mw_643) (mp_19) (mw_7) (mw_644)) rfl rfl rfl (by decide +kernel) ⟨Nat.le_of_ble_eq_true rfl, Nat.le_of_ble_eq_true rfl⟩) d_M_perform_119,
  qq_ri Z d_M_perform_122,
  qq_iln X 2 rfl d_M_perform_123,
  qq_ifne X 134 (by decide) d_M_perform_124,
  qq_aln X 0 rfl d_M_perform_127,
  qq_cV X 2 rfl (c_M_branch l) (fun hts => cwV 0 hts (evGV (mw_645) (mw_647) (mp_20) (mw_7) (mw_648)) rfl rfl rfl (by decide +kernel) ⟨Nat.le_of_ble_eq_true rfl, Nat.le_of_ble_eq_true rfl⟩) d_M_perform_128,
  qq_go X 141 (by decide) d_M_perform_131,
  qq_aln X 0 rfl d_M_perform_134,
  qq_gf X 2 0 rfl (fun w h => List.mem_cons_of_mem _ (inE_M w h)) (by decide) (List.mem_cons_of_mem _ mw_161) d_M_perform_135,
  qq_cV X 1 rfl (c_I_behind l) (fun hts => cwV 0 hts (evGV (mw_650) (mw_430) (mw_431) (mw_5) (mw_432)) rfl rfl rfl (by decide +kernel) ⟨Nat.le_of_ble_eq_true rfl, Nat.le_of_ble_eq_true rfl⟩) d_M_perform_138,
  qq_ri Z d_M_perform_141,
  qq_iln X 2 rfl d_M_perform_142,
  qq_ifge X 153 (by decide) d_M_perform_143,
  qq_aln X 0 rfl d_M_perform_146,
  qq_cV X 2 rfl (c_M_branch l) (fun hts => cwV 0 hts (evGV (mw_645) (mw_647) (mp_20) (mw_7) (mw_648)) rfl rfl rfl (by decide +kernel) ⟨Nat.le_of_ble_eq_true rfl, Nat.le_of_ble_eq_true rfl⟩) d_M_perform_147,
  qq_go X 160 (by decide) d_M_perform_150,
  qq_aln X 0 rfl d_M_perform_153,
  qq_gf X 2 0 rfl (fun w h => List.mem_cons_of_mem _ (inE_M w h)) (by decide) (List.mem_cons_of_mem _ mw_161) d_M_perform_154,
  qq_cV X 1 rfl (c_I_behind l) (fun hts => cwV 0 hts (evGV (mw_650) (mw_430) (mw_431) (mw_5) (mw_432)) rfl rfl rfl (by decide +kernel) ⟨Nat.le_of_ble_eq_true rfl, Nat.le_of_ble_eq_true rfl⟩) d_M_perform_157,
  qq_ri Z d_M_perform_160,
  qq_aln X 0 rfl d_M_perform_161,
  qq_cV X 2 rfl (c_M_branch l) (fun hts => cwV 0 hts (evGV (mw_645) (mw_647) (mp_20) (mw_7) (mw_648)) rfl rfl rfl (by decide +kernel) ⟨Nat.le_of_ble_eq_true rfl, Nat.le_of_ble_eq_true rfl⟩) d_M_perform_162,
  qq_ri Z d_M_perform_165,
  qq_aln X 0 rfl d_M_perform_166,
  qq_gf X 2 0 rfl (fun w h => List.mem_cons_of_mem _ (inE_M w h)) (by decide) (List.mem_cons_of_mem _ mw_161) d_M_perform_167,
  qq_gf X 1 3 rfl (fun w h => List.mem_cons_of_mem _ (inE_I w h)) (by decide) (List.mem_cons_of_mem _ mw_79) d_M_perform_170,
  qq_ri Z d_M_perform_173,
  qq_aln X 0 rfl d_M_perform_174,
  qq_aln X 0 rfl d_M_perform_175,
  qq_gf X 2 0 rfl (fun w h => List.mem_cons_of_mem _ (inE_M w h)) (by decide) (List.mem_cons_of_mem _ mw_161) d_M_perform_176,
  qq_cV X 1 rfl (c_I_behind l) (fun hts => cwV 0 hts (evGV (mw_650) (mw_430) (mw_431) (mw_5) (mw_432)) rfl rfl rfl (by decide +kernel) ⟨Nat.le_of_ble_eq_true rfl, Nat.le_of_ble_eq_true rfl⟩) d_M_perform_179,
  qq_cV X 2 rfl (c_M_push l) (fun hts => cwV 1 hts (evGV (mw_651) (mw_653) (mp_21) (mw_7) (mw_654)) rfl rfl rfl (by decide +kernel) ⟨Nat.le_of_ble_eq_true rfl, Nat.le_of_ble_eq_true rfl⟩) d_M_perform_182,
  qq_ifeq X 198 (by decide) d_M_perform_185,
  qq_aln X 0 rfl d_M_perform_188,
  qq_gf X 2 0 rfl (fun w h => List.mem_cons_of_mem _ (inE_M w h)) (by decide) (List.mem_cons_of_mem _ mw_161) d_M_perform_189,
  qq_gf X 1 3 rfl (fun w h => List.mem_cons_of_mem _ (inE_I w h)) (by decide) (List.mem_cons_of_mem _ mw_79) d_M_perform_192,
  qq_go X 199 (by decide) d_M_perform_195,
  qq_ic X (-1) (by decide) d_M_perform_198,
  qq_ri Z d_M_perform_199,
  qq_aln X 0 rfl d_M_perform_200,
  qq_aln X 0 rfl d_M_perform_201,
  qq_gf X 2 0 rfl (fun w h => List.mem_cons_of_mem _ (inE_M w h)) (by decide) (List.mem_cons_of_mem _ mw_161) d_M_perform_202,
  qq_gf X 1 4 rfl (fun w h => List.mem_cons_of_mem _ (inE_I w h)) (by decide) (List.mem_cons_of_mem _ mw_82) d_M_perform_205,
  qq_cV X 2 rfl (c_M_push l) (fun hts => cwV 1 hts (evGV (mw_651) (mw_653) (mp_21) (mw_7) (mw_654)) rfl rfl rfl (by decide +kernel) ⟨Nat.le_of_ble_eq_true rfl, Nat.le_of_ble_eq_true rfl⟩) d_M_perform_208,
  qq_ifeq X 224 (by decide) d_M_perform_211,
  qq_aln X 0 rfl d_M_perform_214,
  qq_gf X 2 0 rfl (fun w h => List.mem_cons_of_mem _ (inE_M w h)) (by decide) (List.mem_cons_of_mem _ mw_161) d_M_perform_215,
  qq_gf X 1 3 rfl (fun w h => List.mem_cons_of_mem _ (inE_I w h)) (by decide) (List.mem_cons_of_mem _ mw_79) d_M_perform_218,
  qq_go X 225 (by decide) d_M_perform_221,
  qq_ic X (-1) (by decide) d_M_perform_224,
  qq_ri Z d_M_perform_225,
  qq_aln X 0 rfl d_M_perform_226,
  qq_aln X 1 rfl d_M_perform_227,
  qq_iln X 2 rfl d_M_perform_228,
  qq_cV X 2 rfl (c_M_lookUp l) (fun hts => cwV 2 hts (evGV (mw_655) (mw_657) (mp_22) (mw_7) (mw_658)) rfl rfl rfl (by decide +kernel) ⟨Nat.le_of_ble_eq_true rfl, Nat.le_of_ble_eq_true rfl⟩) d_M_perform_229,
  qq_ri Z d_M_perform_232,
  qq_aln X 0 rfl d_M_perform_233,
  qq_iln X 2 rfl d_M_perform_234,
  qq_cV X 2 rfl (c_M_print l) (fun hts => cwV 1 hts (evGV (mw_663) (mw_665) (mp_23) (mw_7) (mw_666)) rfl rfl rfl (by decide +kernel) ⟨Nat.le_of_ble_eq_true rfl, Nat.le_of_ble_eq_true rfl⟩) d_M_perform_235,
  qq_ifeq X 251 (by decide) d_M_perform_238,
  qq_aln X 0 rfl d_M_perform_241,
  qq_gf X 2 0 rfl (fun w h => List.mem_cons_of_mem _ (inE_M w h)) (by decide) (List.mem_cons_of_mem _ mw_161) d_M_perform_242,
  qq_cV X 1 rfl (c_I_behind l) (fun hts => cwV 0 hts (evGV (mw_650) (mw_430) (mw_431) (mw_5) (mw_432)) rfl rfl rfl (by decide +kernel) ⟨Nat.le_of_ble_eq_true rfl, Nat.le_of_ble_eq_true rfl⟩) d_M_perform_245,
  qq_go X 252 (by decide) d_M_perform_248,
  qq_ic X (-1) (by decide) d_M_perform_251,
  qq_ri Z d_M_perform_252,
  qq_aln X 0 rfl d_M_perform_253,
  qq_cV X 2 rfl (c_M_calculate l) (fun hts => cwV 0 hts (evGV (mw_667) (mw_669) (mp_24) (mw_7) (mw_670)) rfl rfl rfl (by decide +kernel) ⟨Nat.le_of_ble_eq_true rfl, Nat.le_of_ble_eq_true rfl⟩) d_M_perform_254,
  qq_aln X 0 rfl d_M_perform_257,
  qq_gf X 2 0 rfl (fun w h => List.mem_cons_of_mem _ (inE_M w h)) (by decide) (List.mem_cons_of_mem _ mw_161) d_M_perform_258,
  qq_cV X 1 rfl (c_I_behind l) (fun hts => cwV 0 hts (evGV (mw_650) (mw_430) (mw_431) (mw_5) (mw_432)) rfl rfl rfl (by decide +kernel) ⟨Nat.le_of_ble_eq_true rfl, Nat.le_of_ble_eq_true rfl⟩) d_M_perform_261,
  qq_ri Z d_M_perform_264, trivial⟩
def pre_M_perform : List Value → ev_M → ev_L → Prop := fun as σ τ => ∃ q : Nat, as = [.ref 23, .ref q] ∧ (q = 1 ∨ q = 20) ∧ 0 ≤ σ 23 7 ∧ (σ 23 7).toInt ≤ 8 ∧ 0 ≤ σ 23 8
def post_M_perform : List Value → ev_M → ev_L → Int32 → ev_M → ev_L → Prop := fun as σ τ r σ' τ' => match as with
  | [_, .ref q] => r = (pfC σ τ q).1 ∧ mvC σ' τ' = (pfC σ τ q).2 ∧ frC σ σ' τ τ'
  | _ => False
set_option maxHeartbeats 4000000 in
set_option maxRecDepth 100000 in
theorem c_M_perform (l : Launch) : ev_C ev_i l y_M_perform ws_M_perform rm_M_perform evLY evCl pre_M_perform post_M_perform := by
  refine ev_meth0 (by decide) rfl ev_rop_i ?_ I_M_perform (ok_M_perform l) 60 ?_
  · rintro _ σ τ ⟨q, rfl, hq⟩
    exact Nat.le_of_ble_eq_true rfl
  · rintro _ σ τ ⟨q, rfl, hq, h0, h8, hs⟩
    rcases hq with rfl | rfl
    all_goals
      refine ⟨⟨_, rfl, by decide⟩, ?_⟩
      rintro _ σ τ ⟨rfl, rfl, rfl⟩
      have hr := sp_reg_in (σ 24 2) (σ 24 1)
      refine ⟨hr, br_c (fun h => ?_) (fun h2 => br_c (fun h => ?_) (fun h3 => br_c (fun h => ?_) (fun h12 => br_c (fun h => ?_) (fun h60 => br_c (fun h => ?_) (fun h64 => br_c (fun h => ?_) (fun h68 => br_c (fun h => ?_) (fun h69 => br_c (fun h => ?_) (fun h70 => br_c (fun h => ?_) (fun h72 => br_c (fun h => ?_) (fun h77 => ?_))))))))))⟩
      · refine ⟨⟨_, rfl, by decide⟩, ?_⟩
        rintro _ σ τ ⟨rfl, rfl, rfl⟩
        exact ⟨by unfold pfC ms_perf mvC; rw [h]; rfl, by unfold pfC ms_perf mvC; rw [h]; rfl, frC_rf σ τ⟩
      · refine ⟨⟨rfl, h8⟩, ?_⟩
        rintro _ _ τ ⟨rfl, ⟨hh, rfl, rfl⟩ | ⟨hh, rfl, rfl⟩⟩
        · exact ⟨by simp [pfC, ms_perf, mvC, h, hh], by simp [pfC, ms_perf, mvC, h, hh, ev_u, ev_p, upd], frC_u _ _ _ (by decide)⟩
        · exact ⟨by simp [pfC, ms_perf, mvC, h, hh], by simp [pfC, ms_perf, mvC, h, hh], frC_rf _ _⟩
      · refine ⟨⟨_, rfl, hs⟩, ?_⟩
        rintro _ _ τ ⟨rfl, ⟨rfl, hh, rfl⟩ | ⟨rfl, hh, rfl⟩⟩
        · refine br_c (fun g => absurd g (by decide)) (fun _ => ?_)
          refine ⟨⟨_, rfl, by decide⟩, ?_⟩
          rintro _ _ _ ⟨rfl, rfl, rfl⟩
          exact ⟨by simp [pfC, ms_perf, mvC, h, hh, ev_u, ev_p, upd], by simp [pfC, ms_perf, mvC, h, hh, ev_u, ev_p, upd], frC_tr (frC_u _ _ _ (by decide)) (frC_u _ _ _ (by decide))⟩
        · refine br_c (fun _ => ?_) (fun g => absurd rfl g)
          exact ⟨by simp [pfC, ms_perf, mvC, h, hh], by simp [pfC, ms_perf, mvC, h, hh], frC_rf _ _⟩
      · refine br_n (fun hh => ?_) (fun hh => ?_)
        · refine ⟨⟨_, rfl, by decide⟩, ?_⟩
          rintro _ σ τ ⟨rfl, rfl, rfl⟩
          simp only [h] at hh
          exact ⟨by simp [pfC, ms_perf, mvC, h, hh], by simp [pfC, ms_perf, mvC, h], frC_rf _ _⟩
        · refine ⟨rfl, ?_⟩
          rintro _ σ τ ⟨rfl, rfl, rfl⟩
          simp only [h] at hh
          exact ⟨by simp [pfC, ms_perf, mvC, h, hh], by simp [pfC, ms_perf, mvC, h], frC_rf _ _⟩
      · refine br_c (fun hh => ?_) (fun hh => ?_)
        · refine ⟨⟨_, rfl, by decide⟩, ?_⟩
          rintro _ σ τ ⟨rfl, rfl, rfl⟩
          simp only [h] at hh
          have hh := Int32.not_lt.mpr hh
          exact ⟨by simp [pfC, ms_perf, mvC, h, hh], by simp [pfC, ms_perf, mvC, h], frC_rf _ _⟩
        · refine ⟨rfl, ?_⟩
          rintro _ σ τ ⟨rfl, rfl, rfl⟩
          simp only [h] at hh
          have hh := Int32.not_le.mp hh
          exact ⟨by simp [pfC, ms_perf, mvC, h, hh], by simp [pfC, ms_perf, mvC, h], frC_rf _ _⟩
      · refine ⟨rfl, ?_⟩
        rintro _ σ τ ⟨rfl, rfl, rfl⟩
        exact ⟨by simp [pfC, ms_perf, mvC, h], by simp [pfC, ms_perf, mvC, h], frC_rf _ _⟩
      · exact ⟨by simp [pfC, ms_perf, mvC, h], by simp [pfC, ms_perf, mvC, h], frC_rf _ _⟩
      · refine ⟨⟨_, rfl, by decide⟩, ?_⟩
        rintro _ σ τ ⟨rfl, rfl, rfl⟩
        refine ⟨⟨_, rfl, h0⟩, ?_⟩
        rintro _ _ τ ⟨rfl, ⟨rfl, hh, rfl⟩ | ⟨rfl, hh, rfl⟩⟩
        · refine br_c (fun g => absurd g (by decide)) (fun _ => ?_)
          exact ⟨by simp [pfC, ms_perf, mvC, h, hh, ev_u, ev_p, upd], by simp [pfC, ms_perf, mvC, h, hh, ev_u, ev_p, upd], frC_tr (frC_u _ _ _ (by decide)) (frC_u _ _ _ (by decide))⟩
        · refine br_c (fun _ => ?_) (fun g => absurd rfl g)
          exact ⟨by simp [pfC, ms_perf, mvC, h, hh], by simp [pfC, ms_perf, mvC, h, hh], frC_rf _ _⟩
      · refine ⟨⟨_, _, rfl, by decide⟩, ?_⟩
        rintro _ σ τ ⟨rfl, rfl, rfl⟩
        exact ⟨by simp [pfC, ms_perf, mvC, h], by simp [pfC, ms_perf, mvC, h], frC_rf _ _⟩
      · refine ⟨⟨_, rfl, h0⟩, ?_⟩
        rintro _ _ τ ⟨rfl, ⟨rfl, hh, rfl⟩ | ⟨rfl, hh, rfl⟩⟩
        · refine br_c (fun g => absurd g (by decide)) (fun _ => ?_)
          exact ⟨by simp [pfC, ms_perf, mvC, h, hh, ev_u, ev_p, upd], by simp [pfC, ms_perf, mvC, h, hh, ev_u, ev_p, upd], frC_tr (frC_u _ _ _ (by decide)) (frC_u _ _ _ (by decide))⟩
        · refine br_c (fun _ => ?_) (fun g => absurd rfl g)
          exact ⟨by simp [pfC, ms_perf, mvC, h, hh], by simp [pfC, ms_perf, mvC, h, hh], frC_rf _ _⟩
      · refine ⟨rfl, ?_⟩
        rintro _ σ1 τ1 ⟨hv, h24, hf⟩
        refine ⟨⟨_, rfl, by decide⟩, ?_⟩
        rintro _ σ2 τ2 ⟨rfl, rfl, rfl⟩
        exact ⟨by simp [pfC, ms_perf, mvC, h2, h3, h12, h60, h64, h68, h69, h70, h72, h77, h24], by rw [hv]; simp [pfC, ms_perf, mvC, h2, h3, h12, h60, h64, h68, h69, h70, h72, h77], hf⟩
def y_M_step : MethodName := ⟨RX2, "step", "(LBlockCounter$Program;)I"⟩
def ws_M_step : List Cond := .code y_M_step prog_4_method_13_code 3 (some .int) :: evW
theorem d_M_step_0 : decode prog_4_method_13_code 0 = .ok (.aload_n 0, 1) := by decide +kernel
theorem d_M_step_1 : decode prog_4_method_13_code 1 = .ok (.getfield 12, 3) := by decide +kernel
theorem d_M_step_4 : decode prog_4_method_13_code 4 = .ok (.aload_n 1, 1) := by decide +kernel
theorem d_M_step_5 : decode prog_4_method_13_code 5 = .ok (.aload_n 0, 1) := by decide +kernel
theorem d_M_step_6 : decode prog_4_method_13_code 6 = .ok (.getfield 42, 3) := by decide +kernel
theorem d_M_step_9 : decode prog_4_method_13_code 9 = .ok (.sipush 256, 3) := by decide +kernel
theorem d_M_step_12 : decode prog_4_method_13_code 12 = .ok (.invokevirtual 77, 3) := by decide +kernel
theorem d_M_step_15 : decode prog_4_method_13_code 15 = .ok (.ifCond .ne 5, 3) := by decide +kernel
theorem d_M_step_18 : decode prog_4_method_13_code 18 = .ok (.iconst 2, 1) := by decide +kernel
theorem d_M_step_19 : decode prog_4_method_13_code 19 = .ok (.ireturn, 1) := by decide +kernel
theorem d_M_step_20 : decode prog_4_method_13_code 20 = .ok (.aload_n 0, 1) := by decide +kernel
theorem d_M_step_21 : decode prog_4_method_13_code 21 = .ok (.getfield 12, 3) := by decide +kernel
theorem d_M_step_24 : decode prog_4_method_13_code 24 = .ok (.getfield 81, 3) := by decide +kernel
theorem d_M_step_27 : decode prog_4_method_13_code 27 = .ok (.ifCond .ne 15, 3) := by decide +kernel
theorem d_M_step_30 : decode prog_4_method_13_code 30 = .ok (.aload_n 0, 1) := by decide +kernel
theorem d_M_step_31 : decode prog_4_method_13_code 31 = .ok (.dup, 1) := by decide +kernel
theorem d_M_step_32 : decode prog_4_method_13_code 32 = .ok (.getfield 45, 3) := by decide +kernel
theorem d_M_step_35 : decode prog_4_method_13_code 35 = .ok (.iconst 1, 1) := by decide +kernel
theorem d_M_step_36 : decode prog_4_method_13_code 36 = .ok (.iadd, 1) := by decide +kernel
theorem d_M_step_37 : decode prog_4_method_13_code 37 = .ok (.putfield 45, 3) := by decide +kernel
theorem d_M_step_40 : decode prog_4_method_13_code 40 = .ok (.iconst 1, 1) := by decide +kernel
theorem d_M_step_41 : decode prog_4_method_13_code 41 = .ok (.ireturn, 1) := by decide +kernel
theorem d_M_step_42 : decode prog_4_method_13_code 42 = .ok (.aload_n 0, 1) := by decide +kernel
theorem d_M_step_43 : decode prog_4_method_13_code 43 = .ok (.aload_n 1, 1) := by decide +kernel
theorem d_M_step_44 : decode prog_4_method_13_code 44 = .ok (.invokevirtual 84, 3) := by decide +kernel
theorem d_M_step_47 : decode prog_4_method_13_code 47 = .ok (.istore_n 2, 1) := by decide +kernel
theorem d_M_step_48 : decode prog_4_method_13_code 48 = .ok (.iload_n 2, 1) := by decide +kernel
theorem d_M_step_49 : decode prog_4_method_13_code 49 = .ok (.iconst (-1), 1) := by decide +kernel
theorem d_M_step_50 : decode prog_4_method_13_code 50 = .ok (.if_icmp .ne 5, 3) := by decide +kernel
theorem d_M_step_53 : decode prog_4_method_13_code 53 = .ok (.iconst 2, 1) := by decide +kernel
theorem d_M_step_54 : decode prog_4_method_13_code 54 = .ok (.ireturn, 1) := by decide +kernel
theorem d_M_step_55 : decode prog_4_method_13_code 55 = .ok (.aload_n 0, 1) := by decide +kernel
theorem d_M_step_56 : decode prog_4_method_13_code 56 = .ok (.iload_n 2, 1) := by decide +kernel
theorem d_M_step_57 : decode prog_4_method_13_code 57 = .ok (.putfield 42, 3) := by decide +kernel
theorem d_M_step_60 : decode prog_4_method_13_code 60 = .ok (.aload_n 0, 1) := by decide +kernel
theorem d_M_step_61 : decode prog_4_method_13_code 61 = .ok (.dup, 1) := by decide +kernel
theorem d_M_step_62 : decode prog_4_method_13_code 62 = .ok (.getfield 45, 3) := by decide +kernel
theorem d_M_step_65 : decode prog_4_method_13_code 65 = .ok (.iconst 1, 1) := by decide +kernel
theorem d_M_step_66 : decode prog_4_method_13_code 66 = .ok (.iadd, 1) := by decide +kernel
theorem d_M_step_67 : decode prog_4_method_13_code 67 = .ok (.putfield 45, 3) := by decide +kernel
theorem d_M_step_70 : decode prog_4_method_13_code 70 = .ok (.iconst 0, 1) := by decide +kernel
theorem d_M_step_71 : decode prog_4_method_13_code 71 = .ok (.ireturn, 1) := by decide +kernel
def I_M_step (P : Int32 → ev_M → ev_L → Prop) : List (Nat × ev_T) := [(0, tt_al 0 1),
  (1, tt_gf evLY 2 0 4),
  (4, tt_al 1 5),
  (5, tt_al 0 6),
  (6, tt_gf evLY 2 6 9),
  (9, tt_k 256 12),
  (12, tt_cV evLY 1 3 ev_b pre_I_read post_I_read 15),
  (15, tt_ifne 20 18),
  (18, tt_k 2 19),
  (19, tt_ri P),
  (20, tt_al 0 21),
  (21, tt_gf evLY 2 0 24),
  (24, tt_gf evLY 1 2 27),
  (27, tt_ifne 42 30),
  (30, tt_al 0 31),
  (31, tt_dup 32),
  (32, tt_gf evLY 2 9 35),
  (35, tt_k 1 36),
  (36, tt_iadd 37),
  (37, tt_pf evLY 2 9 40),
  (40, tt_k 1 41),
  (41, tt_ri P),
  (42, tt_al 0 43),
  (43, tt_al 1 44),
  (44, tt_cV evLY 2 1 ev_i pre_M_perform post_M_perform 47),
  (47, tt_is 2 48),
  (48, tt_il 2 49),
  (49, tt_k (-1) 50),
  (50, tt_icne 55 53),
  (53, tt_k 2 54),
  (54, tt_ri P),
  (55, tt_al 0 56),
  (56, tt_il 2 57),
  (57, tt_pf evLY 2 6 60),
  (60, tt_al 0 61),
  (61, tt_dup 62),
  (62, tt_gf evLY 2 9 65),
  (65, tt_k 1 66),
  (66, tt_iadd 67),
  (67, tt_pf evLY 2 9 70),
  (70, tt_k 0 71),
  (71, tt_ri P)]
abbrev rm_M_step : Room := { frames := 5, cells := 0, slots := 0, locals := 160 }
set_option maxRecDepth 20000 in
theorem ok_M_step (l : Launch) (J : ev_K) (P : Int32 → ev_M → ev_L → Prop) (X : ev_X l rm_M_step evLY evCl ws_M_step prog_4_method_13_code 3 y_M_step.cls J) (Z : ev_Z J prog_4_method_13_code .ireturn ev_i P) : ev_oks J (I_M_step P) :=
  ⟨qq_aln X 0 rfl d_M_step_0,
  qq_gf X 2 0 rfl (fun w h => List.mem_cons_of_mem _ (inE_M w h)) (by decide) (List.mem_cons_of_mem _ mw_161) d_M_step_1,
  qq_aln X 1 rfl d_M_step_4,
  qq_aln X 0 rfl d_M_step_5,
  qq_gf X 2 6 rfl (fun w h => List.mem_cons_of_mem _ (inE_M w h)) (by decide) (List.mem_cons_of_mem _ mw_167) d_M_step_6,
  qq_sp X 256 (by decide) d_M_step_9,
  qq_cV X 1 rfl (c_I_read l) (fun hts => cwV 3 hts (evGV (mw_624) (mw_419) (mw_420) (mw_5) (mw_421)) rfl rfl rfl (by decide +kernel) ⟨Nat.le_of_ble_eq_true rfl, Nat.le_of_ble_eq_true rfl⟩) d_M_step_12,
  qq_ifne X 20 (by decide) d_M_step_15,
  qq_ic X 2 (by decide) d_M_step_18,
  qq_ri Z d_M_step_19,
  qq_aln X 0 rfl d_M_step_20,
  qq_gf X 2 0 rfl (fun w h => List.mem_cons_of_mem _ (inE_M w h)) (by decide) (List.mem_cons_of_mem _ mw_161) d_M_step_21,
  qq_gf X 1 2 rfl (fun w h => List.mem_cons_of_mem _ (inE_I w h)) (by decide) (List.mem_cons_of_mem _ mw_74) d_M_step_24,
  qq_ifne X 42 (by decide) d_M_step_27,
  qq_aln X 0 rfl d_M_step_30,
  qq_dup X d_M_step_31,
  qq_gf X 2 9 rfl (fun w h => List.mem_cons_of_mem _ (inE_M w h)) (by decide) (List.mem_cons_of_mem _ mw_170) d_M_step_32,
  qq_ic X 1 (by decide) d_M_step_35,
  qq_iadd X d_M_step_36,
  qq_pf X 2 9 rfl (fun w h => List.mem_cons_of_mem _ (inE_M w h)) (by decide) tyX2 tyX2_ok nmX2 rfl (by decide +kernel) (List.mem_cons_of_mem _ mw_170) d_M_step_37,
  qq_ic X 1 (by decide) d_M_step_40,
  qq_ri Z d_M_step_41,
  qq_aln X 0 rfl d_M_step_42,
  qq_aln X 1 rfl d_M_step_43,
  qq_cV X 2 rfl (c_M_perform l) (fun hts => cwV 1 hts (evGV (mw_625) (mw_627) (mp_17) (mw_7) (mw_628)) rfl rfl rfl (by decide +kernel) ⟨Nat.le_of_ble_eq_true rfl, Nat.le_of_ble_eq_true rfl⟩) d_M_step_44,
  qq_isn X 2 rfl (by decide) d_M_step_47,
  qq_iln X 2 rfl d_M_step_48,
  qq_ic X (-1) (by decide) d_M_step_49,
  qq_icne X 55 (by decide) d_M_step_50,
  qq_ic X 2 (by decide) d_M_step_53,
  qq_ri Z d_M_step_54,
  qq_aln X 0 rfl d_M_step_55,
  qq_iln X 2 rfl d_M_step_56,
  qq_pf X 2 6 rfl (fun w h => List.mem_cons_of_mem _ (inE_M w h)) (by decide) tyX2 tyX2_ok nmX2 rfl (by decide +kernel) (List.mem_cons_of_mem _ mw_167) d_M_step_57,
  qq_aln X 0 rfl d_M_step_60,
  qq_dup X d_M_step_61,
  qq_gf X 2 9 rfl (fun w h => List.mem_cons_of_mem _ (inE_M w h)) (by decide) (List.mem_cons_of_mem _ mw_170) d_M_step_62,
  qq_ic X 1 (by decide) d_M_step_65,
  qq_iadd X d_M_step_66,
  qq_pf X 2 9 rfl (fun w h => List.mem_cons_of_mem _ (inE_M w h)) (by decide) tyX2 tyX2_ok nmX2 rfl (by decide +kernel) (List.mem_cons_of_mem _ mw_170) d_M_step_67,
  qq_ic X 0 (by decide) d_M_step_70,
  qq_ri Z d_M_step_71, trivial⟩
def pre_M_step : List Value → ev_M → ev_L → Prop := pre_M_perform
def post_M_step : List Value → ev_M → ev_L → Int32 → ev_M → ev_L → Prop := fun as σ τ r σ' τ' => match as with
  | [_, .ref q] => (r, mvC σ' τ') = ms_step (σ (q + 1)) (sp_trap (σ (q + 2))) (mvC σ τ) ∧ frC σ σ' τ τ'
  | _ => False
set_option maxHeartbeats 4000000 in
set_option maxRecDepth 100000 in
theorem c_M_step (l : Launch) : ev_C ev_i l y_M_step ws_M_step rm_M_step evLY evCl pre_M_step post_M_step := by
  refine ev_meth0 (by decide) rfl ev_rop_i ?_ I_M_step (ok_M_step l) 60 ?_
  · rintro _ σ τ ⟨q, rfl, hq⟩
    exact Nat.le_of_ble_eq_true rfl
  · rintro _ σ τ ⟨q, rfl, hq, h0, h8, hs⟩
    rcases hq with rfl | rfl
    all_goals
      refine ⟨⟨_, _, _, _, rfl, by decide⟩, ?_⟩
      rintro _ σ1 τ1 ⟨rfl, ⟨rfl, hok, rfl⟩ | ⟨rfl, hok, hσ⟩⟩
      · refine br_n (fun _ => ?_) (fun g => absurd g (by decide))
        refine br_n (fun hk => ?_) (fun hk => ?_)
        · refine ⟨⟨_, rfl, by decide, h0, h8, hs⟩, ?_⟩
          rintro _ σ2 τ2 ⟨rfl, hv, hf⟩
          refine br_n (fun hn => ?_) (fun hn => ?_)
          · refine ⟨?_, frC_tr (frC_tr ⟨fun k hk => ?_, fun _ _ => rfl⟩ hf) (frC_tr (frC_u _ _ _ (by decide)) (frC_u _ _ _ (by decide)))⟩
            · refine Eq.trans ?_ ((if_pos hok).trans ((if_neg hk).trans (if_neg hn))).symm
              refine Prod.ext rfl ?_
              show ms_go (mvC σ2 τ2) _ = _
              rw [hv]
              rfl
            · have h24 : ¬ k = 24 := by omega
              simp [sp_rd2, sp_rd1, ev_u, ev_p, h24]
          · refine ⟨?_, frC_tr ⟨fun k hk => ?_, fun _ _ => rfl⟩ hf⟩
            · refine Eq.trans ?_ ((if_pos hok).trans ((if_neg hk).trans (if_pos hn))).symm
              exact Prod.ext rfl hv
            · have h24 : ¬ k = 24 := by omega
              simp [sp_rd2, sp_rd1, ev_u, ev_p, h24]
        · refine ⟨?_, frC_tr ⟨fun k hk => ?_, fun _ _ => rfl⟩ (frC_u _ _ _ (by decide))⟩
          · exact ((if_pos hok).trans (if_pos hk)).symm
          · have h24 : ¬ k = 24 := by omega
            simp [sp_rd2, sp_rd1, ev_u, ev_p, h24]
      · refine br_n (fun g => absurd rfl g) (fun _ => ?_)
        rcases hσ with rfl | rfl
        · exact ⟨(if_neg hok).symm, frC_rf _ _⟩
        · refine ⟨(if_neg hok).symm, fun k hk => ?_, fun _ _ => rfl⟩
          have h24 : ¬ k = 24 := by omega
          simp [sp_rd1, ev_u, ev_p, h24]
end
section
/-! runs of steps -/
def ms_run (f : Nat → Int32) (tr : Int32 → Int32) (w : mst → mst) : Nat → mst → Int32 × mst
  | 0, x => (0, x)
  | n + 1, x => if (ms_step f tr (w x)).1 = 0 then ms_run f tr w n (ms_step f tr (w x)).2 else ms_step f tr (w x)
/-- where a machine can stand -/
def msR (x : mst) : Prop := match x with
  | (_, _, s, _, _, pc, h, sh, _) => (0 ≤ pc.toInt ∧ pc.toInt ≤ 256) ∧ (0 ≤ h.toInt ∧ h.toInt ≤ 8) ∧ (0 ≤ sh.toInt ∧ sh.toInt ≤ 40) ∧ ∀ i : Nat, (i : Int) < h.toInt → 0 ≤ (s i).toInt ∧ (s i).toInt ≤ 256
def byF (f : Nat → Int32) : Prop := ∀ i : Nat, i < 256 → 0 ≤ (f i).toInt ∧ (f i).toInt < 256
def trF (tr : Int32 → Int32) : Prop := ∀ a : Int32, tr a = -1 ∨ (0 ≤ (tr a).toInt ∧ (tr a).toInt ≤ 256)
theorem i_cl {x : Int32} (h : 0 ≤ x.toInt) : (x.toNatClampNeg : Int) = x.toInt := by
  show ((x.toInt.toNat : Nat) : Int) = x.toInt
  omega
theorem sp_at_by {f : Nat → Int32} (hf : byF f) (a : Int32) : 0 ≤ (sp_at f a).toInt ∧ (sp_at f a).toInt < 256 := by
  unfold sp_at
  split
  · rename_i h
    rw [Int32.le_iff_toInt_le, Int32.lt_iff_toInt_lt] at h
    have h0 : (0 : Int32).toInt = 0 := rfl
    have h1 : (256 : Int32).toInt = 256 := rfl
    have h2 := i_cl (x := a) (by omega)
    exact hf _ (by omega)
  · decide
theorem sp_len_3 (k : Int32) : (sp_len k).toInt = 1 ∨ (sp_len k).toInt = 2 ∨ (sp_len k).toInt = 3 := by
  unfold sp_len
  split
  · exact Or.inl rfl
  · split
    · exact Or.inr (Or.inr rfl)
    · exact Or.inr (Or.inl rfl)
theorem i_add {x y : Int32} (h1 : -1000000000 ≤ x.toInt) (h2 : x.toInt ≤ 1000000000) (h3 : -1000000000 ≤ y.toInt) (h4 : y.toInt ≤ 1000000000) : (x + y).toInt = x.toInt + y.toInt := by
  rw [Int32.toInt_add]
  exact Int.bmod_eq_of_le (by omega) (by omega)
theorem i_sub {x y : Int32} (h1 : -1000000000 ≤ x.toInt) (h2 : x.toInt ≤ 1000000000) (h3 : -1000000000 ≤ y.toInt) (h4 : y.toInt ≤ 1000000000) : (x - y).toInt = x.toInt - y.toInt := by
  rw [Int32.toInt_sub]
  exact Int.bmod_eq_of_le (by omega) (by omega)
theorem sp_br_R (t : Int32) : sp_br t = -1 ∨ (0 ≤ (sp_br t).toInt ∧ (sp_br t).toInt ≤ 256) := by
  unfold sp_br
  split
  · rename_i h
    rw [Int32.le_iff_toInt_le, Int32.lt_iff_toInt_lt] at h
    have h0 : (0 : Int32).toInt = 0 := rfl
    have h1 : (256 : Int32).toInt = 256 := rfl
    exact Or.inr (by omega)
  · exact Or.inl rfl
theorem ms_calc_sh (kd op n : Int32) (r c s o : Nat → Int32) (t : Nat → Int64) (pc h sh dn : Int32) : ∃ r' c' t', ms_calc kd op n (r, c, s, o, t, pc, h, sh, dn) = (r', c', s, o, t', pc, h, sh, dn) := by
  simp only [ms_calc]
  repeat' split
  all_goals exact ⟨_, _, _, rfl⟩
theorem ms_perf_R {f : Nat → Int32} {tr : Int32 → Int32} (hf : byF f) (ht : trF tr) {kd op n m bh : Int32} (hb : 0 ≤ bh.toInt ∧ bh.toInt ≤ 256) (hn : 0 ≤ n.toInt ∧ n.toInt < 256) (hm : 0 ≤ m.toInt ∧ m.toInt < 256) {x : mst} (hx : msR x) :
    ((ms_perf f tr kd op n m bh x).1 = -1 ∨ (0 ≤ (ms_perf f tr kd op n m bh x).1.toInt ∧ (ms_perf f tr kd op n m bh x).1.toInt ≤ 256)) ∧ msR (ms_perf f tr kd op n m bh x).2 := by
  obtain ⟨r, c, s, o, t, pc, h, sh, dn⟩ := x
  obtain ⟨hpc, hh, hsh, hst⟩ := hx
  have h0 : (0 : Int32).toInt = 0 := rfl
  have h1 : (1 : Int32).toInt = 1 := rfl
  have h8 : (8 : Int32).toInt = 8 := rfl
  have h40 : (40 : Int32).toInt = 40 := rfl
  have push : ∀ z : Int32, (0 ≤ z.toInt ∧ z.toInt ≤ 256) → h < 8 → msR (r, c, upd s h.toNatClampNeg z, o, t, pc, h + 1, sh, dn) := by
    intro z hz h7
    rw [Int32.lt_iff_toInt_lt, h8] at h7
    have e1 : (h + 1).toInt = h.toInt + 1 := by rw [i_add (by omega) (by omega) (by omega) (by omega), h1]
    refine ⟨hpc, by rw [e1]; omega, hsh, fun i hi => ?_⟩
    rw [e1] at hi
    unfold upd
    by_cases hi2 : i = h.toNatClampNeg
    · rw [if_pos hi2]; exact hz
    · rw [if_neg hi2]
      have := i_cl (x := h) (by omega)
      exact hst i (by omega)
  suffices key : ∀ y : Int32 × mst, y = ms_perf f tr kd op n m bh (r, c, s, o, t, pc, h, sh, dn) → (y.1 = -1 ∨ (0 ≤ y.1.toInt ∧ y.1.toInt ≤ 256)) ∧ msR y.2 from key _ rfl
  intro y hy
  by_cases k2 : kd = 2
  · have hy := hy.trans (if_pos k2)
    subst hy; exact ⟨ht pc, hpc, hh, hsh, hst⟩
  by_cases k3 : kd = 3
  · have hy := hy.trans ((if_neg k2).trans (if_pos k3))
    by_cases h7 : 0 < h
    · have hy := hy.trans (if_pos h7)
      rw [Int32.lt_iff_toInt_lt, h0] at h7
      have e1 : (h - 1).toInt = h.toInt - 1 := by rw [i_sub (by omega) (by omega) (by omega) (by omega), h1]
      have e2 := i_cl (x := h - 1) (by omega)
      subst hy
      exact ⟨Or.inr (hst _ (by omega)), hpc, by rw [e1]; omega, hsh, fun i hi => hst i (by rw [e1] at hi; omega)⟩
    · have hy := hy.trans (if_neg h7)
      subst hy; exact ⟨Or.inl rfl, hpc, hh, hsh, hst⟩
  by_cases k12 : kd = 12
  · have hy := hy.trans ((if_neg k2).trans ((if_neg k3).trans (if_pos k12)))
    by_cases h7 : sh < 40
    · have hy := hy.trans (if_pos h7)
      rw [Int32.lt_iff_toInt_lt, h40] at h7
      have e1 : (sh + 1).toInt = sh.toInt + 1 := by rw [i_add (by omega) (by omega) (by omega) (by omega), h1]
      subst hy
      exact ⟨Or.inr hb, hpc, hh, by rw [e1]; omega, hst⟩
    · have hy := hy.trans (if_neg h7)
      subst hy; exact ⟨Or.inl rfl, hpc, hh, hsh, hst⟩
  by_cases k60 : kd = 60
  · have hy := hy.trans ((if_neg k2).trans ((if_neg k3).trans ((if_neg k12).trans (if_pos k60))))
    subst hy
    refine ⟨?_, hpc, hh, hsh, hst⟩
    by_cases h7 : r (sp_reg kd op).toNatClampNeg = 0
    · rw [show ((if r (sp_reg kd op).toNatClampNeg = 0 then sp_br (bh + n.toInt8.toInt32) else bh, (r, c, s, o, t, pc, h, sh, dn)) : Int32 × mst).1 = sp_br (bh + n.toInt8.toInt32) from if_pos h7]
      exact sp_br_R _
    · rw [show ((if r (sp_reg kd op).toNatClampNeg = 0 then sp_br (bh + n.toInt8.toInt32) else bh, (r, c, s, o, t, pc, h, sh, dn)) : Int32 × mst).1 = bh from if_neg h7]
      exact Or.inr hb
  by_cases k64 : kd = 64
  · have hy := hy.trans ((if_neg k2).trans ((if_neg k3).trans ((if_neg k12).trans ((if_neg k60).trans (if_pos k64)))))
    subst hy
    refine ⟨?_, hpc, hh, hsh, hst⟩
    by_cases h7 : r (sp_reg kd op).toNatClampNeg < 0
    · rw [show ((if r (sp_reg kd op).toNatClampNeg < 0 then sp_br (bh + n.toInt8.toInt32) else bh, (r, c, s, o, t, pc, h, sh, dn)) : Int32 × mst).1 = sp_br (bh + n.toInt8.toInt32) from if_pos h7]
      exact sp_br_R _
    · rw [show ((if r (sp_reg kd op).toNatClampNeg < 0 then sp_br (bh + n.toInt8.toInt32) else bh, (r, c, s, o, t, pc, h, sh, dn)) : Int32 × mst).1 = bh from if_neg h7]
      exact Or.inr hb
  by_cases k68 : kd = 68
  · have hy := hy.trans ((if_neg k2).trans ((if_neg k3).trans ((if_neg k12).trans ((if_neg k60).trans ((if_neg k64).trans (if_pos k68))))))
    subst hy; exact ⟨sp_br_R _, hpc, hh, hsh, hst⟩
  by_cases k69 : kd = 69
  · have hy := hy.trans ((if_neg k2).trans ((if_neg k3).trans ((if_neg k12).trans ((if_neg k60).trans ((if_neg k64).trans ((if_neg k68).trans (if_pos k69)))))))
    subst hy; exact ⟨Or.inr (by show 0 ≤ n.toInt ∧ n.toInt ≤ 256; omega), hpc, hh, hsh, hst⟩
  by_cases k70 : kd = 70
  · have hy := hy.trans ((if_neg k2).trans ((if_neg k3).trans ((if_neg k12).trans ((if_neg k60).trans ((if_neg k64).trans ((if_neg k68).trans ((if_neg k69).trans (if_pos k70))))))))
    by_cases h7 : h < 8
    · have hy := hy.trans (if_pos h7)
      subst hy
      exact ⟨Or.inr (by show 0 ≤ n.toInt ∧ n.toInt ≤ 256; omega), push bh hb h7⟩
    · have hy := hy.trans (if_neg h7)
      subst hy; exact ⟨Or.inl rfl, hpc, hh, hsh, hst⟩
  by_cases k72 : kd = 72
  · have hy := hy.trans ((if_neg k2).trans ((if_neg k3).trans ((if_neg k12).trans ((if_neg k60).trans ((if_neg k64).trans ((if_neg k68).trans ((if_neg k69).trans ((if_neg k70).trans (if_pos k72)))))))))
    subst hy
    refine ⟨?_, hpc, hh, hsh, hst⟩
    show sp_look f n m (r (sp_reg kd op).toNatClampNeg) = -1 ∨ (0 ≤ (sp_look f n m (r (sp_reg kd op).toNatClampNeg)).toInt ∧ (sp_look f n m (r (sp_reg kd op).toNatClampNeg)).toInt ≤ 256)
    unfold sp_look
    split
    · exact Or.inl rfl
    · split
      · exact Or.inr (by have := sp_at_by hf (n + sp_fm (r (sp_reg kd op).toNatClampNeg) m); omega)
      · exact Or.inl rfl
  by_cases k77 : kd = 77
  · have hy := hy.trans ((if_neg k2).trans ((if_neg k3).trans ((if_neg k12).trans ((if_neg k60).trans ((if_neg k64).trans ((if_neg k68).trans ((if_neg k69).trans ((if_neg k70).trans ((if_neg k72).trans (if_pos k77))))))))))
    by_cases h7 : h < 8
    · have hy := hy.trans (if_pos h7)
      subst hy
      exact ⟨Or.inr (by show 0 ≤ n.toInt ∧ n.toInt ≤ 256; omega), push m (by omega) h7⟩
    · have hy := hy.trans (if_neg h7)
      subst hy; exact ⟨Or.inl rfl, hpc, hh, hsh, hst⟩
  have hy := hy.trans ((if_neg k2).trans ((if_neg k3).trans ((if_neg k12).trans ((if_neg k60).trans ((if_neg k64).trans ((if_neg k68).trans ((if_neg k69).trans ((if_neg k70).trans ((if_neg k72).trans (if_neg k77))))))))))
  obtain ⟨r', c', t', e⟩ := ms_calc_sh kd op n r c s o t pc h sh dn
  rw [e] at hy
  subst hy
  exact ⟨Or.inr hb, hpc, hh, hsh, hst⟩
theorem ms_go_R {y : mst} {nx : Int32} (h : msR y) (hn : 0 ≤ nx.toInt ∧ nx.toInt ≤ 256) : msR (ms_go y nx) := by
  obtain ⟨r, c, s, o, t, pc, h9, sh, dn⟩ := y
  exact ⟨hn, h.2⟩
theorem ms_1_R {y : mst} (h : msR y) : msR (ms_1 y) := by
  obtain ⟨r, c, s, o, t, pc, h9, sh, dn⟩ := y
  exact h
theorem ms_pc_R {y : mst} (h : msR y) : 0 ≤ (ms_pc y).toInt ∧ (ms_pc y).toInt ≤ 256 := by
  obtain ⟨r, c, s, o, t, pc, h9, sh, dn⟩ := y
  exact h.1
theorem ms_step_R {f : Nat → Int32} {tr : Int32 → Int32} (hf : byF f) (ht : trF tr) {x : mst} (hx : msR x) : msR (ms_step f tr x).2 := by
  suffices key : ∀ y : Int32 × mst, y = ms_step f tr x → msR y.2 from key _ rfl
  intro y hy
  unfold ms_step at hy
  have hpc := ms_pc_R hx
  have hl := sp_len_3 (sp_kind (sp_at f (ms_pc x)))
  have e1 : (ms_pc x + sp_len (sp_kind (sp_at f (ms_pc x)))).toInt = (ms_pc x).toInt + (sp_len (sp_kind (sp_at f (ms_pc x)))).toInt := i_add (by omega) (by omega) (by omega) (by omega)
  split at hy
  · rename_i hok
    have hb : 0 ≤ (ms_pc x + sp_len (sp_kind (sp_at f (ms_pc x)))).toInt ∧ (ms_pc x + sp_len (sp_kind (sp_at f (ms_pc x)))).toInt ≤ 256 := by
      have h4 := hok.2.2.2
      rw [Int32.le_iff_toInt_le] at h4
      have h5 : (256 : Int32).toInt = 256 := rfl
      omega
    have hP := ms_perf_R (kd := sp_kind (sp_at f (ms_pc x))) (op := sp_at f (ms_pc x)) hf ht hb (sp_at_by hf (ms_pc x + 1)) (sp_at_by hf (ms_pc x + 2)) hx
    generalize ms_perf f tr (sp_kind (sp_at f (ms_pc x))) (sp_at f (ms_pc x)) (sp_at f (ms_pc x + 1)) (sp_at f (ms_pc x + 2)) (ms_pc x + sp_len (sp_kind (sp_at f (ms_pc x)))) x = P at hy hP
    split at hy
    · subst hy; exact ms_1_R hx
    · split at hy
      · subst hy; exact hP.2
      · rename_i hn
        subst hy
        exact ms_go_R hP.2 (hP.1.resolve_left hn)
  · subst hy; exact hx
/-- the start of a run -/
def ms_begin (d : Nat → Int32) (x : mst) : mst := match x with
  | (r, c, s, o, t, _, _, _, _) => (sp_fill r 4 0, va_cpy d c 0 0 16, s, o, sp_fill t 64 0, 0, 0, 0, 0)
theorem ms_begin_R (d : Nat → Int32) (x : mst) : msR (ms_begin d x) := by
  obtain ⟨r, c, s, o, t, pc, h, sh, dn⟩ := x
  refine ⟨by decide, by decide, by decide, fun i hi => ?_⟩
  have : (0 : Int32).toInt = 0 := rfl
  omega
def y_M_start : MethodName := ⟨RX2, "start", "([I)V"⟩
def ws_M_start : List Cond := .code y_M_start prog_4_method_10_code 2 none :: evW
theorem d_M_start_0 : decode prog_4_method_10_code 0 = .ok (.aload_n 0, 1) := by decide +kernel
theorem d_M_start_1 : decode prog_4_method_10_code 1 = .ok (.getfield 18, 3) := by decide +kernel
theorem d_M_start_4 : decode prog_4_method_10_code 4 = .ok (.iconst 0, 1) := by decide +kernel
theorem d_M_start_5 : decode prog_4_method_10_code 5 = .ok (.invokestatic 48, 3) := by decide +kernel
theorem d_M_start_8 : decode prog_4_method_10_code 8 = .ok (.aload_n 0, 1) := by decide +kernel
theorem d_M_start_9 : decode prog_4_method_10_code 9 = .ok (.getfield 31, 3) := by decide +kernel
theorem d_M_start_12 : decode prog_4_method_10_code 12 = .ok (.lconst 0, 1) := by decide +kernel
theorem d_M_start_13 : decode prog_4_method_10_code 13 = .ok (.invokestatic 54, 3) := by decide +kernel
theorem d_M_start_16 : decode prog_4_method_10_code 16 = .ok (.aload_n 1, 1) := by decide +kernel
theorem d_M_start_17 : decode prog_4_method_10_code 17 = .ok (.iconst 0, 1) := by decide +kernel
theorem d_M_start_18 : decode prog_4_method_10_code 18 = .ok (.aload_n 0, 1) := by decide +kernel
theorem d_M_start_19 : decode prog_4_method_10_code 19 = .ok (.getfield 22, 3) := by decide +kernel
theorem d_M_start_22 : decode prog_4_method_10_code 22 = .ok (.iconst 0, 1) := by decide +kernel
theorem d_M_start_23 : decode prog_4_method_10_code 23 = .ok (.bipush 16, 2) := by decide +kernel
theorem d_M_start_25 : decode prog_4_method_10_code 25 = .ok (.invokestatic 57, 3) := by decide +kernel
theorem d_M_start_28 : decode prog_4_method_10_code 28 = .ok (.aload_n 0, 1) := by decide +kernel
theorem d_M_start_29 : decode prog_4_method_10_code 29 = .ok (.iconst 0, 1) := by decide +kernel
theorem d_M_start_30 : decode prog_4_method_10_code 30 = .ok (.putfield 42, 3) := by decide +kernel
theorem d_M_start_33 : decode prog_4_method_10_code 33 = .ok (.aload_n 0, 1) := by decide +kernel
theorem d_M_start_34 : decode prog_4_method_10_code 34 = .ok (.iconst 0, 1) := by decide +kernel
theorem d_M_start_35 : decode prog_4_method_10_code 35 = .ok (.putfield 39, 3) := by decide +kernel
theorem d_M_start_38 : decode prog_4_method_10_code 38 = .ok (.aload_n 0, 1) := by decide +kernel
theorem d_M_start_39 : decode prog_4_method_10_code 39 = .ok (.iconst 0, 1) := by decide +kernel
theorem d_M_start_40 : decode prog_4_method_10_code 40 = .ok (.putfield 35, 3) := by decide +kernel
theorem d_M_start_43 : decode prog_4_method_10_code 43 = .ok (.aload_n 0, 1) := by decide +kernel
theorem d_M_start_44 : decode prog_4_method_10_code 44 = .ok (.iconst 0, 1) := by decide +kernel
theorem d_M_start_45 : decode prog_4_method_10_code 45 = .ok (.putfield 45, 3) := by decide +kernel
theorem d_M_start_48 : decode prog_4_method_10_code 48 = .ok (.return_, 1) := by decide +kernel
def I_M_start (P : Unit → ev_M → ev_L → Prop) : List (Nat × ev_T) := [(0, tt_al 0 1),
  (1, tt_gf evLY 2 1 4),
  (4, tt_k 0 5),
  (5, tt_cS 2 ev_n pre_J_fillI post_J_fillI 8),
  (8, tt_al 0 9),
  (9, tt_gf evLY 2 5 12),
  (12, tt_lk 0 13),
  (13, tt_cS 2 ev_n pre_J_fillJ post_J_fillJ 16),
  (16, tt_al 1 17),
  (17, tt_k 0 18),
  (18, tt_al 0 19),
  (19, tt_gf evLY 2 2 22),
  (22, tt_k 0 23),
  (23, tt_k 16 25),
  (25, tt_cpy evLY 28),
  (28, tt_al 0 29),
  (29, tt_k 0 30),
  (30, tt_pf evLY 2 6 33),
  (33, tt_al 0 34),
  (34, tt_k 0 35),
  (35, tt_pf evLY 2 7 38),
  (38, tt_al 0 39),
  (39, tt_k 0 40),
  (40, tt_pf evLY 2 8 43),
  (43, tt_al 0 44),
  (44, tt_k 0 45),
  (45, tt_pf evLY 2 9 48),
  (48, tt_rv P)]
abbrev rm_M_start : Room := { frames := 1, cells := 0, slots := 0, locals := 32 }
set_option maxRecDepth 20000 in
theorem ok_M_start (l : Launch) (J : ev_K) (P : Unit → ev_M → ev_L → Prop) (X : ev_X l rm_M_start evLY evCl ws_M_start prog_4_method_10_code 2 y_M_start.cls J) (Z : ev_Z J prog_4_method_10_code .return_ ev_n P) : ev_oks J (I_M_start P) :=
  ⟨qq_aln X 0 rfl d_M_start_0,
  qq_gf X 2 1 rfl (fun w h => List.mem_cons_of_mem _ (inE_M w h)) (by decide) (List.mem_cons_of_mem _ mw_162) d_M_start_1,
  qq_ic X 0 (by decide) d_M_start_4,
  qq_cS X (c_J_fillI l) (fun hts => va_cwS 2 hts (evGS (mw_611) (mw_404) (mw_15) (mw_405)) rfl rfl rfl (by decide +kernel) ⟨Nat.le_of_ble_eq_true rfl, Nat.le_of_ble_eq_true rfl⟩) d_M_start_5,
  qq_aln X 0 rfl d_M_start_8,
  qq_gf X 2 5 rfl (fun w h => List.mem_cons_of_mem _ (inE_M w h)) (by decide) (List.mem_cons_of_mem _ mw_166) d_M_start_9,
  qq_lc X 0 (by decide) d_M_start_12,
  qq_cS X (c_J_fillJ l) (fun hts => va_cwS 2 hts (evGS (mw_612) (mw_613) (mw_15) (mw_614)) rfl rfl rfl (by decide +kernel) ⟨Nat.le_of_ble_eq_true rfl, Nat.le_of_ble_eq_true rfl⟩) d_M_start_13,
  qq_aln X 1 rfl d_M_start_16,
  qq_ic X 0 (by decide) d_M_start_17,
  qq_aln X 0 rfl d_M_start_18,
  qq_gf X 2 2 rfl (fun w h => List.mem_cons_of_mem _ (inE_M w h)) (by decide) (List.mem_cons_of_mem _ mw_163) d_M_start_19,
  qq_ic X 0 (by decide) d_M_start_22,
  qq_bp X 16 (by decide) d_M_start_23,
  qq_cpy X (List.mem_cons_of_mem _ mw_615) (List.mem_cons_of_mem _ mw_531) (List.mem_cons_of_mem _ mw_530) (List.mem_cons_of_mem _ mw_17) (by decide) (by decide) d_M_start_25,
  qq_aln X 0 rfl d_M_start_28,
  qq_ic X 0 (by decide) d_M_start_29,
  qq_pf X 2 6 rfl (fun w h => List.mem_cons_of_mem _ (inE_M w h)) (by decide) tyX2 tyX2_ok nmX2 rfl (by decide +kernel) (List.mem_cons_of_mem _ mw_167) d_M_start_30,
  qq_aln X 0 rfl d_M_start_33,
  qq_ic X 0 (by decide) d_M_start_34,
  qq_pf X 2 7 rfl (fun w h => List.mem_cons_of_mem _ (inE_M w h)) (by decide) tyX2 tyX2_ok nmX2 rfl (by decide +kernel) (List.mem_cons_of_mem _ mw_168) d_M_start_35,
  qq_aln X 0 rfl d_M_start_38,
  qq_ic X 0 (by decide) d_M_start_39,
  qq_pf X 2 8 rfl (fun w h => List.mem_cons_of_mem _ (inE_M w h)) (by decide) tyX2 tyX2_ok nmX2 rfl (by decide +kernel) (List.mem_cons_of_mem _ mw_169) d_M_start_40,
  qq_aln X 0 rfl d_M_start_43,
  qq_ic X 0 (by decide) d_M_start_44,
  qq_pf X 2 9 rfl (fun w h => List.mem_cons_of_mem _ (inE_M w h)) (by decide) tyX2 tyX2_ok nmX2 rfl (by decide +kernel) (List.mem_cons_of_mem _ mw_170) d_M_start_45,
  qq_rv Z d_M_start_48, trivial⟩
def pre_M_start : List Value → ev_M → ev_L → Prop := fun as σ τ => as = [.ref 23, .ref 7]
def post_M_start : List Value → ev_M → ev_L → Unit → ev_M → ev_L → Prop := fun as σ τ _ σ' τ' => mvC σ' τ' = ms_begin (σ 7) (mvC σ τ) ∧ frC σ σ' τ τ'
set_option maxHeartbeats 4000000 in
set_option maxRecDepth 100000 in
theorem c_M_start (l : Launch) : ev_C ev_n l y_M_start ws_M_start rm_M_start evLY evCl pre_M_start post_M_start := by
  refine ev_meth0 (by decide) rfl ev_rop_v ?_ I_M_start (ok_M_start l) 60 ?_
  · rintro _ σ τ rfl
    exact Nat.le_of_ble_eq_true rfl
  · rintro _ σ τ rfl
    refine ⟨⟨_, _, rfl, by decide⟩, ?_⟩
    rintro _ _ _ ⟨rfl, rfl⟩
    refine ⟨⟨_, rfl⟩, ?_⟩
    rintro _ _ _ ⟨rfl, rfl⟩
    refine ⟨by decide, rfl, fun k hk => ?_, fun k hk => if_neg hk⟩
    have h1 : ¬ k = 23 := by omega
    have h2 : ¬ k = 25 := by omega
    have h3 : ¬ k = 26 := by omega
    simp [ev_u, ev_p, h1, h2, h3]
def y_M_execute : MethodName := ⟨RX2, "execute", "(LBlockCounter$Program;I)I"⟩
def ws_M_execute : List Cond := .code y_M_execute prog_4_method_11_code 5 (some .int) :: evW
theorem d_M_execute_0 : decode prog_4_method_11_code 0 = .ok (.iconst 0, 1) := by decide +kernel
theorem d_M_execute_1 : decode prog_4_method_11_code 1 = .ok (.istore_n 3, 1) := by decide +kernel
theorem d_M_execute_2 : decode prog_4_method_11_code 2 = .ok (.iconst 0, 1) := by decide +kernel
theorem d_M_execute_3 : decode prog_4_method_11_code 3 = .ok (.istore 4, 2) := by decide +kernel
theorem d_M_execute_5 : decode prog_4_method_11_code 5 = .ok (.iload 4, 2) := by decide +kernel
theorem d_M_execute_7 : decode prog_4_method_11_code 7 = .ok (.iload_n 2, 1) := by decide +kernel
theorem d_M_execute_8 : decode prog_4_method_11_code 8 = .ok (.if_icmp .ge 19, 3) := by decide +kernel
theorem d_M_execute_11 : decode prog_4_method_11_code 11 = .ok (.iload_n 3, 1) := by decide +kernel
theorem d_M_execute_12 : decode prog_4_method_11_code 12 = .ok (.ifCond .ne 15, 3) := by decide +kernel
theorem d_M_execute_15 : decode prog_4_method_11_code 15 = .ok (.aload_n 0, 1) := by decide +kernel
theorem d_M_execute_16 : decode prog_4_method_11_code 16 = .ok (.aload_n 1, 1) := by decide +kernel
theorem d_M_execute_17 : decode prog_4_method_11_code 17 = .ok (.invokevirtual 63, 3) := by decide +kernel
theorem d_M_execute_20 : decode prog_4_method_11_code 20 = .ok (.istore_n 3, 1) := by decide +kernel
theorem d_M_execute_21 : decode prog_4_method_11_code 21 = .ok (.iinc 4 1, 3) := by decide +kernel
theorem d_M_execute_24 : decode prog_4_method_11_code 24 = .ok (.goto (-19), 3) := by decide +kernel
theorem d_M_execute_27 : decode prog_4_method_11_code 27 = .ok (.iload_n 3, 1) := by decide +kernel
theorem d_M_execute_28 : decode prog_4_method_11_code 28 = .ok (.ireturn, 1) := by decide +kernel
def I_M_execute (P : Int32 → ev_M → ev_L → Prop) : List (Nat × ev_T) := [(0, tt_k 0 1),
  (1, tt_is 3 2),
  (2, tt_k 0 3),
  (3, tt_is 4 5),
  (5, tt_il 4 7),
  (7, tt_il 2 8),
  (8, tt_icge 27 11),
  (11, tt_il 3 12),
  (12, tt_ifne 27 15),
  (15, tt_al 0 16),
  (16, tt_al 1 17),
  (17, tt_cV evLY 2 1 ev_i pre_M_step post_M_step 20),
  (20, tt_is 3 21),
  (21, tt_ii 4 1 24),
  (24, tt_go 5),
  (27, tt_il 3 28),
  (28, tt_ri P)]
abbrev rm_M_execute : Room := { frames := 6, cells := 0, slots := 0, locals := 192 }
set_option maxRecDepth 20000 in
theorem ok_M_execute (l : Launch) (J : ev_K) (P : Int32 → ev_M → ev_L → Prop) (X : ev_X l rm_M_execute evLY evCl ws_M_execute prog_4_method_11_code 5 y_M_execute.cls J) (Z : ev_Z J prog_4_method_11_code .ireturn ev_i P) : ev_oks J (I_M_execute P) :=
  ⟨qq_ic X 0 (by decide) d_M_execute_0,
  qq_isn X 3 rfl (by decide) d_M_execute_1,
  qq_ic X 0 (by decide) d_M_execute_2,
  qq_is X 4 (by decide) d_M_execute_3,
  qq_il X 4 d_M_execute_5,
  qq_iln X 2 rfl d_M_execute_7,
  qq_icge X 27 (by decide) d_M_execute_8,
  qq_iln X 3 rfl d_M_execute_11,
  qq_ifne X 27 (by decide) d_M_execute_12,
  qq_aln X 0 rfl d_M_execute_15,
  qq_aln X 1 rfl d_M_execute_16,
  qq_cV X 2 rfl (c_M_step l) (fun hts => cwV 1 hts (evGV (mw_620) (mw_622) (mp_16) (mw_7) (mw_623)) rfl rfl rfl (by decide +kernel) ⟨Nat.le_of_ble_eq_true rfl, Nat.le_of_ble_eq_true rfl⟩) d_M_execute_17,
  qq_isn X 3 rfl (by decide) d_M_execute_20,
  qq_ii X 4 1 (by decide) (by decide) d_M_execute_21,
  qq_go X 5 (by decide) d_M_execute_24,
  qq_iln X 3 rfl d_M_execute_27,
  qq_ri Z d_M_execute_28, trivial⟩
def pre_M_execute : List Value → ev_M → ev_L → Prop := fun as σ τ => ∃ (q : Nat) (z : Nat), as = [.ref 23, .ref q, .int (nI z)] ∧ (q = 1 ∨ q = 20) ∧ z ≤ 3000 ∧ byF (σ (q + 1)) ∧ trF (sp_trap (σ (q + 2))) ∧ msR (mvC σ τ)
def post_M_execute : List Value → ev_M → ev_L → Int32 → ev_M → ev_L → Prop := fun as σ τ r σ' τ' => match as with
  | [_, .ref q, .int z] => (r, mvC σ' τ') = ms_run (σ (q + 1)) (sp_trap (σ (q + 2))) (fun x => x) z.toNatClampNeg (mvC σ τ) ∧ frC σ σ' τ τ'
  | _ => False
set_option maxHeartbeats 4000000 in
set_option maxRecDepth 100000 in
theorem c_M_execute (l : Launch) : ev_C ev_i l y_M_execute ws_M_execute rm_M_execute evLY evCl pre_M_execute post_M_execute := by
  refine ev_methL (by decide) rfl ev_rop_i ?_ I_M_execute (ok_M_execute l) [5] 40 ?_
  · rintro _ σ τ ⟨q, z, rfl, h⟩
    exact Nat.le_of_ble_eq_true rfl
  · rintro _ σ τ ⟨q, z, rfl, hq, hz, hf, ht, hR⟩
    refine ⟨fun μ pc lv st σ' τ' n => st = [] ∧ n = 0 ∧ ((pc = 0 ∧ μ = 5000 ∧ lv = [.ref 23, .ref q, .int (nI z), .null, .null] ∧ σ' = σ ∧ τ' = τ) ∨ (pc = 5 ∧ ∃ (i : Nat) (o : Int32), i ≤ z ∧ μ = z - i ∧ lv = [.ref 23, .ref q, .int (nI z), .int o, .int (nI i)] ∧ frC σ σ' τ τ' ∧ msR (mvC σ' τ') ∧ ((o = 0 ∧ ms_run (σ (q + 1)) (sp_trap (σ (q + 2))) (fun x => x) (z - i) (mvC σ' τ') = ms_run (σ (q + 1)) (sp_trap (σ (q + 2))) (fun x => x) z (mvC σ τ)) ∨ (¬ o = 0 ∧ (o, mvC σ' τ') = ms_run (σ (q + 1)) (sp_trap (σ (q + 2))) (fun x => x) z (mvC σ τ))))), ⟨5000, rfl, rfl, Or.inl ⟨rfl, rfl, rfl, rfl, rfl⟩⟩, ?_⟩
    rintro μ pc lv st σ' τ' n ⟨rfl, rfl, ⟨rfl, rfl, rfl, rfl, rfl⟩ | ⟨rfl, i, o, hi, rfl, rfl, hfr, hR', hres⟩⟩
    · exact ⟨z, by omega, rfl, rfl, Or.inr ⟨rfl, 0, 0, Nat.zero_le _, rfl, rfl, frC_rf _ _, hR, Or.inl ⟨rfl, rfl⟩⟩⟩
    · have hcl : (nI z).toNatClampNeg = z := nI_clamp (by omega)
      refine br_c (fun h => ?_) (fun h => br_n (fun h2 => ?_) (fun h2 => ?_))
      · have hiz : z ≤ i := (nI_leI (by omega) (by omega)).mp h
        have e0 : z - i = 0 := by omega
        refine ⟨?_, hfr⟩
        rw [hcl]
        rcases hres with ⟨rfl, h3⟩ | ⟨_, h3⟩
        · rw [← h3, e0]; rfl
        · exact h3
      · refine ⟨?_, hfr⟩
        rw [hcl]
        rcases hres with ⟨h3, _⟩ | ⟨_, h3⟩
        · exact absurd h3 h2
        · exact h3
      · have hiz : i < z := Nat.not_le.mp fun q => h ((nI_leI (by omega) (by omega)).mpr q)
        have hres2 := (hres.resolve_right (fun w => w.1 h2)).2
        have e1 : z - i = (z - (i + 1)) + 1 := by omega
        have hcr : 0 ≤ σ' 23 7 ∧ (σ' 23 7).toInt ≤ 8 ∧ 0 ≤ σ' 23 8 := by
          have h3 := hR'.2.1
          have h4 := hR'.2.2.1
          exact ⟨Int32.le_iff_toInt_le.mpr h3.1, h3.2, Int32.le_iff_toInt_le.mpr h4.1⟩
        have eq1 : σ' (q + 1) = σ (q + 1) := hfr.1 _ (by rcases hq with rfl | rfl <;> omega)
        have eq2 : σ' (q + 2) = σ (q + 2) := hfr.1 _ (by rcases hq with rfl | rfl <;> omega)
        refine ⟨⟨q, rfl, hq, hcr⟩, ?_⟩
        rintro r σ2 τ2 ⟨hs, hf2⟩
        rw [eq1, eq2] at hs
        have hs1 : (ms_step (σ (q + 1)) (sp_trap (σ (q + 2))) (mvC σ' τ')).1 = r := by rw [← hs]
        have hs2 : (ms_step (σ (q + 1)) (sp_trap (σ (q + 2))) (mvC σ' τ')).2 = mvC σ2 τ2 := by rw [← hs]
        refine ⟨z - (i + 1), by omega, rfl, rfl, Or.inr ⟨rfl, i + 1, r, by omega, rfl, by rw [← nI_1], frC_tr hfr hf2, by rw [← hs2]; exact ms_step_R hf ht hR', ?_⟩⟩
        rw [e1] at hres2
        rw [← hres2]
        by_cases hr0 : r = 0
        · refine Or.inl ⟨hr0, ?_⟩
          show _ = ite _ _ _
          rw [if_pos (by rw [hs1]; exact hr0), hs2]
        · refine Or.inr ⟨hr0, ?_⟩
          show _ = ite _ _ _
          rw [if_neg (by rw [hs1]; exact hr0)]
          exact hs
end
section
/-! Machine.executeWatched -/
def ms_cnt (k : Int32) (x : mst) : mst := match x with
  | (r, c, s, o, t, pc, h, sh, dn) => (r, c, s, o, vp_updL t (k &&& 63).toNatClampNeg (t (k &&& 63).toNatClampNeg + 1), pc, h, sh, dn)
/-- a head is counted as its turn comes -/
def ms_w (c : Int32) (f g : Nat → Int32) (x : mst) : mst := if sp_nhd c f g (ms_pc x) = -1 then x else ms_cnt (sp_nhd c f g (ms_pc x)) x
theorem ms_cnt_R {k : Int32} {x : mst} (h : msR x) : msR (ms_cnt k x) := by
  obtain ⟨r, c, s, o, t, pc, h9, sh, dn⟩ := x
  exact h
theorem ms_w_R {c : Int32} {f g : Nat → Int32} {x : mst} (h : msR x) : msR (ms_w c f g x) := by
  unfold ms_w
  split
  · exact h
  · exact ms_cnt_R h
def y_M_executeWatched : MethodName := ⟨RX2, "executeWatched", "(LBlockCounter$Program;ILBlockCounter$Analysis;)I"⟩
def ws_M_executeWatched : List Cond := .code y_M_executeWatched prog_4_method_12_code 7 (some .int) :: evW
theorem d_M_executeWatched_0 : decode prog_4_method_12_code 0 = .ok (.iconst 0, 1) := by decide +kernel
theorem d_M_executeWatched_1 : decode prog_4_method_12_code 1 = .ok (.istore 4, 2) := by decide +kernel
theorem d_M_executeWatched_3 : decode prog_4_method_12_code 3 = .ok (.iconst 0, 1) := by decide +kernel
theorem d_M_executeWatched_4 : decode prog_4_method_12_code 4 = .ok (.istore 5, 2) := by decide +kernel
theorem d_M_executeWatched_6 : decode prog_4_method_12_code 6 = .ok (.iload 5, 2) := by decide +kernel
theorem d_M_executeWatched_8 : decode prog_4_method_12_code 8 = .ok (.iload_n 2, 1) := by decide +kernel
theorem d_M_executeWatched_9 : decode prog_4_method_12_code 9 = .ok (.if_icmp .ge 43, 3) := by decide +kernel
theorem d_M_executeWatched_12 : decode prog_4_method_12_code 12 = .ok (.iload 4, 2) := by decide +kernel
theorem d_M_executeWatched_14 : decode prog_4_method_12_code 14 = .ok (.ifCond .ne 38, 3) := by decide +kernel
theorem d_M_executeWatched_17 : decode prog_4_method_12_code 17 = .ok (.aload_n 3, 1) := by decide +kernel
theorem d_M_executeWatched_18 : decode prog_4_method_12_code 18 = .ok (.aload_n 0, 1) := by decide +kernel
theorem d_M_executeWatched_19 : decode prog_4_method_12_code 19 = .ok (.getfield 42, 3) := by decide +kernel
theorem d_M_executeWatched_22 : decode prog_4_method_12_code 22 = .ok (.invokevirtual 67, 3) := by decide +kernel
theorem d_M_executeWatched_25 : decode prog_4_method_12_code 25 = .ok (.istore 6, 2) := by decide +kernel
theorem d_M_executeWatched_27 : decode prog_4_method_12_code 27 = .ok (.iload 6, 2) := by decide +kernel
theorem d_M_executeWatched_29 : decode prog_4_method_12_code 29 = .ok (.iconst (-1), 1) := by decide +kernel
theorem d_M_executeWatched_30 : decode prog_4_method_12_code 30 = .ok (.if_icmp .eq 9, 3) := by decide +kernel
theorem d_M_executeWatched_33 : decode prog_4_method_12_code 33 = .ok (.aload_n 0, 1) := by decide +kernel
theorem d_M_executeWatched_34 : decode prog_4_method_12_code 34 = .ok (.iload 6, 2) := by decide +kernel
theorem d_M_executeWatched_36 : decode prog_4_method_12_code 36 = .ok (.invokevirtual 73, 3) := by decide +kernel
theorem d_M_executeWatched_39 : decode prog_4_method_12_code 39 = .ok (.aload_n 0, 1) := by decide +kernel
theorem d_M_executeWatched_40 : decode prog_4_method_12_code 40 = .ok (.aload_n 1, 1) := by decide +kernel
theorem d_M_executeWatched_41 : decode prog_4_method_12_code 41 = .ok (.invokevirtual 63, 3) := by decide +kernel
theorem d_M_executeWatched_44 : decode prog_4_method_12_code 44 = .ok (.istore 4, 2) := by decide +kernel
theorem d_M_executeWatched_46 : decode prog_4_method_12_code 46 = .ok (.iinc 5 1, 3) := by decide +kernel
theorem d_M_executeWatched_49 : decode prog_4_method_12_code 49 = .ok (.goto (-43), 3) := by decide +kernel
theorem d_M_executeWatched_52 : decode prog_4_method_12_code 52 = .ok (.iload 4, 2) := by decide +kernel
theorem d_M_executeWatched_54 : decode prog_4_method_12_code 54 = .ok (.ireturn, 1) := by decide +kernel
def I_M_executeWatched (P : Int32 → ev_M → ev_L → Prop) : List (Nat × ev_T) := [(0, tt_k 0 1),
  (1, tt_is 4 3),
  (3, tt_k 0 4),
  (4, tt_is 5 6),
  (6, tt_il 5 8),
  (8, tt_il 2 9),
  (9, tt_icge 52 12),
  (12, tt_il 4 14),
  (14, tt_ifne 52 17),
  (17, tt_al 3 18),
  (18, tt_al 0 19),
  (19, tt_gf evLY 2 6 22),
  (22, tt_cV evLY 0 1 ev_i pre_A_numberOfHead post_A_numberOfHead 25),
  (25, tt_is 6 27),
  (27, tt_il 6 29),
  (29, tt_k (-1) 30),
  (30, tt_iceq 39 33),
  (33, tt_al 0 34),
  (34, tt_il 6 36),
  (36, tt_cV evLY 2 1 ev_n pre_M_grow post_M_grow 39),
  (39, tt_al 0 40),
  (40, tt_al 1 41),
  (41, tt_cV evLY 2 1 ev_i pre_M_step post_M_step 44),
  (44, tt_is 4 46),
  (46, tt_ii 5 1 49),
  (49, tt_go 6),
  (52, tt_il 4 54),
  (54, tt_ri P)]
abbrev rm_M_executeWatched : Room := { frames := 6, cells := 0, slots := 0, locals := 192 }
set_option maxRecDepth 20000 in
theorem ok_M_executeWatched (l : Launch) (J : ev_K) (P : Int32 → ev_M → ev_L → Prop) (X : ev_X l rm_M_executeWatched evLY evCl ws_M_executeWatched prog_4_method_12_code 7 y_M_executeWatched.cls J) (Z : ev_Z J prog_4_method_12_code .ireturn ev_i P) : ev_oks J (I_M_executeWatched P) :=
  ⟨qq_ic X 0 (by decide) d_M_executeWatched_0,
  qq_is X 4 (by decide) d_M_executeWatched_1,
  qq_ic X 0 (by decide) d_M_executeWatched_3,
  qq_is X 5 (by decide) d_M_executeWatched_4,
  qq_il X 5 d_M_executeWatched_6,
  qq_iln X 2 rfl d_M_executeWatched_8,
  qq_icge X 52 (by decide) d_M_executeWatched_9,
  qq_il X 4 d_M_executeWatched_12,
  qq_ifne X 52 (by decide) d_M_executeWatched_14,
  qq_aln X 3 rfl d_M_executeWatched_17,
  qq_aln X 0 rfl d_M_executeWatched_18,
  qq_gf X 2 6 rfl (fun w h => List.mem_cons_of_mem _ (inE_M w h)) (by decide) (List.mem_cons_of_mem _ mw_167) d_M_executeWatched_19,
  qq_cV X 0 rfl (c_A_numberOfHead l) (fun hts => cwV 1 hts (evGV (mw_683) (mw_684) (mw_685) (mw_4) (mw_686)) rfl rfl rfl (by decide +kernel) ⟨Nat.le_of_ble_eq_true rfl, Nat.le_of_ble_eq_true rfl⟩) d_M_executeWatched_22,
  qq_is X 6 (by decide) d_M_executeWatched_25,
  qq_il X 6 d_M_executeWatched_27,
  qq_ic X (-1) (by decide) d_M_executeWatched_29,
  qq_iceq X 39 (by decide) d_M_executeWatched_30,
  qq_aln X 0 rfl d_M_executeWatched_33,
  qq_il X 6 d_M_executeWatched_34,
  qq_cV X 2 rfl (c_M_grow l) (fun hts => cwV 1 hts (evGV (mw_675) (mw_677) (mp_25) (mw_7) (mw_678)) rfl rfl rfl (by decide +kernel) ⟨Nat.le_of_ble_eq_true rfl, Nat.le_of_ble_eq_true rfl⟩) d_M_executeWatched_36,
  qq_aln X 0 rfl d_M_executeWatched_39,
  qq_aln X 1 rfl d_M_executeWatched_40,
  qq_cV X 2 rfl (c_M_step l) (fun hts => cwV 1 hts (evGV (mw_620) (mw_622) (mp_16) (mw_7) (mw_623)) rfl rfl rfl (by decide +kernel) ⟨Nat.le_of_ble_eq_true rfl, Nat.le_of_ble_eq_true rfl⟩) d_M_executeWatched_41,
  qq_is X 4 (by decide) d_M_executeWatched_44,
  qq_ii X 5 1 (by decide) (by decide) d_M_executeWatched_46,
  qq_go X 6 (by decide) d_M_executeWatched_49,
  qq_il X 4 d_M_executeWatched_52,
  qq_ri Z d_M_executeWatched_54, trivial⟩
def pre_M_executeWatched : List Value → ev_M → ev_L → Prop := fun as σ τ => ∃ (z : Nat), as = [.ref 23, .ref 1, .int (nI z), .ref 8] ∧ z ≤ 3000 ∧ byF (σ 2) ∧ trF (sp_trap (σ 3)) ∧ msR (mvC σ τ) ∧ (σ 8 10).toInt ≤ 96
def post_M_executeWatched : List Value → ev_M → ev_L → Int32 → ev_M → ev_L → Prop := fun as σ τ r σ' τ' => match as with
  | [_, _, .int z, _] => (r, mvC σ' τ') = ms_run (σ 2) (sp_trap (σ 3)) (ms_w (σ 8 10) (σ 14) (σ 15)) z.toNatClampNeg (mvC σ τ) ∧ frC σ σ' τ τ'
  | _ => False
set_option maxHeartbeats 4000000 in
set_option maxRecDepth 100000 in
theorem c_M_executeWatched (l : Launch) : ev_C ev_i l y_M_executeWatched ws_M_executeWatched rm_M_executeWatched evLY evCl pre_M_executeWatched post_M_executeWatched := by
  refine ev_methL (by decide) rfl ev_rop_i ?_ I_M_executeWatched (ok_M_executeWatched l) [6] 40 ?_
  · rintro _ σ τ ⟨z, rfl, h⟩
    exact Nat.le_of_ble_eq_true rfl
  · rintro _ σ τ ⟨z, rfl, hz, hf, ht, hR, hbc⟩
    refine ⟨fun μ pc lv st σ' τ' n => st = [] ∧ n = 0 ∧ ((pc = 0 ∧ μ = 5000 ∧ lv = [.ref 23, .ref 1, .int (nI z), .ref 8, .null, .null, .null] ∧ σ' = σ ∧ τ' = τ) ∨ (pc = 6 ∧ ∃ (i : Nat) (o : Int32) (j : Value), i ≤ z ∧ μ = z - i ∧ lv = [.ref 23, .ref 1, .int (nI z), .ref 8, .int o, .int (nI i), j] ∧ (j = .null ∨ ∃ jj : Int32, j = .int jj) ∧ frC σ σ' τ τ' ∧ msR (mvC σ' τ') ∧ ((o = 0 ∧ ms_run (σ 2) (sp_trap (σ 3)) (ms_w (σ 8 10) (σ 14) (σ 15)) (z - i) (mvC σ' τ') = ms_run (σ 2) (sp_trap (σ 3)) (ms_w (σ 8 10) (σ 14) (σ 15)) z (mvC σ τ)) ∨ (¬ o = 0 ∧ (o, mvC σ' τ') = ms_run (σ 2) (sp_trap (σ 3)) (ms_w (σ 8 10) (σ 14) (σ 15)) z (mvC σ τ))))), ⟨5000, rfl, rfl, Or.inl ⟨rfl, rfl, rfl, rfl, rfl⟩⟩, ?_⟩
    rintro μ pc lv st σ' τ' n ⟨rfl, rfl, ⟨rfl, rfl, rfl, rfl, rfl⟩ | ⟨rfl, i, o, j, hi, rfl, rfl, hj, hfr, hR', hres⟩⟩
    · exact ⟨z, by omega, rfl, rfl, Or.inr ⟨rfl, 0, 0, _, Nat.zero_le _, rfl, rfl, Or.inl rfl, frC_rf _ _, hR, Or.inl ⟨rfl, rfl⟩⟩⟩
    · have hcl : (nI z).toNatClampNeg = z := nI_clamp (by omega)
      refine br_c (fun h => ?_) (fun h => br_n (fun h2 => ?_) (fun h2 => ?_))
      · have hiz : z ≤ i := (nI_leI (by omega) (by omega)).mp h
        have e0 : z - i = 0 := by omega
        refine ⟨?_, hfr⟩
        rw [hcl]
        rcases hres with ⟨rfl, h3⟩ | ⟨_, h3⟩
        · rw [← h3, e0]; rfl
        · exact h3
      · refine ⟨?_, hfr⟩
        rw [hcl]
        rcases hres with ⟨h3, _⟩ | ⟨_, h3⟩
        · exact absurd h3 h2
        · exact h3
      · have hiz : i < z := Nat.not_le.mp fun q => h ((nI_leI (by omega) (by omega)).mpr q)
        have hres2 := (hres.resolve_right (fun w => w.1 h2)).2
        have e1 : z - i = (z - (i + 1)) + 1 := by omega
        have e8 : σ' 8 = σ 8 := hfr.1 8 (by omega)
        have e14 : σ' 14 = σ 14 := hfr.1 14 (by omega)
        have e15 : σ' 15 = σ 15 := hfr.1 15 (by omega)
        have eq1 : σ' 2 = σ 2 := hfr.1 _ (by omega)
        have eq2 : σ' 3 = σ 3 := hfr.1 _ (by omega)
        -- the step behind the count
        have fin : ∀ (j2 : Value) (σ1 : ev_M) (τ1 : ev_L), (j2 = .null ∨ ∃ jj : Int32, j2 = .int jj) → frC σ σ1 τ τ1 → mvC σ1 τ1 = ms_w (σ 8 10) (σ 14) (σ 15) (mvC σ' τ') → pre_M_step [.ref 23, .ref 1] σ1 τ1 ∧ ∀ (r : Int32) (σ2 : ev_M) (τ2 : ev_L), post_M_step [.ref 23, .ref 1] σ1 τ1 r σ2 τ2 → ∃ μ', μ' < z - i ∧ ([] : List Value) = [] ∧ 0 = 0 ∧ ((6 = 0 ∧ μ' = 5000 ∧ ([.ref 23, .ref 1, .int (nI z), .ref 8, .int r, .int (nI i + 1), j2] : List Value) = [.ref 23, .ref 1, .int (nI z), .ref 8, .null, .null, .null] ∧ σ2 = σ ∧ τ2 = τ) ∨ (6 = 6 ∧ ∃ (i2 : Nat) (o : Int32) (j : Value), i2 ≤ z ∧ μ' = z - i2 ∧ ([.ref 23, .ref 1, .int (nI z), .ref 8, .int r, .int (nI i + 1), j2] : List Value) = [.ref 23, .ref 1, .int (nI z), .ref 8, .int o, .int (nI i2), j] ∧ (j = .null ∨ ∃ jj : Int32, j = .int jj) ∧ frC σ σ2 τ τ2 ∧ msR (mvC σ2 τ2) ∧ ((o = 0 ∧ ms_run (σ 2) (sp_trap (σ 3)) (ms_w (σ 8 10) (σ 14) (σ 15)) (z - i2) (mvC σ2 τ2) = ms_run (σ 2) (sp_trap (σ 3)) (ms_w (σ 8 10) (σ 14) (σ 15)) z (mvC σ τ)) ∨ (¬ o = 0 ∧ (o, mvC σ2 τ2) = ms_run (σ 2) (sp_trap (σ 3)) (ms_w (σ 8 10) (σ 14) (σ 15)) z (mvC σ τ))))) := by
          intro j2 σ1 τ1 hj2 hfr1 hv1
          have hR1 : msR (mvC σ1 τ1) := by rw [hv1]; exact ms_w_R hR'
          have eq1 : σ1 2 = σ 2 := hfr1.1 _ (by omega)
          have eq2 : σ1 3 = σ 3 := hfr1.1 _ (by omega)
          refine ⟨⟨1, rfl, Or.inl rfl, Int32.le_iff_toInt_le.mpr hR1.2.1.1, hR1.2.1.2, Int32.le_iff_toInt_le.mpr hR1.2.2.1.1⟩, ?_⟩
          rintro r σ2 τ2 ⟨hs, hf2⟩
          rw [eq1, eq2, hv1] at hs
          have hs1 : (ms_step (σ 2) (sp_trap (σ 3)) (ms_w (σ 8 10) (σ 14) (σ 15) (mvC σ' τ'))).1 = r := by rw [← hs]
          have hs2 : (ms_step (σ 2) (sp_trap (σ 3)) (ms_w (σ 8 10) (σ 14) (σ 15) (mvC σ' τ'))).2 = mvC σ2 τ2 := by rw [← hs]
          refine ⟨z - (i + 1), by omega, rfl, rfl, Or.inr ⟨rfl, i + 1, r, j2, by omega, rfl, by rw [← nI_1], hj2, frC_tr hfr1 hf2, by rw [← hs2]; exact ms_step_R hf ht (ms_w_R hR'), ?_⟩⟩
          rw [e1] at hres2
          rw [← hres2]
          by_cases hr0 : r = 0
          · refine Or.inl ⟨hr0, ?_⟩
            show _ = ite _ _ _
            rw [if_pos (by rw [hs1]; exact hr0), hs2]
          · refine Or.inr ⟨hr0, ?_⟩
            show _ = ite _ _ _
            rw [if_neg (by rw [hs1]; exact hr0)]
            exact hs
        refine ⟨⟨_, rfl, by rw [e8]; exact hbc⟩, ?_⟩
        rintro _ σ' τ' ⟨rfl, rfl, rfl⟩
        have enh : sp_nhd (σ' 8 10) (σ' 14) (σ' 15) (σ' 23 6) = sp_nhd (σ 8 10) (σ 14) (σ 15) (ms_pc (mvC σ' τ')) := by rw [e8, e14, e15]; rfl
        rcases hj with rfl | ⟨jj, rfl⟩
        · refine br_c (fun h3 => ?_) (fun h3 => ⟨⟨_, rfl⟩, ?_⟩)
          · exact fin _ _ _ (Or.inr ⟨_, rfl⟩) hfr (by rw [enh] at h3; exact (if_pos h3).symm)
          · rintro _ _ _ ⟨rfl, rfl⟩
            refine fin _ _ _ (Or.inr ⟨_, rfl⟩) (frC_tr hfr (frC_w _ _)) ?_
            rw [enh] at h3
            refine Eq.trans ?_ (if_neg h3).symm
            rw [enh]
            rfl
        · refine br_c (fun h3 => ?_) (fun h3 => ⟨⟨_, rfl⟩, ?_⟩)
          · exact fin _ _ _ (Or.inr ⟨_, rfl⟩) hfr (by rw [enh] at h3; exact (if_pos h3).symm)
          · rintro _ _ _ ⟨rfl, rfl⟩
            refine fin _ _ _ (Or.inr ⟨_, rfl⟩) (frC_tr hfr (frC_w _ _)) ?_
            rw [enh] at h3
            refine Eq.trans ?_ (if_neg h3).symm
            rw [enh]
            rfl
end
section
/-! rewriting, as functions: the new bytes (below 256), the traps, the free place -/
abbrev rws : Type := (Nat → Int32) × (Nat → Int32) × Int32
def cutF (g : Nat → Int32) : Nat → Int32 := fun j => if j < 256 then g j else 0
def ntC (T : Nat → Int32) : Nat → Int32 := fun i => if i < 96 then (if T i = 0 then -1 else T i) else -1
def rvC (σ : ev_M) : rws := (cutF (σ 21), ntC (σ 22), σ 18 2)
def rw_app (v : Int32) (x : rws) : rws := match x with
  | (g, T, e) => (if 0 ≤ e ∧ e < 256 then upd g e.toNatClampNeg (v &&& 255) else g, T, e + 1)
def rw_jump (t : Int32) (x : rws) : rws := rw_app t (rw_app 69 x)
def rw_copy (op n m len : Int32) (x : rws) : rws := if 2 < len then rw_app m (if 1 < len then rw_app n (rw_app op x) else rw_app op x) else (if 1 < len then rw_app n (rw_app op x) else rw_app op x)
/-- what an instruction becomes -/
def rw_ins (kd op n m bh bt : Int32) (x : rws) : rws := if kd = 60 ∨ kd = 64 then rw_jump bt (rw_jump bh (rw_app 2 (rw_app op x))) else if kd = 68 then rw_jump bt x else if kd = 70 then rw_app bh (rw_app n (rw_app 77 x)) else rw_copy op n m (sp_len kd) x
def rw_at (f : Nat → Int32) (a : Int32) (x : rws) : rws := rw_ins (sp_kind (sp_at f a)) (sp_at f a) (sp_at f (a + 1)) (sp_at f (a + 2)) (a + sp_len (sp_kind (sp_at f a))) (a + sp_len (sp_kind (sp_at f a)) + (sp_at f (a + 1)).toInt8.toInt32) x
def rw_end (f : Nat → Int32) (a : Int32) (x : rws) : rws := if sp_ends (sp_kind (sp_at f a)) = true then x else rw_jump (a + sp_len (sp_kind (sp_at f a))) x
/-- the first instructions of a block: as many as a jump needs -/
def rw_first (f : Nat → Int32) (hd need : Int32) (x : rws) : rws := if need = 2 ∧ sp_len (sp_kind (sp_at f hd)) = 1 then rw_end f (hd + 1) (rw_at f (hd + 1) (rw_at f hd x)) else rw_end f hd (rw_at f hd x)
def rw_put (a v : Int32) (x : rws) : rws := match x with
  | (g, T, e) => (if 0 ≤ a ∧ a < 256 then upd g a.toNatClampNeg (v &&& 255) else g, T, e)
def rw_trap (a v : Int32) (x : rws) : rws := match x with
  | (g, T, e) => (g, if 0 ≤ a ∧ a < 96 then upd T a.toNatClampNeg v else T, e)
def rw_hook (hd sz st : Int32) (x : rws) : rws := if sz < 2 then rw_trap hd st (rw_put hd 2 x) else rw_put (hd + 1) st (rw_put hd 69 x)
def rw_blk (f : Nat → Int32) (k hd sz : Int32) (x : rws) : rws := rw_hook hd sz x.2.2 (rw_first f hd (if 2 < sz then 2 else sz) (rw_app k (rw_app 76 x)))
theorem cut_upd {g : Nat → Int32} {i : Nat} {v : Int32} (h : i < 256) : cutF (upd g i v) = upd (cutF g) i v := by
  funext j
  unfold cutF upd
  by_cases hj : j = i
  · subst hj; simp [h]
  · simp [hj]
theorem i_clt {a b : Int32} (h0 : 0 ≤ a) (h1 : a < b) : (a.toNatClampNeg : Int) < b.toInt := by
  have h2 := Int32.le_iff_toInt_le.mp h0
  have h3 := Int32.lt_iff_toInt_lt.mp h1
  have h4 : (0 : Int32).toInt = 0 := rfl
  have := i_cl (x := a) (by omega)
  omega
theorem rvC_put (σ : ev_M) (a v : Int32) : rvC (sp_put σ 21 a v) = rw_put a v (rvC σ) := by
  unfold sp_put rw_put rvC
  by_cases h : 0 ≤ a ∧ a < 256
  · rw [if_pos h]
    dsimp only
    rw [if_pos h, ← cut_upd (by have := i_clt h.1 h.2; have h2 : (256 : Int32).toInt = 256 := rfl; omega)]
    rfl
  · rw [if_neg h]
    dsimp only
    rw [if_neg h]
theorem rvC_app (σ : ev_M) (v : Int32) : rvC (sp_app σ v) = rw_app v (rvC σ) := by
  have e : rvC (sp_app σ v) = ((rvC (sp_put σ 21 (σ 18 2) v)).1, (rvC (sp_put σ 21 (σ 18 2) v)).2.1, σ 18 2 + 1) := rfl
  rw [e, rvC_put]
  rfl
/-- nothing but the second program and its window has changed -/
def frW (σ σ' : ev_M) : Prop := (∀ k, ¬ k = 18 → ¬ k = 19 → ¬ k = 21 → ¬ k = 22 → σ' k = σ k) ∧ σ' 18 3 = σ 18 3
theorem frW_rf (σ : ev_M) : frW σ σ := ⟨fun _ _ _ _ _ => rfl, rfl⟩
theorem frW_tr {σ σ1 σ2 : ev_M} (h1 : frW σ σ1) (h2 : frW σ1 σ2) : frW σ σ2 := ⟨fun k a b c d => (h2.1 k a b c d).trans (h1.1 k a b c d), h2.2.trans h1.2⟩
theorem frW_put (σ : ev_M) (a v : Int32) : frW σ (sp_put σ 21 a v) := by
  unfold sp_put
  split
  · exact ⟨fun k _ _ h _ => if_neg h, rfl⟩
  · exact frW_rf σ
theorem frW_app (σ : ev_M) (v : Int32) : frW σ (sp_app σ v) := frW_tr (frW_put σ (σ 18 2) v) ⟨fun k h _ _ _ => if_neg h, rfl⟩
theorem sp_put_19 (σ : ev_M) (a v : Int32) : sp_put σ 21 a v 19 = σ 19 := by
  unfold sp_put
  split <;> rfl
theorem sp_app_19 (σ : ev_M) (v : Int32) : sp_app σ v 19 = σ 19 := sp_put_19 σ (σ 18 2) v
theorem sp_app_2 (σ : ev_M) (v : Int32) : sp_app σ v 2 = σ 2 := (frW_app σ v).1 2 (by decide) (by decide) (by decide) (by decide)
def y_R_copyInstruction : MethodName := ⟨RX4, "copyInstruction", "()V"⟩
def ws_R_copyInstruction : List Cond := .code y_R_copyInstruction prog_6_method_10_code 1 none :: evW
theorem d_R_copyInstruction_0 : decode prog_6_method_10_code 0 = .ok (.aload_n 0, 1) := by decide +kernel
theorem d_R_copyInstruction_1 : decode prog_6_method_10_code 1 = .ok (.aload_n 0, 1) := by decide +kernel
theorem d_R_copyInstruction_2 : decode prog_6_method_10_code 2 = .ok (.getfield 12, 3) := by decide +kernel
theorem d_R_copyInstruction_5 : decode prog_6_method_10_code 5 = .ok (.getfield 95, 3) := by decide +kernel
theorem d_R_copyInstruction_8 : decode prog_6_method_10_code 8 = .ok (.invokevirtual 50, 3) := by decide +kernel
theorem d_R_copyInstruction_11 : decode prog_6_method_10_code 11 = .ok (.aload_n 0, 1) := by decide +kernel
theorem d_R_copyInstruction_12 : decode prog_6_method_10_code 12 = .ok (.getfield 12, 3) := by decide +kernel
theorem d_R_copyInstruction_15 : decode prog_6_method_10_code 15 = .ok (.invokevirtual 110, 3) := by decide +kernel
theorem d_R_copyInstruction_18 : decode prog_6_method_10_code 18 = .ok (.iconst 1, 1) := by decide +kernel
theorem d_R_copyInstruction_19 : decode prog_6_method_10_code 19 = .ok (.if_icmp .le 14, 3) := by decide +kernel
theorem d_R_copyInstruction_22 : decode prog_6_method_10_code 22 = .ok (.aload_n 0, 1) := by decide +kernel
theorem d_R_copyInstruction_23 : decode prog_6_method_10_code 23 = .ok (.aload_n 0, 1) := by decide +kernel
theorem d_R_copyInstruction_24 : decode prog_6_method_10_code 24 = .ok (.getfield 12, 3) := by decide +kernel
theorem d_R_copyInstruction_27 : decode prog_6_method_10_code 27 = .ok (.getfield 104, 3) := by decide +kernel
theorem d_R_copyInstruction_30 : decode prog_6_method_10_code 30 = .ok (.invokevirtual 50, 3) := by decide +kernel
theorem d_R_copyInstruction_33 : decode prog_6_method_10_code 33 = .ok (.aload_n 0, 1) := by decide +kernel
theorem d_R_copyInstruction_34 : decode prog_6_method_10_code 34 = .ok (.getfield 12, 3) := by decide +kernel
theorem d_R_copyInstruction_37 : decode prog_6_method_10_code 37 = .ok (.invokevirtual 110, 3) := by decide +kernel
theorem d_R_copyInstruction_40 : decode prog_6_method_10_code 40 = .ok (.iconst 2, 1) := by decide +kernel
theorem d_R_copyInstruction_41 : decode prog_6_method_10_code 41 = .ok (.if_icmp .le 14, 3) := by decide +kernel
theorem d_R_copyInstruction_44 : decode prog_6_method_10_code 44 = .ok (.aload_n 0, 1) := by decide +kernel
theorem d_R_copyInstruction_45 : decode prog_6_method_10_code 45 = .ok (.aload_n 0, 1) := by decide +kernel
theorem d_R_copyInstruction_46 : decode prog_6_method_10_code 46 = .ok (.getfield 12, 3) := by decide +kernel
theorem d_R_copyInstruction_49 : decode prog_6_method_10_code 49 = .ok (.getfield 113, 3) := by decide +kernel
theorem d_R_copyInstruction_52 : decode prog_6_method_10_code 52 = .ok (.invokevirtual 50, 3) := by decide +kernel
theorem d_R_copyInstruction_55 : decode prog_6_method_10_code 55 = .ok (.return_, 1) := by decide +kernel
def I_R_copyInstruction (P : Unit → ev_M → ev_L → Prop) : List (Nat × ev_T) := [(0, tt_al 0 1),
  (1, tt_al 0 2),
  (2, tt_gf evLY 4 0 5),
  (5, tt_gf evLY 1 1 8),
  (8, tt_cV evLY 4 1 ev_n pre_R_append post_R_append 11),
  (11, tt_al 0 12),
  (12, tt_gf evLY 4 0 15),
  (15, tt_cV evLY 1 0 ev_i pre_I_length post_I_length 18),
  (18, tt_k 1 19),
  (19, tt_icle 33 22),
  (22, tt_al 0 23),
  (23, tt_al 0 24),
  (24, tt_gf evLY 4 0 27),
  (27, tt_gf evLY 1 3 30),
  (30, tt_cV evLY 4 1 ev_n pre_R_append post_R_append 33),
  (33, tt_al 0 34),
  (34, tt_gf evLY 4 0 37),
  (37, tt_cV evLY 1 0 ev_i pre_I_length post_I_length 40),
  (40, tt_k 2 41),
  (41, tt_icle 55 44),
  (44, tt_al 0 45),
  (45, tt_al 0 46),
  (46, tt_gf evLY 4 0 49),
  (49, tt_gf evLY 1 4 52),
  (52, tt_cV evLY 4 1 ev_n pre_R_append post_R_append 55),
  (55, tt_rv P)]
abbrev rm_R_copyInstruction : Room := { frames := 2, cells := 0, slots := 0, locals := 64 }
set_option maxRecDepth 20000 in
theorem ok_R_copyInstruction (l : Launch) (J : ev_K) (P : Unit → ev_M → ev_L → Prop) (X : ev_X l rm_R_copyInstruction evLY evCl ws_R_copyInstruction prog_6_method_10_code 1 y_R_copyInstruction.cls J) (Z : ev_Z J prog_6_method_10_code .return_ ev_n P) : ev_oks J (I_R_copyInstruction P) :=
  ⟨qq_aln X 0 rfl d_R_copyInstruction_0,
  qq_aln X 0 rfl d_R_copyInstruction_1,
  qq_gf X 4 0 rfl (fun w h => List.mem_cons_of_mem _ (inE_R w h)) (by decide) (List.mem_cons_of_mem _ mw_140) d_R_copyInstruction_2,
  qq_gf X 1 1 rfl (fun w h => List.mem_cons_of_mem _ (inE_I w h)) (by decide) (List.mem_cons_of_mem _ mw_71) d_R_copyInstruction_5,
  qq_cV X 4 rfl (c_R_append l) (fun hts => cwV 1 hts (evGV (mw_535) (mw_537) (mp_10) (mw_6) (mw_538)) rfl rfl rfl (by decide +kernel) ⟨Nat.le_of_ble_eq_true rfl, Nat.le_of_ble_eq_true rfl⟩) d_R_copyInstruction_8,
  qq_aln X 0 rfl d_R_copyInstruction_11,
  qq_gf X 4 0 rfl (fun w h => List.mem_cons_of_mem _ (inE_R w h)) (by decide) (List.mem_cons_of_mem _ mw_140) d_R_copyInstruction_12,
  qq_cV X 1 rfl (c_I_length l) (fun hts => cwV 0 hts (evGV (mw_566) (mw_434) (mw_435) (mw_5) (mw_436)) rfl rfl rfl (by decide +kernel) ⟨Nat.le_of_ble_eq_true rfl, Nat.le_of_ble_eq_true rfl⟩) d_R_copyInstruction_15,
  qq_ic X 1 (by decide) d_R_copyInstruction_18,
  qq_icle X 33 (by decide) d_R_copyInstruction_19,
  qq_aln X 0 rfl d_R_copyInstruction_22,
  qq_aln X 0 rfl d_R_copyInstruction_23,
  qq_gf X 4 0 rfl (fun w h => List.mem_cons_of_mem _ (inE_R w h)) (by decide) (List.mem_cons_of_mem _ mw_140) d_R_copyInstruction_24,
  qq_gf X 1 3 rfl (fun w h => List.mem_cons_of_mem _ (inE_I w h)) (by decide) (List.mem_cons_of_mem _ mw_77) d_R_copyInstruction_27,
  qq_cV X 4 rfl (c_R_append l) (fun hts => cwV 1 hts (evGV (mw_535) (mw_537) (mp_10) (mw_6) (mw_538)) rfl rfl rfl (by decide +kernel) ⟨Nat.le_of_ble_eq_true rfl, Nat.le_of_ble_eq_true rfl⟩) d_R_copyInstruction_30,
  qq_aln X 0 rfl d_R_copyInstruction_33,
  qq_gf X 4 0 rfl (fun w h => List.mem_cons_of_mem _ (inE_R w h)) (by decide) (List.mem_cons_of_mem _ mw_140) d_R_copyInstruction_34,
  qq_cV X 1 rfl (c_I_length l) (fun hts => cwV 0 hts (evGV (mw_566) (mw_434) (mw_435) (mw_5) (mw_436)) rfl rfl rfl (by decide +kernel) ⟨Nat.le_of_ble_eq_true rfl, Nat.le_of_ble_eq_true rfl⟩) d_R_copyInstruction_37,
  qq_ic X 2 (by decide) d_R_copyInstruction_40,
  qq_icle X 55 (by decide) d_R_copyInstruction_41,
  qq_aln X 0 rfl d_R_copyInstruction_44,
  qq_aln X 0 rfl d_R_copyInstruction_45,
  qq_gf X 4 0 rfl (fun w h => List.mem_cons_of_mem _ (inE_R w h)) (by decide) (List.mem_cons_of_mem _ mw_140) d_R_copyInstruction_46,
  qq_gf X 1 4 rfl (fun w h => List.mem_cons_of_mem _ (inE_I w h)) (by decide) (List.mem_cons_of_mem _ mw_81) d_R_copyInstruction_49,
  qq_cV X 4 rfl (c_R_append l) (fun hts => cwV 1 hts (evGV (mw_535) (mw_537) (mp_10) (mw_6) (mw_538)) rfl rfl rfl (by decide +kernel) ⟨Nat.le_of_ble_eq_true rfl, Nat.le_of_ble_eq_true rfl⟩) d_R_copyInstruction_52,
  qq_rv Z d_R_copyInstruction_55, trivial⟩
def pre_R_copyInstruction : List Value → ev_M → ev_L → Prop := fun as _ _ => as = [.ref 18]
def post_R_copyInstruction : List Value → ev_M → ev_L → Unit → ev_M → ev_L → Prop := fun _ σ τ _ σ' τ' => rvC σ' = rw_copy (σ 19 1) (σ 19 3) (σ 19 4) (sp_len (σ 19 2)) (rvC σ) ∧ frW σ σ' ∧ σ' 19 = σ 19 ∧ τ' = τ
set_option maxHeartbeats 4000000 in
set_option maxRecDepth 100000 in
theorem c_R_copyInstruction (l : Launch) : ev_C ev_n l y_R_copyInstruction ws_R_copyInstruction rm_R_copyInstruction evLY evCl pre_R_copyInstruction post_R_copyInstruction := by
  refine ev_meth0 (by decide) rfl ev_rop_v ?_ I_R_copyInstruction (ok_R_copyInstruction l) 60 ?_
  · rintro _ σ τ rfl
    exact Nat.le_of_ble_eq_true rfl
  · rintro _ σ τ rfl
    refine ⟨⟨_, rfl⟩, ?_⟩
    rintro _ _ τ ⟨rfl, rfl⟩
    refine ⟨⟨_, rfl, by decide⟩, ?_⟩
    rintro _ _ τ ⟨rfl, rfl, rfl⟩
    rw [sp_app_19]
    refine br_c (fun h => ?_) (fun h => ?_)
    · refine ⟨⟨_, rfl, by decide⟩, ?_⟩
      rintro _ _ τ ⟨rfl, rfl, rfl⟩
      rw [sp_app_19]
      refine br_c (fun h2 => ?_) (fun h2 => ?_)
      · refine ⟨?_, frW_app σ _, sp_app_19 _ _, rfl⟩
        unfold rw_copy
        rw [if_neg (Int32.not_lt.mpr h2), if_neg (Int32.not_lt.mpr h), rvC_app]
      · refine ⟨⟨_, rfl⟩, ?_⟩
        rintro _ _ τ ⟨rfl, rfl⟩
        refine ⟨?_, frW_tr (frW_app σ _) (frW_app _ _), (sp_app_19 _ _).trans (sp_app_19 _ _), rfl⟩
        unfold rw_copy
        rw [if_pos (Int32.not_le.mp h2), if_neg (Int32.not_lt.mpr h), rvC_app, rvC_app, sp_app_19]
    · refine ⟨⟨_, rfl⟩, ?_⟩
      rintro _ _ τ ⟨rfl, rfl⟩
      refine ⟨⟨_, rfl, by decide⟩, ?_⟩
      rintro _ _ τ ⟨rfl, rfl, rfl⟩
      rw [sp_app_19, sp_app_19]
      refine br_c (fun h2 => ?_) (fun h2 => ?_)
      · refine ⟨?_, frW_tr (frW_app σ _) (frW_app _ _), (sp_app_19 _ _).trans (sp_app_19 _ _), rfl⟩
        unfold rw_copy
        rw [if_neg (Int32.not_lt.mpr h2), if_pos (Int32.not_le.mp h), rvC_app, rvC_app]
      · refine ⟨⟨_, rfl⟩, ?_⟩
        rintro _ _ τ ⟨rfl, rfl⟩
        refine ⟨?_, frW_tr (frW_app σ _) (frW_tr (frW_app _ _) (frW_app _ _)), (sp_app_19 _ _).trans ((sp_app_19 _ _).trans (sp_app_19 _ _)), rfl⟩
        unfold rw_copy
        rw [if_pos (Int32.not_le.mp h2), if_pos (Int32.not_le.mp h), rvC_app, rvC_app, rvC_app, sp_app_19, sp_app_19]
def y_R_moveInstruction : MethodName := ⟨RX4, "moveInstruction", "()V"⟩
def ws_R_moveInstruction : List Cond := .code y_R_moveInstruction prog_6_method_9_code 1 none :: evW
theorem d_R_moveInstruction_0 : decode prog_6_method_9_code 0 = .ok (.aload_n 0, 1) := by decide +kernel
theorem d_R_moveInstruction_1 : decode prog_6_method_9_code 1 = .ok (.getfield 12, 3) := by decide +kernel
theorem d_R_moveInstruction_4 : decode prog_6_method_9_code 4 = .ok (.invokevirtual 92, 3) := by decide +kernel
theorem d_R_moveInstruction_7 : decode prog_6_method_9_code 7 = .ok (.ifCond .eq 44, 3) := by decide +kernel
theorem d_R_moveInstruction_10 : decode prog_6_method_9_code 10 = .ok (.aload_n 0, 1) := by decide +kernel
theorem d_R_moveInstruction_11 : decode prog_6_method_9_code 11 = .ok (.aload_n 0, 1) := by decide +kernel
theorem d_R_moveInstruction_12 : decode prog_6_method_9_code 12 = .ok (.getfield 12, 3) := by decide +kernel
theorem d_R_moveInstruction_15 : decode prog_6_method_9_code 15 = .ok (.getfield 95, 3) := by decide +kernel
theorem d_R_moveInstruction_18 : decode prog_6_method_9_code 18 = .ok (.invokevirtual 50, 3) := by decide +kernel
theorem d_R_moveInstruction_21 : decode prog_6_method_9_code 21 = .ok (.aload_n 0, 1) := by decide +kernel
theorem d_R_moveInstruction_22 : decode prog_6_method_9_code 22 = .ok (.iconst 2, 1) := by decide +kernel
theorem d_R_moveInstruction_23 : decode prog_6_method_9_code 23 = .ok (.invokevirtual 50, 3) := by decide +kernel
theorem d_R_moveInstruction_26 : decode prog_6_method_9_code 26 = .ok (.aload_n 0, 1) := by decide +kernel
theorem d_R_moveInstruction_27 : decode prog_6_method_9_code 27 = .ok (.aload_n 0, 1) := by decide +kernel
theorem d_R_moveInstruction_28 : decode prog_6_method_9_code 28 = .ok (.getfield 12, 3) := by decide +kernel
theorem d_R_moveInstruction_31 : decode prog_6_method_9_code 31 = .ok (.invokevirtual 82, 3) := by decide +kernel
theorem d_R_moveInstruction_34 : decode prog_6_method_9_code 34 = .ok (.invokevirtual 89, 3) := by decide +kernel
theorem d_R_moveInstruction_37 : decode prog_6_method_9_code 37 = .ok (.aload_n 0, 1) := by decide +kernel
theorem d_R_moveInstruction_38 : decode prog_6_method_9_code 38 = .ok (.aload_n 0, 1) := by decide +kernel
theorem d_R_moveInstruction_39 : decode prog_6_method_9_code 39 = .ok (.getfield 12, 3) := by decide +kernel
theorem d_R_moveInstruction_42 : decode prog_6_method_9_code 42 = .ok (.invokevirtual 98, 3) := by decide +kernel
theorem d_R_moveInstruction_45 : decode prog_6_method_9_code 45 = .ok (.invokevirtual 89, 3) := by decide +kernel
theorem d_R_moveInstruction_48 : decode prog_6_method_9_code 48 = .ok (.goto 76, 3) := by decide +kernel
theorem d_R_moveInstruction_51 : decode prog_6_method_9_code 51 = .ok (.aload_n 0, 1) := by decide +kernel
theorem d_R_moveInstruction_52 : decode prog_6_method_9_code 52 = .ok (.getfield 12, 3) := by decide +kernel
theorem d_R_moveInstruction_55 : decode prog_6_method_9_code 55 = .ok (.getfield 101, 3) := by decide +kernel
theorem d_R_moveInstruction_58 : decode prog_6_method_9_code 58 = .ok (.bipush 68, 2) := by decide +kernel
theorem d_R_moveInstruction_60 : decode prog_6_method_9_code 60 = .ok (.if_icmp .ne 17, 3) := by decide +kernel
theorem d_R_moveInstruction_63 : decode prog_6_method_9_code 63 = .ok (.aload_n 0, 1) := by decide +kernel
theorem d_R_moveInstruction_64 : decode prog_6_method_9_code 64 = .ok (.aload_n 0, 1) := by decide +kernel
theorem d_R_moveInstruction_65 : decode prog_6_method_9_code 65 = .ok (.getfield 12, 3) := by decide +kernel
theorem d_R_moveInstruction_68 : decode prog_6_method_9_code 68 = .ok (.invokevirtual 98, 3) := by decide +kernel
theorem d_R_moveInstruction_71 : decode prog_6_method_9_code 71 = .ok (.invokevirtual 89, 3) := by decide +kernel
theorem d_R_moveInstruction_74 : decode prog_6_method_9_code 74 = .ok (.goto 50, 3) := by decide +kernel
theorem d_R_moveInstruction_77 : decode prog_6_method_9_code 77 = .ok (.aload_n 0, 1) := by decide +kernel
theorem d_R_moveInstruction_78 : decode prog_6_method_9_code 78 = .ok (.getfield 12, 3) := by decide +kernel
theorem d_R_moveInstruction_81 : decode prog_6_method_9_code 81 = .ok (.getfield 101, 3) := by decide +kernel
theorem d_R_moveInstruction_84 : decode prog_6_method_9_code 84 = .ok (.bipush 70, 2) := by decide +kernel
theorem d_R_moveInstruction_86 : decode prog_6_method_9_code 86 = .ok (.if_icmp .ne 34, 3) := by decide +kernel
theorem d_R_moveInstruction_89 : decode prog_6_method_9_code 89 = .ok (.aload_n 0, 1) := by decide +kernel
theorem d_R_moveInstruction_90 : decode prog_6_method_9_code 90 = .ok (.bipush 77, 2) := by decide +kernel
theorem d_R_moveInstruction_92 : decode prog_6_method_9_code 92 = .ok (.invokevirtual 50, 3) := by decide +kernel
theorem d_R_moveInstruction_95 : decode prog_6_method_9_code 95 = .ok (.aload_n 0, 1) := by decide +kernel
theorem d_R_moveInstruction_96 : decode prog_6_method_9_code 96 = .ok (.aload_n 0, 1) := by decide +kernel
theorem d_R_moveInstruction_97 : decode prog_6_method_9_code 97 = .ok (.getfield 12, 3) := by decide +kernel
theorem d_R_moveInstruction_100 : decode prog_6_method_9_code 100 = .ok (.getfield 104, 3) := by decide +kernel
theorem d_R_moveInstruction_103 : decode prog_6_method_9_code 103 = .ok (.invokevirtual 50, 3) := by decide +kernel
theorem d_R_moveInstruction_106 : decode prog_6_method_9_code 106 = .ok (.aload_n 0, 1) := by decide +kernel
theorem d_R_moveInstruction_107 : decode prog_6_method_9_code 107 = .ok (.aload_n 0, 1) := by decide +kernel
theorem d_R_moveInstruction_108 : decode prog_6_method_9_code 108 = .ok (.getfield 12, 3) := by decide +kernel
theorem d_R_moveInstruction_111 : decode prog_6_method_9_code 111 = .ok (.invokevirtual 82, 3) := by decide +kernel
theorem d_R_moveInstruction_114 : decode prog_6_method_9_code 114 = .ok (.invokevirtual 50, 3) := by decide +kernel
theorem d_R_moveInstruction_117 : decode prog_6_method_9_code 117 = .ok (.goto 7, 3) := by decide +kernel
theorem d_R_moveInstruction_120 : decode prog_6_method_9_code 120 = .ok (.aload_n 0, 1) := by decide +kernel
theorem d_R_moveInstruction_121 : decode prog_6_method_9_code 121 = .ok (.invokevirtual 107, 3) := by decide +kernel
theorem d_R_moveInstruction_124 : decode prog_6_method_9_code 124 = .ok (.return_, 1) := by decide +kernel
def I_R_moveInstruction (P : Unit → ev_M → ev_L → Prop) : List (Nat × ev_T) := [(0, tt_al 0 1),
  (1, tt_gf evLY 4 0 4),
  (4, tt_cV evLY 1 0 ev_b pre_I_isConditional post_I_isConditional 7),
  (7, tt_ifeq 51 10),
  (10, tt_al 0 11),
  (11, tt_al 0 12),
  (12, tt_gf evLY 4 0 15),
  (15, tt_gf evLY 1 1 18),
  (18, tt_cV evLY 4 1 ev_n pre_R_append post_R_append 21),
  (21, tt_al 0 22),
  (22, tt_k 2 23),
  (23, tt_cV evLY 4 1 ev_n pre_R_append post_R_append 26),
  (26, tt_al 0 27),
  (27, tt_al 0 28),
  (28, tt_gf evLY 4 0 31),
  (31, tt_cV evLY 1 0 ev_i pre_I_behind post_I_behind 34),
  (34, tt_cV evLY 4 1 ev_n pre_R_appendJump post_R_appendJump 37),
  (37, tt_al 0 38),
  (38, tt_al 0 39),
  (39, tt_gf evLY 4 0 42),
  (42, tt_cV evLY 1 0 ev_i pre_I_branchTarget post_I_branchTarget 45),
  (45, tt_cV evLY 4 1 ev_n pre_R_appendJump post_R_appendJump 48),
  (48, tt_go 124),
  (51, tt_al 0 52),
  (52, tt_gf evLY 4 0 55),
  (55, tt_gf evLY 1 2 58),
  (58, tt_k 68 60),
  (60, tt_icne 77 63),
  (63, tt_al 0 64),
  (64, tt_al 0 65),
  (65, tt_gf evLY 4 0 68),
  (68, tt_cV evLY 1 0 ev_i pre_I_branchTarget post_I_branchTarget 71),
  (71, tt_cV evLY 4 1 ev_n pre_R_appendJump post_R_appendJump 74),
  (74, tt_go 124),
  (77, tt_al 0 78),
  (78, tt_gf evLY 4 0 81),
  (81, tt_gf evLY 1 2 84),
  (84, tt_k 70 86),
  (86, tt_icne 120 89),
  (89, tt_al 0 90),
  (90, tt_k 77 92),
  (92, tt_cV evLY 4 1 ev_n pre_R_append post_R_append 95),
  (95, tt_al 0 96),
  (96, tt_al 0 97),
  (97, tt_gf evLY 4 0 100),
  (100, tt_gf evLY 1 3 103),
  (103, tt_cV evLY 4 1 ev_n pre_R_append post_R_append 106),
  (106, tt_al 0 107),
  (107, tt_al 0 108),
  (108, tt_gf evLY 4 0 111),
  (111, tt_cV evLY 1 0 ev_i pre_I_behind post_I_behind 114),
  (114, tt_cV evLY 4 1 ev_n pre_R_append post_R_append 117),
  (117, tt_go 124),
  (120, tt_al 0 121),
  (121, tt_cV evLY 4 0 ev_n pre_R_copyInstruction post_R_copyInstruction 124),
  (124, tt_rv P)]
abbrev rm_R_moveInstruction : Room := { frames := 3, cells := 0, slots := 0, locals := 96 }
set_option maxRecDepth 20000 in
theorem ok_R_moveInstruction (l : Launch) (J : ev_K) (P : Unit → ev_M → ev_L → Prop) (X : ev_X l rm_R_moveInstruction evLY evCl ws_R_moveInstruction prog_6_method_9_code 1 y_R_moveInstruction.cls J) (Z : ev_Z J prog_6_method_9_code .return_ ev_n P) : ev_oks J (I_R_moveInstruction P) :=
  ⟨qq_aln X 0 rfl d_R_moveInstruction_0,
  qq_gf X 4 0 rfl (fun w h => List.mem_cons_of_mem _ (inE_R w h)) (by decide) (List.mem_cons_of_mem _ mw_140) d_R_moveInstruction_1,
  qq_cV X 1 rfl (c_I_isConditional l) (fun hts => cwV 0 hts (evGV (mw_552) (mw_553) (mw_554) (mw_5) (mw_555)) rfl rfl rfl (by decide +kernel) ⟨Nat.le_of_ble_eq_true rfl, Nat.le_of_ble_eq_true rfl⟩) d_R_moveInstruction_4,
  qq_ifeq X 51 (by decide) d_R_moveInstruction_7,
  qq_aln X 0 rfl d_R_moveInstruction_10,
  qq_aln X 0 rfl d_R_moveInstruction_11,
  qq_gf X 4 0 rfl (fun w h => List.mem_cons_of_mem _ (inE_R w h)) (by decide) (List.mem_cons_of_mem _ mw_140) d_R_moveInstruction_12,
  qq_gf X 1 1 rfl (fun w h => List.mem_cons_of_mem _ (inE_I w h)) (by decide) (List.mem_cons_of_mem _ mw_71) d_R_moveInstruction_15,
  qq_cV X 4 rfl (c_R_append l) (fun hts => cwV 1 hts (evGV (mw_535) (mw_537) (mp_10) (mw_6) (mw_538)) rfl rfl rfl (by decide +kernel) ⟨Nat.le_of_ble_eq_true rfl, Nat.le_of_ble_eq_true rfl⟩) d_R_moveInstruction_18,
  qq_aln X 0 rfl d_R_moveInstruction_21,
  qq_ic X 2 (by decide) d_R_moveInstruction_22,
  qq_cV X 4 rfl (c_R_append l) (fun hts => cwV 1 hts (evGV (mw_535) (mw_537) (mp_10) (mw_6) (mw_538)) rfl rfl rfl (by decide +kernel) ⟨Nat.le_of_ble_eq_true rfl, Nat.le_of_ble_eq_true rfl⟩) d_R_moveInstruction_23,
  qq_aln X 0 rfl d_R_moveInstruction_26,
  qq_aln X 0 rfl d_R_moveInstruction_27,
  qq_gf X 4 0 rfl (fun w h => List.mem_cons_of_mem _ (inE_R w h)) (by decide) (List.mem_cons_of_mem _ mw_140) d_R_moveInstruction_28,
  qq_cV X 1 rfl (c_I_behind l) (fun hts => cwV 0 hts (evGV (mw_556) (mw_430) (mw_431) (mw_5) (mw_432)) rfl rfl rfl (by decide +kernel) ⟨Nat.le_of_ble_eq_true rfl, Nat.le_of_ble_eq_true rfl⟩) d_R_moveInstruction_31,
  qq_cV X 4 rfl (c_R_appendJump l) (fun hts => cwV 1 hts (evGV (mw_557) (mw_559) (mp_13) (mw_6) (mw_560)) rfl rfl rfl (by decide +kernel) ⟨Nat.le_of_ble_eq_true rfl, Nat.le_of_ble_eq_true rfl⟩) d_R_moveInstruction_34,
  qq_aln X 0 rfl d_R_moveInstruction_37,
  qq_aln X 0 rfl d_R_moveInstruction_38,
  qq_gf X 4 0 rfl (fun w h => List.mem_cons_of_mem _ (inE_R w h)) (by decide) (List.mem_cons_of_mem _ mw_140) d_R_moveInstruction_39,
  qq_cV X 1 rfl (c_I_branchTarget l) (fun hts => cwV 0 hts (evGV (mw_561) (mw_443) (mw_444) (mw_5) (mw_445)) rfl rfl rfl (by decide +kernel) ⟨Nat.le_of_ble_eq_true rfl, Nat.le_of_ble_eq_true rfl⟩) d_R_moveInstruction_42,
  qq_cV X 4 rfl (c_R_appendJump l) (fun hts => cwV 1 hts (evGV (mw_557) (mw_559) (mp_13) (mw_6) (mw_560)) rfl rfl rfl (by decide +kernel) ⟨Nat.le_of_ble_eq_true rfl, Nat.le_of_ble_eq_true rfl⟩) d_R_moveInstruction_45,
  qq_go X 124 (by decide) d_R_moveInstruction_48,
  qq_aln X 0 rfl d_R_moveInstruction_51,
  qq_gf X 4 0 rfl (fun w h => List.mem_cons_of_mem _ (inE_R w h)) (by decide) (List.mem_cons_of_mem _ mw_140) d_R_moveInstruction_52,
  qq_gf X 1 2 rfl (fun w h => List.mem_cons_of_mem _ (inE_I w h)) (by decide) (List.mem_cons_of_mem _ mw_73) d_R_moveInstruction_55,
  qq_bp X 68 (by decide) d_R_moveInstruction_58,
  qq_icne X 77 (by decide) d_R_moveInstruction_60,
  qq_aln X 0 rfl d_R_moveInstruction_63,
  qq_aln X 0 rfl d_R_moveInstruction_64,
  qq_gf X 4 0 rfl (fun w h => List.mem_cons_of_mem _ (inE_R w h)) (by decide) (List.mem_cons_of_mem _ mw_140) d_R_moveInstruction_65,
  qq_cV X 1 rfl (c_I_branchTarget l) (fun hts => cwV 0 hts (evGV (mw_561) (mw_443) (mw_444) (mw_5) (mw_445)) rfl rfl rfl (by decide +kernel) ⟨Nat.le_of_ble_eq_true rfl, Nat.le_of_ble_eq_true rfl⟩) d_R_moveInstruction_68,
  qq_cV X 4 rfl (c_R_appendJump l) (fun hts => cwV 1 hts (evGV (mw_557) (mw_559) (mp_13) (mw_6) (mw_560)) rfl rfl rfl (by decide +kernel) ⟨Nat.le_of_ble_eq_true rfl, Nat.le_of_ble_eq_true rfl⟩) d_R_moveInstruction_71,
  qq_go X 124 (by decide) d_R_moveInstruction_74,
  qq_aln X 0 rfl d_R_moveInstruction_77,
  qq_gf X 4 0 rfl (fun w h => List.mem_cons_of_mem _ (inE_R w h)) (by decide) (List.mem_cons_of_mem _ mw_140) d_R_moveInstruction_78,
  qq_gf X 1 2 rfl (fun w h => List.mem_cons_of_mem _ (inE_I w h)) (by decide) (List.mem_cons_of_mem _ mw_73) d_R_moveInstruction_81,
  qq_bp X 70 (by decide) d_R_moveInstruction_84,
  qq_icne X 120 (by decide) d_R_moveInstruction_86,
  qq_aln X 0 rfl d_R_moveInstruction_89,
  qq_bp X 77 (by decide) d_R_moveInstruction_90,
  qq_cV X 4 rfl (c_R_append l) (fun hts => cwV 1 hts (evGV (mw_535) (mw_537) (mp_10) (mw_6) (mw_538)) rfl rfl rfl (by decide +kernel) ⟨Nat.le_of_ble_eq_true rfl, Nat.le_of_ble_eq_true rfl⟩) d_R_moveInstruction_92,
  qq_aln X 0 rfl d_R_moveInstruction_95,
  qq_aln X 0 rfl d_R_moveInstruction_96,
  qq_gf X 4 0 rfl (fun w h => List.mem_cons_of_mem _ (inE_R w h)) (by decide) (List.mem_cons_of_mem _ mw_140) d_R_moveInstruction_97,
  qq_gf X 1 3 rfl (fun w h => List.mem_cons_of_mem _ (inE_I w h)) (by decide) (List.mem_cons_of_mem _ mw_77) d_R_moveInstruction_100,
  qq_cV X 4 rfl (c_R_append l) (fun hts => cwV 1 hts (evGV (mw_535) (mw_537) (mp_10) (mw_6) (mw_538)) rfl rfl rfl (by decide +kernel) ⟨Nat.le_of_ble_eq_true rfl, Nat.le_of_ble_eq_true rfl⟩) d_R_moveInstruction_103,
  qq_aln X 0 rfl d_R_moveInstruction_106,
  qq_aln X 0 rfl d_R_moveInstruction_107,
  qq_gf X 4 0 rfl (fun w h => List.mem_cons_of_mem _ (inE_R w h)) (by decide) (List.mem_cons_of_mem _ mw_140) d_R_moveInstruction_108,
  qq_cV X 1 rfl (c_I_behind l) (fun hts => cwV 0 hts (evGV (mw_556) (mw_430) (mw_431) (mw_5) (mw_432)) rfl rfl rfl (by decide +kernel) ⟨Nat.le_of_ble_eq_true rfl, Nat.le_of_ble_eq_true rfl⟩) d_R_moveInstruction_111,
  qq_cV X 4 rfl (c_R_append l) (fun hts => cwV 1 hts (evGV (mw_535) (mw_537) (mp_10) (mw_6) (mw_538)) rfl rfl rfl (by decide +kernel) ⟨Nat.le_of_ble_eq_true rfl, Nat.le_of_ble_eq_true rfl⟩) d_R_moveInstruction_114,
  qq_go X 124 (by decide) d_R_moveInstruction_117,
  qq_aln X 0 rfl d_R_moveInstruction_120,
  qq_cV X 4 rfl (c_R_copyInstruction l) (fun hts => cwV 0 hts (evGV (mw_562) (mw_564) (mp_14) (mw_6) (mw_565)) rfl rfl rfl (by decide +kernel) ⟨Nat.le_of_ble_eq_true rfl, Nat.le_of_ble_eq_true rfl⟩) d_R_moveInstruction_121,
  qq_rv Z d_R_moveInstruction_124, trivial⟩
def pre_R_moveInstruction : List Value → ev_M → ev_L → Prop := fun as _ _ => as = [.ref 18]
def post_R_moveInstruction : List Value → ev_M → ev_L → Unit → ev_M → ev_L → Prop := fun _ σ τ _ σ' τ' => rvC σ' = rw_ins (σ 19 2) (σ 19 1) (σ 19 3) (σ 19 4) (σ 19 0 + sp_len (σ 19 2)) (σ 19 0 + sp_len (σ 19 2) + (σ 19 3).toInt8.toInt32) (rvC σ) ∧ frW σ σ' ∧ σ' 19 = σ 19 ∧ τ' = τ
set_option maxHeartbeats 4000000 in
set_option maxRecDepth 100000 in
theorem c_R_moveInstruction (l : Launch) : ev_C ev_n l y_R_moveInstruction ws_R_moveInstruction rm_R_moveInstruction evLY evCl pre_R_moveInstruction post_R_moveInstruction := by
  refine ev_meth0 (by decide) rfl ev_rop_v ?_ I_R_moveInstruction (ok_R_moveInstruction l) 80 ?_
  · rintro _ σ τ rfl
    exact Nat.le_of_ble_eq_true rfl
  · rintro _ σ τ rfl
    refine ⟨⟨_, rfl, by decide⟩, ?_⟩
    rintro _ σ τ ⟨rfl, rfl, rfl⟩
    refine br_c (fun h => ?_) (fun h => ?_)
    · have hc : ¬ (σ 19 2 = 60 ∨ σ 19 2 = 64) := of_decide_eq_false (bz h)
      refine br_n (fun h68 => br_n (fun h70 => ?_) (fun h70 => ?_)) (fun h68 => ?_)
      · refine ⟨rfl, ?_⟩
        rintro _ σ1 τ ⟨hv, hf, h19, rfl⟩
        refine ⟨?_, hf, h19, rfl⟩
        rw [hv]
        unfold rw_ins
        rw [if_neg hc, if_neg h68, if_neg h70]
      · refine ⟨⟨_, rfl⟩, ?_⟩
        rintro _ _ τ ⟨rfl, rfl⟩
        refine ⟨⟨_, rfl⟩, ?_⟩
        rintro _ _ τ ⟨rfl, rfl⟩
        refine ⟨⟨_, rfl, by decide⟩, ?_⟩
        rintro _ _ τ ⟨rfl, rfl, rfl⟩
        refine ⟨⟨_, rfl⟩, ?_⟩
        rintro _ _ τ ⟨rfl, rfl⟩
        refine ⟨?_, frW_tr (frW_app σ _) (frW_tr (frW_app _ _) (frW_app _ _)), (sp_app_19 _ _).trans ((sp_app_19 _ _).trans (sp_app_19 _ _)), rfl⟩
        unfold rw_ins
        rw [if_neg hc, if_neg h68, if_pos h70, rvC_app, rvC_app, rvC_app, sp_app_19, sp_app_19]
      · refine ⟨⟨_, rfl, by decide⟩, ?_⟩
        rintro _ σ τ ⟨rfl, rfl, rfl⟩
        refine ⟨⟨_, rfl⟩, ?_⟩
        rintro _ _ τ ⟨rfl, rfl⟩
        refine ⟨?_, frW_tr (frW_app σ _) (frW_app _ _), (sp_app_19 _ _).trans (sp_app_19 _ _), rfl⟩
        unfold rw_ins
        rw [if_neg hc, if_pos h68, rvC_app, rvC_app]
        rfl
    · have hc : σ 19 2 = 60 ∨ σ 19 2 = 64 := of_decide_eq_true (bnz h)
      refine ⟨⟨_, rfl⟩, ?_⟩
      rintro _ _ τ ⟨rfl, rfl⟩
      refine ⟨⟨_, rfl⟩, ?_⟩
      rintro _ _ τ ⟨rfl, rfl⟩
      refine ⟨⟨_, rfl, by decide⟩, ?_⟩
      rintro _ _ τ ⟨rfl, rfl, rfl⟩
      refine ⟨⟨_, rfl⟩, ?_⟩
      rintro _ _ τ ⟨rfl, rfl⟩
      refine ⟨⟨_, rfl, by decide⟩, ?_⟩
      rintro _ _ τ ⟨rfl, rfl, rfl⟩
      refine ⟨⟨_, rfl⟩, ?_⟩
      rintro _ _ τ ⟨rfl, rfl⟩
      refine ⟨?_, frW_tr (frW_app σ _) (frW_tr (frW_app _ _) (frW_tr (frW_app _ _) (frW_tr (frW_app _ _) (frW_tr (frW_app _ _) (frW_app _ _))))), (sp_app_19 _ _).trans ((sp_app_19 _ _).trans ((sp_app_19 _ _).trans ((sp_app_19 _ _).trans ((sp_app_19 _ _).trans (sp_app_19 _ _))))), rfl⟩
      unfold rw_ins
      rw [if_pos hc, rvC_app, rvC_app, rvC_app, rvC_app, rvC_app, rvC_app, sp_app_19, sp_app_19, sp_app_19, sp_app_19]
      rfl
theorem rvC_trap (σ : ev_M) (a v : Int32) (hv : ¬ v = 0) : rvC (sp_putTrap σ 22 a v) = rw_trap a v (rvC σ) := by
  unfold sp_putTrap rw_trap rvC
  by_cases h : 0 ≤ a ∧ a < 96
  · rw [if_pos h]
    dsimp only
    rw [if_pos h]
    have h96 : a.toNatClampNeg < 96 := by have := i_clt h.1 h.2; have h2 : (96 : Int32).toInt = 96 := rfl; omega
    have e : ntC (upd (σ 22) a.toNatClampNeg v) = upd (ntC (σ 22)) a.toNatClampNeg v := by
      funext j
      unfold ntC upd
      by_cases hj : j = a.toNatClampNeg
      · simp [hj, h96, hv]
      · simp [hj]
    rw [← e]
    rfl
  · rw [if_neg h]
    dsimp only
    rw [if_neg h]
def y_R_hook : MethodName := ⟨RX4, "hook", "(III)V"⟩
def ws_R_hook : List Cond := .code y_R_hook prog_6_method_7_code 4 none :: evW
theorem d_R_hook_0 : decode prog_6_method_7_code 0 = .ok (.iload_n 2, 1) := by decide +kernel
theorem d_R_hook_1 : decode prog_6_method_7_code 1 = .ok (.iconst 2, 1) := by decide +kernel
theorem d_R_hook_2 : decode prog_6_method_7_code 2 = .ok (.if_icmp .ge 24, 3) := by decide +kernel
theorem d_R_hook_5 : decode prog_6_method_7_code 5 = .ok (.aload_n 0, 1) := by decide +kernel
theorem d_R_hook_6 : decode prog_6_method_7_code 6 = .ok (.getfield 21, 3) := by decide +kernel
theorem d_R_hook_9 : decode prog_6_method_7_code 9 = .ok (.iload_n 1, 1) := by decide +kernel
theorem d_R_hook_10 : decode prog_6_method_7_code 10 = .ok (.iconst 2, 1) := by decide +kernel
theorem d_R_hook_11 : decode prog_6_method_7_code 11 = .ok (.invokevirtual 68, 3) := by decide +kernel
theorem d_R_hook_14 : decode prog_6_method_7_code 14 = .ok (.aload_n 0, 1) := by decide +kernel
theorem d_R_hook_15 : decode prog_6_method_7_code 15 = .ok (.getfield 21, 3) := by decide +kernel
theorem d_R_hook_18 : decode prog_6_method_7_code 18 = .ok (.iload_n 1, 1) := by decide +kernel
theorem d_R_hook_19 : decode prog_6_method_7_code 19 = .ok (.iload_n 3, 1) := by decide +kernel
theorem d_R_hook_20 : decode prog_6_method_7_code 20 = .ok (.invokevirtual 72, 3) := by decide +kernel
theorem d_R_hook_23 : decode prog_6_method_7_code 23 = .ok (.goto 24, 3) := by decide +kernel
theorem d_R_hook_26 : decode prog_6_method_7_code 26 = .ok (.aload_n 0, 1) := by decide +kernel
theorem d_R_hook_27 : decode prog_6_method_7_code 27 = .ok (.getfield 21, 3) := by decide +kernel
theorem d_R_hook_30 : decode prog_6_method_7_code 30 = .ok (.iload_n 1, 1) := by decide +kernel
theorem d_R_hook_31 : decode prog_6_method_7_code 31 = .ok (.bipush 69, 2) := by decide +kernel
theorem d_R_hook_33 : decode prog_6_method_7_code 33 = .ok (.invokevirtual 68, 3) := by decide +kernel
theorem d_R_hook_36 : decode prog_6_method_7_code 36 = .ok (.aload_n 0, 1) := by decide +kernel
theorem d_R_hook_37 : decode prog_6_method_7_code 37 = .ok (.getfield 21, 3) := by decide +kernel
theorem d_R_hook_40 : decode prog_6_method_7_code 40 = .ok (.iload_n 1, 1) := by decide +kernel
theorem d_R_hook_41 : decode prog_6_method_7_code 41 = .ok (.iconst 1, 1) := by decide +kernel
theorem d_R_hook_42 : decode prog_6_method_7_code 42 = .ok (.iadd, 1) := by decide +kernel
theorem d_R_hook_43 : decode prog_6_method_7_code 43 = .ok (.iload_n 3, 1) := by decide +kernel
theorem d_R_hook_44 : decode prog_6_method_7_code 44 = .ok (.invokevirtual 68, 3) := by decide +kernel
theorem d_R_hook_47 : decode prog_6_method_7_code 47 = .ok (.return_, 1) := by decide +kernel
def I_R_hook (P : Unit → ev_M → ev_L → Prop) : List (Nat × ev_T) := [(0, tt_il 2 1),
  (1, tt_k 2 2),
  (2, tt_icge 26 5),
  (5, tt_al 0 6),
  (6, tt_gf evLY 4 1 9),
  (9, tt_il 1 10),
  (10, tt_k 2 11),
  (11, tt_cV evLY 3 2 ev_n pre_P_put post_P_put 14),
  (14, tt_al 0 15),
  (15, tt_gf evLY 4 1 18),
  (18, tt_il 1 19),
  (19, tt_il 3 20),
  (20, tt_cV evLY 3 2 ev_n pre_P_putTrap post_P_putTrap 23),
  (23, tt_go 47),
  (26, tt_al 0 27),
  (27, tt_gf evLY 4 1 30),
  (30, tt_il 1 31),
  (31, tt_k 69 33),
  (33, tt_cV evLY 3 2 ev_n pre_P_put post_P_put 36),
  (36, tt_al 0 37),
  (37, tt_gf evLY 4 1 40),
  (40, tt_il 1 41),
  (41, tt_k 1 42),
  (42, tt_iadd 43),
  (43, tt_il 3 44),
  (44, tt_cV evLY 3 2 ev_n pre_P_put post_P_put 47),
  (47, tt_rv P)]
abbrev rm_R_hook : Room := { frames := 1, cells := 0, slots := 0, locals := 32 }
set_option maxRecDepth 20000 in
theorem ok_R_hook (l : Launch) (J : ev_K) (P : Unit → ev_M → ev_L → Prop) (X : ev_X l rm_R_hook evLY evCl ws_R_hook prog_6_method_7_code 4 y_R_hook.cls J) (Z : ev_Z J prog_6_method_7_code .return_ ev_n P) : ev_oks J (I_R_hook P) :=
  ⟨qq_iln X 2 rfl d_R_hook_0,
  qq_ic X 2 (by decide) d_R_hook_1,
  qq_icge X 26 (by decide) d_R_hook_2,
  qq_aln X 0 rfl d_R_hook_5,
  qq_gf X 4 1 rfl (fun w h => List.mem_cons_of_mem _ (inE_R w h)) (by decide) (List.mem_cons_of_mem _ mw_141) d_R_hook_6,
  qq_iln X 1 rfl d_R_hook_9,
  qq_ic X 2 (by decide) d_R_hook_10,
  qq_cV X 3 rfl (c_P_put l) (fun hts => cwV 2 hts (evGV (mw_539) (mw_310) (mw_311) (mw_2) (mw_312)) rfl rfl rfl (by decide +kernel) ⟨Nat.le_of_ble_eq_true rfl, Nat.le_of_ble_eq_true rfl⟩) d_R_hook_11,
  qq_aln X 0 rfl d_R_hook_14,
  qq_gf X 4 1 rfl (fun w h => List.mem_cons_of_mem _ (inE_R w h)) (by decide) (List.mem_cons_of_mem _ mw_141) d_R_hook_15,
  qq_iln X 1 rfl d_R_hook_18,
  qq_iln X 3 rfl d_R_hook_19,
  qq_cV X 3 rfl (c_P_putTrap l) (fun hts => cwV 2 hts (evGV (mw_572) (mw_573) (mw_574) (mw_2) (mw_575)) rfl rfl rfl (by decide +kernel) ⟨Nat.le_of_ble_eq_true rfl, Nat.le_of_ble_eq_true rfl⟩) d_R_hook_20,
  qq_go X 47 (by decide) d_R_hook_23,
  qq_aln X 0 rfl d_R_hook_26,
  qq_gf X 4 1 rfl (fun w h => List.mem_cons_of_mem _ (inE_R w h)) (by decide) (List.mem_cons_of_mem _ mw_141) d_R_hook_27,
  qq_iln X 1 rfl d_R_hook_30,
  qq_bp X 69 (by decide) d_R_hook_31,
  qq_cV X 3 rfl (c_P_put l) (fun hts => cwV 2 hts (evGV (mw_539) (mw_310) (mw_311) (mw_2) (mw_312)) rfl rfl rfl (by decide +kernel) ⟨Nat.le_of_ble_eq_true rfl, Nat.le_of_ble_eq_true rfl⟩) d_R_hook_33,
  qq_aln X 0 rfl d_R_hook_36,
  qq_gf X 4 1 rfl (fun w h => List.mem_cons_of_mem _ (inE_R w h)) (by decide) (List.mem_cons_of_mem _ mw_141) d_R_hook_37,
  qq_iln X 1 rfl d_R_hook_40,
  qq_ic X 1 (by decide) d_R_hook_41,
  qq_iadd X d_R_hook_42,
  qq_iln X 3 rfl d_R_hook_43,
  qq_cV X 3 rfl (c_P_put l) (fun hts => cwV 2 hts (evGV (mw_539) (mw_310) (mw_311) (mw_2) (mw_312)) rfl rfl rfl (by decide +kernel) ⟨Nat.le_of_ble_eq_true rfl, Nat.le_of_ble_eq_true rfl⟩) d_R_hook_44,
  qq_rv Z d_R_hook_47, trivial⟩
def pre_R_hook : List Value → ev_M → ev_L → Prop := fun as _ _ => ∃ (a s t : Int32), as = [.ref 18, .int a, .int s, .int t] ∧ ¬ t = 0
def post_R_hook : List Value → ev_M → ev_L → Unit → ev_M → ev_L → Prop := fun as σ τ _ σ' τ' => match as with
  | [_, .int a, .int s, .int t] => rvC σ' = rw_hook a s t (rvC σ) ∧ frW σ σ' ∧ τ' = τ
  | _ => False
set_option maxHeartbeats 4000000 in
set_option maxRecDepth 100000 in
theorem c_R_hook (l : Launch) : ev_C ev_n l y_R_hook ws_R_hook rm_R_hook evLY evCl pre_R_hook post_R_hook := by
  refine ev_meth0 (by decide) rfl ev_rop_v ?_ I_R_hook (ok_R_hook l) 80 ?_
  · rintro _ σ τ ⟨a, s, t, rfl, h⟩
    exact Nat.le_of_ble_eq_true rfl
  · rintro _ σ τ ⟨a, s, t, rfl, ht⟩
    refine br_c (fun h => ?_) (fun h => ?_)
    · refine ⟨⟨_, _, _, rfl, by decide⟩, ?_⟩
      rintro _ _ τ ⟨rfl, rfl⟩
      refine ⟨⟨_, _, _, rfl, by decide⟩, ?_⟩
      rintro _ _ τ ⟨rfl, rfl⟩
      refine ⟨?_, frW_tr (frW_put σ _ _) (frW_put _ _ _), rfl⟩
      show rvC (sp_put (sp_put σ 21 a 69) 21 (a + 1) t) = _
      rw [rvC_put, rvC_put]
      exact (if_neg (Int32.not_lt.mpr h)).symm
    · refine ⟨⟨_, _, _, rfl, by decide⟩, ?_⟩
      rintro _ _ τ ⟨rfl, rfl⟩
      refine ⟨⟨_, _, rfl⟩, ?_⟩
      rintro _ _ τ ⟨rfl, rfl⟩
      refine ⟨?_, frW_tr (frW_put σ a 2) ?_, rfl⟩
      · show rvC (sp_putTrap (sp_put σ 21 a 2) 22 a t) = _
        rw [rvC_trap _ _ _ ht, rvC_put]
        exact (if_pos (Int32.not_le.mp h)).symm
      · unfold sp_putTrap
        split
        · exact ⟨fun k _ _ _ h => if_neg h, rfl⟩
        · exact frW_rf _
end
section
/-! the reference: small methods -/
def sd_size (x : Int32) : Int32 := if x < 48 then 1 else if x < 71 then 2 else if x = 71 ∨ 77 < x then 0 else if x = 76 then 2 else 3
def y_D_sizeOf : MethodName := ⟨RD, "sizeOf", "(I)I"⟩
def ws_D_sizeOf : List Cond := .code y_D_sizeOf prog_9_method_8_code 1 (some .int) :: evW
theorem d_D_sizeOf_0 : decode prog_9_method_8_code 0 = .ok (.iload_n 0, 1) := by decide +kernel
theorem d_D_sizeOf_1 : decode prog_9_method_8_code 1 = .ok (.bipush 48, 2) := by decide +kernel
theorem d_D_sizeOf_3 : decode prog_9_method_8_code 3 = .ok (.if_icmp .ge 5, 3) := by decide +kernel
theorem d_D_sizeOf_6 : decode prog_9_method_8_code 6 = .ok (.iconst 1, 1) := by decide +kernel
theorem d_D_sizeOf_7 : decode prog_9_method_8_code 7 = .ok (.ireturn, 1) := by decide +kernel
theorem d_D_sizeOf_8 : decode prog_9_method_8_code 8 = .ok (.iload_n 0, 1) := by decide +kernel
theorem d_D_sizeOf_9 : decode prog_9_method_8_code 9 = .ok (.bipush 71, 2) := by decide +kernel
theorem d_D_sizeOf_11 : decode prog_9_method_8_code 11 = .ok (.if_icmp .ge 5, 3) := by decide +kernel
theorem d_D_sizeOf_14 : decode prog_9_method_8_code 14 = .ok (.iconst 2, 1) := by decide +kernel
theorem d_D_sizeOf_15 : decode prog_9_method_8_code 15 = .ok (.ireturn, 1) := by decide +kernel
theorem d_D_sizeOf_16 : decode prog_9_method_8_code 16 = .ok (.iload_n 0, 1) := by decide +kernel
theorem d_D_sizeOf_17 : decode prog_9_method_8_code 17 = .ok (.bipush 71, 2) := by decide +kernel
theorem d_D_sizeOf_19 : decode prog_9_method_8_code 19 = .ok (.if_icmp .eq 9, 3) := by decide +kernel
theorem d_D_sizeOf_22 : decode prog_9_method_8_code 22 = .ok (.iload_n 0, 1) := by decide +kernel
theorem d_D_sizeOf_23 : decode prog_9_method_8_code 23 = .ok (.bipush 77, 2) := by decide +kernel
theorem d_D_sizeOf_25 : decode prog_9_method_8_code 25 = .ok (.if_icmp .le 5, 3) := by decide +kernel
theorem d_D_sizeOf_28 : decode prog_9_method_8_code 28 = .ok (.iconst 0, 1) := by decide +kernel
theorem d_D_sizeOf_29 : decode prog_9_method_8_code 29 = .ok (.ireturn, 1) := by decide +kernel
theorem d_D_sizeOf_30 : decode prog_9_method_8_code 30 = .ok (.iload_n 0, 1) := by decide +kernel
theorem d_D_sizeOf_31 : decode prog_9_method_8_code 31 = .ok (.bipush 76, 2) := by decide +kernel
theorem d_D_sizeOf_33 : decode prog_9_method_8_code 33 = .ok (.if_icmp .ne 7, 3) := by decide +kernel
theorem d_D_sizeOf_36 : decode prog_9_method_8_code 36 = .ok (.iconst 2, 1) := by decide +kernel
theorem d_D_sizeOf_37 : decode prog_9_method_8_code 37 = .ok (.goto 4, 3) := by decide +kernel
theorem d_D_sizeOf_40 : decode prog_9_method_8_code 40 = .ok (.iconst 3, 1) := by decide +kernel
theorem d_D_sizeOf_41 : decode prog_9_method_8_code 41 = .ok (.ireturn, 1) := by decide +kernel
def I_D_sizeOf (P : Int32 → ev_M → ev_L → Prop) : List (Nat × ev_T) := [(0, tt_il 0 1),
  (1, tt_k 48 3),
  (3, tt_icge 8 6),
  (6, tt_k 1 7),
  (7, tt_ri P),
  (8, tt_il 0 9),
  (9, tt_k 71 11),
  (11, tt_icge 16 14),
  (14, tt_k 2 15),
  (15, tt_ri P),
  (16, tt_il 0 17),
  (17, tt_k 71 19),
  (19, tt_iceq 28 22),
  (22, tt_il 0 23),
  (23, tt_k 77 25),
  (25, tt_icle 30 28),
  (28, tt_k 0 29),
  (29, tt_ri P),
  (30, tt_il 0 31),
  (31, tt_k 76 33),
  (33, tt_icne 40 36),
  (36, tt_k 2 37),
  (37, tt_go 41),
  (40, tt_k 3 41),
  (41, tt_ri P)]
abbrev rm_D_sizeOf : Room := { frames := 0, cells := 0, slots := 0, locals := 0 }
set_option maxRecDepth 20000 in
theorem ok_D_sizeOf (l : Launch) (J : ev_K) (P : Int32 → ev_M → ev_L → Prop) (X : ev_X l rm_D_sizeOf evLY evCl ws_D_sizeOf prog_9_method_8_code 1 y_D_sizeOf.cls J) (Z : ev_Z J prog_9_method_8_code .ireturn ev_i P) : ev_oks J (I_D_sizeOf P) :=
  ⟨qq_iln X 0 rfl d_D_sizeOf_0,
  qq_bp X 48 (by decide) d_D_sizeOf_1,
  qq_icge X 8 (by decide) d_D_sizeOf_3,
  qq_ic X 1 (by decide) d_D_sizeOf_6,
  qq_ri Z d_D_sizeOf_7,
  qq_iln X 0 rfl d_D_sizeOf_8,
  qq_bp X 71 (by decide) d_D_sizeOf_9,
  qq_icge X 16 (by decide) d_D_sizeOf_11,
  qq_ic X 2 (by decide) d_D_sizeOf_14,
  qq_ri Z d_D_sizeOf_15,
  qq_iln X 0 rfl d_D_sizeOf_16,
  qq_bp X 71 (by decide) d_D_sizeOf_17,
  qq_iceq X 28 (by decide) d_D_sizeOf_19,
  qq_iln X 0 rfl d_D_sizeOf_22,
  qq_bp X 77 (by decide) d_D_sizeOf_23,
  qq_icle X 30 (by decide) d_D_sizeOf_25,
  qq_ic X 0 (by decide) d_D_sizeOf_28,
  qq_ri Z d_D_sizeOf_29,
  qq_iln X 0 rfl d_D_sizeOf_30,
  qq_bp X 76 (by decide) d_D_sizeOf_31,
  qq_icne X 40 (by decide) d_D_sizeOf_33,
  qq_ic X 2 (by decide) d_D_sizeOf_36,
  qq_go X 41 (by decide) d_D_sizeOf_37,
  qq_ic X 3 (by decide) d_D_sizeOf_40,
  qq_ri Z d_D_sizeOf_41, trivial⟩
def pre_D_sizeOf : List Value → ev_M → ev_L → Prop := fun as σ τ => ∃ (x : Int32), as = [.int x]
def post_D_sizeOf : List Value → ev_M → ev_L → Int32 → ev_M → ev_L → Prop := fun as σ τ r σ' τ' => match as with
  | [.int x] => r = sd_size x ∧ σ' = σ ∧ τ' = τ
  | _ => False
set_option maxHeartbeats 4000000 in
set_option maxRecDepth 100000 in
theorem c_D_sizeOf (l : Launch) : ev_C ev_i l y_D_sizeOf ws_D_sizeOf rm_D_sizeOf evLY evCl pre_D_sizeOf post_D_sizeOf := by
  refine ev_meth0 (by decide) rfl ev_rop_i ?_ I_D_sizeOf (ok_D_sizeOf l) 60 ?_
  · rintro _ σ τ ⟨x, rfl⟩
    exact Nat.le_of_ble_eq_true rfl
  · rintro _ σ τ ⟨x, rfl⟩
    repeat' first | refine br_c (fun _ => ?_) (fun _ => ?_) | refine br_n (fun _ => ?_) (fun _ => ?_)
    all_goals
      refine ⟨?_, rfl, rfl⟩
      unfold sd_size
      repeat' split
      all_goals first | rfl | (exfalso; simp only [Int32.lt_iff_toInt_lt, Int32.le_iff_toInt_le, ← Int32.toInt_inj, Int32.reduceToInt] at *; omega)
def sd_br (x : Int32) : Bool := decide (60 ≤ x ∧ x ≤ 68)
def sd_cond (x : Int32) : Bool := decide (60 ≤ x ∧ x < 68)
def sd_sw (x : Int32) : Bool := decide (72 ≤ x ∧ x < 76)
def y_D_branches : MethodName := ⟨RD, "branches", "(I)Z"⟩
def ws_D_branches : List Cond := .code y_D_branches prog_9_method_9_code 1 (some .boolean) :: evW
theorem d_D_branches_0 : decode prog_9_method_9_code 0 = .ok (.iload_n 0, 1) := by decide +kernel
theorem d_D_branches_1 : decode prog_9_method_9_code 1 = .ok (.bipush 60, 2) := by decide +kernel
theorem d_D_branches_3 : decode prog_9_method_9_code 3 = .ok (.if_icmp .lt 13, 3) := by decide +kernel
theorem d_D_branches_6 : decode prog_9_method_9_code 6 = .ok (.iload_n 0, 1) := by decide +kernel
theorem d_D_branches_7 : decode prog_9_method_9_code 7 = .ok (.bipush 68, 2) := by decide +kernel
theorem d_D_branches_9 : decode prog_9_method_9_code 9 = .ok (.if_icmp .gt 7, 3) := by decide +kernel
theorem d_D_branches_12 : decode prog_9_method_9_code 12 = .ok (.iconst 1, 1) := by decide +kernel
theorem d_D_branches_13 : decode prog_9_method_9_code 13 = .ok (.goto 4, 3) := by decide +kernel
theorem d_D_branches_16 : decode prog_9_method_9_code 16 = .ok (.iconst 0, 1) := by decide +kernel
theorem d_D_branches_17 : decode prog_9_method_9_code 17 = .ok (.ireturn, 1) := by decide +kernel
def I_D_branches (P : Bool → ev_M → ev_L → Prop) : List (Nat × ev_T) := [(0, tt_il 0 1),
  (1, tt_k 60 3),
  (3, tt_iclt 16 6),
  (6, tt_il 0 7),
  (7, tt_k 68 9),
  (9, tt_icgt 16 12),
  (12, tt_k 1 13),
  (13, tt_go 17),
  (16, tt_k 0 17),
  (17, tt_rz P)]
abbrev rm_D_branches : Room := { frames := 0, cells := 0, slots := 0, locals := 0 }
set_option maxRecDepth 20000 in
theorem ok_D_branches (l : Launch) (J : ev_K) (P : Bool → ev_M → ev_L → Prop) (X : ev_X l rm_D_branches evLY evCl ws_D_branches prog_9_method_9_code 1 y_D_branches.cls J) (Z : ev_Z J prog_9_method_9_code .ireturn ev_b P) : ev_oks J (I_D_branches P) :=
  ⟨qq_iln X 0 rfl d_D_branches_0,
  qq_bp X 60 (by decide) d_D_branches_1,
  qq_iclt X 16 (by decide) d_D_branches_3,
  qq_iln X 0 rfl d_D_branches_6,
  qq_bp X 68 (by decide) d_D_branches_7,
  qq_icgt X 16 (by decide) d_D_branches_9,
  qq_ic X 1 (by decide) d_D_branches_12,
  qq_go X 17 (by decide) d_D_branches_13,
  qq_ic X 0 (by decide) d_D_branches_16,
  qq_rz Z d_D_branches_17, trivial⟩
def pre_D_branches : List Value → ev_M → ev_L → Prop := fun as σ τ => ∃ (x : Int32), as = [.int x]
def post_D_branches : List Value → ev_M → ev_L → Bool → ev_M → ev_L → Prop := fun as σ τ r σ' τ' => match as with
  | [.int x] => r = sd_br x ∧ σ' = σ ∧ τ' = τ
  | _ => False
set_option maxHeartbeats 4000000 in
set_option maxRecDepth 100000 in
theorem c_D_branches (l : Launch) : ev_C ev_b l y_D_branches ws_D_branches rm_D_branches evLY evCl pre_D_branches post_D_branches := by
  refine ev_meth0 (by decide) rfl ev_rop_b ?_ I_D_branches (ok_D_branches l) 60 ?_
  · rintro _ σ τ ⟨x, rfl⟩
    exact Nat.le_of_ble_eq_true rfl
  · rintro _ σ τ ⟨x, rfl⟩
    repeat' first | refine br_c (fun _ => ?_) (fun _ => ?_) | refine br_n (fun _ => ?_) (fun _ => ?_)
    all_goals
      first
      | exact ⟨true, rfl, (decide_eq_true (by simp only [Int32.lt_iff_toInt_lt, Int32.le_iff_toInt_le, ← Int32.toInt_inj, Int32.reduceToInt] at *; omega)).symm, rfl, rfl⟩
      | exact ⟨false, rfl, (decide_eq_false (by simp only [Int32.lt_iff_toInt_lt, Int32.le_iff_toInt_le, ← Int32.toInt_inj, Int32.reduceToInt] at *; omega)).symm, rfl, rfl⟩
def y_D_isConditional : MethodName := ⟨RD, "isConditional", "(I)Z"⟩
def ws_D_isConditional : List Cond := .code y_D_isConditional prog_9_method_10_code 1 (some .boolean) :: evW
theorem d_D_isConditional_0 : decode prog_9_method_10_code 0 = .ok (.iload_n 0, 1) := by decide +kernel
theorem d_D_isConditional_1 : decode prog_9_method_10_code 1 = .ok (.bipush 60, 2) := by decide +kernel
theorem d_D_isConditional_3 : decode prog_9_method_10_code 3 = .ok (.if_icmp .lt 13, 3) := by decide +kernel
theorem d_D_isConditional_6 : decode prog_9_method_10_code 6 = .ok (.iload_n 0, 1) := by decide +kernel
theorem d_D_isConditional_7 : decode prog_9_method_10_code 7 = .ok (.bipush 68, 2) := by decide +kernel
theorem d_D_isConditional_9 : decode prog_9_method_10_code 9 = .ok (.if_icmp .ge 7, 3) := by decide +kernel
theorem d_D_isConditional_12 : decode prog_9_method_10_code 12 = .ok (.iconst 1, 1) := by decide +kernel
theorem d_D_isConditional_13 : decode prog_9_method_10_code 13 = .ok (.goto 4, 3) := by decide +kernel
theorem d_D_isConditional_16 : decode prog_9_method_10_code 16 = .ok (.iconst 0, 1) := by decide +kernel
theorem d_D_isConditional_17 : decode prog_9_method_10_code 17 = .ok (.ireturn, 1) := by decide +kernel
def I_D_isConditional (P : Bool → ev_M → ev_L → Prop) : List (Nat × ev_T) := [(0, tt_il 0 1),
  (1, tt_k 60 3),
  (3, tt_iclt 16 6),
  (6, tt_il 0 7),
  (7, tt_k 68 9),
  (9, tt_icge 16 12),
  (12, tt_k 1 13),
  (13, tt_go 17),
  (16, tt_k 0 17),
  (17, tt_rz P)]
abbrev rm_D_isConditional : Room := { frames := 0, cells := 0, slots := 0, locals := 0 }
set_option maxRecDepth 20000 in
theorem ok_D_isConditional (l : Launch) (J : ev_K) (P : Bool → ev_M → ev_L → Prop) (X : ev_X l rm_D_isConditional evLY evCl ws_D_isConditional prog_9_method_10_code 1 y_D_isConditional.cls J) (Z : ev_Z J prog_9_method_10_code .ireturn ev_b P) : ev_oks J (I_D_isConditional P) :=
  ⟨qq_iln X 0 rfl d_D_isConditional_0,
  qq_bp X 60 (by decide) d_D_isConditional_1,
  qq_iclt X 16 (by decide) d_D_isConditional_3,
  qq_iln X 0 rfl d_D_isConditional_6,
  qq_bp X 68 (by decide) d_D_isConditional_7,
  qq_icge X 16 (by decide) d_D_isConditional_9,
  qq_ic X 1 (by decide) d_D_isConditional_12,
  qq_go X 17 (by decide) d_D_isConditional_13,
  qq_ic X 0 (by decide) d_D_isConditional_16,
  qq_rz Z d_D_isConditional_17, trivial⟩
def pre_D_isConditional : List Value → ev_M → ev_L → Prop := fun as σ τ => ∃ (x : Int32), as = [.int x]
def post_D_isConditional : List Value → ev_M → ev_L → Bool → ev_M → ev_L → Prop := fun as σ τ r σ' τ' => match as with
  | [.int x] => r = sd_cond x ∧ σ' = σ ∧ τ' = τ
  | _ => False
set_option maxHeartbeats 4000000 in
set_option maxRecDepth 100000 in
theorem c_D_isConditional (l : Launch) : ev_C ev_b l y_D_isConditional ws_D_isConditional rm_D_isConditional evLY evCl pre_D_isConditional post_D_isConditional := by
  refine ev_meth0 (by decide) rfl ev_rop_b ?_ I_D_isConditional (ok_D_isConditional l) 60 ?_
  · rintro _ σ τ ⟨x, rfl⟩
    exact Nat.le_of_ble_eq_true rfl
  · rintro _ σ τ ⟨x, rfl⟩
    repeat' first | refine br_c (fun _ => ?_) (fun _ => ?_) | refine br_n (fun _ => ?_) (fun _ => ?_)
    all_goals
      first
      | exact ⟨true, rfl, (decide_eq_true (by simp only [Int32.lt_iff_toInt_lt, Int32.le_iff_toInt_le, ← Int32.toInt_inj, Int32.reduceToInt] at *; omega)).symm, rfl, rfl⟩
      | exact ⟨false, rfl, (decide_eq_false (by simp only [Int32.lt_iff_toInt_lt, Int32.le_iff_toInt_le, ← Int32.toInt_inj, Int32.reduceToInt] at *; omega)).symm, rfl, rfl⟩
def y_D_isSwitch : MethodName := ⟨RD, "isSwitch", "(I)Z"⟩
def ws_D_isSwitch : List Cond := .code y_D_isSwitch prog_9_method_11_code 1 (some .boolean) :: evW
theorem d_D_isSwitch_0 : decode prog_9_method_11_code 0 = .ok (.iload_n 0, 1) := by decide +kernel
theorem d_D_isSwitch_1 : decode prog_9_method_11_code 1 = .ok (.bipush 72, 2) := by decide +kernel
theorem d_D_isSwitch_3 : decode prog_9_method_11_code 3 = .ok (.if_icmp .lt 13, 3) := by decide +kernel
theorem d_D_isSwitch_6 : decode prog_9_method_11_code 6 = .ok (.iload_n 0, 1) := by decide +kernel
theorem d_D_isSwitch_7 : decode prog_9_method_11_code 7 = .ok (.bipush 76, 2) := by decide +kernel
theorem d_D_isSwitch_9 : decode prog_9_method_11_code 9 = .ok (.if_icmp .ge 7, 3) := by decide +kernel
theorem d_D_isSwitch_12 : decode prog_9_method_11_code 12 = .ok (.iconst 1, 1) := by decide +kernel
theorem d_D_isSwitch_13 : decode prog_9_method_11_code 13 = .ok (.goto 4, 3) := by decide +kernel
theorem d_D_isSwitch_16 : decode prog_9_method_11_code 16 = .ok (.iconst 0, 1) := by decide +kernel
theorem d_D_isSwitch_17 : decode prog_9_method_11_code 17 = .ok (.ireturn, 1) := by decide +kernel
def I_D_isSwitch (P : Bool → ev_M → ev_L → Prop) : List (Nat × ev_T) := [(0, tt_il 0 1),
  (1, tt_k 72 3),
  (3, tt_iclt 16 6),
  (6, tt_il 0 7),
  (7, tt_k 76 9),
  (9, tt_icge 16 12),
  (12, tt_k 1 13),
  (13, tt_go 17),
  (16, tt_k 0 17),
  (17, tt_rz P)]
abbrev rm_D_isSwitch : Room := { frames := 0, cells := 0, slots := 0, locals := 0 }
set_option maxRecDepth 20000 in
theorem ok_D_isSwitch (l : Launch) (J : ev_K) (P : Bool → ev_M → ev_L → Prop) (X : ev_X l rm_D_isSwitch evLY evCl ws_D_isSwitch prog_9_method_11_code 1 y_D_isSwitch.cls J) (Z : ev_Z J prog_9_method_11_code .ireturn ev_b P) : ev_oks J (I_D_isSwitch P) :=
  ⟨qq_iln X 0 rfl d_D_isSwitch_0,
  qq_bp X 72 (by decide) d_D_isSwitch_1,
  qq_iclt X 16 (by decide) d_D_isSwitch_3,
  qq_iln X 0 rfl d_D_isSwitch_6,
  qq_bp X 76 (by decide) d_D_isSwitch_7,
  qq_icge X 16 (by decide) d_D_isSwitch_9,
  qq_ic X 1 (by decide) d_D_isSwitch_12,
  qq_go X 17 (by decide) d_D_isSwitch_13,
  qq_ic X 0 (by decide) d_D_isSwitch_16,
  qq_rz Z d_D_isSwitch_17, trivial⟩
def pre_D_isSwitch : List Value → ev_M → ev_L → Prop := fun as σ τ => ∃ (x : Int32), as = [.int x]
def post_D_isSwitch : List Value → ev_M → ev_L → Bool → ev_M → ev_L → Prop := fun as σ τ r σ' τ' => match as with
  | [.int x] => r = sd_sw x ∧ σ' = σ ∧ τ' = τ
  | _ => False
set_option maxHeartbeats 4000000 in
set_option maxRecDepth 100000 in
theorem c_D_isSwitch (l : Launch) : ev_C ev_b l y_D_isSwitch ws_D_isSwitch rm_D_isSwitch evLY evCl pre_D_isSwitch post_D_isSwitch := by
  refine ev_meth0 (by decide) rfl ev_rop_b ?_ I_D_isSwitch (ok_D_isSwitch l) 60 ?_
  · rintro _ σ τ ⟨x, rfl⟩
    exact Nat.le_of_ble_eq_true rfl
  · rintro _ σ τ ⟨x, rfl⟩
    repeat' first | refine br_c (fun _ => ?_) (fun _ => ?_) | refine br_n (fun _ => ?_) (fun _ => ?_)
    all_goals
      first
      | exact ⟨true, rfl, (decide_eq_true (by simp only [Int32.lt_iff_toInt_lt, Int32.le_iff_toInt_le, ← Int32.toInt_inj, Int32.reduceToInt] at *; omega)).symm, rfl, rfl⟩
      | exact ⟨false, rfl, (decide_eq_false (by simp only [Int32.lt_iff_toInt_lt, Int32.le_iff_toInt_le, ← Int32.toInt_inj, Int32.reduceToInt] at *; omega)).symm, rfl, rfl⟩
def y_D_thrown : MethodName := ⟨RD, "thrown", "()I"⟩
def ws_D_thrown : List Cond := .code y_D_thrown prog_9_method_2_code 1 (some .int) :: evW
theorem d_D_thrown_0 : decode prog_9_method_2_code 0 = .ok (.aload_n 0, 1) := by decide +kernel
theorem d_D_thrown_1 : decode prog_9_method_2_code 1 = .ok (.getfield 63, 3) := by decide +kernel
theorem d_D_thrown_4 : decode prog_9_method_2_code 4 = .ok (.ireturn, 1) := by decide +kernel
def I_D_thrown (P : Int32 → ev_M → ev_L → Prop) : List (Nat × ev_T) := [(0, tt_al 0 1),
  (1, tt_gf evLY 7 0 4),
  (4, tt_ri P)]
abbrev rm_D_thrown : Room := { frames := 0, cells := 0, slots := 0, locals := 0 }
set_option maxRecDepth 20000 in
theorem ok_D_thrown (l : Launch) (J : ev_K) (P : Int32 → ev_M → ev_L → Prop) (X : ev_X l rm_D_thrown evLY evCl ws_D_thrown prog_9_method_2_code 1 y_D_thrown.cls J) (Z : ev_Z J prog_9_method_2_code .ireturn ev_i P) : ev_oks J (I_D_thrown P) :=
  ⟨qq_aln X 0 rfl d_D_thrown_0,
  qq_gf X 7 0 rfl (fun w h => List.mem_cons_of_mem _ (inE_D w h)) (by decide) (List.mem_cons_of_mem _ mw_754) d_D_thrown_1,
  qq_ri Z d_D_thrown_4, trivial⟩
def pre_D_thrown : List Value → ev_M → ev_L → Prop := fun as σ τ => as = [.ref 30]
def post_D_thrown : List Value → ev_M → ev_L → Int32 → ev_M → ev_L → Prop := fun as σ τ r σ' τ' => match as with
  | [_] => r = σ 30 0 ∧ σ' = σ ∧ τ' = τ
  | _ => False
set_option maxHeartbeats 4000000 in
set_option maxRecDepth 100000 in
theorem c_D_thrown (l : Launch) : ev_C ev_i l y_D_thrown ws_D_thrown rm_D_thrown evLY evCl pre_D_thrown post_D_thrown := by
  refine ev_meth0 (by decide) rfl ev_rop_i ?_ I_D_thrown (ok_D_thrown l) 60 ?_
  · rintro _ σ τ rfl
    exact Nat.le_of_ble_eq_true rfl
  · rintro _ σ τ rfl
    exact ⟨rfl, rfl, rfl⟩
def y_D_fail : MethodName := ⟨RD, "fail", "(I)I"⟩
def ws_D_fail : List Cond := .code y_D_fail prog_9_method_3_code 2 (some .int) :: evW
theorem d_D_fail_0 : decode prog_9_method_3_code 0 = .ok (.aload_n 0, 1) := by decide +kernel
theorem d_D_fail_1 : decode prog_9_method_3_code 1 = .ok (.iload_n 1, 1) := by decide +kernel
theorem d_D_fail_2 : decode prog_9_method_3_code 2 = .ok (.putfield 63, 3) := by decide +kernel
theorem d_D_fail_5 : decode prog_9_method_3_code 5 = .ok (.iconst 0, 1) := by decide +kernel
theorem d_D_fail_6 : decode prog_9_method_3_code 6 = .ok (.ireturn, 1) := by decide +kernel
def I_D_fail (P : Int32 → ev_M → ev_L → Prop) : List (Nat × ev_T) := [(0, tt_al 0 1),
  (1, tt_il 1 2),
  (2, tt_pf evLY 7 0 5),
  (5, tt_k 0 6),
  (6, tt_ri P)]
abbrev rm_D_fail : Room := { frames := 0, cells := 0, slots := 0, locals := 0 }
set_option maxRecDepth 20000 in
theorem ok_D_fail (l : Launch) (J : ev_K) (P : Int32 → ev_M → ev_L → Prop) (X : ev_X l rm_D_fail evLY evCl ws_D_fail prog_9_method_3_code 2 y_D_fail.cls J) (Z : ev_Z J prog_9_method_3_code .ireturn ev_i P) : ev_oks J (I_D_fail P) :=
  ⟨qq_aln X 0 rfl d_D_fail_0,
  qq_iln X 1 rfl d_D_fail_1,
  qq_pf X 7 0 rfl (fun w h => List.mem_cons_of_mem _ (inE_D w h)) (by decide) tyD tyD_ok nmD rfl (by decide +kernel) (List.mem_cons_of_mem _ mw_754) d_D_fail_2,
  qq_ic X 0 (by decide) d_D_fail_5,
  qq_ri Z d_D_fail_6, trivial⟩
def pre_D_fail : List Value → ev_M → ev_L → Prop := fun as σ τ => ∃ (x : Int32), as = [.ref 30, .int x]
def post_D_fail : List Value → ev_M → ev_L → Int32 → ev_M → ev_L → Prop := fun as σ τ r σ' τ' => match as with
  | [_, .int x] => r = 0 ∧ σ' = ev_u σ 30 0 x ∧ τ' = τ
  | _ => False
set_option maxHeartbeats 4000000 in
set_option maxRecDepth 100000 in
theorem c_D_fail (l : Launch) : ev_C ev_i l y_D_fail ws_D_fail rm_D_fail evLY evCl pre_D_fail post_D_fail := by
  refine ev_meth0 (by decide) rfl ev_rop_i ?_ I_D_fail (ok_D_fail l) 60 ?_
  · rintro _ σ τ ⟨x, rfl⟩
    exact Nat.le_of_ble_eq_true rfl
  · rintro _ σ τ ⟨x, rfl⟩
    exact ⟨rfl, rfl, rfl⟩
def y_D_forget : MethodName := ⟨RD, "forget", "()V"⟩
def ws_D_forget : List Cond := .code y_D_forget prog_9_method_4_code 1 none :: evW
theorem d_D_forget_0 : decode prog_9_method_4_code 0 = .ok (.aload_n 0, 1) := by decide +kernel
theorem d_D_forget_1 : decode prog_9_method_4_code 1 = .ok (.iconst 0, 1) := by decide +kernel
theorem d_D_forget_2 : decode prog_9_method_4_code 2 = .ok (.putfield 67, 3) := by decide +kernel
theorem d_D_forget_5 : decode prog_9_method_4_code 5 = .ok (.aload_n 0, 1) := by decide +kernel
theorem d_D_forget_6 : decode prog_9_method_4_code 6 = .ok (.iconst 0, 1) := by decide +kernel
theorem d_D_forget_7 : decode prog_9_method_4_code 7 = .ok (.putfield 71, 3) := by decide +kernel
theorem d_D_forget_10 : decode prog_9_method_4_code 10 = .ok (.return_, 1) := by decide +kernel
def I_D_forget (P : Unit → ev_M → ev_L → Prop) : List (Nat × ev_T) := [(0, tt_al 0 1),
  (1, tt_k 0 2),
  (2, tt_pz evLY 7 7 5),
  (5, tt_al 0 6),
  (6, tt_k 0 7),
  (7, tt_pz evLY 7 8 10),
  (10, tt_rv P)]
abbrev rm_D_forget : Room := { frames := 0, cells := 0, slots := 0, locals := 0 }
set_option maxRecDepth 20000 in
theorem ok_D_forget (l : Launch) (J : ev_K) (P : Unit → ev_M → ev_L → Prop) (X : ev_X l rm_D_forget evLY evCl ws_D_forget prog_9_method_4_code 1 y_D_forget.cls J) (Z : ev_Z J prog_9_method_4_code .return_ ev_n P) : ev_oks J (I_D_forget P) :=
  ⟨qq_aln X 0 rfl d_D_forget_0,
  qq_ic X 0 (by decide) d_D_forget_1,
  qq_pz X 7 7 rfl (fun w h => List.mem_cons_of_mem _ (inE_D w h)) (by decide) tyD tyD_ok nmD rfl (by decide +kernel) (List.mem_cons_of_mem _ mw_761) d_D_forget_2,
  qq_aln X 0 rfl d_D_forget_5,
  qq_ic X 0 (by decide) d_D_forget_6,
  qq_pz X 7 8 rfl (fun w h => List.mem_cons_of_mem _ (inE_D w h)) (by decide) tyD tyD_ok nmD rfl (by decide +kernel) (List.mem_cons_of_mem _ mw_762) d_D_forget_7,
  qq_rv Z d_D_forget_10, trivial⟩
def pre_D_forget : List Value → ev_M → ev_L → Prop := fun as σ τ => as = [.ref 30]
def post_D_forget : List Value → ev_M → ev_L → Unit → ev_M → ev_L → Prop := fun as σ τ r σ' τ' => match as with
  | [_] => σ' = ev_u (ev_u σ 30 7 0) 30 8 0 ∧ τ' = τ
  | _ => False
set_option maxHeartbeats 4000000 in
set_option maxRecDepth 100000 in
theorem c_D_forget (l : Launch) : ev_C ev_n l y_D_forget ws_D_forget rm_D_forget evLY evCl pre_D_forget post_D_forget := by
  refine ev_meth0 (by decide) rfl ev_rop_v ?_ I_D_forget (ok_D_forget l) 60 ?_
  · rintro _ σ τ rfl
    exact Nat.le_of_ble_eq_true rfl
  · rintro _ σ τ rfl
    exact ⟨Or.inl rfl, Or.inl rfl, rfl, rfl⟩
def y_D_fault : MethodName := ⟨RD, "fault", "()Z"⟩
def ws_D_fault : List Cond := .code y_D_fault prog_9_method_31_code 1 (some .boolean) :: evW
theorem d_D_fault_0 : decode prog_9_method_31_code 0 = .ok (.aload_n 0, 1) := by decide +kernel
theorem d_D_fault_1 : decode prog_9_method_31_code 1 = .ok (.iconst 2, 1) := by decide +kernel
theorem d_D_fault_2 : decode prog_9_method_31_code 2 = .ok (.putfield 152, 3) := by decide +kernel
theorem d_D_fault_5 : decode prog_9_method_31_code 5 = .ok (.iconst 0, 1) := by decide +kernel
theorem d_D_fault_6 : decode prog_9_method_31_code 6 = .ok (.ireturn, 1) := by decide +kernel
def I_D_fault (P : Bool → ev_M → ev_L → Prop) : List (Nat × ev_T) := [(0, tt_al 0 1),
  (1, tt_k 2 2),
  (2, tt_pf evLY 7 26 5),
  (5, tt_k 0 6),
  (6, tt_rz P)]
abbrev rm_D_fault : Room := { frames := 0, cells := 0, slots := 0, locals := 0 }
set_option maxRecDepth 20000 in
theorem ok_D_fault (l : Launch) (J : ev_K) (P : Bool → ev_M → ev_L → Prop) (X : ev_X l rm_D_fault evLY evCl ws_D_fault prog_9_method_31_code 1 y_D_fault.cls J) (Z : ev_Z J prog_9_method_31_code .ireturn ev_b P) : ev_oks J (I_D_fault P) :=
  ⟨qq_aln X 0 rfl d_D_fault_0,
  qq_ic X 2 (by decide) d_D_fault_1,
  qq_pf X 7 26 rfl (fun w h => List.mem_cons_of_mem _ (inE_D w h)) (by decide) tyD tyD_ok nmD rfl (by decide +kernel) (List.mem_cons_of_mem _ mw_780) d_D_fault_2,
  qq_ic X 0 (by decide) d_D_fault_5,
  qq_rz Z d_D_fault_6, trivial⟩
def pre_D_fault : List Value → ev_M → ev_L → Prop := fun as σ τ => as = [.ref 30]
def post_D_fault : List Value → ev_M → ev_L → Bool → ev_M → ev_L → Prop := fun as σ τ r σ' τ' => match as with
  | [_] => r = false ∧ σ' = ev_u σ 30 26 2 ∧ τ' = τ
  | _ => False
set_option maxHeartbeats 4000000 in
set_option maxRecDepth 100000 in
theorem c_D_fault (l : Launch) : ev_C ev_b l y_D_fault ws_D_fault rm_D_fault evLY evCl pre_D_fault post_D_fault := by
  refine ev_meth0 (by decide) rfl ev_rop_b ?_ I_D_fault (ok_D_fault l) 60 ?_
  · rintro _ σ τ rfl
    exact Nat.le_of_ble_eq_true rfl
  · rintro _ σ τ rfl
    exact ⟨false, rfl, rfl, rfl, rfl⟩
def y_D_go : MethodName := ⟨RD, "go", "(I)Z"⟩
def ws_D_go : List Cond := .code y_D_go prog_9_method_32_code 2 (some .boolean) :: evW
theorem d_D_go_0 : decode prog_9_method_32_code 0 = .ok (.aload_n 0, 1) := by decide +kernel
theorem d_D_go_1 : decode prog_9_method_32_code 1 = .ok (.iload_n 1, 1) := by decide +kernel
theorem d_D_go_2 : decode prog_9_method_32_code 2 = .ok (.putfield 155, 3) := by decide +kernel
theorem d_D_go_5 : decode prog_9_method_32_code 5 = .ok (.iconst 1, 1) := by decide +kernel
theorem d_D_go_6 : decode prog_9_method_32_code 6 = .ok (.ireturn, 1) := by decide +kernel
def I_D_go (P : Bool → ev_M → ev_L → Prop) : List (Nat × ev_T) := [(0, tt_al 0 1),
  (1, tt_il 1 2),
  (2, tt_pf evLY 7 22 5),
  (5, tt_k 1 6),
  (6, tt_rz P)]
abbrev rm_D_go : Room := { frames := 0, cells := 0, slots := 0, locals := 0 }
set_option maxRecDepth 20000 in
theorem ok_D_go (l : Launch) (J : ev_K) (P : Bool → ev_M → ev_L → Prop) (X : ev_X l rm_D_go evLY evCl ws_D_go prog_9_method_32_code 2 y_D_go.cls J) (Z : ev_Z J prog_9_method_32_code .ireturn ev_b P) : ev_oks J (I_D_go P) :=
  ⟨qq_aln X 0 rfl d_D_go_0,
  qq_iln X 1 rfl d_D_go_1,
  qq_pf X 7 22 rfl (fun w h => List.mem_cons_of_mem _ (inE_D w h)) (by decide) tyD tyD_ok nmD rfl (by decide +kernel) (List.mem_cons_of_mem _ mw_776) d_D_go_2,
  qq_ic X 1 (by decide) d_D_go_5,
  qq_rz Z d_D_go_6, trivial⟩
def pre_D_go : List Value → ev_M → ev_L → Prop := fun as σ τ => ∃ (x : Int32), as = [.ref 30, .int x]
def post_D_go : List Value → ev_M → ev_L → Bool → ev_M → ev_L → Prop := fun as σ τ r σ' τ' => match as with
  | [_, .int x] => r = true ∧ σ' = ev_u σ 30 22 x ∧ τ' = τ
  | _ => False
set_option maxHeartbeats 4000000 in
set_option maxRecDepth 100000 in
theorem c_D_go (l : Launch) : ev_C ev_b l y_D_go ws_D_go rm_D_go evLY evCl pre_D_go post_D_go := by
  refine ev_meth0 (by decide) rfl ev_rop_b ?_ I_D_go (ok_D_go l) 60 ?_
  · rintro _ σ τ ⟨x, rfl⟩
    exact Nat.le_of_ble_eq_true rfl
  · rintro _ σ τ ⟨x, rfl⟩
    exact ⟨true, rfl, rfl, rfl, rfl⟩
def y_D_at : MethodName := ⟨RD, "at", "(II)I"⟩
def ws_D_at : List Cond := .code y_D_at prog_9_method_30_code 3 (some .int) :: evW
theorem d_D_at_0 : decode prog_9_method_30_code 0 = .ok (.aload_n 0, 1) := by decide +kernel
theorem d_D_at_1 : decode prog_9_method_30_code 1 = .ok (.getfield 7, 3) := by decide +kernel
theorem d_D_at_4 : decode prog_9_method_30_code 4 = .ok (.iload_n 1, 1) := by decide +kernel
theorem d_D_at_5 : decode prog_9_method_30_code 5 = .ok (.iload_n 2, 1) := by decide +kernel
theorem d_D_at_6 : decode prog_9_method_30_code 6 = .ok (.iadd, 1) := by decide +kernel
theorem d_D_at_7 : decode prog_9_method_30_code 7 = .ok (.iaload, 1) := by decide +kernel
theorem d_D_at_8 : decode prog_9_method_30_code 8 = .ok (.ireturn, 1) := by decide +kernel
def I_D_at (P : Int32 → ev_M → ev_L → Prop) : List (Nat × ev_T) := [(0, tt_al 0 1),
  (1, tt_gf evLY 7 1 4),
  (4, tt_il 1 5),
  (5, tt_il 2 6),
  (6, tt_iadd 7),
  (7, tt_ia evLY 8),
  (8, tt_ri P)]
abbrev rm_D_at : Room := { frames := 0, cells := 0, slots := 0, locals := 0 }
set_option maxRecDepth 20000 in
theorem ok_D_at (l : Launch) (J : ev_K) (P : Int32 → ev_M → ev_L → Prop) (X : ev_X l rm_D_at evLY evCl ws_D_at prog_9_method_30_code 3 y_D_at.cls J) (Z : ev_Z J prog_9_method_30_code .ireturn ev_i P) : ev_oks J (I_D_at P) :=
  ⟨qq_aln X 0 rfl d_D_at_0,
  qq_gf X 7 1 rfl (fun w h => List.mem_cons_of_mem _ (inE_D w h)) (by decide) (List.mem_cons_of_mem _ mw_755) d_D_at_1,
  qq_iln X 1 rfl d_D_at_4,
  qq_iln X 2 rfl d_D_at_5,
  qq_iadd X d_D_at_6,
  qq_ia X d_D_at_7,
  qq_ri Z d_D_at_8, trivial⟩
def pre_D_at : List Value → ev_M → ev_L → Prop := fun as σ τ => ∃ (b a : Int32), as = [.ref 30, .int b, .int a] ∧ vp_in (b + a) 512
def post_D_at : List Value → ev_M → ev_L → Int32 → ev_M → ev_L → Prop := fun as σ τ r σ' τ' => match as with
  | [_, .int b, .int a] => r = σ 31 (b + a).toNatClampNeg ∧ σ' = σ ∧ τ' = τ
  | _ => False
set_option maxHeartbeats 4000000 in
set_option maxRecDepth 100000 in
theorem c_D_at (l : Launch) : ev_C ev_i l y_D_at ws_D_at rm_D_at evLY evCl pre_D_at post_D_at := by
  refine ev_meth0 (by decide) rfl ev_rop_i ?_ I_D_at (ok_D_at l) 60 ?_
  · rintro _ σ τ ⟨b, a, rfl, hp⟩
    exact Nat.le_of_ble_eq_true rfl
  · rintro _ σ τ ⟨b, a, rfl, hp⟩
    exact ⟨hp, rfl, rfl, rfl⟩
def y_D_steps : MethodName := ⟨RD, "steps", "()I"⟩
def ws_D_steps : List Cond := .code y_D_steps prog_9_method_40_code 1 (some .int) :: evW
theorem d_D_steps_0 : decode prog_9_method_40_code 0 = .ok (.aload_n 0, 1) := by decide +kernel
theorem d_D_steps_1 : decode prog_9_method_40_code 1 = .ok (.iconst 0, 1) := by decide +kernel
theorem d_D_steps_2 : decode prog_9_method_40_code 2 = .ok (.putfield 63, 3) := by decide +kernel
theorem d_D_steps_5 : decode prog_9_method_40_code 5 = .ok (.aload_n 0, 1) := by decide +kernel
theorem d_D_steps_6 : decode prog_9_method_40_code 6 = .ok (.getfield 188, 3) := by decide +kernel
theorem d_D_steps_9 : decode prog_9_method_40_code 9 = .ok (.ireturn, 1) := by decide +kernel
def I_D_steps (P : Int32 → ev_M → ev_L → Prop) : List (Nat × ev_T) := [(0, tt_al 0 1),
  (1, tt_k 0 2),
  (2, tt_pf evLY 7 0 5),
  (5, tt_al 0 6),
  (6, tt_gf evLY 7 25 9),
  (9, tt_ri P)]
abbrev rm_D_steps : Room := { frames := 0, cells := 0, slots := 0, locals := 0 }
set_option maxRecDepth 20000 in
theorem ok_D_steps (l : Launch) (J : ev_K) (P : Int32 → ev_M → ev_L → Prop) (X : ev_X l rm_D_steps evLY evCl ws_D_steps prog_9_method_40_code 1 y_D_steps.cls J) (Z : ev_Z J prog_9_method_40_code .ireturn ev_i P) : ev_oks J (I_D_steps P) :=
  ⟨qq_aln X 0 rfl d_D_steps_0,
  qq_ic X 0 (by decide) d_D_steps_1,
  qq_pf X 7 0 rfl (fun w h => List.mem_cons_of_mem _ (inE_D w h)) (by decide) tyD tyD_ok nmD rfl (by decide +kernel) (List.mem_cons_of_mem _ mw_754) d_D_steps_2,
  qq_aln X 0 rfl d_D_steps_5,
  qq_gf X 7 25 rfl (fun w h => List.mem_cons_of_mem _ (inE_D w h)) (by decide) (List.mem_cons_of_mem _ mw_779) d_D_steps_6,
  qq_ri Z d_D_steps_9, trivial⟩
def pre_D_steps : List Value → ev_M → ev_L → Prop := fun as σ τ => as = [.ref 30]
def post_D_steps : List Value → ev_M → ev_L → Int32 → ev_M → ev_L → Prop := fun as σ τ r σ' τ' => match as with
  | [_] => r = σ 30 25 ∧ σ' = ev_u σ 30 0 0 ∧ τ' = τ
  | _ => False
set_option maxHeartbeats 4000000 in
set_option maxRecDepth 100000 in
theorem c_D_steps (l : Launch) : ev_C ev_i l y_D_steps ws_D_steps rm_D_steps evLY evCl pre_D_steps post_D_steps := by
  refine ev_meth0 (by decide) rfl ev_rop_i ?_ I_D_steps (ok_D_steps l) 60 ?_
  · rintro _ σ τ rfl
    exact Nat.le_of_ble_eq_true rfl
  · rintro _ σ τ rfl
    exact ⟨rfl, rfl, rfl⟩
end
section
/-! the reference's step -/
theorem br_nt {c A B : Prop} (h : ¬ c) (a : A) : (¬ c → A) ∧ (c → B) := ⟨fun _ => a, fun q => absurd q h⟩
theorem br_nf {c A B : Prop} (h : c) (b : B) : (¬ c → A) ∧ (c → B) := ⟨fun q => absurd h q, fun _ => b⟩
def fD (σ : ev_M) (b : Int32) : Nat → Int32 := fun i => σ 31 (b.toNatClampNeg + i)
def trD (σ : ev_M) (b : Int32) : Int32 → Int32 := fun a => if 0 < b ∧ 0 ≤ a ∧ a < 96 then σ 32 a.toNatClampNeg else -1
def mvD (σ : ev_M) (τ : ev_L) : mst := (σ 43, σ 44, σ 45, σ 46, τ 47, σ 30 22, σ 30 23, σ 30 24, σ 30 25)
def frD (σ σ' : ev_M) (τ τ' : ev_L) : Prop := (∀ k, ¬ k = 30 → (k < 43 ∨ 46 < k) → σ' k = σ k) ∧ (∀ j, (j < 22 ∨ 26 < j) → σ' 30 j = σ 30 j) ∧ ∀ k, ¬ k = 47 → τ' k = τ k
theorem frD_rf (σ : ev_M) (τ : ev_L) : frD σ σ τ τ := ⟨fun _ _ _ => rfl, fun _ _ => rfl, fun _ _ => rfl⟩
theorem frD_tr {σ σ1 σ2 : ev_M} {τ τ1 τ2 : ev_L} (h1 : frD σ σ1 τ τ1) (h2 : frD σ1 σ2 τ1 τ2) : frD σ σ2 τ τ2 := ⟨fun k hk hq => (h2.1 k hk hq).trans (h1.1 k hk hq), fun k hk => (h2.2.1 k hk).trans (h1.2.1 k hk), fun k hk => (h2.2.2 k hk).trans (h1.2.2 k hk)⟩
theorem frD_u {σ : ev_M} {τ : ev_L} (k j : Nat) (x : Int32) (hk : 43 ≤ k ∧ k ≤ 46) : frD σ (ev_u σ k j x) τ τ := ⟨fun q _ hq => if_neg (by omega), fun q _ => by unfold ev_u ev_p; rw [if_neg (by omega)], fun _ _ => rfl⟩
theorem frD_f {σ : ev_M} {τ : ev_L} (j : Nat) (x : Int32) (hj : 22 ≤ j ∧ j ≤ 26) : frD σ (ev_u σ 30 j x) τ τ := ⟨fun q hq _ => if_neg hq, fun q hq => by unfold ev_u ev_p upd; rw [if_pos rfl, if_neg (by omega)], fun _ _ => rfl⟩
theorem frD_w {σ : ev_M} {τ : ev_L} (j : Nat) (x : Int64) : frD σ σ τ (ev_w τ 47 j x) := ⟨fun _ _ _ => rfl, fun _ _ => rfl, fun q hq => if_neg hq⟩
theorem at_D {σ : ev_M} {b a : Int32} (hb : b = 0 ∨ b = 256) (h0 : 0 ≤ a.toInt) (h1 : a.toInt < 256) : vp_in (b + a) 512 ∧ σ 31 (b + a).toNatClampNeg = sp_at (fD σ b) a := by
  have hbi : b.toInt = 0 ∨ b.toInt = 256 := by rcases hb with rfl | rfl <;> decide
  have e : (b + a).toInt = b.toInt + a.toInt := i_add (by omega) (by omega) (by omega) (by omega)
  have c1 := i_cl (x := b + a) (by omega)
  have c2 := i_cl (x := b) (by omega)
  have c3 := i_cl (x := a) (by omega)
  refine ⟨by rw [vp_in_iff]; omega, ?_⟩
  unfold sp_at
  rw [if_pos ⟨Int32.le_iff_toInt_le.mpr h0, Int32.lt_iff_toInt_lt.mpr h1⟩]
  unfold fD
  congr 1
  omega
/-- what a jump to nx answers and leaves -/
def sd_res (σ : ev_M) (nx : Int32) (r : Bool) (σ' : ev_M) : Prop := (nx = -1 ∧ r = false ∧ σ' = ev_u σ 30 26 2) ∨ (¬ nx = -1 ∧ r = true ∧ σ' = ev_u σ 30 22 nx)
def y_D_branch : MethodName := ⟨RD, "branch", "(IZ)Z"⟩
def ws_D_branch : List Cond := .code y_D_branch prog_9_method_33_code 4 (some .boolean) :: evW
theorem d_D_branch_0 : decode prog_9_method_33_code 0 = .ok (.aload_n 0, 1) := by decide +kernel
theorem d_D_branch_1 : decode prog_9_method_33_code 1 = .ok (.getfield 155, 3) := by decide +kernel
theorem d_D_branch_4 : decode prog_9_method_33_code 4 = .ok (.iconst 2, 1) := by decide +kernel
theorem d_D_branch_5 : decode prog_9_method_33_code 5 = .ok (.iadd, 1) := by decide +kernel
theorem d_D_branch_6 : decode prog_9_method_33_code 6 = .ok (.aload_n 0, 1) := by decide +kernel
theorem d_D_branch_7 : decode prog_9_method_33_code 7 = .ok (.iload_n 1, 1) := by decide +kernel
theorem d_D_branch_8 : decode prog_9_method_33_code 8 = .ok (.aload_n 0, 1) := by decide +kernel
theorem d_D_branch_9 : decode prog_9_method_33_code 9 = .ok (.getfield 155, 3) := by decide +kernel
theorem d_D_branch_12 : decode prog_9_method_33_code 12 = .ok (.iconst 1, 1) := by decide +kernel
theorem d_D_branch_13 : decode prog_9_method_33_code 13 = .ok (.iadd, 1) := by decide +kernel
theorem d_D_branch_14 : decode prog_9_method_33_code 14 = .ok (.invokevirtual 158, 3) := by decide +kernel
theorem d_D_branch_17 : decode prog_9_method_33_code 17 = .ok (.i2b, 1) := by decide +kernel
theorem d_D_branch_18 : decode prog_9_method_33_code 18 = .ok (.iadd, 1) := by decide +kernel
theorem d_D_branch_19 : decode prog_9_method_33_code 19 = .ok (.istore_n 3, 1) := by decide +kernel
theorem d_D_branch_20 : decode prog_9_method_33_code 20 = .ok (.iload_n 2, 1) := by decide +kernel
theorem d_D_branch_21 : decode prog_9_method_33_code 21 = .ok (.ifCond .ne 14, 3) := by decide +kernel
theorem d_D_branch_24 : decode prog_9_method_33_code 24 = .ok (.aload_n 0, 1) := by decide +kernel
theorem d_D_branch_25 : decode prog_9_method_33_code 25 = .ok (.aload_n 0, 1) := by decide +kernel
theorem d_D_branch_26 : decode prog_9_method_33_code 26 = .ok (.getfield 155, 3) := by decide +kernel
theorem d_D_branch_29 : decode prog_9_method_33_code 29 = .ok (.iconst 2, 1) := by decide +kernel
theorem d_D_branch_30 : decode prog_9_method_33_code 30 = .ok (.iadd, 1) := by decide +kernel
theorem d_D_branch_31 : decode prog_9_method_33_code 31 = .ok (.invokevirtual 162, 3) := by decide +kernel
theorem d_D_branch_34 : decode prog_9_method_33_code 34 = .ok (.ireturn, 1) := by decide +kernel
theorem d_D_branch_35 : decode prog_9_method_33_code 35 = .ok (.iload_n 3, 1) := by decide +kernel
theorem d_D_branch_36 : decode prog_9_method_33_code 36 = .ok (.ifCond .lt 10, 3) := by decide +kernel
theorem d_D_branch_39 : decode prog_9_method_33_code 39 = .ok (.iload_n 3, 1) := by decide +kernel
theorem d_D_branch_40 : decode prog_9_method_33_code 40 = .ok (.sipush 256, 3) := by decide +kernel
theorem d_D_branch_43 : decode prog_9_method_33_code 43 = .ok (.if_icmp .lt 10, 3) := by decide +kernel
theorem d_D_branch_46 : decode prog_9_method_33_code 46 = .ok (.aload_n 0, 1) := by decide +kernel
theorem d_D_branch_47 : decode prog_9_method_33_code 47 = .ok (.invokevirtual 165, 3) := by decide +kernel
theorem d_D_branch_50 : decode prog_9_method_33_code 50 = .ok (.goto 8, 3) := by decide +kernel
theorem d_D_branch_53 : decode prog_9_method_33_code 53 = .ok (.aload_n 0, 1) := by decide +kernel
theorem d_D_branch_54 : decode prog_9_method_33_code 54 = .ok (.iload_n 3, 1) := by decide +kernel
theorem d_D_branch_55 : decode prog_9_method_33_code 55 = .ok (.invokevirtual 162, 3) := by decide +kernel
theorem d_D_branch_58 : decode prog_9_method_33_code 58 = .ok (.ireturn, 1) := by decide +kernel
def I_D_branch (P : Bool → ev_M → ev_L → Prop) : List (Nat × ev_T) := [(0, tt_al 0 1),
  (1, tt_gf evLY 7 22 4),
  (4, tt_k 2 5),
  (5, tt_iadd 6),
  (6, tt_al 0 7),
  (7, tt_il 1 8),
  (8, tt_al 0 9),
  (9, tt_gf evLY 7 22 12),
  (12, tt_k 1 13),
  (13, tt_iadd 14),
  (14, tt_cV evLY 7 2 ev_i pre_D_at post_D_at 17),
  (17, tt_i2b 18),
  (18, tt_iadd 19),
  (19, tt_is 3 20),
  (20, tt_il 2 21),
  (21, tt_ifne 35 24),
  (24, tt_al 0 25),
  (25, tt_al 0 26),
  (26, tt_gf evLY 7 22 29),
  (29, tt_k 2 30),
  (30, tt_iadd 31),
  (31, tt_cV evLY 7 1 ev_b pre_D_go post_D_go 34),
  (34, tt_rz P),
  (35, tt_il 3 36),
  (36, tt_iflt 46 39),
  (39, tt_il 3 40),
  (40, tt_k 256 43),
  (43, tt_iclt 53 46),
  (46, tt_al 0 47),
  (47, tt_cV evLY 7 0 ev_b pre_D_fault post_D_fault 50),
  (50, tt_go 58),
  (53, tt_al 0 54),
  (54, tt_il 3 55),
  (55, tt_cV evLY 7 1 ev_b pre_D_go post_D_go 58),
  (58, tt_rz P)]
abbrev rm_D_branch : Room := { frames := 1, cells := 0, slots := 0, locals := 32 }
set_option maxRecDepth 20000 in
theorem ok_D_branch (l : Launch) (J : ev_K) (P : Bool → ev_M → ev_L → Prop) (X : ev_X l rm_D_branch evLY evCl ws_D_branch prog_9_method_33_code 4 y_D_branch.cls J) (Z : ev_Z J prog_9_method_33_code .ireturn ev_b P) : ev_oks J (I_D_branch P) :=
  ⟨qq_aln X 0 rfl d_D_branch_0,
  qq_gf X 7 22 rfl (fun w h => List.mem_cons_of_mem _ (inE_D w h)) (by decide) (List.mem_cons_of_mem _ mw_776) d_D_branch_1,
  qq_ic X 2 (by decide) d_D_branch_4,
  qq_iadd X d_D_branch_5,
  qq_aln X 0 rfl d_D_branch_6,
  qq_iln X 1 rfl d_D_branch_7,
  qq_aln X 0 rfl d_D_branch_8,
  qq_gf X 7 22 rfl (fun w h => List.mem_cons_of_mem _ (inE_D w h)) (by decide) (List.mem_cons_of_mem _ mw_776) d_D_branch_9,
  qq_ic X 1 (by decide) d_D_branch_12,
  qq_iadd X d_D_branch_13,
  qq_cV X 7 rfl (c_D_at l) (fun hts => cwV 2 hts (evGV (mw_964) (mw_966) (mp_41) (mw_8) (mw_967)) rfl rfl rfl (by decide +kernel) ⟨Nat.le_of_ble_eq_true rfl, Nat.le_of_ble_eq_true rfl⟩) d_D_branch_14,
  qq_i2b X d_D_branch_17,
  qq_iadd X d_D_branch_18,
  qq_isn X 3 rfl (by decide) d_D_branch_19,
  qq_iln X 2 rfl d_D_branch_20,
  qq_ifne X 35 (by decide) d_D_branch_21,
  qq_aln X 0 rfl d_D_branch_24,
  qq_aln X 0 rfl d_D_branch_25,
  qq_gf X 7 22 rfl (fun w h => List.mem_cons_of_mem _ (inE_D w h)) (by decide) (List.mem_cons_of_mem _ mw_776) d_D_branch_26,
  qq_ic X 2 (by decide) d_D_branch_29,
  qq_iadd X d_D_branch_30,
  qq_cV X 7 rfl (c_D_go l) (fun hts => cwV 1 hts (evGV (mw_976) (mw_978) (mp_44) (mw_8) (mw_979)) rfl rfl rfl (by decide +kernel) ⟨Nat.le_of_ble_eq_true rfl, Nat.le_of_ble_eq_true rfl⟩) d_D_branch_31,
  qq_rz Z d_D_branch_34,
  qq_iln X 3 rfl d_D_branch_35,
  qq_iflt X 46 (by decide) d_D_branch_36,
  qq_iln X 3 rfl d_D_branch_39,
  qq_sp X 256 (by decide) d_D_branch_40,
  qq_iclt X 53 (by decide) d_D_branch_43,
  qq_aln X 0 rfl d_D_branch_46,
  qq_cV X 7 rfl (c_D_fault l) (fun hts => cwV 0 hts (evGV (mw_968) (mw_970) (mp_42) (mw_8) (mw_971)) rfl rfl rfl (by decide +kernel) ⟨Nat.le_of_ble_eq_true rfl, Nat.le_of_ble_eq_true rfl⟩) d_D_branch_47,
  qq_go X 58 (by decide) d_D_branch_50,
  qq_aln X 0 rfl d_D_branch_53,
  qq_iln X 3 rfl d_D_branch_54,
  qq_cV X 7 rfl (c_D_go l) (fun hts => cwV 1 hts (evGV (mw_976) (mw_978) (mp_44) (mw_8) (mw_979)) rfl rfl rfl (by decide +kernel) ⟨Nat.le_of_ble_eq_true rfl, Nat.le_of_ble_eq_true rfl⟩) d_D_branch_55,
  qq_rz Z d_D_branch_58, trivial⟩
def pre_D_branch : List Value → ev_M → ev_L → Prop := fun as σ τ => ∃ (b t : Int32), as = [.ref 30, .int b, .int t] ∧ (b = 0 ∨ b = 256) ∧ 0 ≤ (σ 30 22).toInt ∧ (σ 30 22).toInt ≤ 254
def post_D_branch : List Value → ev_M → ev_L → Bool → ev_M → ev_L → Prop := fun as σ τ r σ' τ' => match as with
  | [_, .int b, .int t] => sd_res σ (if t = 0 then σ 30 22 + 2 else sp_br (σ 30 22 + 2 + (sp_at (fD σ b) (σ 30 22 + 1)).toInt8.toInt32)) r σ' ∧ τ' = τ
  | _ => False
set_option maxHeartbeats 4000000 in
set_option maxRecDepth 100000 in
theorem c_D_branch (l : Launch) : ev_C ev_b l y_D_branch ws_D_branch rm_D_branch evLY evCl pre_D_branch post_D_branch := by
  refine ev_meth0 (by decide) rfl ev_rop_b ?_ I_D_branch (ok_D_branch l) 60 ?_
  · rintro _ σ τ ⟨b, t, rfl, hp⟩
    exact Nat.le_of_ble_eq_true rfl
  · rintro _ σ τ ⟨b, t, rfl, hb, h0, h1⟩
    have e1 : (σ 30 22 + 1).toInt = (σ 30 22).toInt + 1 := i_add (by omega) (by omega) (by decide) (by decide)
    have e2 : (σ 30 22 + 2).toInt = (σ 30 22).toInt + 2 := i_add (by omega) (by omega) (by decide) (by decide)
    obtain ⟨hv, hat⟩ := at_D (σ := σ) (b := b) (a := σ 30 22 + 1) hb (by omega) (by omega)
    refine ⟨⟨_, _, rfl, hv⟩, ?_⟩
    rintro _ σ τ ⟨rfl, rfl, rfl⟩
    rw [hat]
    refine br_n (fun ht => br_c (fun h => ?_) (fun h => br_c (fun h2 => ?_) (fun h2 => ?_))) (fun ht => ?_)
    · refine ⟨rfl, ?_⟩
      rintro _ _ _ ⟨rfl, rfl, rfl⟩
      refine ⟨false, rfl, Or.inl ⟨?_, rfl, rfl⟩, rfl⟩
      rw [if_neg ht]
      exact if_neg fun q => absurd (Int32.not_lt.mpr q.1) (fun w => w h)
    · refine ⟨⟨_, rfl⟩, ?_⟩
      rintro _ _ _ ⟨rfl, rfl, rfl⟩
      have e3 : sp_br (σ 30 22 + 2 + (sp_at (fD σ b) (σ 30 22 + 1)).toInt8.toInt32) = σ 30 22 + 2 + (sp_at (fD σ b) (σ 30 22 + 1)).toInt8.toInt32 := if_pos ⟨Int32.not_lt.mp h, h2⟩
      refine ⟨true, rfl, Or.inr ⟨?_, rfl, ?_⟩, rfl⟩
      · rw [if_neg ht, e3]
        intro q
        rw [q] at h
        exact h (by decide)
      · rw [if_neg ht, e3]
    · refine ⟨rfl, ?_⟩
      rintro _ _ _ ⟨rfl, rfl, rfl⟩
      refine ⟨false, rfl, Or.inl ⟨?_, rfl, rfl⟩, rfl⟩
      rw [if_neg ht]
      exact if_neg fun q => h2 q.2
    · refine ⟨⟨_, rfl⟩, ?_⟩
      rintro _ _ _ ⟨rfl, rfl, rfl⟩
      refine ⟨true, rfl, Or.inr ⟨?_, rfl, ?_⟩, rfl⟩
      · rw [if_pos ht]
        intro q
        rw [q] at e2
        have : (-1 : Int32).toInt = -1 := by decide
        omega
      · rw [if_pos ht]
def y_D_push : MethodName := ⟨RD, "push", "(II)Z"⟩
def ws_D_push : List Cond := .code y_D_push prog_9_method_34_code 3 (some .boolean) :: evW
theorem d_D_push_0 : decode prog_9_method_34_code 0 = .ok (.aload_n 0, 1) := by decide +kernel
theorem d_D_push_1 : decode prog_9_method_34_code 1 = .ok (.getfield 169, 3) := by decide +kernel
theorem d_D_push_4 : decode prog_9_method_34_code 4 = .ok (.bipush 8, 2) := by decide +kernel
theorem d_D_push_6 : decode prog_9_method_34_code 6 = .ok (.if_icmp .ne 8, 3) := by decide +kernel
theorem d_D_push_9 : decode prog_9_method_34_code 9 = .ok (.aload_n 0, 1) := by decide +kernel
theorem d_D_push_10 : decode prog_9_method_34_code 10 = .ok (.invokevirtual 165, 3) := by decide +kernel
theorem d_D_push_13 : decode prog_9_method_34_code 13 = .ok (.ireturn, 1) := by decide +kernel
theorem d_D_push_14 : decode prog_9_method_34_code 14 = .ok (.aload_n 0, 1) := by decide +kernel
theorem d_D_push_15 : decode prog_9_method_34_code 15 = .ok (.getfield 53, 3) := by decide +kernel
theorem d_D_push_18 : decode prog_9_method_34_code 18 = .ok (.aload_n 0, 1) := by decide +kernel
theorem d_D_push_19 : decode prog_9_method_34_code 19 = .ok (.getfield 169, 3) := by decide +kernel
theorem d_D_push_22 : decode prog_9_method_34_code 22 = .ok (.iload_n 1, 1) := by decide +kernel
theorem d_D_push_23 : decode prog_9_method_34_code 23 = .ok (.iastore, 1) := by decide +kernel
theorem d_D_push_24 : decode prog_9_method_34_code 24 = .ok (.aload_n 0, 1) := by decide +kernel
theorem d_D_push_25 : decode prog_9_method_34_code 25 = .ok (.dup, 1) := by decide +kernel
theorem d_D_push_26 : decode prog_9_method_34_code 26 = .ok (.getfield 169, 3) := by decide +kernel
theorem d_D_push_29 : decode prog_9_method_34_code 29 = .ok (.iconst 1, 1) := by decide +kernel
theorem d_D_push_30 : decode prog_9_method_34_code 30 = .ok (.iadd, 1) := by decide +kernel
theorem d_D_push_31 : decode prog_9_method_34_code 31 = .ok (.putfield 169, 3) := by decide +kernel
theorem d_D_push_34 : decode prog_9_method_34_code 34 = .ok (.aload_n 0, 1) := by decide +kernel
theorem d_D_push_35 : decode prog_9_method_34_code 35 = .ok (.iload_n 2, 1) := by decide +kernel
theorem d_D_push_36 : decode prog_9_method_34_code 36 = .ok (.invokevirtual 162, 3) := by decide +kernel
theorem d_D_push_39 : decode prog_9_method_34_code 39 = .ok (.ireturn, 1) := by decide +kernel
def I_D_push (P : Bool → ev_M → ev_L → Prop) : List (Nat × ev_T) := [(0, tt_al 0 1),
  (1, tt_gf evLY 7 23 4),
  (4, tt_k 8 6),
  (6, tt_icne 14 9),
  (9, tt_al 0 10),
  (10, tt_cV evLY 7 0 ev_b pre_D_fault post_D_fault 13),
  (13, tt_rz P),
  (14, tt_al 0 15),
  (15, tt_gf evLY 7 27 18),
  (18, tt_al 0 19),
  (19, tt_gf evLY 7 23 22),
  (22, tt_il 1 23),
  (23, tt_ias evLY 24),
  (24, tt_al 0 25),
  (25, tt_dup 26),
  (26, tt_gf evLY 7 23 29),
  (29, tt_k 1 30),
  (30, tt_iadd 31),
  (31, tt_pf evLY 7 23 34),
  (34, tt_al 0 35),
  (35, tt_il 2 36),
  (36, tt_cV evLY 7 1 ev_b pre_D_go post_D_go 39),
  (39, tt_rz P)]
abbrev rm_D_push : Room := { frames := 1, cells := 0, slots := 0, locals := 32 }
set_option maxRecDepth 20000 in
theorem ok_D_push (l : Launch) (J : ev_K) (P : Bool → ev_M → ev_L → Prop) (X : ev_X l rm_D_push evLY evCl ws_D_push prog_9_method_34_code 3 y_D_push.cls J) (Z : ev_Z J prog_9_method_34_code .ireturn ev_b P) : ev_oks J (I_D_push P) :=
  ⟨qq_aln X 0 rfl d_D_push_0,
  qq_gf X 7 23 rfl (fun w h => List.mem_cons_of_mem _ (inE_D w h)) (by decide) (List.mem_cons_of_mem _ mw_777) d_D_push_1,
  qq_bp X 8 (by decide) d_D_push_4,
  qq_icne X 14 (by decide) d_D_push_6,
  qq_aln X 0 rfl d_D_push_9,
  qq_cV X 7 rfl (c_D_fault l) (fun hts => cwV 0 hts (evGV (mw_968) (mw_970) (mp_42) (mw_8) (mw_971)) rfl rfl rfl (by decide +kernel) ⟨Nat.le_of_ble_eq_true rfl, Nat.le_of_ble_eq_true rfl⟩) d_D_push_10,
  qq_rz Z d_D_push_13,
  qq_aln X 0 rfl d_D_push_14,
  qq_gf X 7 27 rfl (fun w h => List.mem_cons_of_mem _ (inE_D w h)) (by decide) (List.mem_cons_of_mem _ mw_781) d_D_push_15,
  qq_aln X 0 rfl d_D_push_18,
  qq_gf X 7 23 rfl (fun w h => List.mem_cons_of_mem _ (inE_D w h)) (by decide) (List.mem_cons_of_mem _ mw_777) d_D_push_19,
  qq_iln X 1 rfl d_D_push_22,
  qq_ias X d_D_push_23,
  qq_aln X 0 rfl d_D_push_24,
  qq_dup X d_D_push_25,
  qq_gf X 7 23 rfl (fun w h => List.mem_cons_of_mem _ (inE_D w h)) (by decide) (List.mem_cons_of_mem _ mw_777) d_D_push_26,
  qq_ic X 1 (by decide) d_D_push_29,
  qq_iadd X d_D_push_30,
  qq_pf X 7 23 rfl (fun w h => List.mem_cons_of_mem _ (inE_D w h)) (by decide) tyD tyD_ok nmD rfl (by decide +kernel) (List.mem_cons_of_mem _ mw_777) d_D_push_31,
  qq_aln X 0 rfl d_D_push_34,
  qq_iln X 2 rfl d_D_push_35,
  qq_cV X 7 rfl (c_D_go l) (fun hts => cwV 1 hts (evGV (mw_976) (mw_978) (mp_44) (mw_8) (mw_979)) rfl rfl rfl (by decide +kernel) ⟨Nat.le_of_ble_eq_true rfl, Nat.le_of_ble_eq_true rfl⟩) d_D_push_36,
  qq_rz Z d_D_push_39, trivial⟩
def pre_D_push : List Value → ev_M → ev_L → Prop := fun as σ τ => ∃ (k t : Int32), as = [.ref 30, .int k, .int t] ∧ 0 ≤ (σ 30 23).toInt ∧ (σ 30 23).toInt ≤ 8
def post_D_push : List Value → ev_M → ev_L → Bool → ev_M → ev_L → Prop := fun as σ τ r σ' τ' => match as with
  | [_, .int k, .int t] => τ' = τ ∧ ((¬ σ 30 23 < 8 ∧ r = false ∧ σ' = ev_u σ 30 26 2) ∨ (σ 30 23 < 8 ∧ r = true ∧ σ' = ev_u (ev_u (ev_u σ 45 (σ 30 23).toNatClampNeg k) 30 23 (σ 30 23 + 1)) 30 22 t))
  | _ => False
set_option maxHeartbeats 4000000 in
set_option maxRecDepth 100000 in
theorem c_D_push (l : Launch) : ev_C ev_b l y_D_push ws_D_push rm_D_push evLY evCl pre_D_push post_D_push := by
  refine ev_meth0 (by decide) rfl ev_rop_b ?_ I_D_push (ok_D_push l) 60 ?_
  · rintro _ σ τ ⟨k, t, rfl, hp⟩
    exact Nat.le_of_ble_eq_true rfl
  · rintro _ σ τ ⟨k, t, rfl, h0, h8⟩
    refine br_n (fun h => ?_) (fun h => ?_)
    · have h7 : (σ 30 23).toInt < 8 := by
        rw [← Int32.toInt_inj] at h
        have : (8 : Int32).toInt = 8 := rfl
        omega
      refine ⟨by rw [vp_in_iff]; omega, ⟨_, rfl⟩, ?_⟩
      rintro _ _ _ ⟨rfl, rfl, rfl⟩
      exact ⟨true, rfl, rfl, Or.inr ⟨Int32.lt_iff_toInt_lt.mpr h7, rfl, rfl⟩⟩
    · refine ⟨rfl, ?_⟩
      rintro _ _ _ ⟨rfl, rfl, rfl⟩
      exact ⟨false, rfl, rfl, Or.inl ⟨by rw [h]; decide, rfl, rfl⟩⟩
theorem xor_neg {v m : Int32} (hm : 0 ≤ m.toInt) : v ^^^ m < 0 ↔ v < 0 := by
  have key : ∀ x : Int32, x < 0 ↔ x.toBitVec.msb = true := by
    intro x
    rw [Int32.lt_iff_toInt_lt, BitVec.msb_eq_toInt, decide_eq_true_eq]
    exact Iff.rfl
  rw [key, key, Int32.toBitVec_xor, BitVec.msb_xor]
  have : m.toBitVec.msb = false := by
    rw [BitVec.msb_eq_toInt, decide_eq_false_iff_not]
    show ¬ m.toInt < 0
    omega
  rw [this, Bool.xor_false]
/-- the remainder that class and reference take -/
def sd_fm (v m : Int32) : Int32 := if v - v / m * m < 0 then (v - v / m * m) + m else v - v / m * m
theorem fm_eq {v m : Int32} (hm : 0 < m.toInt) : sp_fm v m = sd_fm v m := by
  have hk : (v - v / m * m).toInt = v.toInt.tmod m.toInt := rem_toInt v m
  have h0 : (0 : Int32).toInt = 0 := rfl
  have hiff : (v ^^^ m < 0 ∧ ¬ v - v / m * m = 0) ↔ v - v / m * m < 0 := by
    rw [xor_neg (by omega), Int32.lt_iff_toInt_lt, Int32.lt_iff_toInt_lt, ← Int32.toInt_inj, hk, h0]
    constructor
    · rintro ⟨h1, h2⟩
      have h3 : 0 ≤ (-v.toInt).tmod m.toInt := Int.tmod_nonneg _ (by omega)
      rw [Int.neg_tmod] at h3
      omega
    · intro h1
      refine ⟨?_, by omega⟩
      refine Int.not_le.mp fun h2 => ?_
      have h3 : 0 ≤ v.toInt.tmod m.toInt := Int.tmod_nonneg _ h2
      omega
  unfold sp_fm sd_fm
  by_cases h : v - v / m * m < 0
  · rw [if_pos h, if_pos (hiff.mpr h)]
  · rw [if_neg h, if_neg (fun q => h (hiff.mp q))]
theorem fm_R {v m : Int32} (hm : 0 < m.toInt) (hm2 : m.toInt < 256) : 0 ≤ (sd_fm v m).toInt ∧ (sd_fm v m).toInt < m.toInt := by
  have hk : (v - v / m * m).toInt = v.toInt.tmod m.toInt := rem_toInt v m
  have hb := tmod_bounds (a := v.toInt) hm
  have h0 : (0 : Int32).toInt = 0 := rfl
  unfold sd_fm
  split
  · rename_i h
    rw [Int32.lt_iff_toInt_lt, h0] at h
    rw [i_add (by omega) (by omega) (by omega) (by omega)]
    omega
  · rename_i h
    rw [Int32.lt_iff_toInt_lt, h0] at h
    omega
def y_D_select : MethodName := ⟨RD, "select", "(II)Z"⟩
def ws_D_select : List Cond := .code y_D_select prog_9_method_35_code 6 (some .boolean) :: evW
theorem d_D_select_0 : decode prog_9_method_35_code 0 = .ok (.aload_n 0, 1) := by decide +kernel
theorem d_D_select_1 : decode prog_9_method_35_code 1 = .ok (.iload_n 1, 1) := by decide +kernel
theorem d_D_select_2 : decode prog_9_method_35_code 2 = .ok (.aload_n 0, 1) := by decide +kernel
theorem d_D_select_3 : decode prog_9_method_35_code 3 = .ok (.getfield 155, 3) := by decide +kernel
theorem d_D_select_6 : decode prog_9_method_35_code 6 = .ok (.iconst 2, 1) := by decide +kernel
theorem d_D_select_7 : decode prog_9_method_35_code 7 = .ok (.iadd, 1) := by decide +kernel
theorem d_D_select_8 : decode prog_9_method_35_code 8 = .ok (.invokevirtual 158, 3) := by decide +kernel
theorem d_D_select_11 : decode prog_9_method_35_code 11 = .ok (.istore_n 3, 1) := by decide +kernel
theorem d_D_select_12 : decode prog_9_method_35_code 12 = .ok (.iload_n 3, 1) := by decide +kernel
theorem d_D_select_13 : decode prog_9_method_35_code 13 = .ok (.ifCond .ne 8, 3) := by decide +kernel
theorem d_D_select_16 : decode prog_9_method_35_code 16 = .ok (.aload_n 0, 1) := by decide +kernel
theorem d_D_select_17 : decode prog_9_method_35_code 17 = .ok (.invokevirtual 165, 3) := by decide +kernel
theorem d_D_select_20 : decode prog_9_method_35_code 20 = .ok (.ireturn, 1) := by decide +kernel
theorem d_D_select_21 : decode prog_9_method_35_code 21 = .ok (.iload_n 2, 1) := by decide +kernel
theorem d_D_select_22 : decode prog_9_method_35_code 22 = .ok (.iload_n 3, 1) := by decide +kernel
theorem d_D_select_23 : decode prog_9_method_35_code 23 = .ok (.irem, 1) := by decide +kernel
theorem d_D_select_24 : decode prog_9_method_35_code 24 = .ok (.istore 4, 2) := by decide +kernel
theorem d_D_select_26 : decode prog_9_method_35_code 26 = .ok (.aload_n 0, 1) := by decide +kernel
theorem d_D_select_27 : decode prog_9_method_35_code 27 = .ok (.iload_n 1, 1) := by decide +kernel
theorem d_D_select_28 : decode prog_9_method_35_code 28 = .ok (.aload_n 0, 1) := by decide +kernel
theorem d_D_select_29 : decode prog_9_method_35_code 29 = .ok (.getfield 155, 3) := by decide +kernel
theorem d_D_select_32 : decode prog_9_method_35_code 32 = .ok (.iconst 1, 1) := by decide +kernel
theorem d_D_select_33 : decode prog_9_method_35_code 33 = .ok (.iadd, 1) := by decide +kernel
theorem d_D_select_34 : decode prog_9_method_35_code 34 = .ok (.invokevirtual 158, 3) := by decide +kernel
theorem d_D_select_37 : decode prog_9_method_35_code 37 = .ok (.iload 4, 2) := by decide +kernel
theorem d_D_select_39 : decode prog_9_method_35_code 39 = .ok (.ifCond .ge 10, 3) := by decide +kernel
theorem d_D_select_42 : decode prog_9_method_35_code 42 = .ok (.iload 4, 2) := by decide +kernel
theorem d_D_select_44 : decode prog_9_method_35_code 44 = .ok (.iload_n 3, 1) := by decide +kernel
theorem d_D_select_45 : decode prog_9_method_35_code 45 = .ok (.iadd, 1) := by decide +kernel
theorem d_D_select_46 : decode prog_9_method_35_code 46 = .ok (.goto 5, 3) := by decide +kernel
theorem d_D_select_49 : decode prog_9_method_35_code 49 = .ok (.iload 4, 2) := by decide +kernel
theorem d_D_select_51 : decode prog_9_method_35_code 51 = .ok (.iadd, 1) := by decide +kernel
theorem d_D_select_52 : decode prog_9_method_35_code 52 = .ok (.istore 5, 2) := by decide +kernel
theorem d_D_select_54 : decode prog_9_method_35_code 54 = .ok (.iload 5, 2) := by decide +kernel
theorem d_D_select_56 : decode prog_9_method_35_code 56 = .ok (.sipush 256, 3) := by decide +kernel
theorem d_D_select_59 : decode prog_9_method_35_code 59 = .ok (.if_icmp .lt 10, 3) := by decide +kernel
theorem d_D_select_62 : decode prog_9_method_35_code 62 = .ok (.aload_n 0, 1) := by decide +kernel
theorem d_D_select_63 : decode prog_9_method_35_code 63 = .ok (.invokevirtual 165, 3) := by decide +kernel
theorem d_D_select_66 : decode prog_9_method_35_code 66 = .ok (.goto 14, 3) := by decide +kernel
theorem d_D_select_69 : decode prog_9_method_35_code 69 = .ok (.aload_n 0, 1) := by decide +kernel
theorem d_D_select_70 : decode prog_9_method_35_code 70 = .ok (.aload_n 0, 1) := by decide +kernel
theorem d_D_select_71 : decode prog_9_method_35_code 71 = .ok (.iload_n 1, 1) := by decide +kernel
theorem d_D_select_72 : decode prog_9_method_35_code 72 = .ok (.iload 5, 2) := by decide +kernel
theorem d_D_select_74 : decode prog_9_method_35_code 74 = .ok (.invokevirtual 158, 3) := by decide +kernel
theorem d_D_select_77 : decode prog_9_method_35_code 77 = .ok (.invokevirtual 162, 3) := by decide +kernel
theorem d_D_select_80 : decode prog_9_method_35_code 80 = .ok (.ireturn, 1) := by decide +kernel
def I_D_select (P : Bool → ev_M → ev_L → Prop) : List (Nat × ev_T) := [(0, tt_al 0 1),
  (1, tt_il 1 2),
  (2, tt_al 0 3),
  (3, tt_gf evLY 7 22 6),
  (6, tt_k 2 7),
  (7, tt_iadd 8),
  (8, tt_cV evLY 7 2 ev_i pre_D_at post_D_at 11),
  (11, tt_is 3 12),
  (12, tt_il 3 13),
  (13, tt_ifne 21 16),
  (16, tt_al 0 17),
  (17, tt_cV evLY 7 0 ev_b pre_D_fault post_D_fault 20),
  (20, tt_rz P),
  (21, tt_il 2 22),
  (22, tt_il 3 23),
  (23, tt_irem 24),
  (24, tt_is 4 26),
  (26, tt_al 0 27),
  (27, tt_il 1 28),
  (28, tt_al 0 29),
  (29, tt_gf evLY 7 22 32),
  (32, tt_k 1 33),
  (33, tt_iadd 34),
  (34, tt_cV evLY 7 2 ev_i pre_D_at post_D_at 37),
  (37, tt_il 4 39),
  (39, tt_ifge 49 42),
  (42, tt_il 4 44),
  (44, tt_il 3 45),
  (45, tt_iadd 46),
  (46, tt_go 51),
  (49, tt_il 4 51),
  (51, tt_iadd 52),
  (52, tt_is 5 54),
  (54, tt_il 5 56),
  (56, tt_k 256 59),
  (59, tt_iclt 69 62),
  (62, tt_al 0 63),
  (63, tt_cV evLY 7 0 ev_b pre_D_fault post_D_fault 66),
  (66, tt_go 80),
  (69, tt_al 0 70),
  (70, tt_al 0 71),
  (71, tt_il 1 72),
  (72, tt_il 5 74),
  (74, tt_cV evLY 7 2 ev_i pre_D_at post_D_at 77),
  (77, tt_cV evLY 7 1 ev_b pre_D_go post_D_go 80),
  (80, tt_rz P)]
abbrev rm_D_select : Room := { frames := 1, cells := 0, slots := 0, locals := 32 }
set_option maxRecDepth 20000 in
theorem ok_D_select (l : Launch) (J : ev_K) (P : Bool → ev_M → ev_L → Prop) (X : ev_X l rm_D_select evLY evCl ws_D_select prog_9_method_35_code 6 y_D_select.cls J) (Z : ev_Z J prog_9_method_35_code .ireturn ev_b P) : ev_oks J (I_D_select P) :=
  ⟨qq_aln X 0 rfl d_D_select_0,
  qq_iln X 1 rfl d_D_select_1,
  qq_aln X 0 rfl d_D_select_2,
  qq_gf X 7 22 rfl (fun w h => List.mem_cons_of_mem _ (inE_D w h)) (by decide) (List.mem_cons_of_mem _ mw_776) d_D_select_3,
  qq_ic X 2 (by decide) d_D_select_6,
  qq_iadd X d_D_select_7,
  qq_cV X 7 rfl (c_D_at l) (fun hts => cwV 2 hts (evGV (mw_964) (mw_966) (mp_41) (mw_8) (mw_967)) rfl rfl rfl (by decide +kernel) ⟨Nat.le_of_ble_eq_true rfl, Nat.le_of_ble_eq_true rfl⟩) d_D_select_8,
  qq_isn X 3 rfl (by decide) d_D_select_11,
  qq_iln X 3 rfl d_D_select_12,
  qq_ifne X 21 (by decide) d_D_select_13,
  qq_aln X 0 rfl d_D_select_16,
  qq_cV X 7 rfl (c_D_fault l) (fun hts => cwV 0 hts (evGV (mw_968) (mw_970) (mp_42) (mw_8) (mw_971)) rfl rfl rfl (by decide +kernel) ⟨Nat.le_of_ble_eq_true rfl, Nat.le_of_ble_eq_true rfl⟩) d_D_select_17,
  qq_rz Z d_D_select_20,
  qq_iln X 2 rfl d_D_select_21,
  qq_iln X 3 rfl d_D_select_22,
  qq_irem X d_D_select_23,
  qq_is X 4 (by decide) d_D_select_24,
  qq_aln X 0 rfl d_D_select_26,
  qq_iln X 1 rfl d_D_select_27,
  qq_aln X 0 rfl d_D_select_28,
  qq_gf X 7 22 rfl (fun w h => List.mem_cons_of_mem _ (inE_D w h)) (by decide) (List.mem_cons_of_mem _ mw_776) d_D_select_29,
  qq_ic X 1 (by decide) d_D_select_32,
  qq_iadd X d_D_select_33,
  qq_cV X 7 rfl (c_D_at l) (fun hts => cwV 2 hts (evGV (mw_964) (mw_966) (mp_41) (mw_8) (mw_967)) rfl rfl rfl (by decide +kernel) ⟨Nat.le_of_ble_eq_true rfl, Nat.le_of_ble_eq_true rfl⟩) d_D_select_34,
  qq_il X 4 d_D_select_37,
  qq_ifge X 49 (by decide) d_D_select_39,
  qq_il X 4 d_D_select_42,
  qq_iln X 3 rfl d_D_select_44,
  qq_iadd X d_D_select_45,
  qq_go X 51 (by decide) d_D_select_46,
  qq_il X 4 d_D_select_49,
  qq_iadd X d_D_select_51,
  qq_is X 5 (by decide) d_D_select_52,
  qq_il X 5 d_D_select_54,
  qq_sp X 256 (by decide) d_D_select_56,
  qq_iclt X 69 (by decide) d_D_select_59,
  qq_aln X 0 rfl d_D_select_62,
  qq_cV X 7 rfl (c_D_fault l) (fun hts => cwV 0 hts (evGV (mw_968) (mw_970) (mp_42) (mw_8) (mw_971)) rfl rfl rfl (by decide +kernel) ⟨Nat.le_of_ble_eq_true rfl, Nat.le_of_ble_eq_true rfl⟩) d_D_select_63,
  qq_go X 80 (by decide) d_D_select_66,
  qq_aln X 0 rfl d_D_select_69,
  qq_aln X 0 rfl d_D_select_70,
  qq_iln X 1 rfl d_D_select_71,
  qq_il X 5 d_D_select_72,
  qq_cV X 7 rfl (c_D_at l) (fun hts => cwV 2 hts (evGV (mw_964) (mw_966) (mp_41) (mw_8) (mw_967)) rfl rfl rfl (by decide +kernel) ⟨Nat.le_of_ble_eq_true rfl, Nat.le_of_ble_eq_true rfl⟩) d_D_select_74,
  qq_cV X 7 rfl (c_D_go l) (fun hts => cwV 1 hts (evGV (mw_976) (mw_978) (mp_44) (mw_8) (mw_979)) rfl rfl rfl (by decide +kernel) ⟨Nat.le_of_ble_eq_true rfl, Nat.le_of_ble_eq_true rfl⟩) d_D_select_77,
  qq_rz Z d_D_select_80, trivial⟩
def pre_D_select : List Value → ev_M → ev_L → Prop := fun as σ τ => ∃ (b v : Int32), as = [.ref 30, .int b, .int v] ∧ (b = 0 ∨ b = 256) ∧ 0 ≤ (σ 30 22).toInt ∧ (σ 30 22).toInt ≤ 253 ∧ byF (fD σ b)
def post_D_select : List Value → ev_M → ev_L → Bool → ev_M → ev_L → Prop := fun as σ τ r σ' τ' => match as with
  | [_, .int b, .int v] => sd_res σ (sp_look (fD σ b) (sp_at (fD σ b) (σ 30 22 + 1)) (sp_at (fD σ b) (σ 30 22 + 2)) v) r σ' ∧ τ' = τ
  | _ => False
set_option maxHeartbeats 4000000 in
set_option maxRecDepth 100000 in
theorem c_D_select (l : Launch) : ev_C ev_b l y_D_select ws_D_select rm_D_select evLY evCl pre_D_select post_D_select := by
  refine ev_meth0 (by decide) rfl ev_rop_b ?_ I_D_select (ok_D_select l) 60 ?_
  · rintro _ σ τ ⟨b, v, rfl, hp⟩
    exact Nat.le_of_ble_eq_true rfl
  · rintro _ σ τ ⟨b, v, rfl, hb, h0, h1, hf⟩
    have e1 : (σ 30 22 + 1).toInt = (σ 30 22).toInt + 1 := i_add (by omega) (by omega) (by decide) (by decide)
    have e2 : (σ 30 22 + 2).toInt = (σ 30 22).toInt + 2 := i_add (by omega) (by omega) (by decide) (by decide)
    obtain ⟨hv1, hat1⟩ := at_D (σ := σ) (b := b) (a := σ 30 22 + 1) hb (by omega) (by omega)
    obtain ⟨hv2, hat2⟩ := at_D (σ := σ) (b := b) (a := σ 30 22 + 2) hb (by omega) (by omega)
    have hn := sp_at_by hf (σ 30 22 + 1)
    have hm := sp_at_by hf (σ 30 22 + 2)
    refine ⟨⟨_, _, rfl, hv2⟩, ?_⟩
    rintro _ σ τ ⟨rfl, rfl, rfl⟩
    rw [hat2]
    refine br_n (fun hm0 => ?_) (fun hm0 => ?_)
    · refine ⟨hm0, ⟨⟨_, _, rfl, hv1⟩, ?_⟩⟩
      rintro _ σ τ ⟨rfl, rfl, rfl⟩
      rw [hat1]
      have hmp : 0 < (sp_at (fD σ b) (σ 30 22 + 2)).toInt := by
        rw [← Int32.toInt_inj] at hm0
        have : (0 : Int32).toInt = 0 := rfl
        omega
      have hR := fm_R (v := v) hmp hm.2
      have hfe := fm_eq (v := v) hmp
      have e3 : (sp_at (fD σ b) (σ 30 22 + 1) + sd_fm v (sp_at (fD σ b) (σ 30 22 + 2))).toInt = (sp_at (fD σ b) (σ 30 22 + 1)).toInt + (sd_fm v (sp_at (fD σ b) (σ 30 22 + 2))).toInt := i_add (by omega) (by omega) (by omega) (by omega)
      have h256 : (256 : Int32).toInt = 256 := rfl
      have look : sp_look (fD σ b) (sp_at (fD σ b) (σ 30 22 + 1)) (sp_at (fD σ b) (σ 30 22 + 2)) v = if sp_at (fD σ b) (σ 30 22 + 1) + sd_fm v (sp_at (fD σ b) (σ 30 22 + 2)) < 256 then sp_at (fD σ b) (sp_at (fD σ b) (σ 30 22 + 1) + sd_fm v (sp_at (fD σ b) (σ 30 22 + 2))) else -1 := by
        unfold sp_look
        rw [if_neg hm0, hfe]
      have fin : ∀ e : Int32, e = sp_at (fD σ b) (σ 30 22 + 1) + sd_fm v (sp_at (fD σ b) (σ 30 22 + 2)) → ((e < 256 → pre_D_at [.ref 30, .int b, .int e] σ τ ∧ ∀ (r : Int32) (σ1 : ev_M) (τ1 : ev_L), post_D_at [.ref 30, .int b, .int e] σ τ r σ1 τ1 → pre_D_go [.ref 30, .int r] σ1 τ1 ∧ ∀ (r2 : Bool) (σ2 : ev_M) (τ2 : ev_L), post_D_go [.ref 30, .int r] σ1 τ1 r2 σ2 τ2 → ∃ b1 : Bool, (cond r2 1 0 : Int32) = cond b1 1 0 ∧ sd_res σ (sp_look (fD σ b) (sp_at (fD σ b) (σ 30 22 + 1)) (sp_at (fD σ b) (σ 30 22 + 2)) v) b1 σ2 ∧ τ2 = τ) ∧ (¬ e < 256 → pre_D_fault [.ref 30] σ τ ∧ ∀ (r2 : Bool) (σ2 : ev_M) (τ2 : ev_L), post_D_fault [.ref 30] σ τ r2 σ2 τ2 → ∃ b1 : Bool, (cond r2 1 0 : Int32) = cond b1 1 0 ∧ sd_res σ (sp_look (fD σ b) (sp_at (fD σ b) (σ 30 22 + 1)) (sp_at (fD σ b) (σ 30 22 + 2)) v) b1 σ2 ∧ τ2 = τ)) := by
        rintro e rfl
        refine ⟨fun h => ?_, fun h => ?_⟩
        · have h' := h
          rw [Int32.lt_iff_toInt_lt, h256] at h'
          obtain ⟨hv3, hat3⟩ := at_D (σ := σ) (b := b) (a := sp_at (fD σ b) (σ 30 22 + 1) + sd_fm v (sp_at (fD σ b) (σ 30 22 + 2))) hb (by omega) (by omega)
          refine ⟨⟨_, _, rfl, hv3⟩, ?_⟩
          rintro _ σ τ ⟨rfl, rfl, rfl⟩
          refine ⟨⟨_, rfl⟩, ?_⟩
          rintro _ _ _ ⟨rfl, rfl, rfl⟩
          refine ⟨true, rfl, Or.inr ⟨?_, rfl, ?_⟩, rfl⟩
          · rw [look, if_pos h]
            intro q
            have hby := sp_at_by hf (sp_at (fD σ b) (σ 30 22 + 1) + sd_fm v (sp_at (fD σ b) (σ 30 22 + 2)))
            rw [q] at hby
            exact absurd hby.1 (by decide)
          · rw [look, if_pos h, hat3]
        · refine ⟨rfl, ?_⟩
          rintro _ _ _ ⟨rfl, rfl, rfl⟩
          exact ⟨false, rfl, Or.inl ⟨by rw [look, if_neg h], rfl, rfl⟩, rfl⟩
      refine br_c (fun h => ?_) (fun h => ?_)
      · have hs : sd_fm v (sp_at (fD σ b) (σ 30 22 + 2)) = v - v / sp_at (fD σ b) (σ 30 22 + 2) * sp_at (fD σ b) (σ 30 22 + 2) := if_neg (Int32.not_lt.mpr h)
        exact fin _ (by rw [hs])
      · have hs : sd_fm v (sp_at (fD σ b) (σ 30 22 + 2)) = v - v / sp_at (fD σ b) (σ 30 22 + 2) * sp_at (fD σ b) (σ 30 22 + 2) + sp_at (fD σ b) (σ 30 22 + 2) := if_pos (Int32.not_le.mp h)
        exact fin _ (by rw [hs])
    · refine ⟨rfl, ?_⟩
      rintro _ _ _ ⟨rfl, rfl, rfl⟩
      exact ⟨false, rfl, Or.inl ⟨if_pos hm0, rfl, rfl⟩, rfl⟩
end
section
/-! the reference's doOne, step -/
def ms_set (x : mst) (nx : Int32) : mst := match x with
  | (r, c, s, o, t, _, h, sh, dn) => (r, c, s, o, t, nx, h, sh, dn)
theorem ms_go_set (x : mst) (nx : Int32) : ms_go x nx = ms_1 (ms_set x nx) := by
  obtain ⟨r, c, s, o, t, pc, h9, sh, dn⟩ := x
  rfl
def sd_step (f : Nat → Int32) (tr : Int32 → Int32) (kd op n m bh : Int32) (σ : ev_M) (τ : ev_L) (r : Bool) (σ' : ev_M) (τ' : ev_L) : Prop :=
  frD σ σ' τ τ' ∧ ((kd = 0 ∧ r = true ∧ σ' 30 26 = 1 ∧ mvD σ' τ' = mvD σ τ) ∨ (¬ kd = 0 ∧ (ms_perf f tr kd op n m bh (mvD σ τ)).1 = -1 ∧ r = false ∧ σ' 30 26 = 2 ∧ mvD σ' τ' = mvD σ τ) ∨ (¬ kd = 0 ∧ ¬ (ms_perf f tr kd op n m bh (mvD σ τ)).1 = -1 ∧ r = true ∧ σ' 30 26 = σ 30 26 ∧ mvD σ' τ' = ms_set (ms_perf f tr kd op n m bh (mvD σ τ)).2 (ms_perf f tr kd op n m bh (mvD σ τ)).1))
theorem kdl (lo hi : Nat) (k : Int32) (h : ∀ n, n < 256 → lo ≤ n → n < hi → sp_kind (nI n) = k) {op : Int32} (h1 : (lo : Int) ≤ op.toInt) (h2 : op.toInt < (hi : Int)) (h3 : hi ≤ 256) : sp_kind op = k := by
  obtain ⟨j, hj, rfl⟩ := nI_of (x := op) (by rw [Int32.lt_iff_toInt_lt]; have : (0 : Int32).toInt = 0 := rfl; omega)
  rw [nI_toInt hj] at h1 h2
  exact h j (by omega) (by omega) (by omega)
theorem i_nm1 {x : Int32} (h : 0 ≤ x.toInt) : ¬ x = -1 := by
  intro q
  rw [q] at h
  exact absurd h (by decide)
def y_D_doOne : MethodName := ⟨RD, "doOne", "(II)Z"⟩
def ws_D_doOne : List Cond := .code y_D_doOne prog_9_method_36_code 5 (some .boolean) :: evW
theorem d_D_doOne_0 : decode prog_9_method_36_code 0 = .ok (.iload_n 2, 1) := by decide +kernel
theorem d_D_doOne_1 : decode prog_9_method_36_code 1 = .ok (.iconst 3, 1) := by decide +kernel
theorem d_D_doOne_2 : decode prog_9_method_36_code 2 = .ok (.iand, 1) := by decide +kernel
theorem d_D_doOne_3 : decode prog_9_method_36_code 3 = .ok (.istore_n 3, 1) := by decide +kernel
theorem d_D_doOne_4 : decode prog_9_method_36_code 4 = .ok (.iload_n 2, 1) := by decide +kernel
theorem d_D_doOne_5 : decode prog_9_method_36_code 5 = .ok (.ifCond .ne 10, 3) := by decide +kernel
theorem d_D_doOne_8 : decode prog_9_method_36_code 8 = .ok (.aload_n 0, 1) := by decide +kernel
theorem d_D_doOne_9 : decode prog_9_method_36_code 9 = .ok (.iconst 1, 1) := by decide +kernel
theorem d_D_doOne_10 : decode prog_9_method_36_code 10 = .ok (.putfield 152, 3) := by decide +kernel
theorem d_D_doOne_13 : decode prog_9_method_36_code 13 = .ok (.iconst 1, 1) := by decide +kernel
theorem d_D_doOne_14 : decode prog_9_method_36_code 14 = .ok (.ireturn, 1) := by decide +kernel
theorem d_D_doOne_15 : decode prog_9_method_36_code 15 = .ok (.iload_n 2, 1) := by decide +kernel
theorem d_D_doOne_16 : decode prog_9_method_36_code 16 = .ok (.iconst 2, 1) := by decide +kernel
theorem d_D_doOne_17 : decode prog_9_method_36_code 17 = .ok (.if_icmp .ne 51, 3) := by decide +kernel
theorem d_D_doOne_20 : decode prog_9_method_36_code 20 = .ok (.iload_n 1, 1) := by decide +kernel
theorem d_D_doOne_21 : decode prog_9_method_36_code 21 = .ok (.ifCond .le 24, 3) := by decide +kernel
theorem d_D_doOne_24 : decode prog_9_method_36_code 24 = .ok (.aload_n 0, 1) := by decide +kernel
theorem d_D_doOne_25 : decode prog_9_method_36_code 25 = .ok (.getfield 155, 3) := by decide +kernel
theorem d_D_doOne_28 : decode prog_9_method_36_code 28 = .ok (.bipush 96, 2) := by decide +kernel
theorem d_D_doOne_30 : decode prog_9_method_36_code 30 = .ok (.if_icmp .ge 15, 3) := by decide +kernel
theorem d_D_doOne_33 : decode prog_9_method_36_code 33 = .ok (.aload_n 0, 1) := by decide +kernel
theorem d_D_doOne_34 : decode prog_9_method_36_code 34 = .ok (.getfield 13, 3) := by decide +kernel
theorem d_D_doOne_37 : decode prog_9_method_36_code 37 = .ok (.aload_n 0, 1) := by decide +kernel
theorem d_D_doOne_38 : decode prog_9_method_36_code 38 = .ok (.getfield 155, 3) := by decide +kernel
theorem d_D_doOne_41 : decode prog_9_method_36_code 41 = .ok (.iaload, 1) := by decide +kernel
theorem d_D_doOne_42 : decode prog_9_method_36_code 42 = .ok (.goto 4, 3) := by decide +kernel
theorem d_D_doOne_45 : decode prog_9_method_36_code 45 = .ok (.iconst (-1), 1) := by decide +kernel
theorem d_D_doOne_46 : decode prog_9_method_36_code 46 = .ok (.istore 4, 2) := by decide +kernel
theorem d_D_doOne_48 : decode prog_9_method_36_code 48 = .ok (.iload 4, 2) := by decide +kernel
theorem d_D_doOne_50 : decode prog_9_method_36_code 50 = .ok (.iconst (-1), 1) := by decide +kernel
theorem d_D_doOne_51 : decode prog_9_method_36_code 51 = .ok (.if_icmp .ne 10, 3) := by decide +kernel
theorem d_D_doOne_54 : decode prog_9_method_36_code 54 = .ok (.aload_n 0, 1) := by decide +kernel
theorem d_D_doOne_55 : decode prog_9_method_36_code 55 = .ok (.invokevirtual 165, 3) := by decide +kernel
theorem d_D_doOne_58 : decode prog_9_method_36_code 58 = .ok (.goto 9, 3) := by decide +kernel
theorem d_D_doOne_61 : decode prog_9_method_36_code 61 = .ok (.aload_n 0, 1) := by decide +kernel
theorem d_D_doOne_62 : decode prog_9_method_36_code 62 = .ok (.iload 4, 2) := by decide +kernel
theorem d_D_doOne_64 : decode prog_9_method_36_code 64 = .ok (.invokevirtual 162, 3) := by decide +kernel
theorem d_D_doOne_67 : decode prog_9_method_36_code 67 = .ok (.ireturn, 1) := by decide +kernel
theorem d_D_doOne_68 : decode prog_9_method_36_code 68 = .ok (.iload_n 2, 1) := by decide +kernel
theorem d_D_doOne_69 : decode prog_9_method_36_code 69 = .ok (.iconst 3, 1) := by decide +kernel
theorem d_D_doOne_70 : decode prog_9_method_36_code 70 = .ok (.if_icmp .ne 39, 3) := by decide +kernel
theorem d_D_doOne_73 : decode prog_9_method_36_code 73 = .ok (.aload_n 0, 1) := by decide +kernel
theorem d_D_doOne_74 : decode prog_9_method_36_code 74 = .ok (.getfield 169, 3) := by decide +kernel
theorem d_D_doOne_77 : decode prog_9_method_36_code 77 = .ok (.ifCond .ne 8, 3) := by decide +kernel
theorem d_D_doOne_80 : decode prog_9_method_36_code 80 = .ok (.aload_n 0, 1) := by decide +kernel
theorem d_D_doOne_81 : decode prog_9_method_36_code 81 = .ok (.invokevirtual 165, 3) := by decide +kernel
theorem d_D_doOne_84 : decode prog_9_method_36_code 84 = .ok (.ireturn, 1) := by decide +kernel
theorem d_D_doOne_85 : decode prog_9_method_36_code 85 = .ok (.aload_n 0, 1) := by decide +kernel
theorem d_D_doOne_86 : decode prog_9_method_36_code 86 = .ok (.dup, 1) := by decide +kernel
theorem d_D_doOne_87 : decode prog_9_method_36_code 87 = .ok (.getfield 169, 3) := by decide +kernel
theorem d_D_doOne_90 : decode prog_9_method_36_code 90 = .ok (.iconst 1, 1) := by decide +kernel
theorem d_D_doOne_91 : decode prog_9_method_36_code 91 = .ok (.isub, 1) := by decide +kernel
theorem d_D_doOne_92 : decode prog_9_method_36_code 92 = .ok (.putfield 169, 3) := by decide +kernel
theorem d_D_doOne_95 : decode prog_9_method_36_code 95 = .ok (.aload_n 0, 1) := by decide +kernel
theorem d_D_doOne_96 : decode prog_9_method_36_code 96 = .ok (.aload_n 0, 1) := by decide +kernel
theorem d_D_doOne_97 : decode prog_9_method_36_code 97 = .ok (.getfield 53, 3) := by decide +kernel
theorem d_D_doOne_100 : decode prog_9_method_36_code 100 = .ok (.aload_n 0, 1) := by decide +kernel
theorem d_D_doOne_101 : decode prog_9_method_36_code 101 = .ok (.getfield 169, 3) := by decide +kernel
theorem d_D_doOne_104 : decode prog_9_method_36_code 104 = .ok (.iaload, 1) := by decide +kernel
theorem d_D_doOne_105 : decode prog_9_method_36_code 105 = .ok (.invokevirtual 162, 3) := by decide +kernel
theorem d_D_doOne_108 : decode prog_9_method_36_code 108 = .ok (.ireturn, 1) := by decide +kernel
theorem d_D_doOne_109 : decode prog_9_method_36_code 109 = .ok (.iload_n 2, 1) := by decide +kernel
theorem d_D_doOne_110 : decode prog_9_method_36_code 110 = .ok (.bipush 12, 2) := by decide +kernel
theorem d_D_doOne_112 : decode prog_9_method_36_code 112 = .ok (.if_icmp .lt 48, 3) := by decide +kernel
theorem d_D_doOne_115 : decode prog_9_method_36_code 115 = .ok (.iload_n 2, 1) := by decide +kernel
theorem d_D_doOne_116 : decode prog_9_method_36_code 116 = .ok (.bipush 16, 2) := by decide +kernel
theorem d_D_doOne_118 : decode prog_9_method_36_code 118 = .ok (.if_icmp .ge 42, 3) := by decide +kernel
theorem d_D_doOne_121 : decode prog_9_method_36_code 121 = .ok (.aload_n 0, 1) := by decide +kernel
theorem d_D_doOne_122 : decode prog_9_method_36_code 122 = .ok (.getfield 172, 3) := by decide +kernel
theorem d_D_doOne_125 : decode prog_9_method_36_code 125 = .ok (.bipush 40, 2) := by decide +kernel
theorem d_D_doOne_127 : decode prog_9_method_36_code 127 = .ok (.if_icmp .ne 8, 3) := by decide +kernel
theorem d_D_doOne_130 : decode prog_9_method_36_code 130 = .ok (.aload_n 0, 1) := by decide +kernel
theorem d_D_doOne_131 : decode prog_9_method_36_code 131 = .ok (.invokevirtual 165, 3) := by decide +kernel
theorem d_D_doOne_134 : decode prog_9_method_36_code 134 = .ok (.ireturn, 1) := by decide +kernel
theorem d_D_doOne_135 : decode prog_9_method_36_code 135 = .ok (.aload_n 0, 1) := by decide +kernel
theorem d_D_doOne_136 : decode prog_9_method_36_code 136 = .ok (.getfield 56, 3) := by decide +kernel
theorem d_D_doOne_139 : decode prog_9_method_36_code 139 = .ok (.aload_n 0, 1) := by decide +kernel
theorem d_D_doOne_140 : decode prog_9_method_36_code 140 = .ok (.getfield 172, 3) := by decide +kernel
theorem d_D_doOne_143 : decode prog_9_method_36_code 143 = .ok (.aload_n 0, 1) := by decide +kernel
theorem d_D_doOne_144 : decode prog_9_method_36_code 144 = .ok (.getfield 47, 3) := by decide +kernel
theorem d_D_doOne_147 : decode prog_9_method_36_code 147 = .ok (.iload_n 3, 1) := by decide +kernel
theorem d_D_doOne_148 : decode prog_9_method_36_code 148 = .ok (.iaload, 1) := by decide +kernel
theorem d_D_doOne_149 : decode prog_9_method_36_code 149 = .ok (.iastore, 1) := by decide +kernel
theorem d_D_doOne_150 : decode prog_9_method_36_code 150 = .ok (.aload_n 0, 1) := by decide +kernel
theorem d_D_doOne_151 : decode prog_9_method_36_code 151 = .ok (.dup, 1) := by decide +kernel
theorem d_D_doOne_152 : decode prog_9_method_36_code 152 = .ok (.getfield 172, 3) := by decide +kernel
theorem d_D_doOne_155 : decode prog_9_method_36_code 155 = .ok (.iconst 1, 1) := by decide +kernel
theorem d_D_doOne_156 : decode prog_9_method_36_code 156 = .ok (.iadd, 1) := by decide +kernel
theorem d_D_doOne_157 : decode prog_9_method_36_code 157 = .ok (.putfield 172, 3) := by decide +kernel
theorem d_D_doOne_160 : decode prog_9_method_36_code 160 = .ok (.iload_n 2, 1) := by decide +kernel
theorem d_D_doOne_161 : decode prog_9_method_36_code 161 = .ok (.iconst 4, 1) := by decide +kernel
theorem d_D_doOne_162 : decode prog_9_method_36_code 162 = .ok (.if_icmp .lt 19, 3) := by decide +kernel
theorem d_D_doOne_165 : decode prog_9_method_36_code 165 = .ok (.iload_n 2, 1) := by decide +kernel
theorem d_D_doOne_166 : decode prog_9_method_36_code 166 = .ok (.bipush 8, 2) := by decide +kernel
theorem d_D_doOne_168 : decode prog_9_method_36_code 168 = .ok (.if_icmp .ge 13, 3) := by decide +kernel
theorem d_D_doOne_171 : decode prog_9_method_36_code 171 = .ok (.aload_n 0, 1) := by decide +kernel
theorem d_D_doOne_172 : decode prog_9_method_36_code 172 = .ok (.getfield 47, 3) := by decide +kernel
theorem d_D_doOne_175 : decode prog_9_method_36_code 175 = .ok (.iload_n 3, 1) := by decide +kernel
theorem d_D_doOne_176 : decode prog_9_method_36_code 176 = .ok (.dup2, 1) := by decide +kernel
theorem d_D_doOne_177 : decode prog_9_method_36_code 177 = .ok (.iaload, 1) := by decide +kernel
theorem d_D_doOne_178 : decode prog_9_method_36_code 178 = .ok (.iconst 1, 1) := by decide +kernel
theorem d_D_doOne_179 : decode prog_9_method_36_code 179 = .ok (.iadd, 1) := by decide +kernel
theorem d_D_doOne_180 : decode prog_9_method_36_code 180 = .ok (.iastore, 1) := by decide +kernel
theorem d_D_doOne_181 : decode prog_9_method_36_code 181 = .ok (.iload_n 2, 1) := by decide +kernel
theorem d_D_doOne_182 : decode prog_9_method_36_code 182 = .ok (.bipush 8, 2) := by decide +kernel
theorem d_D_doOne_184 : decode prog_9_method_36_code 184 = .ok (.if_icmp .lt 19, 3) := by decide +kernel
theorem d_D_doOne_187 : decode prog_9_method_36_code 187 = .ok (.iload_n 2, 1) := by decide +kernel
theorem d_D_doOne_188 : decode prog_9_method_36_code 188 = .ok (.bipush 12, 2) := by decide +kernel
theorem d_D_doOne_190 : decode prog_9_method_36_code 190 = .ok (.if_icmp .ge 13, 3) := by decide +kernel
theorem d_D_doOne_193 : decode prog_9_method_36_code 193 = .ok (.aload_n 0, 1) := by decide +kernel
theorem d_D_doOne_194 : decode prog_9_method_36_code 194 = .ok (.getfield 47, 3) := by decide +kernel
theorem d_D_doOne_197 : decode prog_9_method_36_code 197 = .ok (.iload_n 3, 1) := by decide +kernel
theorem d_D_doOne_198 : decode prog_9_method_36_code 198 = .ok (.dup2, 1) := by decide +kernel
theorem d_D_doOne_199 : decode prog_9_method_36_code 199 = .ok (.iaload, 1) := by decide +kernel
theorem d_D_doOne_200 : decode prog_9_method_36_code 200 = .ok (.iconst 1, 1) := by decide +kernel
theorem d_D_doOne_201 : decode prog_9_method_36_code 201 = .ok (.isub, 1) := by decide +kernel
theorem d_D_doOne_202 : decode prog_9_method_36_code 202 = .ok (.iastore, 1) := by decide +kernel
theorem d_D_doOne_203 : decode prog_9_method_36_code 203 = .ok (.iload_n 2, 1) := by decide +kernel
theorem d_D_doOne_204 : decode prog_9_method_36_code 204 = .ok (.bipush 16, 2) := by decide +kernel
theorem d_D_doOne_206 : decode prog_9_method_36_code 206 = .ok (.if_icmp .lt 28, 3) := by decide +kernel
theorem d_D_doOne_209 : decode prog_9_method_36_code 209 = .ok (.iload_n 2, 1) := by decide +kernel
theorem d_D_doOne_210 : decode prog_9_method_36_code 210 = .ok (.bipush 32, 2) := by decide +kernel
theorem d_D_doOne_212 : decode prog_9_method_36_code 212 = .ok (.if_icmp .ge 22, 3) := by decide +kernel
theorem d_D_doOne_215 : decode prog_9_method_36_code 215 = .ok (.aload_n 0, 1) := by decide +kernel
theorem d_D_doOne_216 : decode prog_9_method_36_code 216 = .ok (.getfield 47, 3) := by decide +kernel
theorem d_D_doOne_219 : decode prog_9_method_36_code 219 = .ok (.iload_n 2, 1) := by decide +kernel
theorem d_D_doOne_220 : decode prog_9_method_36_code 220 = .ok (.iconst 2, 1) := by decide +kernel
theorem d_D_doOne_221 : decode prog_9_method_36_code 221 = .ok (.ishr, 1) := by decide +kernel
theorem d_D_doOne_222 : decode prog_9_method_36_code 222 = .ok (.iconst 3, 1) := by decide +kernel
theorem d_D_doOne_223 : decode prog_9_method_36_code 223 = .ok (.iand, 1) := by decide +kernel
theorem d_D_doOne_224 : decode prog_9_method_36_code 224 = .ok (.dup2, 1) := by decide +kernel
theorem d_D_doOne_225 : decode prog_9_method_36_code 225 = .ok (.iaload, 1) := by decide +kernel
theorem d_D_doOne_226 : decode prog_9_method_36_code 226 = .ok (.aload_n 0, 1) := by decide +kernel
theorem d_D_doOne_227 : decode prog_9_method_36_code 227 = .ok (.getfield 47, 3) := by decide +kernel
theorem d_D_doOne_230 : decode prog_9_method_36_code 230 = .ok (.iload_n 3, 1) := by decide +kernel
theorem d_D_doOne_231 : decode prog_9_method_36_code 231 = .ok (.iaload, 1) := by decide +kernel
theorem d_D_doOne_232 : decode prog_9_method_36_code 232 = .ok (.iadd, 1) := by decide +kernel
theorem d_D_doOne_233 : decode prog_9_method_36_code 233 = .ok (.iastore, 1) := by decide +kernel
theorem d_D_doOne_234 : decode prog_9_method_36_code 234 = .ok (.iload_n 2, 1) := by decide +kernel
theorem d_D_doOne_235 : decode prog_9_method_36_code 235 = .ok (.bipush 32, 2) := by decide +kernel
theorem d_D_doOne_237 : decode prog_9_method_36_code 237 = .ok (.if_icmp .lt 22, 3) := by decide +kernel
theorem d_D_doOne_240 : decode prog_9_method_36_code 240 = .ok (.aload_n 0, 1) := by decide +kernel
theorem d_D_doOne_241 : decode prog_9_method_36_code 241 = .ok (.getfield 47, 3) := by decide +kernel
theorem d_D_doOne_244 : decode prog_9_method_36_code 244 = .ok (.iload_n 2, 1) := by decide +kernel
theorem d_D_doOne_245 : decode prog_9_method_36_code 245 = .ok (.iconst 2, 1) := by decide +kernel
theorem d_D_doOne_246 : decode prog_9_method_36_code 246 = .ok (.ishr, 1) := by decide +kernel
theorem d_D_doOne_247 : decode prog_9_method_36_code 247 = .ok (.iconst 3, 1) := by decide +kernel
theorem d_D_doOne_248 : decode prog_9_method_36_code 248 = .ok (.iand, 1) := by decide +kernel
theorem d_D_doOne_249 : decode prog_9_method_36_code 249 = .ok (.dup2, 1) := by decide +kernel
theorem d_D_doOne_250 : decode prog_9_method_36_code 250 = .ok (.iaload, 1) := by decide +kernel
theorem d_D_doOne_251 : decode prog_9_method_36_code 251 = .ok (.aload_n 0, 1) := by decide +kernel
theorem d_D_doOne_252 : decode prog_9_method_36_code 252 = .ok (.getfield 47, 3) := by decide +kernel
theorem d_D_doOne_255 : decode prog_9_method_36_code 255 = .ok (.iload_n 3, 1) := by decide +kernel
theorem d_D_doOne_256 : decode prog_9_method_36_code 256 = .ok (.iaload, 1) := by decide +kernel
theorem d_D_doOne_257 : decode prog_9_method_36_code 257 = .ok (.isub, 1) := by decide +kernel
theorem d_D_doOne_258 : decode prog_9_method_36_code 258 = .ok (.iastore, 1) := by decide +kernel
theorem d_D_doOne_259 : decode prog_9_method_36_code 259 = .ok (.aload_n 0, 1) := by decide +kernel
theorem d_D_doOne_260 : decode prog_9_method_36_code 260 = .ok (.aload_n 0, 1) := by decide +kernel
theorem d_D_doOne_261 : decode prog_9_method_36_code 261 = .ok (.getfield 155, 3) := by decide +kernel
theorem d_D_doOne_264 : decode prog_9_method_36_code 264 = .ok (.iconst 1, 1) := by decide +kernel
theorem d_D_doOne_265 : decode prog_9_method_36_code 265 = .ok (.iadd, 1) := by decide +kernel
theorem d_D_doOne_266 : decode prog_9_method_36_code 266 = .ok (.invokevirtual 162, 3) := by decide +kernel
theorem d_D_doOne_269 : decode prog_9_method_36_code 269 = .ok (.ireturn, 1) := by decide +kernel
def I_D_doOne (P : Bool → ev_M → ev_L → Prop) : List (Nat × ev_T) := [(0, tt_il 2 1),
  (1, tt_k 3 2),
  (2, tt_iand 3),
  (3, tt_is 3 4),
  (4, tt_il 2 5),
  (5, tt_ifne 15 8),
  (8, tt_al 0 9),
  (9, tt_k 1 10),
  (10, tt_pf evLY 7 26 13),
  (13, tt_k 1 14),
  (14, tt_rz P),
  (15, tt_il 2 16),
  (16, tt_k 2 17),
  (17, tt_icne 68 20),
  (20, tt_il 1 21),
  (21, tt_ifle 45 24),
  (24, tt_al 0 25),
  (25, tt_gf evLY 7 22 28),
  (28, tt_k 96 30),
  (30, tt_icge 45 33),
  (33, tt_al 0 34),
  (34, tt_gf evLY 7 2 37),
  (37, tt_al 0 38),
  (38, tt_gf evLY 7 22 41),
  (41, tt_ia evLY 42),
  (42, tt_go 46),
  (45, tt_k (-1) 46),
  (46, tt_is 4 48),
  (48, tt_il 4 50),
  (50, tt_k (-1) 51),
  (51, tt_icne 61 54),
  (54, tt_al 0 55),
  (55, tt_cV evLY 7 0 ev_b pre_D_fault post_D_fault 58),
  (58, tt_go 67),
  (61, tt_al 0 62),
  (62, tt_il 4 64),
  (64, tt_cV evLY 7 1 ev_b pre_D_go post_D_go 67),
  (67, tt_rz P),
  (68, tt_il 2 69),
  (69, tt_k 3 70),
  (70, tt_icne 109 73),
  (73, tt_al 0 74),
  (74, tt_gf evLY 7 23 77),
  (77, tt_ifne 85 80),
  (80, tt_al 0 81),
  (81, tt_cV evLY 7 0 ev_b pre_D_fault post_D_fault 84),
  (84, tt_rz P),
  (85, tt_al 0 86),
  (86, tt_dup 87),
  (87, tt_gf evLY 7 23 90),
  (90, tt_k 1 91),
  (91, tt_isub 92),
  (92, tt_pf evLY 7 23 95),
  (95, tt_al 0 96),
  (96, tt_al 0 97),
  (97, tt_gf evLY 7 27 100),
  (100, tt_al 0 101),
  (101, tt_gf evLY 7 23 104),
  (104, tt_ia evLY 105),
  (105, tt_cV evLY 7 1 ev_b pre_D_go post_D_go 108),
  (108, tt_rz P),
  (109, tt_il 2 110),
  (110, tt_k 12 112),
  (112, tt_iclt 160 115),
  (115, tt_il 2 116),
  (116, tt_k 16 118),
  (118, tt_icge 160 121),
  (121, tt_al 0 122),
  (122, tt_gf evLY 7 24 125),
  (125, tt_k 40 127),
  (127, tt_icne 135 130),
  (130, tt_al 0 131),
  (131, tt_cV evLY 7 0 ev_b pre_D_fault post_D_fault 134),
  (134, tt_rz P),
  (135, tt_al 0 136),
  (136, tt_gf evLY 7 28 139),
  (139, tt_al 0 140),
  (140, tt_gf evLY 7 24 143),
  (143, tt_al 0 144),
  (144, tt_gf evLY 7 20 147),
  (147, tt_il 3 148),
  (148, tt_ia evLY 149),
  (149, tt_ias evLY 150),
  (150, tt_al 0 151),
  (151, tt_dup 152),
  (152, tt_gf evLY 7 24 155),
  (155, tt_k 1 156),
  (156, tt_iadd 157),
  (157, tt_pf evLY 7 24 160),
  (160, tt_il 2 161),
  (161, tt_k 4 162),
  (162, tt_iclt 181 165),
  (165, tt_il 2 166),
  (166, tt_k 8 168),
  (168, tt_icge 181 171),
  (171, tt_al 0 172),
  (172, tt_gf evLY 7 20 175),
  (175, tt_il 3 176),
  (176, tt_dup2 177),
  (177, tt_ia evLY 178),
  (178, tt_k 1 179),
  (179, tt_iadd 180),
  (180, tt_ias evLY 181),
  (181, tt_il 2 182),
  (182, tt_k 8 184),
  (184, tt_iclt 203 187),
  (187, tt_il 2 188),
  (188, tt_k 12 190),
  (190, tt_icge 203 193),
  (193, tt_al 0 194),
  (194, tt_gf evLY 7 20 197),
  (197, tt_il 3 198),
  (198, tt_dup2 199),
  (199, tt_ia evLY 200),
  (200, tt_k 1 201),
  (201, tt_isub 202),
  (202, tt_ias evLY 203),
  (203, tt_il 2 204),
  (204, tt_k 16 206),
  (206, tt_iclt 234 209),
  (209, tt_il 2 210),
  (210, tt_k 32 212),
  (212, tt_icge 234 215),
  (215, tt_al 0 216),
  (216, tt_gf evLY 7 20 219),
  (219, tt_il 2 220),
  (220, tt_k 2 221),
  (221, tt_ishr 222),
  (222, tt_k 3 223),
  (223, tt_iand 224),
  (224, tt_dup2 225),
  (225, tt_ia evLY 226),
  (226, tt_al 0 227),
  (227, tt_gf evLY 7 20 230),
  (230, tt_il 3 231),
  (231, tt_ia evLY 232),
  (232, tt_iadd 233),
  (233, tt_ias evLY 234),
  (234, tt_il 2 235),
  (235, tt_k 32 237),
  (237, tt_iclt 259 240),
  (240, tt_al 0 241),
  (241, tt_gf evLY 7 20 244),
  (244, tt_il 2 245),
  (245, tt_k 2 246),
  (246, tt_ishr 247),
  (247, tt_k 3 248),
  (248, tt_iand 249),
  (249, tt_dup2 250),
  (250, tt_ia evLY 251),
  (251, tt_al 0 252),
  (252, tt_gf evLY 7 20 255),
  (255, tt_il 3 256),
  (256, tt_ia evLY 257),
  (257, tt_isub 258),
  (258, tt_ias evLY 259),
  (259, tt_al 0 260),
  (260, tt_al 0 261),
  (261, tt_gf evLY 7 22 264),
  (264, tt_k 1 265),
  (265, tt_iadd 266),
  (266, tt_cV evLY 7 1 ev_b pre_D_go post_D_go 269),
  (269, tt_rz P)]
abbrev rm_D_doOne : Room := { frames := 1, cells := 0, slots := 0, locals := 32 }
set_option maxRecDepth 20000 in
theorem ok_D_doOne (l : Launch) (J : ev_K) (P : Bool → ev_M → ev_L → Prop) (X : ev_X l rm_D_doOne evLY evCl ws_D_doOne prog_9_method_36_code 5 y_D_doOne.cls J) (Z : ev_Z J prog_9_method_36_code .ireturn ev_b P) : ev_oks J (I_D_doOne P) :=
  ⟨qq_iln X 2 rfl d_D_doOne_0,
  qq_ic X 3 (by decide) d_D_doOne_1,
  qq_iand X d_D_doOne_2,
  qq_isn X 3 rfl (by decide) d_D_doOne_3,
  qq_iln X 2 rfl d_D_doOne_4,
  qq_ifne X 15 (by decide) d_D_doOne_5,
  qq_aln X 0 rfl d_D_doOne_8,
  qq_ic X 1 (by decide) d_D_doOne_9,
  qq_pf X 7 26 rfl (fun w h => List.mem_cons_of_mem _ (inE_D w h)) (by decide) tyD tyD_ok nmD rfl (by decide +kernel) (List.mem_cons_of_mem _ mw_780) d_D_doOne_10,
  qq_ic X 1 (by decide) d_D_doOne_13,
  qq_rz Z d_D_doOne_14,
  qq_iln X 2 rfl d_D_doOne_15,
  qq_ic X 2 (by decide) d_D_doOne_16,
  qq_icne X 68 (by decide) d_D_doOne_17,
  qq_iln X 1 rfl d_D_doOne_20,
  qq_ifle X 45 (by decide) d_D_doOne_21,
  qq_aln X 0 rfl d_D_doOne_24,
  qq_gf X 7 22 rfl (fun w h => List.mem_cons_of_mem _ (inE_D w h)) (by decide) (List.mem_cons_of_mem _ mw_776) d_D_doOne_25,
  qq_bp X 96 (by decide) d_D_doOne_28,
  qq_icge X 45 (by decide) d_D_doOne_30,
  qq_aln X 0 rfl d_D_doOne_33,
  qq_gf X 7 2 rfl (fun w h => List.mem_cons_of_mem _ (inE_D w h)) (by decide) (List.mem_cons_of_mem _ mw_756) d_D_doOne_34,
  qq_aln X 0 rfl d_D_doOne_37,
  qq_gf X 7 22 rfl (fun w h => List.mem_cons_of_mem _ (inE_D w h)) (by decide) (List.mem_cons_of_mem _ mw_776) d_D_doOne_38,
  qq_ia X d_D_doOne_41,
  qq_go X 46 (by decide) d_D_doOne_42,
  qq_ic X (-1) (by decide) d_D_doOne_45,
  qq_is X 4 (by decide) d_D_doOne_46,
  qq_il X 4 d_D_doOne_48,
  qq_ic X (-1) (by decide) d_D_doOne_50,
  qq_icne X 61 (by decide) d_D_doOne_51,
  qq_aln X 0 rfl d_D_doOne_54,
  qq_cV X 7 rfl (c_D_fault l) (fun hts => cwV 0 hts (evGV (mw_968) (mw_970) (mp_42) (mw_8) (mw_971)) rfl rfl rfl (by decide +kernel) ⟨Nat.le_of_ble_eq_true rfl, Nat.le_of_ble_eq_true rfl⟩) d_D_doOne_55,
  qq_go X 67 (by decide) d_D_doOne_58,
  qq_aln X 0 rfl d_D_doOne_61,
  qq_il X 4 d_D_doOne_62,
  qq_cV X 7 rfl (c_D_go l) (fun hts => cwV 1 hts (evGV (mw_976) (mw_978) (mp_44) (mw_8) (mw_979)) rfl rfl rfl (by decide +kernel) ⟨Nat.le_of_ble_eq_true rfl, Nat.le_of_ble_eq_true rfl⟩) d_D_doOne_64,
  qq_rz Z d_D_doOne_67,
  qq_iln X 2 rfl d_D_doOne_68,
  qq_ic X 3 (by decide) d_D_doOne_69,
  qq_icne X 109 (by decide) d_D_doOne_70,
  qq_aln X 0 rfl d_D_doOne_73,
  qq_gf X 7 23 rfl (fun w h => List.mem_cons_of_mem _ (inE_D w h)) (by decide) (List.mem_cons_of_mem _ mw_777) d_D_doOne_74,
  qq_ifne X 85 (by decide) d_D_doOne_77,
  qq_aln X 0 rfl d_D_doOne_80,
  qq_cV X 7 rfl (c_D_fault l) (fun hts => cwV 0 hts (evGV (mw_968) (mw_970) (mp_42) (mw_8) (mw_971)) rfl rfl rfl (by decide +kernel) ⟨Nat.le_of_ble_eq_true rfl, Nat.le_of_ble_eq_true rfl⟩) d_D_doOne_81,
  qq_rz Z d_D_doOne_84,
  qq_aln X 0 rfl d_D_doOne_85,
  qq_dup X d_D_doOne_86,
  qq_gf X 7 23 rfl (fun w h => List.mem_cons_of_mem _ (inE_D w h)) (by decide) (List.mem_cons_of_mem _ mw_777) d_D_doOne_87,
  qq_ic X 1 (by decide) d_D_doOne_90,
  qq_isub X d_D_doOne_91,
  qq_pf X 7 23 rfl (fun w h => List.mem_cons_of_mem _ (inE_D w h)) (by decide) tyD tyD_ok nmD rfl (by decide +kernel) (List.mem_cons_of_mem _ mw_777) d_D_doOne_92,
  qq_aln X 0 rfl d_D_doOne_95,
  qq_aln X 0 rfl d_D_doOne_96,
  qq_gf X 7 27 rfl (fun w h => List.mem_cons_of_mem _ (inE_D w h)) (by decide) (List.mem_cons_of_mem _ mw_781) d_D_doOne_97,
  qq_aln X 0 rfl d_D_doOne_100,
  qq_gf X 7 23 rfl (fun w h => List.mem_cons_of_mem _ (inE_D w h)) (by decide) (List.mem_cons_of_mem _ mw_777) d_D_doOne_101,
  qq_ia X d_D_doOne_104,
  qq_cV X 7 rfl (c_D_go l) (fun hts => cwV 1 hts (evGV (mw_976) (mw_978) (mp_44) (mw_8) (mw_979)) rfl rfl rfl (by decide +kernel) ⟨Nat.le_of_ble_eq_true rfl, Nat.le_of_ble_eq_true rfl⟩) d_D_doOne_105,
  qq_rz Z d_D_doOne_108,
  qq_iln X 2 rfl d_D_doOne_109,
  qq_bp X 12 (by decide) d_D_doOne_110,
  qq_iclt X 160 (by decide) d_D_doOne_112,
  qq_iln X 2 rfl d_D_doOne_115,
  qq_bp X 16 (by decide) d_D_doOne_116,
  qq_icge X 160 (by decide) d_D_doOne_118,
  qq_aln X 0 rfl d_D_doOne_121,
  qq_gf X 7 24 rfl (fun w h => List.mem_cons_of_mem _ (inE_D w h)) (by decide) (List.mem_cons_of_mem _ mw_778) d_D_doOne_122,
  qq_bp X 40 (by decide) d_D_doOne_125,
  qq_icne X 135 (by decide) d_D_doOne_127,
  qq_aln X 0 rfl d_D_doOne_130,
  qq_cV X 7 rfl (c_D_fault l) (fun hts => cwV 0 hts (evGV (mw_968) (mw_970) (mp_42) (mw_8) (mw_971)) rfl rfl rfl (by decide +kernel) ⟨Nat.le_of_ble_eq_true rfl, Nat.le_of_ble_eq_true rfl⟩) d_D_doOne_131,
  qq_rz Z d_D_doOne_134,
  qq_aln X 0 rfl d_D_doOne_135,
  qq_gf X 7 28 rfl (fun w h => List.mem_cons_of_mem _ (inE_D w h)) (by decide) (List.mem_cons_of_mem _ mw_782) d_D_doOne_136,
  qq_aln X 0 rfl d_D_doOne_139,
  qq_gf X 7 24 rfl (fun w h => List.mem_cons_of_mem _ (inE_D w h)) (by decide) (List.mem_cons_of_mem _ mw_778) d_D_doOne_140,
  qq_aln X 0 rfl d_D_doOne_143,
  qq_gf X 7 20 rfl (fun w h => List.mem_cons_of_mem _ (inE_D w h)) (by decide) (List.mem_cons_of_mem _ mw_774) d_D_doOne_144,
  qq_iln X 3 rfl d_D_doOne_147,
  qq_ia X d_D_doOne_148,
  qq_ias X d_D_doOne_149,
  qq_aln X 0 rfl d_D_doOne_150,
  qq_dup X d_D_doOne_151,
  qq_gf X 7 24 rfl (fun w h => List.mem_cons_of_mem _ (inE_D w h)) (by decide) (List.mem_cons_of_mem _ mw_778) d_D_doOne_152,
  qq_ic X 1 (by decide) d_D_doOne_155,
  qq_iadd X d_D_doOne_156,
  qq_pf X 7 24 rfl (fun w h => List.mem_cons_of_mem _ (inE_D w h)) (by decide) tyD tyD_ok nmD rfl (by decide +kernel) (List.mem_cons_of_mem _ mw_778) d_D_doOne_157,
  qq_iln X 2 rfl d_D_doOne_160,
  qq_ic X 4 (by decide) d_D_doOne_161,
  qq_iclt X 181 (by decide) d_D_doOne_162,
  qq_iln X 2 rfl d_D_doOne_165,
  qq_bp X 8 (by decide) d_D_doOne_166,
  qq_icge X 181 (by decide) d_D_doOne_168,
  qq_aln X 0 rfl d_D_doOne_171,
  qq_gf X 7 20 rfl (fun w h => List.mem_cons_of_mem _ (inE_D w h)) (by decide) (List.mem_cons_of_mem _ mw_774) d_D_doOne_172,
  qq_iln X 3 rfl d_D_doOne_175,
  qq_dup2 X d_D_doOne_176,
  qq_ia X d_D_doOne_177,
  qq_ic X 1 (by decide) d_D_doOne_178,
  qq_iadd X d_D_doOne_179,
  qq_ias X d_D_doOne_180,
  qq_iln X 2 rfl d_D_doOne_181,
  qq_bp X 8 (by decide) d_D_doOne_182,
  qq_iclt X 203 (by decide) d_D_doOne_184,
  qq_iln X 2 rfl d_D_doOne_187,
  qq_bp X 12 (by decide) d_D_doOne_188,
  qq_icge X 203 (by decide) d_D_doOne_190,
  qq_aln X 0 rfl d_D_doOne_193,
  qq_gf X 7 20 rfl (fun w h => List.mem_cons_of_mem _ (inE_D w h)) (by decide) (List.mem_cons_of_mem _ mw_774) d_D_doOne_194,
  qq_iln X 3 rfl d_D_doOne_197,
  qq_dup2 X d_D_doOne_198,
  qq_ia X d_D_doOne_199,
  qq_ic X 1 (by decide) d_D_doOne_200,
  qq_isub X d_D_doOne_201,
  qq_ias X d_D_doOne_202,
  qq_iln X 2 rfl d_D_doOne_203,
  qq_bp X 16 (by decide) d_D_doOne_204,
  qq_iclt X 234 (by decide) d_D_doOne_206,
  qq_iln X 2 rfl d_D_doOne_209,
  qq_bp X 32 (by decide) d_D_doOne_210,
  qq_icge X 234 (by decide) d_D_doOne_212,
  qq_aln X 0 rfl d_D_doOne_215,
  qq_gf X 7 20 rfl (fun w h => List.mem_cons_of_mem _ (inE_D w h)) (by decide) (List.mem_cons_of_mem _ mw_774) d_D_doOne_216,
  qq_iln X 2 rfl d_D_doOne_219,
  qq_ic X 2 (by decide) d_D_doOne_220,
  qq_ishr X d_D_doOne_221,
  qq_ic X 3 (by decide) d_D_doOne_222,
  qq_iand X d_D_doOne_223,
  qq_dup2 X d_D_doOne_224,
  qq_ia X d_D_doOne_225,
  qq_aln X 0 rfl d_D_doOne_226,
  qq_gf X 7 20 rfl (fun w h => List.mem_cons_of_mem _ (inE_D w h)) (by decide) (List.mem_cons_of_mem _ mw_774) d_D_doOne_227,
  qq_iln X 3 rfl d_D_doOne_230,
  qq_ia X d_D_doOne_231,
  qq_iadd X d_D_doOne_232,
  qq_ias X d_D_doOne_233,
  qq_iln X 2 rfl d_D_doOne_234,
  qq_bp X 32 (by decide) d_D_doOne_235,
  qq_iclt X 259 (by decide) d_D_doOne_237,
  qq_aln X 0 rfl d_D_doOne_240,
  qq_gf X 7 20 rfl (fun w h => List.mem_cons_of_mem _ (inE_D w h)) (by decide) (List.mem_cons_of_mem _ mw_774) d_D_doOne_241,
  qq_iln X 2 rfl d_D_doOne_244,
  qq_ic X 2 (by decide) d_D_doOne_245,
  qq_ishr X d_D_doOne_246,
  qq_ic X 3 (by decide) d_D_doOne_247,
  qq_iand X d_D_doOne_248,
  qq_dup2 X d_D_doOne_249,
  qq_ia X d_D_doOne_250,
  qq_aln X 0 rfl d_D_doOne_251,
  qq_gf X 7 20 rfl (fun w h => List.mem_cons_of_mem _ (inE_D w h)) (by decide) (List.mem_cons_of_mem _ mw_774) d_D_doOne_252,
  qq_iln X 3 rfl d_D_doOne_255,
  qq_ia X d_D_doOne_256,
  qq_isub X d_D_doOne_257,
  qq_ias X d_D_doOne_258,
  qq_aln X 0 rfl d_D_doOne_259,
  qq_aln X 0 rfl d_D_doOne_260,
  qq_gf X 7 22 rfl (fun w h => List.mem_cons_of_mem _ (inE_D w h)) (by decide) (List.mem_cons_of_mem _ mw_776) d_D_doOne_261,
  qq_ic X 1 (by decide) d_D_doOne_264,
  qq_iadd X d_D_doOne_265,
  qq_cV X 7 rfl (c_D_go l) (fun hts => cwV 1 hts (evGV (mw_976) (mw_978) (mp_44) (mw_8) (mw_979)) rfl rfl rfl (by decide +kernel) ⟨Nat.le_of_ble_eq_true rfl, Nat.le_of_ble_eq_true rfl⟩) d_D_doOne_266,
  qq_rz Z d_D_doOne_269, trivial⟩
def pre_D_doOne : List Value → ev_M → ev_L → Prop := fun as σ τ => ∃ (b op : Int32), as = [.ref 30, .int b, .int op] ∧ (b = 0 ∨ b = 256) ∧ 0 ≤ op.toInt ∧ op.toInt < 48 ∧ msR (mvD σ τ) ∧ (σ 30 22).toInt ≤ 255
def post_D_doOne : List Value → ev_M → ev_L → Bool → ev_M → ev_L → Prop := fun as σ τ r σ' τ' => match as with
  | [_, .int b, .int op] => sd_step (fD σ b) (trD σ b) (sp_kind op) op (sp_at (fD σ b) (σ 30 22 + 1)) (sp_at (fD σ b) (σ 30 22 + 2)) (σ 30 22 + 1) σ τ r σ' τ'
  | _ => False
set_option maxHeartbeats 4000000 in
set_option maxRecDepth 100000 in
theorem c_D_doOne (l : Launch) : ev_C ev_b l y_D_doOne ws_D_doOne rm_D_doOne evLY evCl pre_D_doOne post_D_doOne := by
  refine ev_meth0 (by decide) rfl ev_rop_b ?_ I_D_doOne (ok_D_doOne l) 200 ?_
  · rintro _ σ τ ⟨b, op, rfl, hp⟩
    exact Nat.le_of_ble_eq_true rfl
  · rintro _ σ τ ⟨b, op, rfl, hb, h0, h48, hR, hpc⟩
    have hp0 : 0 ≤ (σ 30 22).toInt := hR.1.1
    have e1 : (σ 30 22 + 1).toInt = (σ 30 22).toInt + 1 := i_add (by omega) (by omega) (by decide) (by decide)
    have hp1 : ¬ σ 30 22 + 1 = -1 := i_nm1 (by omega)
    have hr : vp_in (op &&& 3) 4 := pk_andIn _ 2 rfl (by decide)
    have hr2 : vp_in (op >>> (2 &&& 31) &&& 3) 4 := pk_andIn _ 2 rfl (by decide)
    have cs : op.toInt = 0 ∨ op.toInt = 1 ∨ op.toInt = 2 ∨ op.toInt = 3 ∨ (4 ≤ op.toInt ∧ op.toInt < 8) ∨ (8 ≤ op.toInt ∧ op.toInt < 12) ∨ (12 ≤ op.toInt ∧ op.toInt < 16) ∨ (16 ≤ op.toInt ∧ op.toInt < 32) ∨ (32 ≤ op.toInt ∧ op.toInt < 48) := by omega
    rcases cs with c | c | c | c | c | c | c | c | c
    · -- HALT
      have hk := kdl 0 1 0 (by decide +kernel) (op := op) (by omega) (by omega) (by decide)
      repeat (first | refine br_t (by simp only [Int32.lt_iff_toInt_lt, Int32.le_iff_toInt_le, ← Int32.toInt_inj, Int32.reduceToInt]; omega) ?_ | refine br_f (by simp only [Int32.lt_iff_toInt_lt, Int32.le_iff_toInt_le, ← Int32.toInt_inj, Int32.reduceToInt]; omega) ?_ | refine br_nt (by simp only [Int32.lt_iff_toInt_lt, Int32.le_iff_toInt_le, ← Int32.toInt_inj, Int32.reduceToInt]; omega) ?_ | refine br_nf (by simp only [Int32.lt_iff_toInt_lt, Int32.le_iff_toInt_le, ← Int32.toInt_inj, Int32.reduceToInt]; omega) ?_)
      exact ⟨true, rfl, frD_f _ _ (by decide), Or.inl ⟨hk, rfl, rfl, rfl⟩⟩
    · -- nothing
      have hk := kdl 1 2 1 (by decide +kernel) (op := op) (by omega) (by omega) (by decide)
      repeat (first | refine br_t (by simp only [Int32.lt_iff_toInt_lt, Int32.le_iff_toInt_le, ← Int32.toInt_inj, Int32.reduceToInt]; omega) ?_ | refine br_f (by simp only [Int32.lt_iff_toInt_lt, Int32.le_iff_toInt_le, ← Int32.toInt_inj, Int32.reduceToInt]; omega) ?_ | refine br_nt (by simp only [Int32.lt_iff_toInt_lt, Int32.le_iff_toInt_le, ← Int32.toInt_inj, Int32.reduceToInt]; omega) ?_ | refine br_nf (by simp only [Int32.lt_iff_toInt_lt, Int32.le_iff_toInt_le, ← Int32.toInt_inj, Int32.reduceToInt]; omega) ?_)
      refine ⟨⟨_, rfl⟩, ?_⟩
      rintro _ _ τ ⟨rfl, rfl, rfl⟩
      refine ⟨true, rfl, frD_f _ _ (by decide), Or.inr (Or.inr ?_)⟩
      rw [hk]
      exact ⟨by decide, hp1, rfl, rfl, rfl⟩
    · -- TRAP
      have hk := kdl 2 3 2 (by decide +kernel) (op := op) (by omega) (by omega) (by decide)
      repeat (first | refine br_t (by simp only [Int32.lt_iff_toInt_lt, Int32.le_iff_toInt_le, ← Int32.toInt_inj, Int32.reduceToInt]; omega) ?_ | refine br_f (by simp only [Int32.lt_iff_toInt_lt, Int32.le_iff_toInt_le, ← Int32.toInt_inj, Int32.reduceToInt]; omega) ?_ | refine br_nt (by simp only [Int32.lt_iff_toInt_lt, Int32.le_iff_toInt_le, ← Int32.toInt_inj, Int32.reduceToInt]; omega) ?_ | refine br_nf (by simp only [Int32.lt_iff_toInt_lt, Int32.le_iff_toInt_le, ← Int32.toInt_inj, Int32.reduceToInt]; omega) ?_)
      have fin : ∀ z : Int32, z = trD σ b (σ 30 22) → ((¬ z = -1 → pre_D_go [.ref 30, .int z] σ τ ∧ ∀ (r2 : Bool) (σ2 : ev_M) (τ2 : ev_L), post_D_go [.ref 30, .int z] σ τ r2 σ2 τ2 → ∃ b1 : Bool, (cond r2 1 0 : Int32) = cond b1 1 0 ∧ post_D_doOne [.ref 30, .int b, .int op] σ τ b1 σ2 τ2) ∧ (z = -1 → pre_D_fault [.ref 30] σ τ ∧ ∀ (r2 : Bool) (σ2 : ev_M) (τ2 : ev_L), post_D_fault [.ref 30] σ τ r2 σ2 τ2 → ∃ b1 : Bool, (cond r2 1 0 : Int32) = cond b1 1 0 ∧ post_D_doOne [.ref 30, .int b, .int op] σ τ b1 σ2 τ2)) := by
        rintro _ rfl
        refine ⟨fun h => ⟨⟨_, rfl⟩, ?_⟩, fun h => ⟨rfl, ?_⟩⟩
        · rintro _ _ τ ⟨rfl, rfl, rfl⟩
          refine ⟨true, rfl, frD_f _ _ (by decide), Or.inr (Or.inr ?_)⟩
          rw [hk]
          exact ⟨by decide, h, rfl, rfl, rfl⟩
        · rintro _ _ τ ⟨rfl, rfl, rfl⟩
          refine ⟨false, rfl, frD_f _ _ (by decide), Or.inr (Or.inl ?_)⟩
          rw [hk]
          exact ⟨by decide, h, rfl, rfl, rfl⟩
      refine br_c (fun hb0 => ?_) (fun hb0 => br_c (fun h96 => ?_) (fun h96 => ?_))
      · exact fin _ (if_neg fun q => absurd (Int32.not_le.mpr q.1) (fun w => w hb0)).symm
      · exact fin _ (if_neg fun q => absurd (Int32.not_le.mpr q.2.2) (fun w => w h96)).symm
      · refine ⟨?_, fin _ (if_pos ⟨Int32.not_le.mp hb0, Int32.le_iff_toInt_le.mpr hp0, Int32.not_le.mp h96⟩).symm⟩
        rw [vp_in_iff]
        rw [Int32.le_iff_toInt_le] at h96
        have : (96 : Int32).toInt = 96 := rfl
        omega
    · -- RETURN
      have hk := kdl 3 4 3 (by decide +kernel) (op := op) (by omega) (by omega) (by decide)
      have hh := hR.2.1
      have hst := hR.2.2.2
      repeat (first | refine br_t (by simp only [Int32.lt_iff_toInt_lt, Int32.le_iff_toInt_le, ← Int32.toInt_inj, Int32.reduceToInt]; omega) ?_ | refine br_f (by simp only [Int32.lt_iff_toInt_lt, Int32.le_iff_toInt_le, ← Int32.toInt_inj, Int32.reduceToInt]; omega) ?_ | refine br_nt (by simp only [Int32.lt_iff_toInt_lt, Int32.le_iff_toInt_le, ← Int32.toInt_inj, Int32.reduceToInt]; omega) ?_ | refine br_nf (by simp only [Int32.lt_iff_toInt_lt, Int32.le_iff_toInt_le, ← Int32.toInt_inj, Int32.reduceToInt]; omega) ?_)
      refine br_n (fun h => ?_) (fun h => ?_)
      · have hpos : 0 < (σ 30 23).toInt := by
          rw [← Int32.toInt_inj] at h
          have : (0 : Int32).toInt = 0 := rfl
          have h3 : 0 ≤ (σ 30 23).toInt := hh.1
          omega
        have h8 : (σ 30 23).toInt ≤ 8 := hh.2
        have e3 : (σ 30 23 - 1).toInt = (σ 30 23).toInt - 1 := i_sub (by omega) (by omega) (by decide) (by decide)
        have e4 := i_cl (x := σ 30 23 - 1) (by omega)
        have hs := hst (σ 30 23 - 1).toNatClampNeg (by show _ < (σ 30 23).toInt; omega)
        refine ⟨by rw [vp_in_iff]; show 0 ≤ (σ 30 23 - 1).toInt ∧ (σ 30 23 - 1).toInt < 8; omega, ⟨_, rfl⟩, ?_⟩
        rintro _ _ τ ⟨rfl, rfl, rfl⟩
        refine ⟨true, rfl, frD_tr (frD_f _ _ (by decide)) (frD_f _ _ (by decide)), Or.inr (Or.inr ?_)⟩
        rw [hk]
        have hP : ms_perf (fD σ b) (trD σ b) 3 op (sp_at (fD σ b) (σ 30 22 + 1)) (sp_at (fD σ b) (σ 30 22 + 2)) (σ 30 22 + 1) (mvD σ τ) = (σ 45 (σ 30 23 - 1).toNatClampNeg, (σ 43, σ 44, σ 45, σ 46, τ 47, σ 30 22, σ 30 23 - 1, σ 30 24, σ 30 25)) := if_pos (show 0 < σ 30 23 from Int32.lt_iff_toInt_lt.mpr hpos)
        rw [hP]
        exact ⟨by decide, i_nm1 hs.1, rfl, rfl, rfl⟩
      · refine ⟨rfl, ?_⟩
        rintro _ _ τ ⟨rfl, rfl, rfl⟩
        refine ⟨false, rfl, frD_f _ _ (by decide), Or.inr (Or.inl ?_)⟩
        rw [hk]
        have hP : ms_perf (fD σ b) (trD σ b) 3 op (sp_at (fD σ b) (σ 30 22 + 1)) (sp_at (fD σ b) (σ 30 22 + 2)) (σ 30 22 + 1) (mvD σ τ) = (-1, mvD σ τ) := if_neg (by show ¬ 0 < σ 30 23; rw [h]; decide)
        rw [hP]
        exact ⟨by decide, rfl, rfl, rfl, rfl⟩
    · -- UP
      have hk := kdl 4 8 4 (by decide +kernel) (op := op) (by omega) (by omega) (by decide)
      repeat (first | refine br_t (by simp only [Int32.lt_iff_toInt_lt, Int32.le_iff_toInt_le, ← Int32.toInt_inj, Int32.reduceToInt]; omega) ?_ | refine br_f (by simp only [Int32.lt_iff_toInt_lt, Int32.le_iff_toInt_le, ← Int32.toInt_inj, Int32.reduceToInt]; omega) ?_ | refine br_nt (by simp only [Int32.lt_iff_toInt_lt, Int32.le_iff_toInt_le, ← Int32.toInt_inj, Int32.reduceToInt]; omega) ?_ | refine br_nf (by simp only [Int32.lt_iff_toInt_lt, Int32.le_iff_toInt_le, ← Int32.toInt_inj, Int32.reduceToInt]; omega) ?_)
      refine ⟨hr, hr, ?_⟩
      repeat (first | refine br_t (by simp only [Int32.lt_iff_toInt_lt, Int32.le_iff_toInt_le, ← Int32.toInt_inj, Int32.reduceToInt]; omega) ?_ | refine br_f (by simp only [Int32.lt_iff_toInt_lt, Int32.le_iff_toInt_le, ← Int32.toInt_inj, Int32.reduceToInt]; omega) ?_ | refine br_nt (by simp only [Int32.lt_iff_toInt_lt, Int32.le_iff_toInt_le, ← Int32.toInt_inj, Int32.reduceToInt]; omega) ?_ | refine br_nf (by simp only [Int32.lt_iff_toInt_lt, Int32.le_iff_toInt_le, ← Int32.toInt_inj, Int32.reduceToInt]; omega) ?_)
      refine ⟨⟨_, rfl⟩, ?_⟩
      rintro _ _ τ ⟨rfl, rfl, rfl⟩
      refine ⟨true, rfl, frD_tr (frD_u _ _ _ (by decide)) (frD_f _ _ (by decide)), Or.inr (Or.inr ?_)⟩
      rw [hk]
      exact ⟨by decide, hp1, rfl, rfl, rfl⟩
    · -- DOWN
      have hk := kdl 8 12 8 (by decide +kernel) (op := op) (by omega) (by omega) (by decide)
      repeat (first | refine br_t (by simp only [Int32.lt_iff_toInt_lt, Int32.le_iff_toInt_le, ← Int32.toInt_inj, Int32.reduceToInt]; omega) ?_ | refine br_f (by simp only [Int32.lt_iff_toInt_lt, Int32.le_iff_toInt_le, ← Int32.toInt_inj, Int32.reduceToInt]; omega) ?_ | refine br_nt (by simp only [Int32.lt_iff_toInt_lt, Int32.le_iff_toInt_le, ← Int32.toInt_inj, Int32.reduceToInt]; omega) ?_ | refine br_nf (by simp only [Int32.lt_iff_toInt_lt, Int32.le_iff_toInt_le, ← Int32.toInt_inj, Int32.reduceToInt]; omega) ?_)
      refine ⟨hr, hr, ?_⟩
      repeat (first | refine br_t (by simp only [Int32.lt_iff_toInt_lt, Int32.le_iff_toInt_le, ← Int32.toInt_inj, Int32.reduceToInt]; omega) ?_ | refine br_f (by simp only [Int32.lt_iff_toInt_lt, Int32.le_iff_toInt_le, ← Int32.toInt_inj, Int32.reduceToInt]; omega) ?_ | refine br_nt (by simp only [Int32.lt_iff_toInt_lt, Int32.le_iff_toInt_le, ← Int32.toInt_inj, Int32.reduceToInt]; omega) ?_ | refine br_nf (by simp only [Int32.lt_iff_toInt_lt, Int32.le_iff_toInt_le, ← Int32.toInt_inj, Int32.reduceToInt]; omega) ?_)
      refine ⟨⟨_, rfl⟩, ?_⟩
      rintro _ _ τ ⟨rfl, rfl, rfl⟩
      refine ⟨true, rfl, frD_tr (frD_u _ _ _ (by decide)) (frD_f _ _ (by decide)), Or.inr (Or.inr ?_)⟩
      rw [hk]
      exact ⟨by decide, hp1, rfl, rfl, rfl⟩
    · -- PRINT
      have hk := kdl 12 16 12 (by decide +kernel) (op := op) (by omega) (by omega) (by decide)
      have hsh : 0 ≤ (σ 30 24).toInt ∧ (σ 30 24).toInt ≤ 40 := hR.2.2.1
      repeat (first | refine br_t (by simp only [Int32.lt_iff_toInt_lt, Int32.le_iff_toInt_le, ← Int32.toInt_inj, Int32.reduceToInt]; omega) ?_ | refine br_f (by simp only [Int32.lt_iff_toInt_lt, Int32.le_iff_toInt_le, ← Int32.toInt_inj, Int32.reduceToInt]; omega) ?_ | refine br_nt (by simp only [Int32.lt_iff_toInt_lt, Int32.le_iff_toInt_le, ← Int32.toInt_inj, Int32.reduceToInt]; omega) ?_ | refine br_nf (by simp only [Int32.lt_iff_toInt_lt, Int32.le_iff_toInt_le, ← Int32.toInt_inj, Int32.reduceToInt]; omega) ?_)
      refine br_n (fun h => ?_) (fun h => ?_)
      · have h40 : (σ 30 24).toInt < 40 := by
          rw [← Int32.toInt_inj] at h
          have : (40 : Int32).toInt = 40 := rfl
          omega
        refine ⟨hr, by rw [vp_in_iff]; omega, ?_⟩
        repeat (first | refine br_t (by simp only [Int32.lt_iff_toInt_lt, Int32.le_iff_toInt_le, ← Int32.toInt_inj, Int32.reduceToInt]; omega) ?_ | refine br_f (by simp only [Int32.lt_iff_toInt_lt, Int32.le_iff_toInt_le, ← Int32.toInt_inj, Int32.reduceToInt]; omega) ?_ | refine br_nt (by simp only [Int32.lt_iff_toInt_lt, Int32.le_iff_toInt_le, ← Int32.toInt_inj, Int32.reduceToInt]; omega) ?_ | refine br_nf (by simp only [Int32.lt_iff_toInt_lt, Int32.le_iff_toInt_le, ← Int32.toInt_inj, Int32.reduceToInt]; omega) ?_)
        refine ⟨⟨_, rfl⟩, ?_⟩
        rintro _ _ τ ⟨rfl, rfl, rfl⟩
        refine ⟨true, rfl, frD_tr (frD_u _ _ _ (by decide)) (frD_tr (frD_f _ _ (by decide)) (frD_f _ _ (by decide))), Or.inr (Or.inr ?_)⟩
        rw [hk]
        have hP : ms_perf (fD σ b) (trD σ b) 12 op (sp_at (fD σ b) (σ 30 22 + 1)) (sp_at (fD σ b) (σ 30 22 + 2)) (σ 30 22 + 1) (mvD σ τ) = (σ 30 22 + 1, (σ 43, σ 44, σ 45, upd (σ 46) (σ 30 24).toNatClampNeg (σ 43 (op &&& 3).toNatClampNeg), τ 47, σ 30 22, σ 30 23, σ 30 24 + 1, σ 30 25)) := if_pos (show σ 30 24 < 40 from Int32.lt_iff_toInt_lt.mpr h40)
        rw [hP]
        exact ⟨by decide, hp1, rfl, rfl, rfl⟩
      · refine ⟨rfl, ?_⟩
        rintro _ _ τ ⟨rfl, rfl, rfl⟩
        refine ⟨false, rfl, frD_f _ _ (by decide), Or.inr (Or.inl ?_)⟩
        rw [hk]
        have hP : ms_perf (fD σ b) (trD σ b) 12 op (sp_at (fD σ b) (σ 30 22 + 1)) (sp_at (fD σ b) (σ 30 22 + 2)) (σ 30 22 + 1) (mvD σ τ) = (-1, mvD σ τ) := if_neg (by show ¬ σ 30 24 < 40; rw [h]; decide)
        rw [hP]
        exact ⟨by decide, rfl, rfl, rfl, rfl⟩
    · -- ADD
      have hk := kdl 16 32 16 (by decide +kernel) (op := op) (by omega) (by omega) (by decide)
      repeat (first | refine br_t (by simp only [Int32.lt_iff_toInt_lt, Int32.le_iff_toInt_le, ← Int32.toInt_inj, Int32.reduceToInt]; omega) ?_ | refine br_f (by simp only [Int32.lt_iff_toInt_lt, Int32.le_iff_toInt_le, ← Int32.toInt_inj, Int32.reduceToInt]; omega) ?_ | refine br_nt (by simp only [Int32.lt_iff_toInt_lt, Int32.le_iff_toInt_le, ← Int32.toInt_inj, Int32.reduceToInt]; omega) ?_ | refine br_nf (by simp only [Int32.lt_iff_toInt_lt, Int32.le_iff_toInt_le, ← Int32.toInt_inj, Int32.reduceToInt]; omega) ?_)
      refine ⟨hr2, hr, hr2, ?_⟩
      repeat (first | refine br_t (by simp only [Int32.lt_iff_toInt_lt, Int32.le_iff_toInt_le, ← Int32.toInt_inj, Int32.reduceToInt]; omega) ?_ | refine br_f (by simp only [Int32.lt_iff_toInt_lt, Int32.le_iff_toInt_le, ← Int32.toInt_inj, Int32.reduceToInt]; omega) ?_ | refine br_nt (by simp only [Int32.lt_iff_toInt_lt, Int32.le_iff_toInt_le, ← Int32.toInt_inj, Int32.reduceToInt]; omega) ?_ | refine br_nf (by simp only [Int32.lt_iff_toInt_lt, Int32.le_iff_toInt_le, ← Int32.toInt_inj, Int32.reduceToInt]; omega) ?_)
      refine ⟨⟨_, rfl⟩, ?_⟩
      rintro _ _ τ ⟨rfl, rfl, rfl⟩
      refine ⟨true, rfl, frD_tr (frD_u _ _ _ (by decide)) (frD_f _ _ (by decide)), Or.inr (Or.inr ?_)⟩
      rw [hk]
      exact ⟨by decide, hp1, rfl, rfl, rfl⟩
    · -- SUBTRACT
      have hk := kdl 32 48 32 (by decide +kernel) (op := op) (by omega) (by omega) (by decide)
      repeat (first | refine br_t (by simp only [Int32.lt_iff_toInt_lt, Int32.le_iff_toInt_le, ← Int32.toInt_inj, Int32.reduceToInt]; omega) ?_ | refine br_f (by simp only [Int32.lt_iff_toInt_lt, Int32.le_iff_toInt_le, ← Int32.toInt_inj, Int32.reduceToInt]; omega) ?_ | refine br_nt (by simp only [Int32.lt_iff_toInt_lt, Int32.le_iff_toInt_le, ← Int32.toInt_inj, Int32.reduceToInt]; omega) ?_ | refine br_nf (by simp only [Int32.lt_iff_toInt_lt, Int32.le_iff_toInt_le, ← Int32.toInt_inj, Int32.reduceToInt]; omega) ?_)
      refine ⟨hr2, hr, hr2, ?_⟩
      repeat (first | refine br_t (by simp only [Int32.lt_iff_toInt_lt, Int32.le_iff_toInt_le, ← Int32.toInt_inj, Int32.reduceToInt]; omega) ?_ | refine br_f (by simp only [Int32.lt_iff_toInt_lt, Int32.le_iff_toInt_le, ← Int32.toInt_inj, Int32.reduceToInt]; omega) ?_ | refine br_nt (by simp only [Int32.lt_iff_toInt_lt, Int32.le_iff_toInt_le, ← Int32.toInt_inj, Int32.reduceToInt]; omega) ?_ | refine br_nf (by simp only [Int32.lt_iff_toInt_lt, Int32.le_iff_toInt_le, ← Int32.toInt_inj, Int32.reduceToInt]; omega) ?_)
      refine ⟨⟨_, rfl⟩, ?_⟩
      rintro _ _ τ ⟨rfl, rfl, rfl⟩
      refine ⟨true, rfl, frD_tr (frD_u _ _ _ (by decide)) (frD_f _ _ (by decide)), Or.inr (Or.inr ?_)⟩
      rw [hk]
      exact ⟨by decide, hp1, rfl, rfl, rfl⟩
end
section
/-! the reference's step -/
theorem ms_perf_f {f : Nat → Int32} {tr : Int32 → Int32} {kd op n m bh : Int32} (hb : 0 ≤ bh.toInt) (hn : 0 ≤ n.toInt) {x : mst} (hx : msR x) (h1 : (ms_perf f tr kd op n m bh x).1 = -1) : (ms_perf f tr kd op n m bh x).2 = x := by
  obtain ⟨r, c, s, o, t, pc, h, sh, dn⟩ := x
  obtain ⟨hpc, hh, hsh, hst⟩ := hx
  have h0 : (0 : Int32).toInt = 0 := rfl
  have e1' : (1 : Int32).toInt = 1 := rfl
  revert h1
  suffices key : ∀ y : Int32 × mst, y = ms_perf f tr kd op n m bh (r, c, s, o, t, pc, h, sh, dn) → y.1 = -1 → y.2 = (r, c, s, o, t, pc, h, sh, dn) from key _ rfl
  intro y hy
  by_cases k2 : kd = 2
  · have hy := hy.trans (if_pos k2)
    subst hy; intro _; rfl
  by_cases k3 : kd = 3
  · have hy := hy.trans ((if_neg k2).trans (if_pos k3))
    by_cases h7 : 0 < h
    · have hy := hy.trans (if_pos h7)
      rw [Int32.lt_iff_toInt_lt, h0] at h7
      have e1 : (h - 1).toInt = h.toInt - 1 := by rw [i_sub (by omega) (by omega) (by omega) (by omega), e1']
      have e2 := i_cl (x := h - 1) (by omega)
      subst hy
      intro q
      exact absurd q (i_nm1 (hst _ (by omega)).1)
    · have hy := hy.trans (if_neg h7)
      subst hy; intro _; rfl
  by_cases k12 : kd = 12
  · have hy := hy.trans ((if_neg k2).trans ((if_neg k3).trans (if_pos k12)))
    by_cases h7 : sh < 40
    · have hy := hy.trans (if_pos h7)
      subst hy
      intro q
      exact absurd q (i_nm1 hb)
    · have hy := hy.trans (if_neg h7)
      subst hy; intro _; rfl
  by_cases k60 : kd = 60
  · have hy := hy.trans ((if_neg k2).trans ((if_neg k3).trans ((if_neg k12).trans (if_pos k60))))
    subst hy; intro _; rfl
  by_cases k64 : kd = 64
  · have hy := hy.trans ((if_neg k2).trans ((if_neg k3).trans ((if_neg k12).trans ((if_neg k60).trans (if_pos k64)))))
    subst hy; intro _; rfl
  by_cases k68 : kd = 68
  · have hy := hy.trans ((if_neg k2).trans ((if_neg k3).trans ((if_neg k12).trans ((if_neg k60).trans ((if_neg k64).trans (if_pos k68))))))
    subst hy; intro _; rfl
  by_cases k69 : kd = 69
  · have hy := hy.trans ((if_neg k2).trans ((if_neg k3).trans ((if_neg k12).trans ((if_neg k60).trans ((if_neg k64).trans ((if_neg k68).trans (if_pos k69)))))))
    subst hy; intro _; rfl
  by_cases k70 : kd = 70
  · have hy := hy.trans ((if_neg k2).trans ((if_neg k3).trans ((if_neg k12).trans ((if_neg k60).trans ((if_neg k64).trans ((if_neg k68).trans ((if_neg k69).trans (if_pos k70))))))))
    by_cases h7 : h < 8
    · have hy := hy.trans (if_pos h7)
      subst hy
      intro q
      exact absurd q (i_nm1 hn)
    · have hy := hy.trans (if_neg h7)
      subst hy; intro _; rfl
  by_cases k72 : kd = 72
  · have hy := hy.trans ((if_neg k2).trans ((if_neg k3).trans ((if_neg k12).trans ((if_neg k60).trans ((if_neg k64).trans ((if_neg k68).trans ((if_neg k69).trans ((if_neg k70).trans (if_pos k72)))))))))
    subst hy; intro _; rfl
  by_cases k77 : kd = 77
  · have hy := hy.trans ((if_neg k2).trans ((if_neg k3).trans ((if_neg k12).trans ((if_neg k60).trans ((if_neg k64).trans ((if_neg k68).trans ((if_neg k69).trans ((if_neg k70).trans ((if_neg k72).trans (if_pos k77))))))))))
    by_cases h7 : h < 8
    · have hy := hy.trans (if_pos h7)
      subst hy
      intro q
      exact absurd q (i_nm1 hn)
    · have hy := hy.trans (if_neg h7)
      subst hy; intro _; rfl
  have hy := hy.trans ((if_neg k2).trans ((if_neg k3).trans ((if_neg k12).trans ((if_neg k60).trans ((if_neg k64).trans ((if_neg k68).trans ((if_neg k69).trans ((if_neg k70).trans ((if_neg k72).trans (if_neg k77))))))))))
  subst hy
  intro q
  exact absurd q (i_nm1 hb)
def sd_fin (r : Bool) (x : mst) : mst := cond r (ms_1 x) x
def sd_post (y : Int32 × mst) (σ : ev_M) (τ : ev_L) (r : Bool) (σ' : ev_M) (τ' : ev_L) : Prop := frD σ σ' τ τ' ∧ (r = true ↔ ¬ y.1 = 2) ∧ sd_fin r (mvD σ' τ') = y.2 ∧ σ' 30 26 = (if y.1 = 0 then σ 30 26 else y.1)
theorem sd_conv {f : Nat → Int32} {tr : Int32 → Int32} {σ : ev_M} {τ : ev_L} {r : Bool} {σ' : ev_M} {τ' : ev_L} {kd bh : Int32} (hf : byF f) (hR : msR (mvD σ τ)) (h1 : (σ 30 22).toInt ≤ 255) (hk : sp_kind (sp_at f (σ 30 22)) = kd) (hkn : ¬ kd = -1) (hbh : σ 30 22 + sp_len kd = bh) (hb : bh.toInt ≤ 256)
    (h : sd_step f tr kd (sp_at f (σ 30 22)) (sp_at f (σ 30 22 + 1)) (sp_at f (σ 30 22 + 2)) bh σ τ r σ' τ') : sd_post (ms_step f tr (mvD σ τ)) σ τ r σ' τ' := by
  have hp0 : 0 ≤ (σ 30 22).toInt := hR.1.1
  have h256 : (256 : Int32).toInt = 256 := rfl
  have h00 : (0 : Int32).toInt = 0 := rfl
  have hok : ¬ ms_pc (mvD σ τ) < 0 ∧ ms_pc (mvD σ τ) < 256 ∧ ¬ sp_kind (sp_at f (ms_pc (mvD σ τ))) = -1 ∧ ms_pc (mvD σ τ) + sp_len (sp_kind (sp_at f (ms_pc (mvD σ τ)))) ≤ 256 := by
    show ¬ σ 30 22 < 0 ∧ σ 30 22 < 256 ∧ ¬ sp_kind (sp_at f (σ 30 22)) = -1 ∧ σ 30 22 + sp_len (sp_kind (sp_at f (σ 30 22))) ≤ 256
    rw [hk, hbh, Int32.lt_iff_toInt_lt, Int32.lt_iff_toInt_lt, Int32.le_iff_toInt_le, h256, h00]
    exact ⟨by omega, by omega, hkn, hb⟩
  have hl := sp_len_3 kd
  have e1 : bh.toInt = (σ 30 22).toInt + (sp_len kd).toInt := by rw [← hbh]; exact i_add (by omega) (by omega) (by omega) (by omega)
  obtain ⟨hfr, h⟩ := h
  refine ⟨hfr, ?_⟩
  rcases h with ⟨h2, rfl, h4, h5⟩ | ⟨h2, h3, rfl, h5, h6⟩ | ⟨h2, h3, rfl, h5, h6⟩
  · have e : ms_step f tr (mvD σ τ) = (1, ms_1 (mvD σ τ)) := (if_pos hok).trans (if_pos (show sp_kind (sp_at f (σ 30 22)) = 0 by rw [hk]; exact h2))
    rw [e]
    exact ⟨⟨fun _ => (show ¬ (1 : Int32) = 2 by decide), fun _ => rfl⟩, by rw [h5]; rfl, by rw [h4]; rfl⟩
  · have e : ms_step f tr (mvD σ τ) = (2, (ms_perf f tr kd (sp_at f (σ 30 22)) (sp_at f (σ 30 22 + 1)) (sp_at f (σ 30 22 + 2)) bh (mvD σ τ)).2) := by
      refine ((if_pos hok).trans (if_neg (show ¬ sp_kind (sp_at f (σ 30 22)) = 0 by rw [hk]; exact h2))).trans ?_
      show (if (ms_perf f tr (sp_kind (sp_at f (σ 30 22))) (sp_at f (σ 30 22)) (sp_at f (σ 30 22 + 1)) (sp_at f (σ 30 22 + 2)) (σ 30 22 + sp_len (sp_kind (sp_at f (σ 30 22)))) (mvD σ τ)).1 = -1 then _ else _) = _
      rw [hk, hbh, if_pos h3]
      show (_, (ms_perf f tr (sp_kind (sp_at f (σ 30 22))) (sp_at f (σ 30 22)) (sp_at f (σ 30 22 + 1)) (sp_at f (σ 30 22 + 2)) (σ 30 22 + sp_len (sp_kind (sp_at f (σ 30 22)))) (mvD σ τ)).2) = _
      rw [hk, hbh]
    rw [e]
    refine ⟨⟨fun q => (by cases q), fun q => absurd rfl q⟩, ?_, by rw [h5]; rfl⟩
    show mvD σ' τ' = _
    rw [h6, ms_perf_f (by omega) (sp_at_by hf _).1 hR h3]
  · have e : ms_step f tr (mvD σ τ) = (0, ms_go (ms_perf f tr kd (sp_at f (σ 30 22)) (sp_at f (σ 30 22 + 1)) (sp_at f (σ 30 22 + 2)) bh (mvD σ τ)).2 (ms_perf f tr kd (sp_at f (σ 30 22)) (sp_at f (σ 30 22 + 1)) (sp_at f (σ 30 22 + 2)) bh (mvD σ τ)).1) := by
      refine ((if_pos hok).trans (if_neg (show ¬ sp_kind (sp_at f (σ 30 22)) = 0 by rw [hk]; exact h2))).trans ?_
      show (if (ms_perf f tr (sp_kind (sp_at f (σ 30 22))) (sp_at f (σ 30 22)) (sp_at f (σ 30 22 + 1)) (sp_at f (σ 30 22 + 2)) (σ 30 22 + sp_len (sp_kind (sp_at f (σ 30 22)))) (mvD σ τ)).1 = -1 then _ else _) = _
      rw [hk, hbh, if_neg h3]
      show (_, ms_go (ms_perf f tr (sp_kind (sp_at f (σ 30 22))) (sp_at f (σ 30 22)) (sp_at f (σ 30 22 + 1)) (sp_at f (σ 30 22 + 2)) (σ 30 22 + sp_len (sp_kind (sp_at f (σ 30 22)))) (mvD σ τ)).2 (ms_perf f tr (sp_kind (sp_at f (σ 30 22))) (sp_at f (σ 30 22)) (sp_at f (σ 30 22 + 1)) (sp_at f (σ 30 22 + 2)) (σ 30 22 + sp_len (sp_kind (sp_at f (σ 30 22)))) (mvD σ τ)).1) = _
      rw [hk, hbh]
    rw [e]
    refine ⟨⟨fun _ => (show ¬ (0 : Int32) = 2 by decide), fun _ => rfl⟩, ?_, by rw [h5]; rfl⟩
    show ms_1 (mvD σ' τ') = ms_go _ _
    rw [h6, ms_go_set]
theorem res_conv {f : Nat → Int32} {tr : Int32 → Int32} {kd op n m bh nx : Int32} {σ : ev_M} {τ : ev_L} {r : Bool} {σ' : ev_M} (hk : ¬ kd = 0) (hP : ms_perf f tr kd op n m bh (mvD σ τ) = (nx, mvD σ τ)) (h : sd_res σ nx r σ') : sd_step f tr kd op n m bh σ τ r σ' τ := by
  unfold sd_step
  rw [hP]
  rcases h with ⟨h1, h2, rfl⟩ | ⟨h1, h2, rfl⟩
  · exact ⟨frD_f _ _ (by decide), Or.inr (Or.inl ⟨hk, h1, h2, rfl, rfl⟩)⟩
  · exact ⟨frD_f _ _ (by decide), Or.inr (Or.inr ⟨hk, h1, h2, rfl, rfl⟩)⟩
theorem sz0 {op : Int32} (h0 : 0 ≤ op.toInt) (h1 : op.toInt < 256) : (sd_size op = 0 → sp_kind op = -1) ∧ (¬ sd_size op = 0 → ¬ sp_kind op = -1 ∧ sp_len (sp_kind op) = sd_size op) ∧ (sd_size op = 1 ↔ op.toInt < 48) := by
  obtain ⟨j, hj, rfl⟩ := nI_of (x := op) (by rw [Int32.lt_iff_toInt_lt]; have : (0 : Int32).toInt = 0 := rfl; omega)
  rw [nI_toInt hj] at h1 h0 ⊢
  have key : ∀ n, n < 256 → (sd_size (nI n) = 0 → sp_kind (nI n) = -1) ∧ (¬ sd_size (nI n) = 0 → ¬ sp_kind (nI n) = -1 ∧ sp_len (sp_kind (nI n)) = sd_size (nI n)) ∧ (sd_size (nI n) = 1 ↔ (n : Int) < 48) := by decide +kernel
  exact key j (by omega)
def y_D_step : MethodName := ⟨RD, "step", "(I)Z"⟩
def ws_D_step : List Cond := .code y_D_step prog_9_method_37_code 6 (some .boolean) :: evW
theorem d_D_step_0 : decode prog_9_method_37_code 0 = .ok (.aload_n 0, 1) := by decide +kernel
theorem d_D_step_1 : decode prog_9_method_37_code 1 = .ok (.iload_n 1, 1) := by decide +kernel
theorem d_D_step_2 : decode prog_9_method_37_code 2 = .ok (.aload_n 0, 1) := by decide +kernel
theorem d_D_step_3 : decode prog_9_method_37_code 3 = .ok (.getfield 155, 3) := by decide +kernel
theorem d_D_step_6 : decode prog_9_method_37_code 6 = .ok (.invokevirtual 158, 3) := by decide +kernel
theorem d_D_step_9 : decode prog_9_method_37_code 9 = .ok (.istore_n 2, 1) := by decide +kernel
theorem d_D_step_10 : decode prog_9_method_37_code 10 = .ok (.iload_n 2, 1) := by decide +kernel
theorem d_D_step_11 : decode prog_9_method_37_code 11 = .ok (.invokestatic 97, 3) := by decide +kernel
theorem d_D_step_14 : decode prog_9_method_37_code 14 = .ok (.istore_n 3, 1) := by decide +kernel
theorem d_D_step_15 : decode prog_9_method_37_code 15 = .ok (.iload_n 3, 1) := by decide +kernel
theorem d_D_step_16 : decode prog_9_method_37_code 16 = .ok (.ifCond .eq 15, 3) := by decide +kernel
theorem d_D_step_19 : decode prog_9_method_37_code 19 = .ok (.aload_n 0, 1) := by decide +kernel
theorem d_D_step_20 : decode prog_9_method_37_code 20 = .ok (.getfield 155, 3) := by decide +kernel
theorem d_D_step_23 : decode prog_9_method_37_code 23 = .ok (.iload_n 3, 1) := by decide +kernel
theorem d_D_step_24 : decode prog_9_method_37_code 24 = .ok (.iadd, 1) := by decide +kernel
theorem d_D_step_25 : decode prog_9_method_37_code 25 = .ok (.sipush 256, 3) := by decide +kernel
theorem d_D_step_28 : decode prog_9_method_37_code 28 = .ok (.if_icmp .le 8, 3) := by decide +kernel
theorem d_D_step_31 : decode prog_9_method_37_code 31 = .ok (.aload_n 0, 1) := by decide +kernel
theorem d_D_step_32 : decode prog_9_method_37_code 32 = .ok (.invokevirtual 165, 3) := by decide +kernel
theorem d_D_step_35 : decode prog_9_method_37_code 35 = .ok (.ireturn, 1) := by decide +kernel
theorem d_D_step_36 : decode prog_9_method_37_code 36 = .ok (.iload_n 3, 1) := by decide +kernel
theorem d_D_step_37 : decode prog_9_method_37_code 37 = .ok (.iconst 1, 1) := by decide +kernel
theorem d_D_step_38 : decode prog_9_method_37_code 38 = .ok (.if_icmp .ne 10, 3) := by decide +kernel
theorem d_D_step_41 : decode prog_9_method_37_code 41 = .ok (.aload_n 0, 1) := by decide +kernel
theorem d_D_step_42 : decode prog_9_method_37_code 42 = .ok (.iload_n 1, 1) := by decide +kernel
theorem d_D_step_43 : decode prog_9_method_37_code 43 = .ok (.iload_n 2, 1) := by decide +kernel
theorem d_D_step_44 : decode prog_9_method_37_code 44 = .ok (.invokevirtual 175, 3) := by decide +kernel
theorem d_D_step_47 : decode prog_9_method_37_code 47 = .ok (.ireturn, 1) := by decide +kernel
theorem d_D_step_48 : decode prog_9_method_37_code 48 = .ok (.iload_n 2, 1) := by decide +kernel
theorem d_D_step_49 : decode prog_9_method_37_code 49 = .ok (.iconst 3, 1) := by decide +kernel
theorem d_D_step_50 : decode prog_9_method_37_code 50 = .ok (.iand, 1) := by decide +kernel
theorem d_D_step_51 : decode prog_9_method_37_code 51 = .ok (.istore 4, 2) := by decide +kernel
theorem d_D_step_53 : decode prog_9_method_37_code 53 = .ok (.aload_n 0, 1) := by decide +kernel
theorem d_D_step_54 : decode prog_9_method_37_code 54 = .ok (.iload_n 1, 1) := by decide +kernel
theorem d_D_step_55 : decode prog_9_method_37_code 55 = .ok (.aload_n 0, 1) := by decide +kernel
theorem d_D_step_56 : decode prog_9_method_37_code 56 = .ok (.getfield 155, 3) := by decide +kernel
theorem d_D_step_59 : decode prog_9_method_37_code 59 = .ok (.iconst 1, 1) := by decide +kernel
theorem d_D_step_60 : decode prog_9_method_37_code 60 = .ok (.iadd, 1) := by decide +kernel
theorem d_D_step_61 : decode prog_9_method_37_code 61 = .ok (.invokevirtual 158, 3) := by decide +kernel
theorem d_D_step_64 : decode prog_9_method_37_code 64 = .ok (.istore 5, 2) := by decide +kernel
theorem d_D_step_66 : decode prog_9_method_37_code 66 = .ok (.iload_n 2, 1) := by decide +kernel
theorem d_D_step_67 : decode prog_9_method_37_code 67 = .ok (.bipush 60, 2) := by decide +kernel
theorem d_D_step_69 : decode prog_9_method_37_code 69 = .ok (.if_icmp .lt 30, 3) := by decide +kernel
theorem d_D_step_72 : decode prog_9_method_37_code 72 = .ok (.iload_n 2, 1) := by decide +kernel
theorem d_D_step_73 : decode prog_9_method_37_code 73 = .ok (.bipush 64, 2) := by decide +kernel
theorem d_D_step_75 : decode prog_9_method_37_code 75 = .ok (.if_icmp .ge 24, 3) := by decide +kernel
theorem d_D_step_78 : decode prog_9_method_37_code 78 = .ok (.aload_n 0, 1) := by decide +kernel
theorem d_D_step_79 : decode prog_9_method_37_code 79 = .ok (.iload_n 1, 1) := by decide +kernel
theorem d_D_step_80 : decode prog_9_method_37_code 80 = .ok (.aload_n 0, 1) := by decide +kernel
theorem d_D_step_81 : decode prog_9_method_37_code 81 = .ok (.getfield 47, 3) := by decide +kernel
theorem d_D_step_84 : decode prog_9_method_37_code 84 = .ok (.iload 4, 2) := by decide +kernel
theorem d_D_step_86 : decode prog_9_method_37_code 86 = .ok (.iaload, 1) := by decide +kernel
theorem d_D_step_87 : decode prog_9_method_37_code 87 = .ok (.ifCond .ne 7, 3) := by decide +kernel
theorem d_D_step_90 : decode prog_9_method_37_code 90 = .ok (.iconst 1, 1) := by decide +kernel
theorem d_D_step_91 : decode prog_9_method_37_code 91 = .ok (.goto 4, 3) := by decide +kernel
theorem d_D_step_94 : decode prog_9_method_37_code 94 = .ok (.iconst 0, 1) := by decide +kernel
theorem d_D_step_95 : decode prog_9_method_37_code 95 = .ok (.invokevirtual 178, 3) := by decide +kernel
theorem d_D_step_98 : decode prog_9_method_37_code 98 = .ok (.ireturn, 1) := by decide +kernel
theorem d_D_step_99 : decode prog_9_method_37_code 99 = .ok (.iload_n 2, 1) := by decide +kernel
theorem d_D_step_100 : decode prog_9_method_37_code 100 = .ok (.bipush 64, 2) := by decide +kernel
theorem d_D_step_102 : decode prog_9_method_37_code 102 = .ok (.if_icmp .lt 30, 3) := by decide +kernel
theorem d_D_step_105 : decode prog_9_method_37_code 105 = .ok (.iload_n 2, 1) := by decide +kernel
theorem d_D_step_106 : decode prog_9_method_37_code 106 = .ok (.bipush 68, 2) := by decide +kernel
theorem d_D_step_108 : decode prog_9_method_37_code 108 = .ok (.if_icmp .ge 24, 3) := by decide +kernel
theorem d_D_step_111 : decode prog_9_method_37_code 111 = .ok (.aload_n 0, 1) := by decide +kernel
theorem d_D_step_112 : decode prog_9_method_37_code 112 = .ok (.iload_n 1, 1) := by decide +kernel
theorem d_D_step_113 : decode prog_9_method_37_code 113 = .ok (.aload_n 0, 1) := by decide +kernel
theorem d_D_step_114 : decode prog_9_method_37_code 114 = .ok (.getfield 47, 3) := by decide +kernel
theorem d_D_step_117 : decode prog_9_method_37_code 117 = .ok (.iload 4, 2) := by decide +kernel
theorem d_D_step_119 : decode prog_9_method_37_code 119 = .ok (.iaload, 1) := by decide +kernel
theorem d_D_step_120 : decode prog_9_method_37_code 120 = .ok (.ifCond .ge 7, 3) := by decide +kernel
theorem d_D_step_123 : decode prog_9_method_37_code 123 = .ok (.iconst 1, 1) := by decide +kernel
theorem d_D_step_124 : decode prog_9_method_37_code 124 = .ok (.goto 4, 3) := by decide +kernel
theorem d_D_step_127 : decode prog_9_method_37_code 127 = .ok (.iconst 0, 1) := by decide +kernel
theorem d_D_step_128 : decode prog_9_method_37_code 128 = .ok (.invokevirtual 178, 3) := by decide +kernel
theorem d_D_step_131 : decode prog_9_method_37_code 131 = .ok (.ireturn, 1) := by decide +kernel
theorem d_D_step_132 : decode prog_9_method_37_code 132 = .ok (.iload_n 2, 1) := by decide +kernel
theorem d_D_step_133 : decode prog_9_method_37_code 133 = .ok (.bipush 68, 2) := by decide +kernel
theorem d_D_step_135 : decode prog_9_method_37_code 135 = .ok (.if_icmp .ne 10, 3) := by decide +kernel
theorem d_D_step_138 : decode prog_9_method_37_code 138 = .ok (.aload_n 0, 1) := by decide +kernel
theorem d_D_step_139 : decode prog_9_method_37_code 139 = .ok (.iload_n 1, 1) := by decide +kernel
theorem d_D_step_140 : decode prog_9_method_37_code 140 = .ok (.iconst 1, 1) := by decide +kernel
theorem d_D_step_141 : decode prog_9_method_37_code 141 = .ok (.invokevirtual 178, 3) := by decide +kernel
theorem d_D_step_144 : decode prog_9_method_37_code 144 = .ok (.ireturn, 1) := by decide +kernel
theorem d_D_step_145 : decode prog_9_method_37_code 145 = .ok (.iload_n 2, 1) := by decide +kernel
theorem d_D_step_146 : decode prog_9_method_37_code 146 = .ok (.bipush 69, 2) := by decide +kernel
theorem d_D_step_148 : decode prog_9_method_37_code 148 = .ok (.if_icmp .ne 10, 3) := by decide +kernel
theorem d_D_step_151 : decode prog_9_method_37_code 151 = .ok (.aload_n 0, 1) := by decide +kernel
theorem d_D_step_152 : decode prog_9_method_37_code 152 = .ok (.iload 5, 2) := by decide +kernel
theorem d_D_step_154 : decode prog_9_method_37_code 154 = .ok (.invokevirtual 162, 3) := by decide +kernel
theorem d_D_step_157 : decode prog_9_method_37_code 157 = .ok (.ireturn, 1) := by decide +kernel
theorem d_D_step_158 : decode prog_9_method_37_code 158 = .ok (.iload_n 2, 1) := by decide +kernel
theorem d_D_step_159 : decode prog_9_method_37_code 159 = .ok (.bipush 70, 2) := by decide +kernel
theorem d_D_step_161 : decode prog_9_method_37_code 161 = .ok (.if_icmp .ne 16, 3) := by decide +kernel
theorem d_D_step_164 : decode prog_9_method_37_code 164 = .ok (.aload_n 0, 1) := by decide +kernel
theorem d_D_step_165 : decode prog_9_method_37_code 165 = .ok (.aload_n 0, 1) := by decide +kernel
theorem d_D_step_166 : decode prog_9_method_37_code 166 = .ok (.getfield 155, 3) := by decide +kernel
theorem d_D_step_169 : decode prog_9_method_37_code 169 = .ok (.iconst 2, 1) := by decide +kernel
theorem d_D_step_170 : decode prog_9_method_37_code 170 = .ok (.iadd, 1) := by decide +kernel
theorem d_D_step_171 : decode prog_9_method_37_code 171 = .ok (.iload 5, 2) := by decide +kernel
theorem d_D_step_173 : decode prog_9_method_37_code 173 = .ok (.invokevirtual 182, 3) := by decide +kernel
theorem d_D_step_176 : decode prog_9_method_37_code 176 = .ok (.ireturn, 1) := by decide +kernel
theorem d_D_step_177 : decode prog_9_method_37_code 177 = .ok (.iload_n 2, 1) := by decide +kernel
theorem d_D_step_178 : decode prog_9_method_37_code 178 = .ok (.bipush 77, 2) := by decide +kernel
theorem d_D_step_180 : decode prog_9_method_37_code 180 = .ok (.if_icmp .ne 21, 3) := by decide +kernel
theorem d_D_step_183 : decode prog_9_method_37_code 183 = .ok (.aload_n 0, 1) := by decide +kernel
theorem d_D_step_184 : decode prog_9_method_37_code 184 = .ok (.aload_n 0, 1) := by decide +kernel
theorem d_D_step_185 : decode prog_9_method_37_code 185 = .ok (.iload_n 1, 1) := by decide +kernel
theorem d_D_step_186 : decode prog_9_method_37_code 186 = .ok (.aload_n 0, 1) := by decide +kernel
theorem d_D_step_187 : decode prog_9_method_37_code 187 = .ok (.getfield 155, 3) := by decide +kernel
theorem d_D_step_190 : decode prog_9_method_37_code 190 = .ok (.iconst 2, 1) := by decide +kernel
theorem d_D_step_191 : decode prog_9_method_37_code 191 = .ok (.iadd, 1) := by decide +kernel
theorem d_D_step_192 : decode prog_9_method_37_code 192 = .ok (.invokevirtual 158, 3) := by decide +kernel
theorem d_D_step_195 : decode prog_9_method_37_code 195 = .ok (.iload 5, 2) := by decide +kernel
theorem d_D_step_197 : decode prog_9_method_37_code 197 = .ok (.invokevirtual 182, 3) := by decide +kernel
theorem d_D_step_200 : decode prog_9_method_37_code 200 = .ok (.ireturn, 1) := by decide +kernel
theorem d_D_step_201 : decode prog_9_method_37_code 201 = .ok (.iload_n 2, 1) := by decide +kernel
theorem d_D_step_202 : decode prog_9_method_37_code 202 = .ok (.invokestatic 88, 3) := by decide +kernel
theorem d_D_step_205 : decode prog_9_method_37_code 205 = .ok (.ifCond .eq 16, 3) := by decide +kernel
theorem d_D_step_208 : decode prog_9_method_37_code 208 = .ok (.aload_n 0, 1) := by decide +kernel
theorem d_D_step_209 : decode prog_9_method_37_code 209 = .ok (.iload_n 1, 1) := by decide +kernel
theorem d_D_step_210 : decode prog_9_method_37_code 210 = .ok (.aload_n 0, 1) := by decide +kernel
theorem d_D_step_211 : decode prog_9_method_37_code 211 = .ok (.getfield 47, 3) := by decide +kernel
theorem d_D_step_214 : decode prog_9_method_37_code 214 = .ok (.iload 4, 2) := by decide +kernel
theorem d_D_step_216 : decode prog_9_method_37_code 216 = .ok (.iaload, 1) := by decide +kernel
theorem d_D_step_217 : decode prog_9_method_37_code 217 = .ok (.invokevirtual 185, 3) := by decide +kernel
theorem d_D_step_220 : decode prog_9_method_37_code 220 = .ok (.ireturn, 1) := by decide +kernel
theorem d_D_step_221 : decode prog_9_method_37_code 221 = .ok (.iload_n 2, 1) := by decide +kernel
theorem d_D_step_222 : decode prog_9_method_37_code 222 = .ok (.bipush 76, 2) := by decide +kernel
theorem d_D_step_224 : decode prog_9_method_37_code 224 = .ok (.if_icmp .ne 20, 3) := by decide +kernel
theorem d_D_step_227 : decode prog_9_method_37_code 227 = .ok (.aload_n 0, 1) := by decide +kernel
theorem d_D_step_228 : decode prog_9_method_37_code 228 = .ok (.getfield 59, 3) := by decide +kernel
theorem d_D_step_231 : decode prog_9_method_37_code 231 = .ok (.iload 5, 2) := by decide +kernel
theorem d_D_step_233 : decode prog_9_method_37_code 233 = .ok (.bipush 63, 2) := by decide +kernel
theorem d_D_step_235 : decode prog_9_method_37_code 235 = .ok (.iand, 1) := by decide +kernel
theorem d_D_step_236 : decode prog_9_method_37_code 236 = .ok (.dup2, 1) := by decide +kernel
theorem d_D_step_237 : decode prog_9_method_37_code 237 = .ok (.laload, 1) := by decide +kernel
theorem d_D_step_238 : decode prog_9_method_37_code 238 = .ok (.lconst 1, 1) := by decide +kernel
theorem d_D_step_239 : decode prog_9_method_37_code 239 = .ok (.ladd, 1) := by decide +kernel
theorem d_D_step_240 : decode prog_9_method_37_code 240 = .ok (.lastore, 1) := by decide +kernel
theorem d_D_step_241 : decode prog_9_method_37_code 241 = .ok (.goto 65, 3) := by decide +kernel
theorem d_D_step_244 : decode prog_9_method_37_code 244 = .ok (.iload_n 2, 1) := by decide +kernel
theorem d_D_step_245 : decode prog_9_method_37_code 245 = .ok (.bipush 52, 2) := by decide +kernel
theorem d_D_step_247 : decode prog_9_method_37_code 247 = .ok (.if_icmp .ge 16, 3) := by decide +kernel
theorem d_D_step_250 : decode prog_9_method_37_code 250 = .ok (.aload_n 0, 1) := by decide +kernel
theorem d_D_step_251 : decode prog_9_method_37_code 251 = .ok (.getfield 47, 3) := by decide +kernel
theorem d_D_step_254 : decode prog_9_method_37_code 254 = .ok (.iload 4, 2) := by decide +kernel
theorem d_D_step_256 : decode prog_9_method_37_code 256 = .ok (.iload 5, 2) := by decide +kernel
theorem d_D_step_258 : decode prog_9_method_37_code 258 = .ok (.i2b, 1) := by decide +kernel
theorem d_D_step_259 : decode prog_9_method_37_code 259 = .ok (.iastore, 1) := by decide +kernel
theorem d_D_step_260 : decode prog_9_method_37_code 260 = .ok (.goto 46, 3) := by decide +kernel
theorem d_D_step_263 : decode prog_9_method_37_code 263 = .ok (.iload_n 2, 1) := by decide +kernel
theorem d_D_step_264 : decode prog_9_method_37_code 264 = .ok (.bipush 56, 2) := by decide +kernel
theorem d_D_step_266 : decode prog_9_method_37_code 266 = .ok (.if_icmp .ge 23, 3) := by decide +kernel
theorem d_D_step_269 : decode prog_9_method_37_code 269 = .ok (.aload_n 0, 1) := by decide +kernel
theorem d_D_step_270 : decode prog_9_method_37_code 270 = .ok (.getfield 47, 3) := by decide +kernel
theorem d_D_step_273 : decode prog_9_method_37_code 273 = .ok (.iload 4, 2) := by decide +kernel
theorem d_D_step_275 : decode prog_9_method_37_code 275 = .ok (.aload_n 0, 1) := by decide +kernel
theorem d_D_step_276 : decode prog_9_method_37_code 276 = .ok (.getfield 50, 3) := by decide +kernel
theorem d_D_step_279 : decode prog_9_method_37_code 279 = .ok (.iload 5, 2) := by decide +kernel
theorem d_D_step_281 : decode prog_9_method_37_code 281 = .ok (.bipush 15, 2) := by decide +kernel
theorem d_D_step_283 : decode prog_9_method_37_code 283 = .ok (.iand, 1) := by decide +kernel
theorem d_D_step_284 : decode prog_9_method_37_code 284 = .ok (.iaload, 1) := by decide +kernel
theorem d_D_step_285 : decode prog_9_method_37_code 285 = .ok (.iastore, 1) := by decide +kernel
theorem d_D_step_286 : decode prog_9_method_37_code 286 = .ok (.goto 20, 3) := by decide +kernel
theorem d_D_step_289 : decode prog_9_method_37_code 289 = .ok (.aload_n 0, 1) := by decide +kernel
theorem d_D_step_290 : decode prog_9_method_37_code 290 = .ok (.getfield 50, 3) := by decide +kernel
theorem d_D_step_293 : decode prog_9_method_37_code 293 = .ok (.iload 5, 2) := by decide +kernel
theorem d_D_step_295 : decode prog_9_method_37_code 295 = .ok (.bipush 15, 2) := by decide +kernel
theorem d_D_step_297 : decode prog_9_method_37_code 297 = .ok (.iand, 1) := by decide +kernel
theorem d_D_step_298 : decode prog_9_method_37_code 298 = .ok (.aload_n 0, 1) := by decide +kernel
theorem d_D_step_299 : decode prog_9_method_37_code 299 = .ok (.getfield 47, 3) := by decide +kernel
theorem d_D_step_302 : decode prog_9_method_37_code 302 = .ok (.iload 4, 2) := by decide +kernel
theorem d_D_step_304 : decode prog_9_method_37_code 304 = .ok (.iaload, 1) := by decide +kernel
theorem d_D_step_305 : decode prog_9_method_37_code 305 = .ok (.iastore, 1) := by decide +kernel
theorem d_D_step_306 : decode prog_9_method_37_code 306 = .ok (.aload_n 0, 1) := by decide +kernel
theorem d_D_step_307 : decode prog_9_method_37_code 307 = .ok (.aload_n 0, 1) := by decide +kernel
theorem d_D_step_308 : decode prog_9_method_37_code 308 = .ok (.getfield 155, 3) := by decide +kernel
theorem d_D_step_311 : decode prog_9_method_37_code 311 = .ok (.iconst 2, 1) := by decide +kernel
theorem d_D_step_312 : decode prog_9_method_37_code 312 = .ok (.iadd, 1) := by decide +kernel
theorem d_D_step_313 : decode prog_9_method_37_code 313 = .ok (.invokevirtual 162, 3) := by decide +kernel
theorem d_D_step_316 : decode prog_9_method_37_code 316 = .ok (.ireturn, 1) := by decide +kernel
def I_D_step (P : Bool → ev_M → ev_L → Prop) : List (Nat × ev_T) := [(0, tt_al 0 1),
  (1, tt_il 1 2),
  (2, tt_al 0 3),
  (3, tt_gf evLY 7 22 6),
  (6, tt_cV evLY 7 2 ev_i pre_D_at post_D_at 9),
  (9, tt_is 2 10),
  (10, tt_il 2 11),
  (11, tt_cS 1 ev_i pre_D_sizeOf post_D_sizeOf 14),
  (14, tt_is 3 15),
  (15, tt_il 3 16),
  (16, tt_ifeq 31 19),
  (19, tt_al 0 20),
  (20, tt_gf evLY 7 22 23),
  (23, tt_il 3 24),
  (24, tt_iadd 25),
  (25, tt_k 256 28),
  (28, tt_icle 36 31),
  (31, tt_al 0 32),
  (32, tt_cV evLY 7 0 ev_b pre_D_fault post_D_fault 35),
  (35, tt_rz P),
  (36, tt_il 3 37),
  (37, tt_k 1 38),
  (38, tt_icne 48 41),
  (41, tt_al 0 42),
  (42, tt_il 1 43),
  (43, tt_il 2 44),
  (44, tt_cV evLY 7 2 ev_b pre_D_doOne post_D_doOne 47),
  (47, tt_rz P),
  (48, tt_il 2 49),
  (49, tt_k 3 50),
  (50, tt_iand 51),
  (51, tt_is 4 53),
  (53, tt_al 0 54),
  (54, tt_il 1 55),
  (55, tt_al 0 56),
  (56, tt_gf evLY 7 22 59),
  (59, tt_k 1 60),
  (60, tt_iadd 61),
  (61, tt_cV evLY 7 2 ev_i pre_D_at post_D_at 64),
  (64, tt_is 5 66),
  (66, tt_il 2 67),
  (67, tt_k 60 69),
  (69, tt_iclt 99 72),
  (72, tt_il 2 73),
  (73, tt_k 64 75),
  (75, tt_icge 99 78),
  (78, tt_al 0 79),
  (79, tt_il 1 80),
  (80, tt_al 0 81),
  (81, tt_gf evLY 7 20 84),
  (84, tt_il 4 86),
  (86, tt_ia evLY 87),
  (87, tt_ifne 94 90),
  (90, tt_k 1 91),
  (91, tt_go 95),
  (94, tt_k 0 95),
  (95, tt_cV evLY 7 2 ev_b pre_D_branch post_D_branch 98),
  (98, tt_rz P),
  (99, tt_il 2 100),
  (100, tt_k 64 102),
  (102, tt_iclt 132 105),
  (105, tt_il 2 106),
  (106, tt_k 68 108),
  (108, tt_icge 132 111),
  (111, tt_al 0 112),
  (112, tt_il 1 113),
  (113, tt_al 0 114),
  (114, tt_gf evLY 7 20 117),
  (117, tt_il 4 119),
  (119, tt_ia evLY 120),
  (120, tt_ifge 127 123),
  (123, tt_k 1 124),
  (124, tt_go 128),
  (127, tt_k 0 128),
  (128, tt_cV evLY 7 2 ev_b pre_D_branch post_D_branch 131),
  (131, tt_rz P),
  (132, tt_il 2 133),
  (133, tt_k 68 135),
  (135, tt_icne 145 138),
  (138, tt_al 0 139),
  (139, tt_il 1 140),
  (140, tt_k 1 141),
  (141, tt_cV evLY 7 2 ev_b pre_D_branch post_D_branch 144),
  (144, tt_rz P),
  (145, tt_il 2 146),
  (146, tt_k 69 148),
  (148, tt_icne 158 151),
  (151, tt_al 0 152),
  (152, tt_il 5 154),
  (154, tt_cV evLY 7 1 ev_b pre_D_go post_D_go 157),
  (157, tt_rz P),
  (158, tt_il 2 159),
  (159, tt_k 70 161),
  (161, tt_icne 177 164),
  (164, tt_al 0 165),
  (165, tt_al 0 166),
  (166, tt_gf evLY 7 22 169),
  (169, tt_k 2 170),
  (170, tt_iadd 171),
  (171, tt_il 5 173),
  (173, tt_cV evLY 7 2 ev_b pre_D_push post_D_push 176),
  (176, tt_rz P),
  (177, tt_il 2 178),
  (178, tt_k 77 180),
  (180, tt_icne 201 183),
  (183, tt_al 0 184),
  (184, tt_al 0 185),
  (185, tt_il 1 186),
  (186, tt_al 0 187),
  (187, tt_gf evLY 7 22 190),
  (190, tt_k 2 191),
  (191, tt_iadd 192),
  (192, tt_cV evLY 7 2 ev_i pre_D_at post_D_at 195),
  (195, tt_il 5 197),
  (197, tt_cV evLY 7 2 ev_b pre_D_push post_D_push 200),
  (200, tt_rz P),
  (201, tt_il 2 202),
  (202, tt_cS 1 ev_b pre_D_isSwitch post_D_isSwitch 205),
  (205, tt_ifeq 221 208),
  (208, tt_al 0 209),
  (209, tt_il 1 210),
  (210, tt_al 0 211),
  (211, tt_gf evLY 7 20 214),
  (214, tt_il 4 216),
  (216, tt_ia evLY 217),
  (217, tt_cV evLY 7 2 ev_b pre_D_select post_D_select 220),
  (220, tt_rz P),
  (221, tt_il 2 222),
  (222, tt_k 76 224),
  (224, tt_icne 244 227),
  (227, tt_al 0 228),
  (228, tt_gf evLY 7 29 231),
  (231, tt_il 5 233),
  (233, tt_k 63 235),
  (235, tt_iand 236),
  (236, tt_dup2 237),
  (237, tt_la evLY 238),
  (238, tt_lk 1 239),
  (239, tt_ladd 240),
  (240, tt_las evLY 241),
  (241, tt_go 306),
  (244, tt_il 2 245),
  (245, tt_k 52 247),
  (247, tt_icge 263 250),
  (250, tt_al 0 251),
  (251, tt_gf evLY 7 20 254),
  (254, tt_il 4 256),
  (256, tt_il 5 258),
  (258, tt_i2b 259),
  (259, tt_ias evLY 260),
  (260, tt_go 306),
  (263, tt_il 2 264),
  (264, tt_k 56 266),
  (266, tt_icge 289 269),
  (269, tt_al 0 270),
  (270, tt_gf evLY 7 20 273),
  (273, tt_il 4 275),
  (275, tt_al 0 276),
  (276, tt_gf evLY 7 21 279),
  (279, tt_il 5 281),
  (281, tt_k 15 283),
  (283, tt_iand 284),
  (284, tt_ia evLY 285),
  (285, tt_ias evLY 286),
  (286, tt_go 306),
  (289, tt_al 0 290),
  (290, tt_gf evLY 7 21 293),
  (293, tt_il 5 295),
  (295, tt_k 15 297),
  (297, tt_iand 298),
  (298, tt_al 0 299),
  (299, tt_gf evLY 7 20 302),
  (302, tt_il 4 304),
  (304, tt_ia evLY 305),
  (305, tt_ias evLY 306),
  (306, tt_al 0 307),
  (307, tt_al 0 308),
  (308, tt_gf evLY 7 22 311),
  (311, tt_k 2 312),
  (312, tt_iadd 313),
  (313, tt_cV evLY 7 1 ev_b pre_D_go post_D_go 316),
  (316, tt_rz P)]
abbrev rm_D_step : Room := { frames := 2, cells := 0, slots := 0, locals := 64 }
set_option maxRecDepth 20000 in
theorem ok_D_step (l : Launch) (J : ev_K) (P : Bool → ev_M → ev_L → Prop) (X : ev_X l rm_D_step evLY evCl ws_D_step prog_9_method_37_code 6 y_D_step.cls J) (Z : ev_Z J prog_9_method_37_code .ireturn ev_b P) : ev_oks J (I_D_step P) :=
  ⟨qq_aln X 0 rfl d_D_step_0,
  qq_iln X 1 rfl d_D_step_1,
  qq_aln X 0 rfl d_D_step_2,
  qq_gf X 7 22 rfl (fun w h => List.mem_cons_of_mem _ (inE_D w h)) (by decide) (List.mem_cons_of_mem _ mw_776) d_D_step_3,
  qq_cV X 7 rfl (c_D_at l) (fun hts => cwV 2 hts (evGV (mw_964) (mw_966) (mp_41) (mw_8) (mw_967)) rfl rfl rfl (by decide +kernel) ⟨Nat.le_of_ble_eq_true rfl, Nat.le_of_ble_eq_true rfl⟩) d_D_step_6,
  qq_isn X 2 rfl (by decide) d_D_step_9,
  qq_iln X 2 rfl d_D_step_10,
  qq_cS X (c_D_sizeOf l) (fun hts => va_cwS 1 hts (evGS (mw_881) (mw_882) (mw_8) (mw_883)) rfl rfl rfl (by decide +kernel) ⟨Nat.le_of_ble_eq_true rfl, Nat.le_of_ble_eq_true rfl⟩) d_D_step_11,
  qq_isn X 3 rfl (by decide) d_D_step_14,
  qq_iln X 3 rfl d_D_step_15,
  qq_ifeq X 31 (by decide) d_D_step_16,
  qq_aln X 0 rfl d_D_step_19,
  qq_gf X 7 22 rfl (fun w h => List.mem_cons_of_mem _ (inE_D w h)) (by decide) (List.mem_cons_of_mem _ mw_776) d_D_step_20,
  qq_iln X 3 rfl d_D_step_23,
  qq_iadd X d_D_step_24,
  qq_sp X 256 (by decide) d_D_step_25,
  qq_icle X 36 (by decide) d_D_step_28,
  qq_aln X 0 rfl d_D_step_31,
  qq_cV X 7 rfl (c_D_fault l) (fun hts => cwV 0 hts (evGV (mw_968) (mw_970) (mp_42) (mw_8) (mw_971)) rfl rfl rfl (by decide +kernel) ⟨Nat.le_of_ble_eq_true rfl, Nat.le_of_ble_eq_true rfl⟩) d_D_step_32,
  qq_rz Z d_D_step_35,
  qq_iln X 3 rfl d_D_step_36,
  qq_ic X 1 (by decide) d_D_step_37,
  qq_icne X 48 (by decide) d_D_step_38,
  qq_aln X 0 rfl d_D_step_41,
  qq_iln X 1 rfl d_D_step_42,
  qq_iln X 2 rfl d_D_step_43,
  qq_cV X 7 rfl (c_D_doOne l) (fun hts => cwV 2 hts (evGV (mw_972) (mw_974) (mp_43) (mw_8) (mw_975)) rfl rfl rfl (by decide +kernel) ⟨Nat.le_of_ble_eq_true rfl, Nat.le_of_ble_eq_true rfl⟩) d_D_step_44,
  qq_rz Z d_D_step_47,
  qq_iln X 2 rfl d_D_step_48,
  qq_ic X 3 (by decide) d_D_step_49,
  qq_iand X d_D_step_50,
  qq_is X 4 (by decide) d_D_step_51,
  qq_aln X 0 rfl d_D_step_53,
  qq_iln X 1 rfl d_D_step_54,
  qq_aln X 0 rfl d_D_step_55,
  qq_gf X 7 22 rfl (fun w h => List.mem_cons_of_mem _ (inE_D w h)) (by decide) (List.mem_cons_of_mem _ mw_776) d_D_step_56,
  qq_ic X 1 (by decide) d_D_step_59,
  qq_iadd X d_D_step_60,
  qq_cV X 7 rfl (c_D_at l) (fun hts => cwV 2 hts (evGV (mw_964) (mw_966) (mp_41) (mw_8) (mw_967)) rfl rfl rfl (by decide +kernel) ⟨Nat.le_of_ble_eq_true rfl, Nat.le_of_ble_eq_true rfl⟩) d_D_step_61,
  qq_is X 5 (by decide) d_D_step_64,
  qq_iln X 2 rfl d_D_step_66,
  qq_bp X 60 (by decide) d_D_step_67,
  qq_iclt X 99 (by decide) d_D_step_69,
  qq_iln X 2 rfl d_D_step_72,
  qq_bp X 64 (by decide) d_D_step_73,
  qq_icge X 99 (by decide) d_D_step_75,
  qq_aln X 0 rfl d_D_step_78,
  qq_iln X 1 rfl d_D_step_79,
  qq_aln X 0 rfl d_D_step_80,
  qq_gf X 7 20 rfl (fun w h => List.mem_cons_of_mem _ (inE_D w h)) (by decide) (List.mem_cons_of_mem _ mw_774) d_D_step_81,
  qq_il X 4 d_D_step_84,
  qq_ia X d_D_step_86,
  qq_ifne X 94 (by decide) d_D_step_87,
  qq_ic X 1 (by decide) d_D_step_90,
  qq_go X 95 (by decide) d_D_step_91,
  qq_ic X 0 (by decide) d_D_step_94,
  qq_cV X 7 rfl (c_D_branch l) (fun hts => cwV 2 hts (evGV (mw_980) (mw_982) (mp_45) (mw_8) (mw_983)) rfl rfl rfl (by decide +kernel) ⟨Nat.le_of_ble_eq_true rfl, Nat.le_of_ble_eq_true rfl⟩) d_D_step_95,
  qq_rz Z d_D_step_98,
  qq_iln X 2 rfl d_D_step_99,
  qq_bp X 64 (by decide) d_D_step_100,
  qq_iclt X 132 (by decide) d_D_step_102,
  qq_iln X 2 rfl d_D_step_105,
  qq_bp X 68 (by decide) d_D_step_106,
  qq_icge X 132 (by decide) d_D_step_108,
  qq_aln X 0 rfl d_D_step_111,
  qq_iln X 1 rfl d_D_step_112,
  qq_aln X 0 rfl d_D_step_113,
  qq_gf X 7 20 rfl (fun w h => List.mem_cons_of_mem _ (inE_D w h)) (by decide) (List.mem_cons_of_mem _ mw_774) d_D_step_114,
  qq_il X 4 d_D_step_117,
  qq_ia X d_D_step_119,
  qq_ifge X 127 (by decide) d_D_step_120,
  qq_ic X 1 (by decide) d_D_step_123,
  qq_go X 128 (by decide) d_D_step_124,
  qq_ic X 0 (by decide) d_D_step_127,
  qq_cV X 7 rfl (c_D_branch l) (fun hts => cwV 2 hts (evGV (mw_980) (mw_982) (mp_45) (mw_8) (mw_983)) rfl rfl rfl (by decide +kernel) ⟨Nat.le_of_ble_eq_true rfl, Nat.le_of_ble_eq_true rfl⟩) d_D_step_128,
  qq_rz Z d_D_step_131,
  qq_iln X 2 rfl d_D_step_132,
  qq_bp X 68 (by decide) d_D_step_133,
  qq_icne X 145 (by decide) d_D_step_135,
  qq_aln X 0 rfl d_D_step_138,
  qq_iln X 1 rfl d_D_step_139,
  qq_ic X 1 (by decide) d_D_step_140,
  qq_cV X 7 rfl (c_D_branch l) (fun hts => cwV 2 hts (evGV (mw_980) (mw_982) (mp_45) (mw_8) (mw_983)) rfl rfl rfl (by decide +kernel) ⟨Nat.le_of_ble_eq_true rfl, Nat.le_of_ble_eq_true rfl⟩) d_D_step_141,
  qq_rz Z d_D_step_144,
  qq_iln X 2 rfl d_D_step_145,
  qq_bp X 69 (by decide) d_D_step_146,
  qq_icne X 158 (by decide) d_D_step_148,
  qq_aln X 0 rfl d_D_step_151,
  qq_il X 5 d_D_step_152,
  qq_cV X 7 rfl (c_D_go l) (fun hts => cwV 1 hts (evGV (mw_976) (mw_978) (mp_44) (mw_8) (mw_979)) rfl rfl rfl (by decide +kernel) ⟨Nat.le_of_ble_eq_true rfl, Nat.le_of_ble_eq_true rfl⟩) d_D_step_154,
  qq_rz Z d_D_step_157,
  qq_iln X 2 rfl d_D_step_158,
  qq_bp X 70 (by decide) d_D_step_159,
  qq_icne X 177 (by decide) d_D_step_161,
  qq_aln X 0 rfl d_D_step_164,
  qq_aln X 0 rfl d_D_step_165,
  qq_gf X 7 22 rfl (fun w h => List.mem_cons_of_mem _ (inE_D w h)) (by decide) (List.mem_cons_of_mem _ mw_776) d_D_step_166,
  qq_ic X 2 (by decide) d_D_step_169,
  qq_iadd X d_D_step_170,
  qq_il X 5 d_D_step_171,
  qq_cV X 7 rfl (c_D_push l) (fun hts => cwV 2 hts (evGV (mw_984) (mw_986) (mp_46) (mw_8) (mw_987)) rfl rfl rfl (by decide +kernel) ⟨Nat.le_of_ble_eq_true rfl, Nat.le_of_ble_eq_true rfl⟩) d_D_step_173,
  qq_rz Z d_D_step_176,
  qq_iln X 2 rfl d_D_step_177,
  qq_bp X 77 (by decide) d_D_step_178,
  qq_icne X 201 (by decide) d_D_step_180,
  qq_aln X 0 rfl d_D_step_183,
  qq_aln X 0 rfl d_D_step_184,
  qq_iln X 1 rfl d_D_step_185,
  qq_aln X 0 rfl d_D_step_186,
  qq_gf X 7 22 rfl (fun w h => List.mem_cons_of_mem _ (inE_D w h)) (by decide) (List.mem_cons_of_mem _ mw_776) d_D_step_187,
  qq_ic X 2 (by decide) d_D_step_190,
  qq_iadd X d_D_step_191,
  qq_cV X 7 rfl (c_D_at l) (fun hts => cwV 2 hts (evGV (mw_964) (mw_966) (mp_41) (mw_8) (mw_967)) rfl rfl rfl (by decide +kernel) ⟨Nat.le_of_ble_eq_true rfl, Nat.le_of_ble_eq_true rfl⟩) d_D_step_192,
  qq_il X 5 d_D_step_195,
  qq_cV X 7 rfl (c_D_push l) (fun hts => cwV 2 hts (evGV (mw_984) (mw_986) (mp_46) (mw_8) (mw_987)) rfl rfl rfl (by decide +kernel) ⟨Nat.le_of_ble_eq_true rfl, Nat.le_of_ble_eq_true rfl⟩) d_D_step_197,
  qq_rz Z d_D_step_200,
  qq_iln X 2 rfl d_D_step_201,
  qq_cS X (c_D_isSwitch l) (fun hts => va_cwS 1 hts (evGS (mw_891) (mw_892) (mw_8) (mw_893)) rfl rfl rfl (by decide +kernel) ⟨Nat.le_of_ble_eq_true rfl, Nat.le_of_ble_eq_true rfl⟩) d_D_step_202,
  qq_ifeq X 221 (by decide) d_D_step_205,
  qq_aln X 0 rfl d_D_step_208,
  qq_iln X 1 rfl d_D_step_209,
  qq_aln X 0 rfl d_D_step_210,
  qq_gf X 7 20 rfl (fun w h => List.mem_cons_of_mem _ (inE_D w h)) (by decide) (List.mem_cons_of_mem _ mw_774) d_D_step_211,
  qq_il X 4 d_D_step_214,
  qq_ia X d_D_step_216,
  qq_cV X 7 rfl (c_D_select l) (fun hts => cwV 2 hts (evGV (mw_988) (mw_990) (mp_47) (mw_8) (mw_991)) rfl rfl rfl (by decide +kernel) ⟨Nat.le_of_ble_eq_true rfl, Nat.le_of_ble_eq_true rfl⟩) d_D_step_217,
  qq_rz Z d_D_step_220,
  qq_iln X 2 rfl d_D_step_221,
  qq_bp X 76 (by decide) d_D_step_222,
  qq_icne X 244 (by decide) d_D_step_224,
  qq_aln X 0 rfl d_D_step_227,
  qq_gf X 7 29 rfl (fun w h => List.mem_cons_of_mem _ (inE_D w h)) (by decide) (List.mem_cons_of_mem _ mw_783) d_D_step_228,
  qq_il X 5 d_D_step_231,
  qq_bp X 63 (by decide) d_D_step_233,
  qq_iand X d_D_step_235,
  qq_dup2 X d_D_step_236,
  qq_la X d_D_step_237,
  qq_lc X 1 (by decide) d_D_step_238,
  qq_ladd X d_D_step_239,
  qq_las X d_D_step_240,
  qq_go X 306 (by decide) d_D_step_241,
  qq_iln X 2 rfl d_D_step_244,
  qq_bp X 52 (by decide) d_D_step_245,
  qq_icge X 263 (by decide) d_D_step_247,
  qq_aln X 0 rfl d_D_step_250,
  qq_gf X 7 20 rfl (fun w h => List.mem_cons_of_mem _ (inE_D w h)) (by decide) (List.mem_cons_of_mem _ mw_774) d_D_step_251,
  qq_il X 4 d_D_step_254,
  qq_il X 5 d_D_step_256,
  qq_i2b X d_D_step_258,
  qq_ias X d_D_step_259,
  qq_go X 306 (by decide) d_D_step_260,
  qq_iln X 2 rfl d_D_step_263,
  qq_bp X 56 (by decide) d_D_step_264,
  qq_icge X 289 (by decide) d_D_step_266,
  qq_aln X 0 rfl d_D_step_269,
  qq_gf X 7 20 rfl (fun w h => List.mem_cons_of_mem _ (inE_D w h)) (by decide) (List.mem_cons_of_mem _ mw_774) d_D_step_270,
  qq_il X 4 d_D_step_273,
  qq_aln X 0 rfl d_D_step_275,
  qq_gf X 7 21 rfl (fun w h => List.mem_cons_of_mem _ (inE_D w h)) (by decide) (List.mem_cons_of_mem _ mw_775) d_D_step_276,
  qq_il X 5 d_D_step_279,
  qq_bp X 15 (by decide) d_D_step_281,
  qq_iand X d_D_step_283,
  qq_ia X d_D_step_284,
  qq_ias X d_D_step_285,
  qq_go X 306 (by decide) d_D_step_286,
  qq_aln X 0 rfl d_D_step_289,
  qq_gf X 7 21 rfl (fun w h => List.mem_cons_of_mem _ (inE_D w h)) (by decide) (List.mem_cons_of_mem _ mw_775) d_D_step_290,
  qq_il X 5 d_D_step_293,
  qq_bp X 15 (by decide) d_D_step_295,
  qq_iand X d_D_step_297,
  qq_aln X 0 rfl d_D_step_298,
  qq_gf X 7 20 rfl (fun w h => List.mem_cons_of_mem _ (inE_D w h)) (by decide) (List.mem_cons_of_mem _ mw_774) d_D_step_299,
  qq_il X 4 d_D_step_302,
  qq_ia X d_D_step_304,
  qq_ias X d_D_step_305,
  qq_aln X 0 rfl d_D_step_306,
  qq_aln X 0 rfl d_D_step_307,
  qq_gf X 7 22 rfl (fun w h => List.mem_cons_of_mem _ (inE_D w h)) (by decide) (List.mem_cons_of_mem _ mw_776) d_D_step_308,
  qq_ic X 2 (by decide) d_D_step_311,
  qq_iadd X d_D_step_312,
  qq_cV X 7 rfl (c_D_go l) (fun hts => cwV 1 hts (evGV (mw_976) (mw_978) (mp_44) (mw_8) (mw_979)) rfl rfl rfl (by decide +kernel) ⟨Nat.le_of_ble_eq_true rfl, Nat.le_of_ble_eq_true rfl⟩) d_D_step_313,
  qq_rz Z d_D_step_316, trivial⟩
def pre_D_step : List Value → ev_M → ev_L → Prop := fun as σ τ => ∃ b : Int32, as = [.ref 30, .int b] ∧ (b = 0 ∨ b = 256) ∧ byF (fD σ b) ∧ msR (mvD σ τ) ∧ (σ 30 22).toInt ≤ 255
def post_D_step : List Value → ev_M → ev_L → Bool → ev_M → ev_L → Prop := fun as σ τ r σ' τ' => match as with
  | [_, .int b] => sd_post (ms_step (fD σ b) (trD σ b) (mvD σ τ)) σ τ r σ' τ'
  | _ => False
set_option maxHeartbeats 4000000 in
set_option maxRecDepth 100000 in
theorem c_D_step (l : Launch) : ev_C ev_b l y_D_step ws_D_step rm_D_step evLY evCl pre_D_step post_D_step := by
  refine ev_meth0 (by decide) rfl ev_rop_b ?_ I_D_step (ok_D_step l) 200 ?_
  · rintro _ σ τ ⟨b, rfl, hp⟩
    exact Nat.le_of_ble_eq_true rfl
  · rintro _ σ τ ⟨b, rfl, hb, hf, hR, h255⟩
    have hp0 : 0 ≤ (σ 30 22).toInt := hR.1.1
    have h256 : (256 : Int32).toInt = 256 := rfl
    obtain ⟨hv, hat⟩ := at_D (σ := σ) (b := b) (a := σ 30 22) hb (by omega) (by omega)
    have hop := sp_at_by hf (σ 30 22)
    obtain ⟨z1, z2, z3⟩ := sz0 hop.1 hop.2
    refine ⟨⟨_, _, rfl, hv⟩, ?_⟩
    rintro _ σ τ ⟨rfl, rfl, rfl⟩
    rw [hat]
    refine ⟨⟨_, rfl⟩, ?_⟩
    rintro _ σ τ ⟨rfl, rfl, rfl⟩
    refine br_c (fun hz => ?_) (fun hz => ?_)
    · refine ⟨rfl, ?_⟩
      rintro _ _ τ ⟨rfl, rfl, rfl⟩
      have e : ms_step (fD σ b) (trD σ b) (mvD σ τ) = (2, mvD σ τ) := if_neg fun q => q.2.2.1 (z1 hz)
      refine ⟨false, rfl, ?_⟩
      show sd_post _ _ _ _ _ _
      rw [e]
      exact ⟨frD_f _ _ (by decide), ⟨fun q => (by cases q), fun q => absurd rfl q⟩, rfl, rfl⟩
    obtain ⟨hkn, hlen⟩ := z2 hz
    refine br_c (fun hle => ?_) (fun hle => ?_)
    · have hl3 := sp_len_3 (sp_kind (sp_at (fD σ b) (σ 30 22)))
      rw [hlen] at hl3
      have ebh : (σ 30 22 + sd_size (sp_at (fD σ b) (σ 30 22))).toInt = (σ 30 22).toInt + (sd_size (sp_at (fD σ b) (σ 30 22))).toInt := i_add (by omega) (by omega) (by omega) (by omega)
      rw [Int32.le_iff_toInt_le, h256] at hle
      refine br_n (fun h1 => ?_) (fun h1 => ?_)
      · -- two or three bytes
        have h1' : ¬ (sd_size (sp_at (fD σ b) (σ 30 22))).toInt = 1 := fun q => h1 (Int32.toInt_inj.mp q)
        have h48 : 48 ≤ (sp_at (fD σ b) (σ 30 22)).toInt := by
          rcases Int.lt_or_le (sp_at (fD σ b) (σ 30 22)).toInt 48 with q | q
          · exact absurd (z3.mpr q) h1
          · exact q
        have e1 : (σ 30 22 + 1).toInt = (σ 30 22).toInt + 1 := i_add (by omega) (by omega) (by decide) (by decide)
        have e2 : (σ 30 22 + 2).toInt = (σ 30 22).toInt + 2 := i_add (by omega) (by omega) (by decide) (by decide)
        obtain ⟨hv1, hat1⟩ := at_D (σ := σ) (b := b) (a := σ 30 22 + 1) hb (by omega) (by omega)
        have hn := sp_at_by hf (σ 30 22 + 1)
        have hr : vp_in (sp_at (fD σ b) (σ 30 22) &&& 3) 4 := pk_andIn _ 2 rfl (by decide)
        have hn15 : vp_in (sp_at (fD σ b) (σ 30 22 + 1) &&& 15) 16 := pk_andIn _ 4 rfl (by decide)
        have hn63 : vp_in (sp_at (fD σ b) (σ 30 22 + 1) &&& 63) 64 := pk_andIn _ 6 rfl (by decide)
        refine ⟨⟨_, _, rfl, hv1⟩, ?_⟩
        rintro _ σ τ ⟨rfl, rfl, rfl⟩
        rw [hat1]
        have hnz : ¬ ((sp_at (fD σ b) (σ 30 22)).toInt = 71 ∨ 78 ≤ (sp_at (fD σ b) (σ 30 22)).toInt) := by
          intro q
          have key : ∀ n, n < 256 → (n = 71 ∨ 78 ≤ n) → sd_size (nI n) = 0 := by decide +kernel
          obtain ⟨j, hj, ej⟩ := nI_of (x := sp_at (fD σ b) (σ 30 22)) (by rw [Int32.lt_iff_toInt_lt]; have : (0 : Int32).toInt = 0 := rfl; omega)
          rw [ej, nI_toInt hj] at q hop
          exact hz (by rw [ej]; exact key j (by omega) (by omega))
        have cs : ((sp_at (fD σ b) (σ 30 22)).toInt < 52) ∨ (52 ≤ (sp_at (fD σ b) (σ 30 22)).toInt ∧ (sp_at (fD σ b) (σ 30 22)).toInt < 56) ∨ (56 ≤ (sp_at (fD σ b) (σ 30 22)).toInt ∧ (sp_at (fD σ b) (σ 30 22)).toInt < 60) ∨ (60 ≤ (sp_at (fD σ b) (σ 30 22)).toInt ∧ (sp_at (fD σ b) (σ 30 22)).toInt < 64) ∨ (64 ≤ (sp_at (fD σ b) (σ 30 22)).toInt ∧ (sp_at (fD σ b) (σ 30 22)).toInt < 68) ∨ (sp_at (fD σ b) (σ 30 22)).toInt = 68 ∨ (sp_at (fD σ b) (σ 30 22)).toInt = 69 ∨ (sp_at (fD σ b) (σ 30 22)).toInt = 70 ∨ (72 ≤ (sp_at (fD σ b) (σ 30 22)).toInt ∧ (sp_at (fD σ b) (σ 30 22)).toInt < 76) ∨ (sp_at (fD σ b) (σ 30 22)).toInt = 76 ∨ (sp_at (fD σ b) (σ 30 22)).toInt = 77 := by omega
        have hsw : (72 ≤ (sp_at (fD σ b) (σ 30 22)).toInt ∧ (sp_at (fD σ b) (σ 30 22)).toInt < 76) → sd_sw (sp_at (fD σ b) (σ 30 22)) = true := by
          intro q
          exact decide_eq_true (by simp only [Int32.lt_iff_toInt_lt, Int32.le_iff_toInt_le, Int32.reduceToInt]; omega)
        have hsw0 : ¬ (72 ≤ (sp_at (fD σ b) (σ 30 22)).toInt ∧ (sp_at (fD σ b) (σ 30 22)).toInt < 76) → sd_sw (sp_at (fD σ b) (σ 30 22)) = false := by
          intro q
          exact decide_eq_false (by simp only [Int32.lt_iff_toInt_lt, Int32.le_iff_toInt_le, Int32.reduceToInt]; omega)
        have conv : ∀ (kd bh : Int32) (r : Bool) (σ' : ev_M) (τ' : ev_L), sp_kind (sp_at (fD σ b) (σ 30 22)) = kd → ¬ kd = -1 → σ 30 22 + sp_len kd = bh → sd_step (fD σ b) (trD σ b) kd (sp_at (fD σ b) (σ 30 22)) (sp_at (fD σ b) (σ 30 22 + 1)) (sp_at (fD σ b) (σ 30 22 + 2)) bh σ τ r σ' τ' → ∃ b1 : Bool, (cond r 1 0 : Int32) = cond b1 1 0 ∧ post_D_step [.ref 30, .int b] σ τ b1 σ' τ' := by
          intro kd bh r σ' τ' hk hkn hbh hs
          refine ⟨r, rfl, sd_conv hf hR h255 hk hkn hbh ?_ hs⟩
          rw [← hbh, ← hk, hlen]
          omega
        rcases cs with c | c | c | c | c | c | c | c | c | c | c
        · -- SET
          have hk := kdl 48 52 48 (by decide +kernel) (op := sp_at (fD σ b) (σ 30 22)) (by omega) (by omega) (by decide)
          repeat (first | refine br_t (by simp only [Int32.lt_iff_toInt_lt, Int32.le_iff_toInt_le, ← Int32.toInt_inj, Int32.reduceToInt]; omega) ?_ | refine br_f (by simp only [Int32.lt_iff_toInt_lt, Int32.le_iff_toInt_le, ← Int32.toInt_inj, Int32.reduceToInt]; omega) ?_ | refine br_nt (by simp only [Int32.lt_iff_toInt_lt, Int32.le_iff_toInt_le, ← Int32.toInt_inj, Int32.reduceToInt]; omega) ?_ | refine br_nf (by simp only [Int32.lt_iff_toInt_lt, Int32.le_iff_toInt_le, ← Int32.toInt_inj, Int32.reduceToInt]; omega) ?_)
          refine ⟨⟨_, rfl⟩, ?_⟩
          rintro _ σ τ ⟨rfl, rfl, rfl⟩
          rw [hsw0 (by omega)]
          refine br_t rfl ?_
          repeat (first | refine br_t (by simp only [Int32.lt_iff_toInt_lt, Int32.le_iff_toInt_le, ← Int32.toInt_inj, Int32.reduceToInt]; omega) ?_ | refine br_f (by simp only [Int32.lt_iff_toInt_lt, Int32.le_iff_toInt_le, ← Int32.toInt_inj, Int32.reduceToInt]; omega) ?_ | refine br_nt (by simp only [Int32.lt_iff_toInt_lt, Int32.le_iff_toInt_le, ← Int32.toInt_inj, Int32.reduceToInt]; omega) ?_ | refine br_nf (by simp only [Int32.lt_iff_toInt_lt, Int32.le_iff_toInt_le, ← Int32.toInt_inj, Int32.reduceToInt]; omega) ?_)
          refine ⟨hr, ⟨_, rfl⟩, ?_⟩
          rintro _ _ τ ⟨rfl, rfl, rfl⟩
          refine conv 48 (σ 30 22 + 2) true _ _ hk (by decide) rfl ⟨frD_tr (frD_u _ _ _ (by decide)) (frD_f _ _ (by decide)), Or.inr (Or.inr ⟨by decide, i_nm1 (by show 0 ≤ (σ 30 22 + 2).toInt; omega), rfl, rfl, rfl⟩)⟩
        · -- LOAD
          have hk := kdl 52 56 52 (by decide +kernel) (op := sp_at (fD σ b) (σ 30 22)) (by omega) (by omega) (by decide)
          repeat (first | refine br_t (by simp only [Int32.lt_iff_toInt_lt, Int32.le_iff_toInt_le, ← Int32.toInt_inj, Int32.reduceToInt]; omega) ?_ | refine br_f (by simp only [Int32.lt_iff_toInt_lt, Int32.le_iff_toInt_le, ← Int32.toInt_inj, Int32.reduceToInt]; omega) ?_ | refine br_nt (by simp only [Int32.lt_iff_toInt_lt, Int32.le_iff_toInt_le, ← Int32.toInt_inj, Int32.reduceToInt]; omega) ?_ | refine br_nf (by simp only [Int32.lt_iff_toInt_lt, Int32.le_iff_toInt_le, ← Int32.toInt_inj, Int32.reduceToInt]; omega) ?_)
          refine ⟨⟨_, rfl⟩, ?_⟩
          rintro _ σ τ ⟨rfl, rfl, rfl⟩
          rw [hsw0 (by omega)]
          refine br_t rfl ?_
          repeat (first | refine br_t (by simp only [Int32.lt_iff_toInt_lt, Int32.le_iff_toInt_le, ← Int32.toInt_inj, Int32.reduceToInt]; omega) ?_ | refine br_f (by simp only [Int32.lt_iff_toInt_lt, Int32.le_iff_toInt_le, ← Int32.toInt_inj, Int32.reduceToInt]; omega) ?_ | refine br_nt (by simp only [Int32.lt_iff_toInt_lt, Int32.le_iff_toInt_le, ← Int32.toInt_inj, Int32.reduceToInt]; omega) ?_ | refine br_nf (by simp only [Int32.lt_iff_toInt_lt, Int32.le_iff_toInt_le, ← Int32.toInt_inj, Int32.reduceToInt]; omega) ?_)
          refine ⟨hn15, hr, ⟨_, rfl⟩, ?_⟩
          rintro _ _ τ ⟨rfl, rfl, rfl⟩
          refine conv 52 (σ 30 22 + 2) true _ _ hk (by decide) rfl ⟨frD_tr (frD_u _ _ _ (by decide)) (frD_f _ _ (by decide)), Or.inr (Or.inr ⟨by decide, i_nm1 (by show 0 ≤ (σ 30 22 + 2).toInt; omega), rfl, rfl, rfl⟩)⟩
        · -- STORE
          have hk := kdl 56 60 56 (by decide +kernel) (op := sp_at (fD σ b) (σ 30 22)) (by omega) (by omega) (by decide)
          repeat (first | refine br_t (by simp only [Int32.lt_iff_toInt_lt, Int32.le_iff_toInt_le, ← Int32.toInt_inj, Int32.reduceToInt]; omega) ?_ | refine br_f (by simp only [Int32.lt_iff_toInt_lt, Int32.le_iff_toInt_le, ← Int32.toInt_inj, Int32.reduceToInt]; omega) ?_ | refine br_nt (by simp only [Int32.lt_iff_toInt_lt, Int32.le_iff_toInt_le, ← Int32.toInt_inj, Int32.reduceToInt]; omega) ?_ | refine br_nf (by simp only [Int32.lt_iff_toInt_lt, Int32.le_iff_toInt_le, ← Int32.toInt_inj, Int32.reduceToInt]; omega) ?_)
          refine ⟨⟨_, rfl⟩, ?_⟩
          rintro _ σ τ ⟨rfl, rfl, rfl⟩
          rw [hsw0 (by omega)]
          refine br_t rfl ?_
          repeat (first | refine br_t (by simp only [Int32.lt_iff_toInt_lt, Int32.le_iff_toInt_le, ← Int32.toInt_inj, Int32.reduceToInt]; omega) ?_ | refine br_f (by simp only [Int32.lt_iff_toInt_lt, Int32.le_iff_toInt_le, ← Int32.toInt_inj, Int32.reduceToInt]; omega) ?_ | refine br_nt (by simp only [Int32.lt_iff_toInt_lt, Int32.le_iff_toInt_le, ← Int32.toInt_inj, Int32.reduceToInt]; omega) ?_ | refine br_nf (by simp only [Int32.lt_iff_toInt_lt, Int32.le_iff_toInt_le, ← Int32.toInt_inj, Int32.reduceToInt]; omega) ?_)
          refine ⟨hr, hn15, ⟨_, rfl⟩, ?_⟩
          rintro _ _ τ ⟨rfl, rfl, rfl⟩
          refine conv 56 (σ 30 22 + 2) true _ _ hk (by decide) rfl ⟨frD_tr (frD_u _ _ _ (by decide)) (frD_f _ _ (by decide)), Or.inr (Or.inr ⟨by decide, i_nm1 (by show 0 ≤ (σ 30 22 + 2).toInt; omega), rfl, rfl, rfl⟩)⟩
        · -- IF_ZERO
          have hk := kdl 60 64 60 (by decide +kernel) (op := sp_at (fD σ b) (σ 30 22)) (by omega) (by omega) (by decide)
          repeat (first | refine br_t (by simp only [Int32.lt_iff_toInt_lt, Int32.le_iff_toInt_le, ← Int32.toInt_inj, Int32.reduceToInt]; omega) ?_ | refine br_f (by simp only [Int32.lt_iff_toInt_lt, Int32.le_iff_toInt_le, ← Int32.toInt_inj, Int32.reduceToInt]; omega) ?_ | refine br_nt (by simp only [Int32.lt_iff_toInt_lt, Int32.le_iff_toInt_le, ← Int32.toInt_inj, Int32.reduceToInt]; omega) ?_ | refine br_nf (by simp only [Int32.lt_iff_toInt_lt, Int32.le_iff_toInt_le, ← Int32.toInt_inj, Int32.reduceToInt]; omega) ?_)
          refine ⟨hr, br_n (fun h => ?_) (fun h => ?_)⟩
          · refine ⟨⟨_, _, rfl, hb, hp0, by omega⟩, ?_⟩
            rintro r σ' _ ⟨hs, rfl⟩
            exact conv 60 (σ 30 22 + 2) r σ' _ hk (by decide) rfl (res_conv (by decide) (Prod.ext (if_neg h) rfl) hs)
          · refine ⟨⟨_, _, rfl, hb, hp0, by omega⟩, ?_⟩
            rintro r σ' _ ⟨hs, rfl⟩
            exact conv 60 (σ 30 22 + 2) r σ' _ hk (by decide) rfl (res_conv (by decide) (Prod.ext (if_pos h) rfl) hs)
        · -- IF_BELOW
          have hk := kdl 64 68 64 (by decide +kernel) (op := sp_at (fD σ b) (σ 30 22)) (by omega) (by omega) (by decide)
          repeat (first | refine br_t (by simp only [Int32.lt_iff_toInt_lt, Int32.le_iff_toInt_le, ← Int32.toInt_inj, Int32.reduceToInt]; omega) ?_ | refine br_f (by simp only [Int32.lt_iff_toInt_lt, Int32.le_iff_toInt_le, ← Int32.toInt_inj, Int32.reduceToInt]; omega) ?_ | refine br_nt (by simp only [Int32.lt_iff_toInt_lt, Int32.le_iff_toInt_le, ← Int32.toInt_inj, Int32.reduceToInt]; omega) ?_ | refine br_nf (by simp only [Int32.lt_iff_toInt_lt, Int32.le_iff_toInt_le, ← Int32.toInt_inj, Int32.reduceToInt]; omega) ?_)
          refine ⟨hr, br_c (fun h => ?_) (fun h => ?_)⟩
          · refine ⟨⟨_, _, rfl, hb, hp0, by omega⟩, ?_⟩
            rintro r σ' _ ⟨hs, rfl⟩
            exact conv 64 (σ 30 22 + 2) r σ' _ hk (by decide) rfl (res_conv (by decide) (Prod.ext (if_neg (Int32.not_lt.mpr h)) rfl) hs)
          · refine ⟨⟨_, _, rfl, hb, hp0, by omega⟩, ?_⟩
            rintro r σ' _ ⟨hs, rfl⟩
            exact conv 64 (σ 30 22 + 2) r σ' _ hk (by decide) rfl (res_conv (by decide) (Prod.ext (if_pos (Int32.not_le.mp h)) rfl) hs)
        · -- BRANCH
          have hk := kdl 68 69 68 (by decide +kernel) (op := sp_at (fD σ b) (σ 30 22)) (by omega) (by omega) (by decide)
          repeat (first | refine br_t (by simp only [Int32.lt_iff_toInt_lt, Int32.le_iff_toInt_le, ← Int32.toInt_inj, Int32.reduceToInt]; omega) ?_ | refine br_f (by simp only [Int32.lt_iff_toInt_lt, Int32.le_iff_toInt_le, ← Int32.toInt_inj, Int32.reduceToInt]; omega) ?_ | refine br_nt (by simp only [Int32.lt_iff_toInt_lt, Int32.le_iff_toInt_le, ← Int32.toInt_inj, Int32.reduceToInt]; omega) ?_ | refine br_nf (by simp only [Int32.lt_iff_toInt_lt, Int32.le_iff_toInt_le, ← Int32.toInt_inj, Int32.reduceToInt]; omega) ?_)
          refine ⟨⟨_, _, rfl, hb, hp0, by omega⟩, ?_⟩
          rintro r σ' _ ⟨hs, rfl⟩
          exact conv 68 (σ 30 22 + 2) r σ' _ hk (by decide) rfl (res_conv (by decide) rfl hs)
        · -- JUMP
          have hk := kdl 69 70 69 (by decide +kernel) (op := sp_at (fD σ b) (σ 30 22)) (by omega) (by omega) (by decide)
          repeat (first | refine br_t (by simp only [Int32.lt_iff_toInt_lt, Int32.le_iff_toInt_le, ← Int32.toInt_inj, Int32.reduceToInt]; omega) ?_ | refine br_f (by simp only [Int32.lt_iff_toInt_lt, Int32.le_iff_toInt_le, ← Int32.toInt_inj, Int32.reduceToInt]; omega) ?_ | refine br_nt (by simp only [Int32.lt_iff_toInt_lt, Int32.le_iff_toInt_le, ← Int32.toInt_inj, Int32.reduceToInt]; omega) ?_ | refine br_nf (by simp only [Int32.lt_iff_toInt_lt, Int32.le_iff_toInt_le, ← Int32.toInt_inj, Int32.reduceToInt]; omega) ?_)
          refine ⟨⟨_, rfl⟩, ?_⟩
          rintro _ _ τ ⟨rfl, rfl, rfl⟩
          refine conv 69 (σ 30 22 + 2) true _ _ hk (by decide) rfl ⟨frD_f _ _ (by decide), Or.inr (Or.inr ⟨by decide, i_nm1 hn.1, rfl, rfl, rfl⟩)⟩
        · -- CALL
          have hk := kdl 70 71 70 (by decide +kernel) (op := sp_at (fD σ b) (σ 30 22)) (by omega) (by omega) (by decide)
          repeat (first | refine br_t (by simp only [Int32.lt_iff_toInt_lt, Int32.le_iff_toInt_le, ← Int32.toInt_inj, Int32.reduceToInt]; omega) ?_ | refine br_f (by simp only [Int32.lt_iff_toInt_lt, Int32.le_iff_toInt_le, ← Int32.toInt_inj, Int32.reduceToInt]; omega) ?_ | refine br_nt (by simp only [Int32.lt_iff_toInt_lt, Int32.le_iff_toInt_le, ← Int32.toInt_inj, Int32.reduceToInt]; omega) ?_ | refine br_nf (by simp only [Int32.lt_iff_toInt_lt, Int32.le_iff_toInt_le, ← Int32.toInt_inj, Int32.reduceToInt]; omega) ?_)
          refine ⟨⟨_, _, rfl, hR.2.1.1, hR.2.1.2⟩, ?_⟩
          rintro r σ' τ ⟨rfl, ⟨h8, rfl, rfl⟩ | ⟨h8, rfl, rfl⟩⟩
          · refine conv 70 (σ 30 22 + 2) false _ _ hk (by decide) rfl ?_
            have hP : ms_perf (fD σ b) (trD σ b) 70 (sp_at (fD σ b) (σ 30 22)) (sp_at (fD σ b) (σ 30 22 + 1)) (sp_at (fD σ b) (σ 30 22 + 2)) (σ 30 22 + 2) (mvD σ τ) = (-1, mvD σ τ) := if_neg h8
            unfold sd_step
            rw [hP]
            exact ⟨frD_f _ _ (by decide), Or.inr (Or.inl ⟨by decide, rfl, rfl, rfl, rfl⟩)⟩
          · refine conv 70 (σ 30 22 + 2) true _ _ hk (by decide) rfl ?_
            have hP : ms_perf (fD σ b) (trD σ b) 70 (sp_at (fD σ b) (σ 30 22)) (sp_at (fD σ b) (σ 30 22 + 1)) (sp_at (fD σ b) (σ 30 22 + 2)) (σ 30 22 + 2) (mvD σ τ) = (sp_at (fD σ b) (σ 30 22 + 1), (σ 43, σ 44, upd (σ 45) (σ 30 23).toNatClampNeg (σ 30 22 + 2), σ 46, τ 47, σ 30 22, σ 30 23 + 1, σ 30 24, σ 30 25)) := if_pos h8
            unfold sd_step
            rw [hP]
            exact ⟨frD_tr (frD_u _ _ _ (by decide)) (frD_tr (frD_f _ _ (by decide)) (frD_f _ _ (by decide))), Or.inr (Or.inr ⟨by decide, i_nm1 hn.1, rfl, rfl, rfl⟩)⟩
        · -- SWITCH
          have hk := kdl 72 76 72 (by decide +kernel) (op := sp_at (fD σ b) (σ 30 22)) (by omega) (by omega) (by decide)
          have h3 : (sd_size (sp_at (fD σ b) (σ 30 22))).toInt = 3 := by rw [← hlen, hk]; rfl
          repeat (first | refine br_t (by simp only [Int32.lt_iff_toInt_lt, Int32.le_iff_toInt_le, ← Int32.toInt_inj, Int32.reduceToInt]; omega) ?_ | refine br_f (by simp only [Int32.lt_iff_toInt_lt, Int32.le_iff_toInt_le, ← Int32.toInt_inj, Int32.reduceToInt]; omega) ?_ | refine br_nt (by simp only [Int32.lt_iff_toInt_lt, Int32.le_iff_toInt_le, ← Int32.toInt_inj, Int32.reduceToInt]; omega) ?_ | refine br_nf (by simp only [Int32.lt_iff_toInt_lt, Int32.le_iff_toInt_le, ← Int32.toInt_inj, Int32.reduceToInt]; omega) ?_)
          refine ⟨⟨_, rfl⟩, ?_⟩
          rintro _ σ τ ⟨rfl, rfl, rfl⟩
          rw [hsw c]
          refine br_f (by decide) ?_
          refine ⟨hr, ⟨_, _, rfl, hb, hp0, by omega, hf⟩, ?_⟩
          rintro r σ' _ ⟨hs, rfl⟩
          exact conv 72 (σ 30 22 + 3) r σ' _ hk (by decide) rfl (res_conv (by decide) rfl hs)
        · -- COUNT
          have hk := kdl 76 77 76 (by decide +kernel) (op := sp_at (fD σ b) (σ 30 22)) (by omega) (by omega) (by decide)
          repeat (first | refine br_t (by simp only [Int32.lt_iff_toInt_lt, Int32.le_iff_toInt_le, ← Int32.toInt_inj, Int32.reduceToInt]; omega) ?_ | refine br_f (by simp only [Int32.lt_iff_toInt_lt, Int32.le_iff_toInt_le, ← Int32.toInt_inj, Int32.reduceToInt]; omega) ?_ | refine br_nt (by simp only [Int32.lt_iff_toInt_lt, Int32.le_iff_toInt_le, ← Int32.toInt_inj, Int32.reduceToInt]; omega) ?_ | refine br_nf (by simp only [Int32.lt_iff_toInt_lt, Int32.le_iff_toInt_le, ← Int32.toInt_inj, Int32.reduceToInt]; omega) ?_)
          refine ⟨⟨_, rfl⟩, ?_⟩
          rintro _ σ τ ⟨rfl, rfl, rfl⟩
          rw [hsw0 (by omega)]
          refine br_t rfl ?_
          repeat (first | refine br_t (by simp only [Int32.lt_iff_toInt_lt, Int32.le_iff_toInt_le, ← Int32.toInt_inj, Int32.reduceToInt]; omega) ?_ | refine br_f (by simp only [Int32.lt_iff_toInt_lt, Int32.le_iff_toInt_le, ← Int32.toInt_inj, Int32.reduceToInt]; omega) ?_ | refine br_nt (by simp only [Int32.lt_iff_toInt_lt, Int32.le_iff_toInt_le, ← Int32.toInt_inj, Int32.reduceToInt]; omega) ?_ | refine br_nf (by simp only [Int32.lt_iff_toInt_lt, Int32.le_iff_toInt_le, ← Int32.toInt_inj, Int32.reduceToInt]; omega) ?_)
          refine ⟨hn63, hn63, ⟨_, rfl⟩, ?_⟩
          rintro _ _ _ ⟨rfl, rfl, rfl⟩
          refine conv 76 (σ 30 22 + 2) true _ _ hk (by decide) rfl ⟨frD_tr (frD_w _ _) (frD_f _ _ (by decide)), Or.inr (Or.inr ⟨by decide, i_nm1 (by show 0 ≤ (σ 30 22 + 2).toInt; omega), rfl, rfl, rfl⟩)⟩
        · -- PUSH AND JUMP
          have hk := kdl 77 78 77 (by decide +kernel) (op := sp_at (fD σ b) (σ 30 22)) (by omega) (by omega) (by decide)
          have h3 : (sd_size (sp_at (fD σ b) (σ 30 22))).toInt = 3 := by rw [← hlen, hk]; rfl
          obtain ⟨hv2, hat2⟩ := at_D (σ := σ) (b := b) (a := σ 30 22 + 2) hb (by omega) (by omega)
          repeat (first | refine br_t (by simp only [Int32.lt_iff_toInt_lt, Int32.le_iff_toInt_le, ← Int32.toInt_inj, Int32.reduceToInt]; omega) ?_ | refine br_f (by simp only [Int32.lt_iff_toInt_lt, Int32.le_iff_toInt_le, ← Int32.toInt_inj, Int32.reduceToInt]; omega) ?_ | refine br_nt (by simp only [Int32.lt_iff_toInt_lt, Int32.le_iff_toInt_le, ← Int32.toInt_inj, Int32.reduceToInt]; omega) ?_ | refine br_nf (by simp only [Int32.lt_iff_toInt_lt, Int32.le_iff_toInt_le, ← Int32.toInt_inj, Int32.reduceToInt]; omega) ?_)
          refine ⟨⟨_, _, rfl, hv2⟩, ?_⟩
          rintro _ σ τ ⟨rfl, rfl, rfl⟩
          rw [hat2]
          refine ⟨⟨_, _, rfl, hR.2.1.1, hR.2.1.2⟩, ?_⟩
          rintro r σ' τ ⟨rfl, ⟨h8, rfl, rfl⟩ | ⟨h8, rfl, rfl⟩⟩
          · refine conv 77 (σ 30 22 + 3) false _ _ hk (by decide) rfl ?_
            have hP : ms_perf (fD σ b) (trD σ b) 77 (sp_at (fD σ b) (σ 30 22)) (sp_at (fD σ b) (σ 30 22 + 1)) (sp_at (fD σ b) (σ 30 22 + 2)) (σ 30 22 + 3) (mvD σ τ) = (-1, mvD σ τ) := if_neg h8
            unfold sd_step
            rw [hP]
            exact ⟨frD_f _ _ (by decide), Or.inr (Or.inl ⟨by decide, rfl, rfl, rfl, rfl⟩)⟩
          · refine conv 77 (σ 30 22 + 3) true _ _ hk (by decide) rfl ?_
            have hP : ms_perf (fD σ b) (trD σ b) 77 (sp_at (fD σ b) (σ 30 22)) (sp_at (fD σ b) (σ 30 22 + 1)) (sp_at (fD σ b) (σ 30 22 + 2)) (σ 30 22 + 3) (mvD σ τ) = (sp_at (fD σ b) (σ 30 22 + 1), (σ 43, σ 44, upd (σ 45) (σ 30 23).toNatClampNeg (sp_at (fD σ b) (σ 30 22 + 2)), σ 46, τ 47, σ 30 22, σ 30 23 + 1, σ 30 24, σ 30 25)) := if_pos h8
            unfold sd_step
            rw [hP]
            exact ⟨frD_tr (frD_u _ _ _ (by decide)) (frD_tr (frD_f _ _ (by decide)) (frD_f _ _ (by decide))), Or.inr (Or.inr ⟨by decide, i_nm1 hn.1, rfl, rfl, rfl⟩)⟩
      · -- one byte
        refine ⟨⟨_, _, rfl, hb, hop.1, z3.mp h1, hR, h255⟩, ?_⟩
        rintro r σ' τ' hs
        refine ⟨r, rfl, sd_conv hf hR h255 rfl hkn (by rw [hlen, h1]) ?_ hs⟩
        have e1 : (σ 30 22 + 1).toInt = (σ 30 22).toInt + 1 := i_add (by omega) (by omega) (by decide) (by decide)
        omega
    · refine ⟨rfl, ?_⟩
      rintro _ _ τ ⟨rfl, rfl, rfl⟩
      have e : ms_step (fD σ b) (trD σ b) (mvD σ τ) = (2, mvD σ τ) := if_neg fun q => hle (by rw [← hlen]; exact q.2.2.2)
      refine ⟨false, rfl, ?_⟩
      show sd_post _ _ _ _ _ _
      rw [e]
      exact ⟨frD_f _ _ (by decide), ⟨fun q => (by cases q), fun q => absurd rfl q⟩, rfl, rfl⟩
end
section
/-! the reference: the simple calls -/
theorem ev_u_u (σ : ev_M) (k j : Nat) (x y : Int32) : ev_u (ev_u σ k j x) k j y = ev_u σ k j y := by
  unfold ev_u
  rw [ev_p_p]
  congr 1
  rw [ev_p_k]
  funext i
  unfold upd
  by_cases h : i = j <;> simp [h]
def sd_forget (σ : ev_M) : ev_M := ev_u (ev_u σ 30 7 0) 30 8 0
def y_D_poke : MethodName := ⟨RD, "poke", "(II)V"⟩
def ws_D_poke : List Cond := .code y_D_poke prog_9_method_5_code 3 none :: evW
theorem d_D_poke_0 : decode prog_9_method_5_code 0 = .ok (.aload_n 0, 1) := by decide +kernel
theorem d_D_poke_1 : decode prog_9_method_5_code 1 = .ok (.iload_n 1, 1) := by decide +kernel
theorem d_D_poke_2 : decode prog_9_method_5_code 2 = .ok (.ifCond .lt 9, 3) := by decide +kernel
theorem d_D_poke_5 : decode prog_9_method_5_code 5 = .ok (.iload_n 1, 1) := by decide +kernel
theorem d_D_poke_6 : decode prog_9_method_5_code 6 = .ok (.bipush 96, 2) := by decide +kernel
theorem d_D_poke_8 : decode prog_9_method_5_code 8 = .ok (.if_icmp .lt 7, 3) := by decide +kernel
theorem d_D_poke_11 : decode prog_9_method_5_code 11 = .ok (.iconst 1, 1) := by decide +kernel
theorem d_D_poke_12 : decode prog_9_method_5_code 12 = .ok (.goto 4, 3) := by decide +kernel
theorem d_D_poke_15 : decode prog_9_method_5_code 15 = .ok (.iconst 0, 1) := by decide +kernel
theorem d_D_poke_16 : decode prog_9_method_5_code 16 = .ok (.putfield 63, 3) := by decide +kernel
theorem d_D_poke_19 : decode prog_9_method_5_code 19 = .ok (.aload_n 0, 1) := by decide +kernel
theorem d_D_poke_20 : decode prog_9_method_5_code 20 = .ok (.getfield 63, 3) := by decide +kernel
theorem d_D_poke_23 : decode prog_9_method_5_code 23 = .ok (.ifCond .le 4, 3) := by decide +kernel
theorem d_D_poke_26 : decode prog_9_method_5_code 26 = .ok (.return_, 1) := by decide +kernel
theorem d_D_poke_27 : decode prog_9_method_5_code 27 = .ok (.aload_n 0, 1) := by decide +kernel
theorem d_D_poke_28 : decode prog_9_method_5_code 28 = .ok (.getfield 7, 3) := by decide +kernel
theorem d_D_poke_31 : decode prog_9_method_5_code 31 = .ok (.iload_n 1, 1) := by decide +kernel
theorem d_D_poke_32 : decode prog_9_method_5_code 32 = .ok (.iload_n 2, 1) := by decide +kernel
theorem d_D_poke_33 : decode prog_9_method_5_code 33 = .ok (.sipush 255, 3) := by decide +kernel
theorem d_D_poke_36 : decode prog_9_method_5_code 36 = .ok (.iand, 1) := by decide +kernel
theorem d_D_poke_37 : decode prog_9_method_5_code 37 = .ok (.iastore, 1) := by decide +kernel
theorem d_D_poke_38 : decode prog_9_method_5_code 38 = .ok (.aload_n 0, 1) := by decide +kernel
theorem d_D_poke_39 : decode prog_9_method_5_code 39 = .ok (.invokevirtual 74, 3) := by decide +kernel
theorem d_D_poke_42 : decode prog_9_method_5_code 42 = .ok (.return_, 1) := by decide +kernel
def I_D_poke (P : Unit → ev_M → ev_L → Prop) : List (Nat × ev_T) := [(0, tt_al 0 1),
  (1, tt_il 1 2),
  (2, tt_iflt 11 5),
  (5, tt_il 1 6),
  (6, tt_k 96 8),
  (8, tt_iclt 15 11),
  (11, tt_k 1 12),
  (12, tt_go 16),
  (15, tt_k 0 16),
  (16, tt_pf evLY 7 0 19),
  (19, tt_al 0 20),
  (20, tt_gf evLY 7 0 23),
  (23, tt_ifle 27 26),
  (26, tt_rv P),
  (27, tt_al 0 28),
  (28, tt_gf evLY 7 1 31),
  (31, tt_il 1 32),
  (32, tt_il 2 33),
  (33, tt_k 255 36),
  (36, tt_iand 37),
  (37, tt_ias evLY 38),
  (38, tt_al 0 39),
  (39, tt_cV evLY 7 0 ev_n pre_D_forget post_D_forget 42),
  (42, tt_rv P)]
abbrev rm_D_poke : Room := { frames := 1, cells := 0, slots := 0, locals := 32 }
set_option maxRecDepth 20000 in
theorem ok_D_poke (l : Launch) (J : ev_K) (P : Unit → ev_M → ev_L → Prop) (X : ev_X l rm_D_poke evLY evCl ws_D_poke prog_9_method_5_code 3 y_D_poke.cls J) (Z : ev_Z J prog_9_method_5_code .return_ ev_n P) : ev_oks J (I_D_poke P) :=
  ⟨qq_aln X 0 rfl d_D_poke_0,
  qq_iln X 1 rfl d_D_poke_1,
  qq_iflt X 11 (by decide) d_D_poke_2,
  qq_iln X 1 rfl d_D_poke_5,
  qq_bp X 96 (by decide) d_D_poke_6,
  qq_iclt X 15 (by decide) d_D_poke_8,
  qq_ic X 1 (by decide) d_D_poke_11,
  qq_go X 16 (by decide) d_D_poke_12,
  qq_ic X 0 (by decide) d_D_poke_15,
  qq_pf X 7 0 rfl (fun w h => List.mem_cons_of_mem _ (inE_D w h)) (by decide) tyD tyD_ok nmD rfl (by decide +kernel) (List.mem_cons_of_mem _ mw_754) d_D_poke_16,
  qq_aln X 0 rfl d_D_poke_19,
  qq_gf X 7 0 rfl (fun w h => List.mem_cons_of_mem _ (inE_D w h)) (by decide) (List.mem_cons_of_mem _ mw_754) d_D_poke_20,
  qq_ifle X 27 (by decide) d_D_poke_23,
  qq_rv Z d_D_poke_26,
  qq_aln X 0 rfl d_D_poke_27,
  qq_gf X 7 1 rfl (fun w h => List.mem_cons_of_mem _ (inE_D w h)) (by decide) (List.mem_cons_of_mem _ mw_755) d_D_poke_28,
  qq_iln X 1 rfl d_D_poke_31,
  qq_iln X 2 rfl d_D_poke_32,
  qq_sp X 255 (by decide) d_D_poke_33,
  qq_iand X d_D_poke_36,
  qq_ias X d_D_poke_37,
  qq_aln X 0 rfl d_D_poke_38,
  qq_cV X 7 rfl (c_D_forget l) (fun hts => cwV 0 hts (evGV (mw_853) (mw_855) (mp_26) (mw_8) (mw_856)) rfl rfl rfl (by decide +kernel) ⟨Nat.le_of_ble_eq_true rfl, Nat.le_of_ble_eq_true rfl⟩) d_D_poke_39,
  qq_rv Z d_D_poke_42, trivial⟩
def pre_D_poke : List Value → ev_M → ev_L → Prop := fun as σ τ => ∃ (a v : Int32), as = [.ref 30, .int a, .int v]
def post_D_poke : List Value → ev_M → ev_L → Unit → ev_M → ev_L → Prop := fun as σ τ r σ' τ' => match as with
  | [_, .int a, .int v] => τ' = τ ∧ ((¬ (0 ≤ a ∧ a < 96) ∧ σ' = ev_u σ 30 0 1) ∨ ((0 ≤ a ∧ a < 96) ∧ σ' = sd_forget (ev_u (ev_u σ 30 0 0) 31 a.toNatClampNeg (v &&& 255))))
  | _ => False
set_option maxHeartbeats 4000000 in
set_option maxRecDepth 100000 in
theorem c_D_poke (l : Launch) : ev_C ev_n l y_D_poke ws_D_poke rm_D_poke evLY evCl pre_D_poke post_D_poke := by
  refine ev_meth0 (by decide) rfl ev_rop_v ?_ I_D_poke (ok_D_poke l) 60 ?_
  · rintro _ σ τ ⟨a, v, rfl⟩
    exact Nat.le_of_ble_eq_true rfl
  · rintro _ σ τ ⟨a, v, rfl⟩
    refine br_c (fun h => ?_) (fun h => br_c (fun h2 => ?_) (fun h2 => ?_))
    · refine br_f (show ¬ (1 : Int32) ≤ 0 by decide) ?_
      exact ⟨rfl, Or.inl ⟨fun q => absurd (Int32.not_lt.mpr q.1) (fun w => w h), rfl⟩⟩
    · refine br_t (show (0 : Int32) ≤ 0 by decide) ?_
      have hv : vp_in a 512 := by
        have : vp_in a 96 := i_vin2 (b := 96) rfl (Int32.not_lt.mp h) h2
        rw [vp_in_iff] at this ⊢
        omega
      refine ⟨hv, rfl, ?_⟩
      rintro _ _ _ ⟨rfl, rfl⟩
      exact ⟨rfl, Or.inr ⟨⟨Int32.not_lt.mp h, h2⟩, rfl⟩⟩
    · refine br_f (show ¬ (1 : Int32) ≤ 0 by decide) ?_
      exact ⟨rfl, Or.inl ⟨fun q => h2 q.2, rfl⟩⟩
def sd_okT (b n : Int32) : Prop := 1 ≤ n ∧ n ≤ 96 ∧ 0 ≤ b ∧ b ≤ 96 - n
def sd_tadd (σ : ev_M) (b n : Int32) : ev_M := sd_forget (ev_u (ev_u (ev_u (ev_u σ 30 0 0) 33 (σ 30 3).toNatClampNeg b) 34 (σ 30 3).toNatClampNeg n) 30 3 (σ 30 3 + 1))
def y_D_declare : MethodName := ⟨RD, "declare", "(II)I"⟩
def ws_D_declare : List Cond := .code y_D_declare prog_9_method_6_code 3 (some .int) :: evW
theorem d_D_declare_0 : decode prog_9_method_6_code 0 = .ok (.aload_n 0, 1) := by decide +kernel
theorem d_D_declare_1 : decode prog_9_method_6_code 1 = .ok (.iconst 0, 1) := by decide +kernel
theorem d_D_declare_2 : decode prog_9_method_6_code 2 = .ok (.putfield 63, 3) := by decide +kernel
theorem d_D_declare_5 : decode prog_9_method_6_code 5 = .ok (.iload_n 2, 1) := by decide +kernel
theorem d_D_declare_6 : decode prog_9_method_6_code 6 = .ok (.iconst 1, 1) := by decide +kernel
theorem d_D_declare_7 : decode prog_9_method_6_code 7 = .ok (.if_icmp .lt 21, 3) := by decide +kernel
theorem d_D_declare_10 : decode prog_9_method_6_code 10 = .ok (.iload_n 2, 1) := by decide +kernel
theorem d_D_declare_11 : decode prog_9_method_6_code 11 = .ok (.bipush 96, 2) := by decide +kernel
theorem d_D_declare_13 : decode prog_9_method_6_code 13 = .ok (.if_icmp .gt 15, 3) := by decide +kernel
theorem d_D_declare_16 : decode prog_9_method_6_code 16 = .ok (.iload_n 1, 1) := by decide +kernel
theorem d_D_declare_17 : decode prog_9_method_6_code 17 = .ok (.ifCond .lt 11, 3) := by decide +kernel
theorem d_D_declare_20 : decode prog_9_method_6_code 20 = .ok (.iload_n 1, 1) := by decide +kernel
theorem d_D_declare_21 : decode prog_9_method_6_code 21 = .ok (.bipush 96, 2) := by decide +kernel
theorem d_D_declare_23 : decode prog_9_method_6_code 23 = .ok (.iload_n 2, 1) := by decide +kernel
theorem d_D_declare_24 : decode prog_9_method_6_code 24 = .ok (.isub, 1) := by decide +kernel
theorem d_D_declare_25 : decode prog_9_method_6_code 25 = .ok (.if_icmp .le 9, 3) := by decide +kernel
theorem d_D_declare_28 : decode prog_9_method_6_code 28 = .ok (.aload_n 0, 1) := by decide +kernel
theorem d_D_declare_29 : decode prog_9_method_6_code 29 = .ok (.iconst 1, 1) := by decide +kernel
theorem d_D_declare_30 : decode prog_9_method_6_code 30 = .ok (.invokevirtual 77, 3) := by decide +kernel
theorem d_D_declare_33 : decode prog_9_method_6_code 33 = .ok (.ireturn, 1) := by decide +kernel
theorem d_D_declare_34 : decode prog_9_method_6_code 34 = .ok (.aload_n 0, 1) := by decide +kernel
theorem d_D_declare_35 : decode prog_9_method_6_code 35 = .ok (.getfield 81, 3) := by decide +kernel
theorem d_D_declare_38 : decode prog_9_method_6_code 38 = .ok (.iconst 4, 1) := by decide +kernel
theorem d_D_declare_39 : decode prog_9_method_6_code 39 = .ok (.if_icmp .ne 9, 3) := by decide +kernel
theorem d_D_declare_42 : decode prog_9_method_6_code 42 = .ok (.aload_n 0, 1) := by decide +kernel
theorem d_D_declare_43 : decode prog_9_method_6_code 43 = .ok (.iconst 2, 1) := by decide +kernel
theorem d_D_declare_44 : decode prog_9_method_6_code 44 = .ok (.invokevirtual 77, 3) := by decide +kernel
theorem d_D_declare_47 : decode prog_9_method_6_code 47 = .ok (.ireturn, 1) := by decide +kernel
theorem d_D_declare_48 : decode prog_9_method_6_code 48 = .ok (.aload_n 0, 1) := by decide +kernel
theorem d_D_declare_49 : decode prog_9_method_6_code 49 = .ok (.getfield 16, 3) := by decide +kernel
theorem d_D_declare_52 : decode prog_9_method_6_code 52 = .ok (.aload_n 0, 1) := by decide +kernel
theorem d_D_declare_53 : decode prog_9_method_6_code 53 = .ok (.getfield 81, 3) := by decide +kernel
theorem d_D_declare_56 : decode prog_9_method_6_code 56 = .ok (.iload_n 1, 1) := by decide +kernel
theorem d_D_declare_57 : decode prog_9_method_6_code 57 = .ok (.iastore, 1) := by decide +kernel
theorem d_D_declare_58 : decode prog_9_method_6_code 58 = .ok (.aload_n 0, 1) := by decide +kernel
theorem d_D_declare_59 : decode prog_9_method_6_code 59 = .ok (.getfield 19, 3) := by decide +kernel
theorem d_D_declare_62 : decode prog_9_method_6_code 62 = .ok (.aload_n 0, 1) := by decide +kernel
theorem d_D_declare_63 : decode prog_9_method_6_code 63 = .ok (.getfield 81, 3) := by decide +kernel
theorem d_D_declare_66 : decode prog_9_method_6_code 66 = .ok (.iload_n 2, 1) := by decide +kernel
theorem d_D_declare_67 : decode prog_9_method_6_code 67 = .ok (.iastore, 1) := by decide +kernel
theorem d_D_declare_68 : decode prog_9_method_6_code 68 = .ok (.aload_n 0, 1) := by decide +kernel
theorem d_D_declare_69 : decode prog_9_method_6_code 69 = .ok (.dup, 1) := by decide +kernel
theorem d_D_declare_70 : decode prog_9_method_6_code 70 = .ok (.getfield 81, 3) := by decide +kernel
theorem d_D_declare_73 : decode prog_9_method_6_code 73 = .ok (.iconst 1, 1) := by decide +kernel
theorem d_D_declare_74 : decode prog_9_method_6_code 74 = .ok (.iadd, 1) := by decide +kernel
theorem d_D_declare_75 : decode prog_9_method_6_code 75 = .ok (.putfield 81, 3) := by decide +kernel
theorem d_D_declare_78 : decode prog_9_method_6_code 78 = .ok (.aload_n 0, 1) := by decide +kernel
theorem d_D_declare_79 : decode prog_9_method_6_code 79 = .ok (.invokevirtual 74, 3) := by decide +kernel
theorem d_D_declare_82 : decode prog_9_method_6_code 82 = .ok (.aload_n 0, 1) := by decide +kernel
theorem d_D_declare_83 : decode prog_9_method_6_code 83 = .ok (.getfield 81, 3) := by decide +kernel
theorem d_D_declare_86 : decode prog_9_method_6_code 86 = .ok (.ireturn, 1) := by decide +kernel
def I_D_declare (P : Int32 → ev_M → ev_L → Prop) : List (Nat × ev_T) := [(0, tt_al 0 1),
  (1, tt_k 0 2),
  (2, tt_pf evLY 7 0 5),
  (5, tt_il 2 6),
  (6, tt_k 1 7),
  (7, tt_iclt 28 10),
  (10, tt_il 2 11),
  (11, tt_k 96 13),
  (13, tt_icgt 28 16),
  (16, tt_il 1 17),
  (17, tt_iflt 28 20),
  (20, tt_il 1 21),
  (21, tt_k 96 23),
  (23, tt_il 2 24),
  (24, tt_isub 25),
  (25, tt_icle 34 28),
  (28, tt_al 0 29),
  (29, tt_k 1 30),
  (30, tt_cV evLY 7 1 ev_i pre_D_fail post_D_fail 33),
  (33, tt_ri P),
  (34, tt_al 0 35),
  (35, tt_gf evLY 7 3 38),
  (38, tt_k 4 39),
  (39, tt_icne 48 42),
  (42, tt_al 0 43),
  (43, tt_k 2 44),
  (44, tt_cV evLY 7 1 ev_i pre_D_fail post_D_fail 47),
  (47, tt_ri P),
  (48, tt_al 0 49),
  (49, tt_gf evLY 7 4 52),
  (52, tt_al 0 53),
  (53, tt_gf evLY 7 3 56),
  (56, tt_il 1 57),
  (57, tt_ias evLY 58),
  (58, tt_al 0 59),
  (59, tt_gf evLY 7 5 62),
  (62, tt_al 0 63),
  (63, tt_gf evLY 7 3 66),
  (66, tt_il 2 67),
  (67, tt_ias evLY 68),
  (68, tt_al 0 69),
  (69, tt_dup 70),
  (70, tt_gf evLY 7 3 73),
  (73, tt_k 1 74),
  (74, tt_iadd 75),
  (75, tt_pf evLY 7 3 78),
  (78, tt_al 0 79),
  (79, tt_cV evLY 7 0 ev_n pre_D_forget post_D_forget 82),
  (82, tt_al 0 83),
  (83, tt_gf evLY 7 3 86),
  (86, tt_ri P)]
abbrev rm_D_declare : Room := { frames := 1, cells := 0, slots := 0, locals := 32 }
set_option maxRecDepth 20000 in
theorem ok_D_declare (l : Launch) (J : ev_K) (P : Int32 → ev_M → ev_L → Prop) (X : ev_X l rm_D_declare evLY evCl ws_D_declare prog_9_method_6_code 3 y_D_declare.cls J) (Z : ev_Z J prog_9_method_6_code .ireturn ev_i P) : ev_oks J (I_D_declare P) :=
  ⟨qq_aln X 0 rfl d_D_declare_0,
  qq_ic X 0 (by decide) d_D_declare_1,
  qq_pf X 7 0 rfl (fun w h => List.mem_cons_of_mem _ (inE_D w h)) (by decide) tyD tyD_ok nmD rfl (by decide +kernel) (List.mem_cons_of_mem _ mw_754) d_D_declare_2,
  qq_iln X 2 rfl d_D_declare_5,
  qq_ic X 1 (by decide) d_D_declare_6,
  qq_iclt X 28 (by decide) d_D_declare_7,
  qq_iln X 2 rfl d_D_declare_10,
  qq_bp X 96 (by decide) d_D_declare_11,
  qq_icgt X 28 (by decide) d_D_declare_13,
  qq_iln X 1 rfl d_D_declare_16,
  qq_iflt X 28 (by decide) d_D_declare_17,
  qq_iln X 1 rfl d_D_declare_20,
  qq_bp X 96 (by decide) d_D_declare_21,
  qq_iln X 2 rfl d_D_declare_23,
  qq_isub X d_D_declare_24,
  qq_icle X 34 (by decide) d_D_declare_25,
  qq_aln X 0 rfl d_D_declare_28,
  qq_ic X 1 (by decide) d_D_declare_29,
  qq_cV X 7 rfl (c_D_fail l) (fun hts => cwV 1 hts (evGV (mw_861) (mw_863) (mp_27) (mw_8) (mw_864)) rfl rfl rfl (by decide +kernel) ⟨Nat.le_of_ble_eq_true rfl, Nat.le_of_ble_eq_true rfl⟩) d_D_declare_30,
  qq_ri Z d_D_declare_33,
  qq_aln X 0 rfl d_D_declare_34,
  qq_gf X 7 3 rfl (fun w h => List.mem_cons_of_mem _ (inE_D w h)) (by decide) (List.mem_cons_of_mem _ mw_757) d_D_declare_35,
  qq_ic X 4 (by decide) d_D_declare_38,
  qq_icne X 48 (by decide) d_D_declare_39,
  qq_aln X 0 rfl d_D_declare_42,
  qq_ic X 2 (by decide) d_D_declare_43,
  qq_cV X 7 rfl (c_D_fail l) (fun hts => cwV 1 hts (evGV (mw_861) (mw_863) (mp_27) (mw_8) (mw_864)) rfl rfl rfl (by decide +kernel) ⟨Nat.le_of_ble_eq_true rfl, Nat.le_of_ble_eq_true rfl⟩) d_D_declare_44,
  qq_ri Z d_D_declare_47,
  qq_aln X 0 rfl d_D_declare_48,
  qq_gf X 7 4 rfl (fun w h => List.mem_cons_of_mem _ (inE_D w h)) (by decide) (List.mem_cons_of_mem _ mw_758) d_D_declare_49,
  qq_aln X 0 rfl d_D_declare_52,
  qq_gf X 7 3 rfl (fun w h => List.mem_cons_of_mem _ (inE_D w h)) (by decide) (List.mem_cons_of_mem _ mw_757) d_D_declare_53,
  qq_iln X 1 rfl d_D_declare_56,
  qq_ias X d_D_declare_57,
  qq_aln X 0 rfl d_D_declare_58,
  qq_gf X 7 5 rfl (fun w h => List.mem_cons_of_mem _ (inE_D w h)) (by decide) (List.mem_cons_of_mem _ mw_759) d_D_declare_59,
  qq_aln X 0 rfl d_D_declare_62,
  qq_gf X 7 3 rfl (fun w h => List.mem_cons_of_mem _ (inE_D w h)) (by decide) (List.mem_cons_of_mem _ mw_757) d_D_declare_63,
  qq_iln X 2 rfl d_D_declare_66,
  qq_ias X d_D_declare_67,
  qq_aln X 0 rfl d_D_declare_68,
  qq_dup X d_D_declare_69,
  qq_gf X 7 3 rfl (fun w h => List.mem_cons_of_mem _ (inE_D w h)) (by decide) (List.mem_cons_of_mem _ mw_757) d_D_declare_70,
  qq_ic X 1 (by decide) d_D_declare_73,
  qq_iadd X d_D_declare_74,
  qq_pf X 7 3 rfl (fun w h => List.mem_cons_of_mem _ (inE_D w h)) (by decide) tyD tyD_ok nmD rfl (by decide +kernel) (List.mem_cons_of_mem _ mw_757) d_D_declare_75,
  qq_aln X 0 rfl d_D_declare_78,
  qq_cV X 7 rfl (c_D_forget l) (fun hts => cwV 0 hts (evGV (mw_853) (mw_855) (mp_26) (mw_8) (mw_856)) rfl rfl rfl (by decide +kernel) ⟨Nat.le_of_ble_eq_true rfl, Nat.le_of_ble_eq_true rfl⟩) d_D_declare_79,
  qq_aln X 0 rfl d_D_declare_82,
  qq_gf X 7 3 rfl (fun w h => List.mem_cons_of_mem _ (inE_D w h)) (by decide) (List.mem_cons_of_mem _ mw_757) d_D_declare_83,
  qq_ri Z d_D_declare_86, trivial⟩
def pre_D_declare : List Value → ev_M → ev_L → Prop := fun as σ τ => ∃ (b n : Int32), as = [.ref 30, .int b, .int n] ∧ 0 ≤ (σ 30 3).toInt ∧ (σ 30 3).toInt ≤ 4
def post_D_declare : List Value → ev_M → ev_L → Int32 → ev_M → ev_L → Prop := fun as σ τ r σ' τ' => match as with
  | [_, .int b, .int n] => τ' = τ ∧ ((¬ sd_okT b n ∧ r = 0 ∧ σ' = ev_u σ 30 0 1) ∨ (sd_okT b n ∧ σ 30 3 = 4 ∧ r = 0 ∧ σ' = ev_u σ 30 0 2) ∨ (sd_okT b n ∧ ¬ σ 30 3 = 4 ∧ r = σ 30 3 + 1 ∧ σ' = sd_tadd σ b n))
  | _ => False
set_option maxHeartbeats 4000000 in
set_option maxRecDepth 100000 in
theorem c_D_declare (l : Launch) : ev_C ev_i l y_D_declare ws_D_declare rm_D_declare evLY evCl pre_D_declare post_D_declare := by
  refine ev_meth0 (by decide) rfl ev_rop_i ?_ I_D_declare (ok_D_declare l) 60 ?_
  · rintro _ σ τ ⟨b, n, rfl, hp⟩
    exact Nat.le_of_ble_eq_true rfl
  · rintro _ σ τ ⟨b, n, rfl, hp⟩
    have bad : ¬ sd_okT b n → pre_D_fail [.ref 30, .int 1] (ev_u σ 30 0 0) τ ∧ ∀ (r : Int32) (σ1 : ev_M) (τ1 : ev_L), post_D_fail [.ref 30, .int 1] (ev_u σ 30 0 0) τ r σ1 τ1 → post_D_declare [.ref 30, .int b, .int n] σ τ r σ1 τ1 := by
      intro hn
      refine ⟨⟨_, rfl⟩, ?_⟩
      rintro _ _ _ ⟨rfl, rfl, rfl⟩
      exact ⟨rfl, Or.inl ⟨hn, rfl, ev_u_u _ _ _ _ _⟩⟩
    refine br_c (fun h => ?_) (fun h => br_c (fun h2 => ?_) (fun h2 => br_c (fun h3 => ?_) (fun h3 => br_c (fun h4 => ?_) (fun h4 => ?_))))
    · exact bad fun q => absurd (Int32.not_lt.mpr q.1) (fun w => w h)
    · exact bad fun q => absurd (Int32.not_lt.mpr q.2.1) (fun w => w h2)
    · exact bad fun q => absurd (Int32.not_lt.mpr q.2.2.1) (fun w => w h3)
    · have ok : sd_okT b n := ⟨Int32.not_lt.mp h, Int32.not_lt.mp h2, Int32.not_lt.mp h3, h4⟩
      refine br_n (fun h5 => ?_) (fun h5 => ?_)
      · have h5' : ¬ σ 30 3 = 4 := h5
        have h6 : (σ 30 3).toInt < 4 := by
          rw [← Int32.toInt_inj] at h5'
          have : (4 : Int32).toInt = 4 := rfl
          omega
        have hv : vp_in (σ 30 3) 4 := by rw [vp_in_iff]; omega
        refine ⟨hv, hv, rfl, ?_⟩
        rintro _ _ _ ⟨rfl, rfl⟩
        exact ⟨rfl, Or.inr (Or.inr ⟨ok, h5', rfl, rfl⟩)⟩
      · refine ⟨⟨_, rfl⟩, ?_⟩
        rintro _ _ _ ⟨rfl, rfl, rfl⟩
        exact ⟨rfl, Or.inr (Or.inl ⟨ok, h5, rfl, ev_u_u _ _ _ _ _⟩)⟩
    · exact bad fun q => h4 q.2.2.2
def y_D_data : MethodName := ⟨RD, "data", "(II)V"⟩
def ws_D_data : List Cond := .code y_D_data prog_9_method_7_code 3 none :: evW
theorem d_D_data_0 : decode prog_9_method_7_code 0 = .ok (.aload_n 0, 1) := by decide +kernel
theorem d_D_data_1 : decode prog_9_method_7_code 1 = .ok (.iload_n 1, 1) := by decide +kernel
theorem d_D_data_2 : decode prog_9_method_7_code 2 = .ok (.ifCond .lt 9, 3) := by decide +kernel
theorem d_D_data_5 : decode prog_9_method_7_code 5 = .ok (.iload_n 1, 1) := by decide +kernel
theorem d_D_data_6 : decode prog_9_method_7_code 6 = .ok (.bipush 15, 2) := by decide +kernel
theorem d_D_data_8 : decode prog_9_method_7_code 8 = .ok (.if_icmp .le 7, 3) := by decide +kernel
theorem d_D_data_11 : decode prog_9_method_7_code 11 = .ok (.iconst 1, 1) := by decide +kernel
theorem d_D_data_12 : decode prog_9_method_7_code 12 = .ok (.goto 4, 3) := by decide +kernel
theorem d_D_data_15 : decode prog_9_method_7_code 15 = .ok (.iconst 0, 1) := by decide +kernel
theorem d_D_data_16 : decode prog_9_method_7_code 16 = .ok (.putfield 63, 3) := by decide +kernel
theorem d_D_data_19 : decode prog_9_method_7_code 19 = .ok (.aload_n 0, 1) := by decide +kernel
theorem d_D_data_20 : decode prog_9_method_7_code 20 = .ok (.getfield 63, 3) := by decide +kernel
theorem d_D_data_23 : decode prog_9_method_7_code 23 = .ok (.ifCond .ne 10, 3) := by decide +kernel
theorem d_D_data_26 : decode prog_9_method_7_code 26 = .ok (.aload_n 0, 1) := by decide +kernel
theorem d_D_data_27 : decode prog_9_method_7_code 27 = .ok (.getfield 22, 3) := by decide +kernel
theorem d_D_data_30 : decode prog_9_method_7_code 30 = .ok (.iload_n 1, 1) := by decide +kernel
theorem d_D_data_31 : decode prog_9_method_7_code 31 = .ok (.iload_n 2, 1) := by decide +kernel
theorem d_D_data_32 : decode prog_9_method_7_code 32 = .ok (.iastore, 1) := by decide +kernel
theorem d_D_data_33 : decode prog_9_method_7_code 33 = .ok (.return_, 1) := by decide +kernel
def I_D_data (P : Unit → ev_M → ev_L → Prop) : List (Nat × ev_T) := [(0, tt_al 0 1),
  (1, tt_il 1 2),
  (2, tt_iflt 11 5),
  (5, tt_il 1 6),
  (6, tt_k 15 8),
  (8, tt_icle 15 11),
  (11, tt_k 1 12),
  (12, tt_go 16),
  (15, tt_k 0 16),
  (16, tt_pf evLY 7 0 19),
  (19, tt_al 0 20),
  (20, tt_gf evLY 7 0 23),
  (23, tt_ifne 33 26),
  (26, tt_al 0 27),
  (27, tt_gf evLY 7 6 30),
  (30, tt_il 1 31),
  (31, tt_il 2 32),
  (32, tt_ias evLY 33),
  (33, tt_rv P)]
abbrev rm_D_data : Room := { frames := 0, cells := 0, slots := 0, locals := 0 }
set_option maxRecDepth 20000 in
theorem ok_D_data (l : Launch) (J : ev_K) (P : Unit → ev_M → ev_L → Prop) (X : ev_X l rm_D_data evLY evCl ws_D_data prog_9_method_7_code 3 y_D_data.cls J) (Z : ev_Z J prog_9_method_7_code .return_ ev_n P) : ev_oks J (I_D_data P) :=
  ⟨qq_aln X 0 rfl d_D_data_0,
  qq_iln X 1 rfl d_D_data_1,
  qq_iflt X 11 (by decide) d_D_data_2,
  qq_iln X 1 rfl d_D_data_5,
  qq_bp X 15 (by decide) d_D_data_6,
  qq_icle X 15 (by decide) d_D_data_8,
  qq_ic X 1 (by decide) d_D_data_11,
  qq_go X 16 (by decide) d_D_data_12,
  qq_ic X 0 (by decide) d_D_data_15,
  qq_pf X 7 0 rfl (fun w h => List.mem_cons_of_mem _ (inE_D w h)) (by decide) tyD tyD_ok nmD rfl (by decide +kernel) (List.mem_cons_of_mem _ mw_754) d_D_data_16,
  qq_aln X 0 rfl d_D_data_19,
  qq_gf X 7 0 rfl (fun w h => List.mem_cons_of_mem _ (inE_D w h)) (by decide) (List.mem_cons_of_mem _ mw_754) d_D_data_20,
  qq_ifne X 33 (by decide) d_D_data_23,
  qq_aln X 0 rfl d_D_data_26,
  qq_gf X 7 6 rfl (fun w h => List.mem_cons_of_mem _ (inE_D w h)) (by decide) (List.mem_cons_of_mem _ mw_760) d_D_data_27,
  qq_iln X 1 rfl d_D_data_30,
  qq_iln X 2 rfl d_D_data_31,
  qq_ias X d_D_data_32,
  qq_rv Z d_D_data_33, trivial⟩
def pre_D_data : List Value → ev_M → ev_L → Prop := fun as σ τ => ∃ (a v : Int32), as = [.ref 30, .int a, .int v]
def post_D_data : List Value → ev_M → ev_L → Unit → ev_M → ev_L → Prop := fun as σ τ r σ' τ' => match as with
  | [_, .int a, .int v] => τ' = τ ∧ ((¬ (0 ≤ a ∧ a < 16) ∧ σ' = ev_u σ 30 0 1) ∨ ((0 ≤ a ∧ a < 16) ∧ σ' = ev_u (ev_u σ 30 0 0) 35 a.toNatClampNeg v))
  | _ => False
set_option maxHeartbeats 4000000 in
set_option maxRecDepth 100000 in
theorem c_D_data (l : Launch) : ev_C ev_n l y_D_data ws_D_data rm_D_data evLY evCl pre_D_data post_D_data := by
  refine ev_meth0 (by decide) rfl ev_rop_v ?_ I_D_data (ok_D_data l) 60 ?_
  · rintro _ σ τ ⟨a, v, rfl⟩
    exact Nat.le_of_ble_eq_true rfl
  · rintro _ σ τ ⟨a, v, rfl⟩
    have h16 : (16 : Int32).toInt = 16 := rfl
    have h15 : (15 : Int32).toInt = 15 := rfl
    refine br_c (fun h => ?_) (fun h => br_c (fun h2 => ?_) (fun h2 => ?_))
    · refine br_nt (show ¬ (1 : Int32) = 0 by decide) ?_
      exact ⟨rfl, Or.inl ⟨fun q => absurd (Int32.not_lt.mpr q.1) (fun w => w h), rfl⟩⟩
    · refine br_nf (show (0 : Int32) = 0 from rfl) ?_
      have h3 : a < 16 := by rw [Int32.lt_iff_toInt_lt]; rw [Int32.le_iff_toInt_le] at h2; omega
      exact ⟨i_vin2 (b := 16) rfl (Int32.not_lt.mp h) h3, rfl, Or.inr ⟨⟨Int32.not_lt.mp h, h3⟩, rfl⟩⟩
    · refine br_nt (show ¬ (1 : Int32) = 0 by decide) ?_
      exact ⟨rfl, Or.inl ⟨fun q => h2 (by rw [Int32.le_iff_toInt_le]; have q2 := q.2; rw [Int32.lt_iff_toInt_lt] at q2; omega), rfl⟩⟩
def y_D_block : MethodName := ⟨RD, "block", "(II)I"⟩
def ws_D_block : List Cond := .code y_D_block prog_9_method_22_code 3 (some .int) :: evW
theorem d_D_block_0 : decode prog_9_method_22_code 0 = .ok (.aload_n 0, 1) := by decide +kernel
theorem d_D_block_1 : decode prog_9_method_22_code 1 = .ok (.iconst 0, 1) := by decide +kernel
theorem d_D_block_2 : decode prog_9_method_22_code 2 = .ok (.putfield 63, 3) := by decide +kernel
theorem d_D_block_5 : decode prog_9_method_22_code 5 = .ok (.aload_n 0, 1) := by decide +kernel
theorem d_D_block_6 : decode prog_9_method_22_code 6 = .ok (.getfield 67, 3) := by decide +kernel
theorem d_D_block_9 : decode prog_9_method_22_code 9 = .ok (.ifCond .eq 15, 3) := by decide +kernel
theorem d_D_block_12 : decode prog_9_method_22_code 12 = .ok (.iload_n 1, 1) := by decide +kernel
theorem d_D_block_13 : decode prog_9_method_22_code 13 = .ok (.ifCond .lt 11, 3) := by decide +kernel
theorem d_D_block_16 : decode prog_9_method_22_code 16 = .ok (.iload_n 1, 1) := by decide +kernel
theorem d_D_block_17 : decode prog_9_method_22_code 17 = .ok (.aload_n 0, 1) := by decide +kernel
theorem d_D_block_18 : decode prog_9_method_22_code 18 = .ok (.getfield 121, 3) := by decide +kernel
theorem d_D_block_21 : decode prog_9_method_22_code 21 = .ok (.if_icmp .lt 9, 3) := by decide +kernel
theorem d_D_block_24 : decode prog_9_method_22_code 24 = .ok (.aload_n 0, 1) := by decide +kernel
theorem d_D_block_25 : decode prog_9_method_22_code 25 = .ok (.iconst 1, 1) := by decide +kernel
theorem d_D_block_26 : decode prog_9_method_22_code 26 = .ok (.invokevirtual 77, 3) := by decide +kernel
theorem d_D_block_29 : decode prog_9_method_22_code 29 = .ok (.ireturn, 1) := by decide +kernel
theorem d_D_block_30 : decode prog_9_method_22_code 30 = .ok (.iload_n 2, 1) := by decide +kernel
theorem d_D_block_31 : decode prog_9_method_22_code 31 = .ok (.tableswitch 46 0 2 #[25, 32, 39], 25) := by decide +kernel
theorem d_D_block_56 : decode prog_9_method_22_code 56 = .ok (.aload_n 0, 1) := by decide +kernel
theorem d_D_block_57 : decode prog_9_method_22_code 57 = .ok (.getfield 38, 3) := by decide +kernel
theorem d_D_block_60 : decode prog_9_method_22_code 60 = .ok (.iload_n 1, 1) := by decide +kernel
theorem d_D_block_61 : decode prog_9_method_22_code 61 = .ok (.iaload, 1) := by decide +kernel
theorem d_D_block_62 : decode prog_9_method_22_code 62 = .ok (.ireturn, 1) := by decide +kernel
theorem d_D_block_63 : decode prog_9_method_22_code 63 = .ok (.aload_n 0, 1) := by decide +kernel
theorem d_D_block_64 : decode prog_9_method_22_code 64 = .ok (.getfield 41, 3) := by decide +kernel
theorem d_D_block_67 : decode prog_9_method_22_code 67 = .ok (.iload_n 1, 1) := by decide +kernel
theorem d_D_block_68 : decode prog_9_method_22_code 68 = .ok (.iaload, 1) := by decide +kernel
theorem d_D_block_69 : decode prog_9_method_22_code 69 = .ok (.ireturn, 1) := by decide +kernel
theorem d_D_block_70 : decode prog_9_method_22_code 70 = .ok (.aload_n 0, 1) := by decide +kernel
theorem d_D_block_71 : decode prog_9_method_22_code 71 = .ok (.getfield 44, 3) := by decide +kernel
theorem d_D_block_74 : decode prog_9_method_22_code 74 = .ok (.iload_n 1, 1) := by decide +kernel
theorem d_D_block_75 : decode prog_9_method_22_code 75 = .ok (.iaload, 1) := by decide +kernel
theorem d_D_block_76 : decode prog_9_method_22_code 76 = .ok (.ireturn, 1) := by decide +kernel
theorem d_D_block_77 : decode prog_9_method_22_code 77 = .ok (.aload_n 0, 1) := by decide +kernel
theorem d_D_block_78 : decode prog_9_method_22_code 78 = .ok (.iconst 2, 1) := by decide +kernel
theorem d_D_block_79 : decode prog_9_method_22_code 79 = .ok (.invokevirtual 77, 3) := by decide +kernel
theorem d_D_block_82 : decode prog_9_method_22_code 82 = .ok (.ireturn, 1) := by decide +kernel
def I_D_block (P : Int32 → ev_M → ev_L → Prop) : List (Nat × ev_T) := [(0, tt_al 0 1),
  (1, tt_k 0 2),
  (2, tt_pf evLY 7 0 5),
  (5, tt_al 0 6),
  (6, tt_gf evLY 7 7 9),
  (9, tt_ifeq 24 12),
  (12, tt_il 1 13),
  (13, tt_iflt 24 16),
  (16, tt_il 1 17),
  (17, tt_al 0 18),
  (18, tt_gf evLY 7 15 21),
  (21, tt_iclt 30 24),
  (24, tt_al 0 25),
  (25, tt_k 1 26),
  (26, tt_cV evLY 7 1 ev_i pre_D_fail post_D_fail 29),
  (29, tt_ri P),
  (30, tt_il 2 31),
  (31, tt_sw [(0, 56), (1, 63), (2, 70)] 77),
  (56, tt_al 0 57),
  (57, tt_gf evLY 7 16 60),
  (60, tt_il 1 61),
  (61, tt_ia evLY 62),
  (62, tt_ri P),
  (63, tt_al 0 64),
  (64, tt_gf evLY 7 17 67),
  (67, tt_il 1 68),
  (68, tt_ia evLY 69),
  (69, tt_ri P),
  (70, tt_al 0 71),
  (71, tt_gf evLY 7 18 74),
  (74, tt_il 1 75),
  (75, tt_ia evLY 76),
  (76, tt_ri P),
  (77, tt_al 0 78),
  (78, tt_k 2 79),
  (79, tt_cV evLY 7 1 ev_i pre_D_fail post_D_fail 82),
  (82, tt_ri P)]
abbrev rm_D_block : Room := { frames := 1, cells := 0, slots := 0, locals := 32 }
set_option maxRecDepth 20000 in
theorem ok_D_block (l : Launch) (J : ev_K) (P : Int32 → ev_M → ev_L → Prop) (X : ev_X l rm_D_block evLY evCl ws_D_block prog_9_method_22_code 3 y_D_block.cls J) (Z : ev_Z J prog_9_method_22_code .ireturn ev_i P) : ev_oks J (I_D_block P) :=
  ⟨qq_aln X 0 rfl d_D_block_0,
  qq_ic X 0 (by decide) d_D_block_1,
  qq_pf X 7 0 rfl (fun w h => List.mem_cons_of_mem _ (inE_D w h)) (by decide) tyD tyD_ok nmD rfl (by decide +kernel) (List.mem_cons_of_mem _ mw_754) d_D_block_2,
  qq_aln X 0 rfl d_D_block_5,
  qq_gf X 7 7 rfl (fun w h => List.mem_cons_of_mem _ (inE_D w h)) (by decide) (List.mem_cons_of_mem _ mw_761) d_D_block_6,
  qq_ifeq X 24 (by decide) d_D_block_9,
  qq_iln X 1 rfl d_D_block_12,
  qq_iflt X 24 (by decide) d_D_block_13,
  qq_iln X 1 rfl d_D_block_16,
  qq_aln X 0 rfl d_D_block_17,
  qq_gf X 7 15 rfl (fun w h => List.mem_cons_of_mem _ (inE_D w h)) (by decide) (List.mem_cons_of_mem _ mw_769) d_D_block_18,
  qq_iclt X 30 (by decide) d_D_block_21,
  qq_aln X 0 rfl d_D_block_24,
  qq_ic X 1 (by decide) d_D_block_25,
  qq_cV X 7 rfl (c_D_fail l) (fun hts => cwV 1 hts (evGV (mw_861) (mw_863) (mp_27) (mw_8) (mw_864)) rfl rfl rfl (by decide +kernel) ⟨Nat.le_of_ble_eq_true rfl, Nat.le_of_ble_eq_true rfl⟩) d_D_block_26,
  qq_ri Z d_D_block_29,
  qq_iln X 2 rfl d_D_block_30,
  qq_tsw X [(0, 56), (1, 63), (2, 70)] 77 (by decide) (by simp [ev_tOk]) d_D_block_31,
  qq_aln X 0 rfl d_D_block_56,
  qq_gf X 7 16 rfl (fun w h => List.mem_cons_of_mem _ (inE_D w h)) (by decide) (List.mem_cons_of_mem _ mw_770) d_D_block_57,
  qq_iln X 1 rfl d_D_block_60,
  qq_ia X d_D_block_61,
  qq_ri Z d_D_block_62,
  qq_aln X 0 rfl d_D_block_63,
  qq_gf X 7 17 rfl (fun w h => List.mem_cons_of_mem _ (inE_D w h)) (by decide) (List.mem_cons_of_mem _ mw_771) d_D_block_64,
  qq_iln X 1 rfl d_D_block_67,
  qq_ia X d_D_block_68,
  qq_ri Z d_D_block_69,
  qq_aln X 0 rfl d_D_block_70,
  qq_gf X 7 18 rfl (fun w h => List.mem_cons_of_mem _ (inE_D w h)) (by decide) (List.mem_cons_of_mem _ mw_772) d_D_block_71,
  qq_iln X 1 rfl d_D_block_74,
  qq_ia X d_D_block_75,
  qq_ri Z d_D_block_76,
  qq_aln X 0 rfl d_D_block_77,
  qq_ic X 2 (by decide) d_D_block_78,
  qq_cV X 7 rfl (c_D_fail l) (fun hts => cwV 1 hts (evGV (mw_861) (mw_863) (mp_27) (mw_8) (mw_864)) rfl rfl rfl (by decide +kernel) ⟨Nat.le_of_ble_eq_true rfl, Nat.le_of_ble_eq_true rfl⟩) d_D_block_79,
  qq_ri Z d_D_block_82, trivial⟩
def pre_D_block : List Value → ev_M → ev_L → Prop := fun as σ τ => ∃ (k w : Int32), as = [.ref 30, .int k, .int w] ∧ (σ 30 7 = 0 ∨ σ 30 7 = 1) ∧ (σ 30 15).toInt ≤ 96
def post_D_block : List Value → ev_M → ev_L → Int32 → ev_M → ev_L → Prop := fun as σ τ r σ' τ' => match as with
  | [_, .int k, .int w] => τ' = τ ∧ ((¬ (σ 30 7 = 1 ∧ 0 ≤ k ∧ k < σ 30 15) ∧ r = 0 ∧ σ' = ev_u σ 30 0 1) ∨ ((σ 30 7 = 1 ∧ 0 ≤ k ∧ k < σ 30 15) ∧ ((w = 0 ∧ r = σ 40 k.toNatClampNeg ∧ σ' = ev_u σ 30 0 0) ∨ (w = 1 ∧ r = σ 41 k.toNatClampNeg ∧ σ' = ev_u σ 30 0 0) ∨ (w = 2 ∧ r = σ 42 k.toNatClampNeg ∧ σ' = ev_u σ 30 0 0) ∨ (¬ w = 0 ∧ ¬ w = 1 ∧ ¬ w = 2 ∧ r = 0 ∧ σ' = ev_u σ 30 0 2))))
  | _ => False
set_option maxHeartbeats 4000000 in
set_option maxRecDepth 100000 in
theorem c_D_block (l : Launch) : ev_C ev_i l y_D_block ws_D_block rm_D_block evLY evCl pre_D_block post_D_block := by
  refine ev_meth0 (by decide) rfl ev_rop_i ?_ I_D_block (ok_D_block l) 60 ?_
  · rintro _ σ τ ⟨k, w, rfl, hp⟩
    exact Nat.le_of_ble_eq_true rfl
  · rintro _ σ τ ⟨k, w, rfl, hp⟩
    obtain ⟨hz, h96⟩ := hp
    have bad : ¬ (σ 30 7 = 1 ∧ 0 ≤ k ∧ k < σ 30 15) → pre_D_fail [.ref 30, .int 1] (ev_u σ 30 0 0) τ ∧ ∀ (r : Int32) (σ1 : ev_M) (τ1 : ev_L), post_D_fail [.ref 30, .int 1] (ev_u σ 30 0 0) τ r σ1 τ1 → post_D_block [.ref 30, .int k, .int w] σ τ r σ1 τ1 := by
      intro hn
      refine ⟨⟨_, rfl⟩, ?_⟩
      rintro _ _ _ ⟨rfl, rfl, rfl⟩
      exact ⟨rfl, Or.inl ⟨hn, rfl, ev_u_u _ _ _ _ _⟩⟩
    refine br_c (fun h => ?_) (fun h => br_c (fun h2 => ?_) (fun h2 => br_c (fun h3 => ?_) (fun h3 => ?_)))
    · exact bad fun q => by have h' : σ 30 7 = 0 := h; rw [h'] at q; exact absurd q.1 (by decide)
    · exact bad fun q => absurd (Int32.not_lt.mpr q.2.1) (fun w => w h2)
    · have h1 : σ 30 7 = 1 := hz.resolve_left h
      have h3' : k < σ 30 15 := h3
      have hv : vp_in k 96 := i_vin3 (c := σ 30 15) h96 h2 (Int32.not_le.mpr h3')
      have ok : σ 30 7 = 1 ∧ 0 ≤ k ∧ k < σ 30 15 := ⟨h1, Int32.not_lt.mp h2, h3'⟩
      refine br_c (fun w0 => ?_) (fun w0 => br_c (fun w1 => ?_) (fun w1 => br_c (fun w2 => ?_) (fun w2 => ?_)))
      · exact ⟨hv, rfl, Or.inr ⟨ok, Or.inl ⟨w0, rfl, rfl⟩⟩⟩
      · exact ⟨hv, rfl, Or.inr ⟨ok, Or.inr (Or.inl ⟨w1, rfl, rfl⟩)⟩⟩
      · exact ⟨hv, rfl, Or.inr ⟨ok, Or.inr (Or.inr (Or.inl ⟨w2, rfl, rfl⟩))⟩⟩
      · refine ⟨⟨_, rfl⟩, ?_⟩
        rintro _ _ _ ⟨rfl, rfl, rfl⟩
        exact ⟨rfl, Or.inr ⟨ok, Or.inr (Or.inr (Or.inr ⟨w0, w1, w2, rfl, ev_u_u _ _ _ _ _⟩))⟩⟩
    · exact bad fun q => h3 q.2.2
def y_D_code : MethodName := ⟨RD, "code", "(IZ)I"⟩
def ws_D_code : List Cond := .code y_D_code prog_9_method_29_code 3 (some .int) :: evW
theorem d_D_code_0 : decode prog_9_method_29_code 0 = .ok (.aload_n 0, 1) := by decide +kernel
theorem d_D_code_1 : decode prog_9_method_29_code 1 = .ok (.iload_n 1, 1) := by decide +kernel
theorem d_D_code_2 : decode prog_9_method_29_code 2 = .ok (.ifCond .lt 10, 3) := by decide +kernel
theorem d_D_code_5 : decode prog_9_method_29_code 5 = .ok (.iload_n 1, 1) := by decide +kernel
theorem d_D_code_6 : decode prog_9_method_29_code 6 = .ok (.sipush 256, 3) := by decide +kernel
theorem d_D_code_9 : decode prog_9_method_29_code 9 = .ok (.if_icmp .lt 7, 3) := by decide +kernel
theorem d_D_code_12 : decode prog_9_method_29_code 12 = .ok (.iconst 1, 1) := by decide +kernel
theorem d_D_code_13 : decode prog_9_method_29_code 13 = .ok (.goto 19, 3) := by decide +kernel
theorem d_D_code_16 : decode prog_9_method_29_code 16 = .ok (.iload_n 2, 1) := by decide +kernel
theorem d_D_code_17 : decode prog_9_method_29_code 17 = .ok (.ifCond .eq 14, 3) := by decide +kernel
theorem d_D_code_20 : decode prog_9_method_29_code 20 = .ok (.aload_n 0, 1) := by decide +kernel
theorem d_D_code_21 : decode prog_9_method_29_code 21 = .ok (.getfield 71, 3) := by decide +kernel
theorem d_D_code_24 : decode prog_9_method_29_code 24 = .ok (.ifCond .ne 7, 3) := by decide +kernel
theorem d_D_code_27 : decode prog_9_method_29_code 27 = .ok (.iconst 2, 1) := by decide +kernel
theorem d_D_code_28 : decode prog_9_method_29_code 28 = .ok (.goto 4, 3) := by decide +kernel
theorem d_D_code_31 : decode prog_9_method_29_code 31 = .ok (.iconst 0, 1) := by decide +kernel
theorem d_D_code_32 : decode prog_9_method_29_code 32 = .ok (.putfield 63, 3) := by decide +kernel
theorem d_D_code_35 : decode prog_9_method_29_code 35 = .ok (.aload_n 0, 1) := by decide +kernel
theorem d_D_code_36 : decode prog_9_method_29_code 36 = .ok (.getfield 63, 3) := by decide +kernel
theorem d_D_code_39 : decode prog_9_method_29_code 39 = .ok (.ifCond .le 7, 3) := by decide +kernel
theorem d_D_code_42 : decode prog_9_method_29_code 42 = .ok (.iconst 0, 1) := by decide +kernel
theorem d_D_code_43 : decode prog_9_method_29_code 43 = .ok (.goto 21, 3) := by decide +kernel
theorem d_D_code_46 : decode prog_9_method_29_code 46 = .ok (.aload_n 0, 1) := by decide +kernel
theorem d_D_code_47 : decode prog_9_method_29_code 47 = .ok (.getfield 7, 3) := by decide +kernel
theorem d_D_code_50 : decode prog_9_method_29_code 50 = .ok (.iload_n 2, 1) := by decide +kernel
theorem d_D_code_51 : decode prog_9_method_29_code 51 = .ok (.ifCond .eq 11, 3) := by decide +kernel
theorem d_D_code_54 : decode prog_9_method_29_code 54 = .ok (.sipush 256, 3) := by decide +kernel
theorem d_D_code_57 : decode prog_9_method_29_code 57 = .ok (.iload_n 1, 1) := by decide +kernel
theorem d_D_code_58 : decode prog_9_method_29_code 58 = .ok (.iadd, 1) := by decide +kernel
theorem d_D_code_59 : decode prog_9_method_29_code 59 = .ok (.goto 4, 3) := by decide +kernel
theorem d_D_code_62 : decode prog_9_method_29_code 62 = .ok (.iload_n 1, 1) := by decide +kernel
theorem d_D_code_63 : decode prog_9_method_29_code 63 = .ok (.iaload, 1) := by decide +kernel
theorem d_D_code_64 : decode prog_9_method_29_code 64 = .ok (.ireturn, 1) := by decide +kernel
def I_D_code (P : Int32 → ev_M → ev_L → Prop) : List (Nat × ev_T) := [(0, tt_al 0 1),
  (1, tt_il 1 2),
  (2, tt_iflt 12 5),
  (5, tt_il 1 6),
  (6, tt_k 256 9),
  (9, tt_iclt 16 12),
  (12, tt_k 1 13),
  (13, tt_go 32),
  (16, tt_il 2 17),
  (17, tt_ifeq 31 20),
  (20, tt_al 0 21),
  (21, tt_gf evLY 7 8 24),
  (24, tt_ifne 31 27),
  (27, tt_k 2 28),
  (28, tt_go 32),
  (31, tt_k 0 32),
  (32, tt_pf evLY 7 0 35),
  (35, tt_al 0 36),
  (36, tt_gf evLY 7 0 39),
  (39, tt_ifle 46 42),
  (42, tt_k 0 43),
  (43, tt_go 64),
  (46, tt_al 0 47),
  (47, tt_gf evLY 7 1 50),
  (50, tt_il 2 51),
  (51, tt_ifeq 62 54),
  (54, tt_k 256 57),
  (57, tt_il 1 58),
  (58, tt_iadd 59),
  (59, tt_go 63),
  (62, tt_il 1 63),
  (63, tt_ia evLY 64),
  (64, tt_ri P)]
abbrev rm_D_code : Room := { frames := 0, cells := 0, slots := 0, locals := 0 }
set_option maxRecDepth 20000 in
theorem ok_D_code (l : Launch) (J : ev_K) (P : Int32 → ev_M → ev_L → Prop) (X : ev_X l rm_D_code evLY evCl ws_D_code prog_9_method_29_code 3 y_D_code.cls J) (Z : ev_Z J prog_9_method_29_code .ireturn ev_i P) : ev_oks J (I_D_code P) :=
  ⟨qq_aln X 0 rfl d_D_code_0,
  qq_iln X 1 rfl d_D_code_1,
  qq_iflt X 12 (by decide) d_D_code_2,
  qq_iln X 1 rfl d_D_code_5,
  qq_sp X 256 (by decide) d_D_code_6,
  qq_iclt X 16 (by decide) d_D_code_9,
  qq_ic X 1 (by decide) d_D_code_12,
  qq_go X 32 (by decide) d_D_code_13,
  qq_iln X 2 rfl d_D_code_16,
  qq_ifeq X 31 (by decide) d_D_code_17,
  qq_aln X 0 rfl d_D_code_20,
  qq_gf X 7 8 rfl (fun w h => List.mem_cons_of_mem _ (inE_D w h)) (by decide) (List.mem_cons_of_mem _ mw_762) d_D_code_21,
  qq_ifne X 31 (by decide) d_D_code_24,
  qq_ic X 2 (by decide) d_D_code_27,
  qq_go X 32 (by decide) d_D_code_28,
  qq_ic X 0 (by decide) d_D_code_31,
  qq_pf X 7 0 rfl (fun w h => List.mem_cons_of_mem _ (inE_D w h)) (by decide) tyD tyD_ok nmD rfl (by decide +kernel) (List.mem_cons_of_mem _ mw_754) d_D_code_32,
  qq_aln X 0 rfl d_D_code_35,
  qq_gf X 7 0 rfl (fun w h => List.mem_cons_of_mem _ (inE_D w h)) (by decide) (List.mem_cons_of_mem _ mw_754) d_D_code_36,
  qq_ifle X 46 (by decide) d_D_code_39,
  qq_ic X 0 (by decide) d_D_code_42,
  qq_go X 64 (by decide) d_D_code_43,
  qq_aln X 0 rfl d_D_code_46,
  qq_gf X 7 1 rfl (fun w h => List.mem_cons_of_mem _ (inE_D w h)) (by decide) (List.mem_cons_of_mem _ mw_755) d_D_code_47,
  qq_iln X 2 rfl d_D_code_50,
  qq_ifeq X 62 (by decide) d_D_code_51,
  qq_sp X 256 (by decide) d_D_code_54,
  qq_iln X 1 rfl d_D_code_57,
  qq_iadd X d_D_code_58,
  qq_go X 63 (by decide) d_D_code_59,
  qq_iln X 1 rfl d_D_code_62,
  qq_ia X d_D_code_63,
  qq_ri Z d_D_code_64, trivial⟩
def pre_D_code : List Value → ev_M → ev_L → Prop := fun as σ τ => ∃ (a z : Int32), as = [.ref 30, .int a, .int z]
def post_D_code : List Value → ev_M → ev_L → Int32 → ev_M → ev_L → Prop := fun as σ τ r σ' τ' => match as with
  | [_, .int a, .int z] => τ' = τ ∧ ((¬ (0 ≤ a ∧ a < 256) ∧ r = 0 ∧ σ' = ev_u σ 30 0 1) ∨ ((0 ≤ a ∧ a < 256) ∧ ((¬ z = 0 ∧ σ 30 8 = 0 ∧ r = 0 ∧ σ' = ev_u σ 30 0 2) ∨ (z = 0 ∧ r = σ 31 a.toNatClampNeg ∧ σ' = ev_u σ 30 0 0) ∨ (¬ z = 0 ∧ ¬ σ 30 8 = 0 ∧ r = σ 31 (256 + a).toNatClampNeg ∧ σ' = ev_u σ 30 0 0))))
  | _ => False
set_option maxHeartbeats 4000000 in
set_option maxRecDepth 100000 in
theorem c_D_code (l : Launch) : ev_C ev_i l y_D_code ws_D_code rm_D_code evLY evCl pre_D_code post_D_code := by
  refine ev_meth0 (by decide) rfl ev_rop_i ?_ I_D_code (ok_D_code l) 60 ?_
  · rintro _ σ τ ⟨a, z, rfl⟩
    exact Nat.le_of_ble_eq_true rfl
  · rintro _ σ τ ⟨a, z, rfl⟩
    refine br_c (fun h => ?_) (fun h => br_c (fun h2 => ?_) (fun h2 => ?_))
    · refine br_f (show ¬ (1 : Int32) ≤ 0 by decide) ?_
      exact ⟨rfl, Or.inl ⟨fun q => absurd (Int32.not_lt.mpr q.1) (fun w => w h), rfl, rfl⟩⟩
    · have ok : 0 ≤ a ∧ a < 256 := ⟨Int32.not_lt.mp h, h2⟩
      have h0 : 0 ≤ a.toInt := Int32.le_iff_toInt_le.mp ok.1
      have h9 : a.toInt < 256 := Int32.lt_iff_toInt_lt.mp ok.2
      have e : ((256 : Int32) + a).toInt = 256 + a.toInt := i_add (by decide) (by decide) (by omega) (by omega)
      have hv1 : vp_in a 512 := by rw [vp_in_iff]; omega
      have hv2 : vp_in (256 + a) 512 := by rw [vp_in_iff]; omega
      refine br_c (fun hz => ?_) (fun hz => br_n (fun h3 => ?_) (fun h3 => ?_))
      · refine br_t (show (0 : Int32) ≤ 0 by decide) ?_
        refine br_t hz ?_
        exact ⟨hv1, rfl, Or.inr ⟨ok, Or.inr (Or.inl ⟨hz, rfl, rfl⟩)⟩⟩
      · refine br_t (show (0 : Int32) ≤ 0 by decide) ?_
        refine br_f hz ?_
        exact ⟨hv2, rfl, Or.inr ⟨ok, Or.inr (Or.inr ⟨hz, h3, rfl, rfl⟩)⟩⟩
      · refine br_f (show ¬ (2 : Int32) ≤ 0 by decide) ?_
        exact ⟨rfl, Or.inr ⟨ok, Or.inl ⟨hz, h3, rfl, rfl⟩⟩⟩
    · refine br_f (show ¬ (1 : Int32) ≤ 0 by decide) ?_
      exact ⟨rfl, Or.inl ⟨fun q => h2 q.2, rfl, rfl⟩⟩
def sd_reg (σ : ev_M) (i : Int32) : Int32 := if i < 4 then σ 43 i.toNatClampNeg else if i = 4 then σ 30 22 else if i = 5 then σ 30 23 else σ 30 24
def y_D_register : MethodName := ⟨RD, "register", "(I)I"⟩
def ws_D_register : List Cond := .code y_D_register prog_9_method_41_code 2 (some .int) :: evW
theorem d_D_register_0 : decode prog_9_method_41_code 0 = .ok (.aload_n 0, 1) := by decide +kernel
theorem d_D_register_1 : decode prog_9_method_41_code 1 = .ok (.iconst 0, 1) := by decide +kernel
theorem d_D_register_2 : decode prog_9_method_41_code 2 = .ok (.putfield 63, 3) := by decide +kernel
theorem d_D_register_5 : decode prog_9_method_41_code 5 = .ok (.iload_n 1, 1) := by decide +kernel
theorem d_D_register_6 : decode prog_9_method_41_code 6 = .ok (.ifCond .lt 9, 3) := by decide +kernel
theorem d_D_register_9 : decode prog_9_method_41_code 9 = .ok (.iload_n 1, 1) := by decide +kernel
theorem d_D_register_10 : decode prog_9_method_41_code 10 = .ok (.bipush 6, 2) := by decide +kernel
theorem d_D_register_12 : decode prog_9_method_41_code 12 = .ok (.if_icmp .le 9, 3) := by decide +kernel
theorem d_D_register_15 : decode prog_9_method_41_code 15 = .ok (.aload_n 0, 1) := by decide +kernel
theorem d_D_register_16 : decode prog_9_method_41_code 16 = .ok (.iconst 1, 1) := by decide +kernel
theorem d_D_register_17 : decode prog_9_method_41_code 17 = .ok (.invokevirtual 77, 3) := by decide +kernel
theorem d_D_register_20 : decode prog_9_method_41_code 20 = .ok (.ireturn, 1) := by decide +kernel
theorem d_D_register_21 : decode prog_9_method_41_code 21 = .ok (.iload_n 1, 1) := by decide +kernel
theorem d_D_register_22 : decode prog_9_method_41_code 22 = .ok (.iconst 4, 1) := by decide +kernel
theorem d_D_register_23 : decode prog_9_method_41_code 23 = .ok (.if_icmp .ge 12, 3) := by decide +kernel
theorem d_D_register_26 : decode prog_9_method_41_code 26 = .ok (.aload_n 0, 1) := by decide +kernel
theorem d_D_register_27 : decode prog_9_method_41_code 27 = .ok (.getfield 47, 3) := by decide +kernel
theorem d_D_register_30 : decode prog_9_method_41_code 30 = .ok (.iload_n 1, 1) := by decide +kernel
theorem d_D_register_31 : decode prog_9_method_41_code 31 = .ok (.iaload, 1) := by decide +kernel
theorem d_D_register_32 : decode prog_9_method_41_code 32 = .ok (.goto 31, 3) := by decide +kernel
theorem d_D_register_35 : decode prog_9_method_41_code 35 = .ok (.iload_n 1, 1) := by decide +kernel
theorem d_D_register_36 : decode prog_9_method_41_code 36 = .ok (.iconst 4, 1) := by decide +kernel
theorem d_D_register_37 : decode prog_9_method_41_code 37 = .ok (.if_icmp .ne 10, 3) := by decide +kernel
theorem d_D_register_40 : decode prog_9_method_41_code 40 = .ok (.aload_n 0, 1) := by decide +kernel
theorem d_D_register_41 : decode prog_9_method_41_code 41 = .ok (.getfield 155, 3) := by decide +kernel
theorem d_D_register_44 : decode prog_9_method_41_code 44 = .ok (.goto 19, 3) := by decide +kernel
theorem d_D_register_47 : decode prog_9_method_41_code 47 = .ok (.iload_n 1, 1) := by decide +kernel
theorem d_D_register_48 : decode prog_9_method_41_code 48 = .ok (.iconst 5, 1) := by decide +kernel
theorem d_D_register_49 : decode prog_9_method_41_code 49 = .ok (.if_icmp .ne 10, 3) := by decide +kernel
theorem d_D_register_52 : decode prog_9_method_41_code 52 = .ok (.aload_n 0, 1) := by decide +kernel
theorem d_D_register_53 : decode prog_9_method_41_code 53 = .ok (.getfield 169, 3) := by decide +kernel
theorem d_D_register_56 : decode prog_9_method_41_code 56 = .ok (.goto 7, 3) := by decide +kernel
theorem d_D_register_59 : decode prog_9_method_41_code 59 = .ok (.aload_n 0, 1) := by decide +kernel
theorem d_D_register_60 : decode prog_9_method_41_code 60 = .ok (.getfield 172, 3) := by decide +kernel
theorem d_D_register_63 : decode prog_9_method_41_code 63 = .ok (.ireturn, 1) := by decide +kernel
def I_D_register (P : Int32 → ev_M → ev_L → Prop) : List (Nat × ev_T) := [(0, tt_al 0 1),
  (1, tt_k 0 2),
  (2, tt_pf evLY 7 0 5),
  (5, tt_il 1 6),
  (6, tt_iflt 15 9),
  (9, tt_il 1 10),
  (10, tt_k 6 12),
  (12, tt_icle 21 15),
  (15, tt_al 0 16),
  (16, tt_k 1 17),
  (17, tt_cV evLY 7 1 ev_i pre_D_fail post_D_fail 20),
  (20, tt_ri P),
  (21, tt_il 1 22),
  (22, tt_k 4 23),
  (23, tt_icge 35 26),
  (26, tt_al 0 27),
  (27, tt_gf evLY 7 20 30),
  (30, tt_il 1 31),
  (31, tt_ia evLY 32),
  (32, tt_go 63),
  (35, tt_il 1 36),
  (36, tt_k 4 37),
  (37, tt_icne 47 40),
  (40, tt_al 0 41),
  (41, tt_gf evLY 7 22 44),
  (44, tt_go 63),
  (47, tt_il 1 48),
  (48, tt_k 5 49),
  (49, tt_icne 59 52),
  (52, tt_al 0 53),
  (53, tt_gf evLY 7 23 56),
  (56, tt_go 63),
  (59, tt_al 0 60),
  (60, tt_gf evLY 7 24 63),
  (63, tt_ri P)]
abbrev rm_D_register : Room := { frames := 1, cells := 0, slots := 0, locals := 32 }
set_option maxRecDepth 20000 in
theorem ok_D_register (l : Launch) (J : ev_K) (P : Int32 → ev_M → ev_L → Prop) (X : ev_X l rm_D_register evLY evCl ws_D_register prog_9_method_41_code 2 y_D_register.cls J) (Z : ev_Z J prog_9_method_41_code .ireturn ev_i P) : ev_oks J (I_D_register P) :=
  ⟨qq_aln X 0 rfl d_D_register_0,
  qq_ic X 0 (by decide) d_D_register_1,
  qq_pf X 7 0 rfl (fun w h => List.mem_cons_of_mem _ (inE_D w h)) (by decide) tyD tyD_ok nmD rfl (by decide +kernel) (List.mem_cons_of_mem _ mw_754) d_D_register_2,
  qq_iln X 1 rfl d_D_register_5,
  qq_iflt X 15 (by decide) d_D_register_6,
  qq_iln X 1 rfl d_D_register_9,
  qq_bp X 6 (by decide) d_D_register_10,
  qq_icle X 21 (by decide) d_D_register_12,
  qq_aln X 0 rfl d_D_register_15,
  qq_ic X 1 (by decide) d_D_register_16,
  qq_cV X 7 rfl (c_D_fail l) (fun hts => cwV 1 hts (evGV (mw_861) (mw_863) (mp_27) (mw_8) (mw_864)) rfl rfl rfl (by decide +kernel) ⟨Nat.le_of_ble_eq_true rfl, Nat.le_of_ble_eq_true rfl⟩) d_D_register_17,
  qq_ri Z d_D_register_20,
  qq_iln X 1 rfl d_D_register_21,
  qq_ic X 4 (by decide) d_D_register_22,
  qq_icge X 35 (by decide) d_D_register_23,
  qq_aln X 0 rfl d_D_register_26,
  qq_gf X 7 20 rfl (fun w h => List.mem_cons_of_mem _ (inE_D w h)) (by decide) (List.mem_cons_of_mem _ mw_774) d_D_register_27,
  qq_iln X 1 rfl d_D_register_30,
  qq_ia X d_D_register_31,
  qq_go X 63 (by decide) d_D_register_32,
  qq_iln X 1 rfl d_D_register_35,
  qq_ic X 4 (by decide) d_D_register_36,
  qq_icne X 47 (by decide) d_D_register_37,
  qq_aln X 0 rfl d_D_register_40,
  qq_gf X 7 22 rfl (fun w h => List.mem_cons_of_mem _ (inE_D w h)) (by decide) (List.mem_cons_of_mem _ mw_776) d_D_register_41,
  qq_go X 63 (by decide) d_D_register_44,
  qq_iln X 1 rfl d_D_register_47,
  qq_ic X 5 (by decide) d_D_register_48,
  qq_icne X 59 (by decide) d_D_register_49,
  qq_aln X 0 rfl d_D_register_52,
  qq_gf X 7 23 rfl (fun w h => List.mem_cons_of_mem _ (inE_D w h)) (by decide) (List.mem_cons_of_mem _ mw_777) d_D_register_53,
  qq_go X 63 (by decide) d_D_register_56,
  qq_aln X 0 rfl d_D_register_59,
  qq_gf X 7 24 rfl (fun w h => List.mem_cons_of_mem _ (inE_D w h)) (by decide) (List.mem_cons_of_mem _ mw_778) d_D_register_60,
  qq_ri Z d_D_register_63, trivial⟩
def pre_D_register : List Value → ev_M → ev_L → Prop := fun as σ τ => ∃ (i : Int32), as = [.ref 30, .int i]
def post_D_register : List Value → ev_M → ev_L → Int32 → ev_M → ev_L → Prop := fun as σ τ r σ' τ' => match as with
  | [_, .int i] => τ' = τ ∧ ((¬ (0 ≤ i ∧ i ≤ 6) ∧ r = 0 ∧ σ' = ev_u σ 30 0 1) ∨ ((0 ≤ i ∧ i ≤ 6) ∧ r = sd_reg σ i ∧ σ' = ev_u σ 30 0 0))
  | _ => False
set_option maxHeartbeats 4000000 in
set_option maxRecDepth 100000 in
theorem c_D_register (l : Launch) : ev_C ev_i l y_D_register ws_D_register rm_D_register evLY evCl pre_D_register post_D_register := by
  refine ev_meth0 (by decide) rfl ev_rop_i ?_ I_D_register (ok_D_register l) 60 ?_
  · rintro _ σ τ ⟨i, rfl⟩
    exact Nat.le_of_ble_eq_true rfl
  · rintro _ σ τ ⟨i, rfl⟩
    have bad : ¬ (0 ≤ i ∧ i ≤ 6) → pre_D_fail [.ref 30, .int 1] (ev_u σ 30 0 0) τ ∧ ∀ (r : Int32) (σ1 : ev_M) (τ1 : ev_L), post_D_fail [.ref 30, .int 1] (ev_u σ 30 0 0) τ r σ1 τ1 → post_D_register [.ref 30, .int i] σ τ r σ1 τ1 := by
      intro hn
      refine ⟨⟨_, rfl⟩, ?_⟩
      rintro _ _ _ ⟨rfl, rfl, rfl⟩
      exact ⟨rfl, Or.inl ⟨hn, rfl, ev_u_u _ _ _ _ _⟩⟩
    refine br_c (fun h => ?_) (fun h => br_c (fun h2 => ?_) (fun h2 => ?_))
    · exact bad fun q => absurd (Int32.not_lt.mpr q.1) (fun w => w h)
    · have ok : 0 ≤ i ∧ i ≤ 6 := ⟨Int32.not_lt.mp h, h2⟩
      refine br_c (fun h4 => ?_) (fun h4 => ?_)
      · have h4' := Int32.not_lt.mpr h4
        refine br_n (fun h5 => br_n (fun h6 => ?_) (fun h6 => ?_)) (fun h5 => ?_)
        · exact ⟨rfl, Or.inr ⟨ok, by unfold sd_reg; rw [if_neg h4', if_neg h5, if_neg h6]; rfl, rfl⟩⟩
        · exact ⟨rfl, Or.inr ⟨ok, by unfold sd_reg; rw [if_neg h4', if_neg h5, if_pos h6]; rfl, rfl⟩⟩
        · exact ⟨rfl, Or.inr ⟨ok, by unfold sd_reg; rw [if_neg h4', if_pos h5]; rfl, rfl⟩⟩
      · have h4' := Int32.not_le.mp h4
        exact ⟨i_vin2 (b := 4) rfl ok.1 h4', rfl, Or.inr ⟨ok, by unfold sd_reg; rw [if_pos h4']; rfl, rfl⟩⟩
    · exact bad fun q => h2 q.2
def y_D_cell : MethodName := ⟨RD, "cell", "(I)I"⟩
def ws_D_cell : List Cond := .code y_D_cell prog_9_method_42_code 2 (some .int) :: evW
theorem d_D_cell_0 : decode prog_9_method_42_code 0 = .ok (.aload_n 0, 1) := by decide +kernel
theorem d_D_cell_1 : decode prog_9_method_42_code 1 = .ok (.iconst 0, 1) := by decide +kernel
theorem d_D_cell_2 : decode prog_9_method_42_code 2 = .ok (.putfield 63, 3) := by decide +kernel
theorem d_D_cell_5 : decode prog_9_method_42_code 5 = .ok (.iload_n 1, 1) := by decide +kernel
theorem d_D_cell_6 : decode prog_9_method_42_code 6 = .ok (.ifCond .lt 9, 3) := by decide +kernel
theorem d_D_cell_9 : decode prog_9_method_42_code 9 = .ok (.iload_n 1, 1) := by decide +kernel
theorem d_D_cell_10 : decode prog_9_method_42_code 10 = .ok (.bipush 15, 2) := by decide +kernel
theorem d_D_cell_12 : decode prog_9_method_42_code 12 = .ok (.if_icmp .le 11, 3) := by decide +kernel
theorem d_D_cell_15 : decode prog_9_method_42_code 15 = .ok (.aload_n 0, 1) := by decide +kernel
theorem d_D_cell_16 : decode prog_9_method_42_code 16 = .ok (.iconst 1, 1) := by decide +kernel
theorem d_D_cell_17 : decode prog_9_method_42_code 17 = .ok (.invokevirtual 77, 3) := by decide +kernel
theorem d_D_cell_20 : decode prog_9_method_42_code 20 = .ok (.goto 9, 3) := by decide +kernel
theorem d_D_cell_23 : decode prog_9_method_42_code 23 = .ok (.aload_n 0, 1) := by decide +kernel
theorem d_D_cell_24 : decode prog_9_method_42_code 24 = .ok (.getfield 50, 3) := by decide +kernel
theorem d_D_cell_27 : decode prog_9_method_42_code 27 = .ok (.iload_n 1, 1) := by decide +kernel
theorem d_D_cell_28 : decode prog_9_method_42_code 28 = .ok (.iaload, 1) := by decide +kernel
theorem d_D_cell_29 : decode prog_9_method_42_code 29 = .ok (.ireturn, 1) := by decide +kernel
def I_D_cell (P : Int32 → ev_M → ev_L → Prop) : List (Nat × ev_T) := [(0, tt_al 0 1),
  (1, tt_k 0 2),
  (2, tt_pf evLY 7 0 5),
  (5, tt_il 1 6),
  (6, tt_iflt 15 9),
  (9, tt_il 1 10),
  (10, tt_k 15 12),
  (12, tt_icle 23 15),
  (15, tt_al 0 16),
  (16, tt_k 1 17),
  (17, tt_cV evLY 7 1 ev_i pre_D_fail post_D_fail 20),
  (20, tt_go 29),
  (23, tt_al 0 24),
  (24, tt_gf evLY 7 21 27),
  (27, tt_il 1 28),
  (28, tt_ia evLY 29),
  (29, tt_ri P)]
abbrev rm_D_cell : Room := { frames := 1, cells := 0, slots := 0, locals := 32 }
set_option maxRecDepth 20000 in
theorem ok_D_cell (l : Launch) (J : ev_K) (P : Int32 → ev_M → ev_L → Prop) (X : ev_X l rm_D_cell evLY evCl ws_D_cell prog_9_method_42_code 2 y_D_cell.cls J) (Z : ev_Z J prog_9_method_42_code .ireturn ev_i P) : ev_oks J (I_D_cell P) :=
  ⟨qq_aln X 0 rfl d_D_cell_0,
  qq_ic X 0 (by decide) d_D_cell_1,
  qq_pf X 7 0 rfl (fun w h => List.mem_cons_of_mem _ (inE_D w h)) (by decide) tyD tyD_ok nmD rfl (by decide +kernel) (List.mem_cons_of_mem _ mw_754) d_D_cell_2,
  qq_iln X 1 rfl d_D_cell_5,
  qq_iflt X 15 (by decide) d_D_cell_6,
  qq_iln X 1 rfl d_D_cell_9,
  qq_bp X 15 (by decide) d_D_cell_10,
  qq_icle X 23 (by decide) d_D_cell_12,
  qq_aln X 0 rfl d_D_cell_15,
  qq_ic X 1 (by decide) d_D_cell_16,
  qq_cV X 7 rfl (c_D_fail l) (fun hts => cwV 1 hts (evGV (mw_861) (mw_863) (mp_27) (mw_8) (mw_864)) rfl rfl rfl (by decide +kernel) ⟨Nat.le_of_ble_eq_true rfl, Nat.le_of_ble_eq_true rfl⟩) d_D_cell_17,
  qq_go X 29 (by decide) d_D_cell_20,
  qq_aln X 0 rfl d_D_cell_23,
  qq_gf X 7 21 rfl (fun w h => List.mem_cons_of_mem _ (inE_D w h)) (by decide) (List.mem_cons_of_mem _ mw_775) d_D_cell_24,
  qq_iln X 1 rfl d_D_cell_27,
  qq_ia X d_D_cell_28,
  qq_ri Z d_D_cell_29, trivial⟩
def pre_D_cell : List Value → ev_M → ev_L → Prop := fun as σ τ => ∃ (i : Int32), as = [.ref 30, .int i]
def post_D_cell : List Value → ev_M → ev_L → Int32 → ev_M → ev_L → Prop := fun as σ τ r σ' τ' => match as with
  | [_, .int i] => τ' = τ ∧ ((¬ (0 ≤ i ∧ i < 16) ∧ r = 0 ∧ σ' = ev_u σ 30 0 1) ∨ ((0 ≤ i ∧ i < 16) ∧ r = σ 44 i.toNatClampNeg ∧ σ' = ev_u σ 30 0 0))
  | _ => False
set_option maxHeartbeats 4000000 in
set_option maxRecDepth 100000 in
theorem c_D_cell (l : Launch) : ev_C ev_i l y_D_cell ws_D_cell rm_D_cell evLY evCl pre_D_cell post_D_cell := by
  refine ev_meth0 (by decide) rfl ev_rop_i ?_ I_D_cell (ok_D_cell l) 60 ?_
  · rintro _ σ τ ⟨i, rfl⟩
    exact Nat.le_of_ble_eq_true rfl
  · rintro _ σ τ ⟨i, rfl⟩
    have bad : ¬ (0 ≤ i ∧ i < 16) → pre_D_fail [.ref 30, .int 1] (ev_u σ 30 0 0) τ ∧ ∀ (r : Int32) (σ1 : ev_M) (τ1 : ev_L), post_D_fail [.ref 30, .int 1] (ev_u σ 30 0 0) τ r σ1 τ1 → post_D_cell [.ref 30, .int i] σ τ r σ1 τ1 := by
      intro hn
      refine ⟨⟨_, rfl⟩, ?_⟩
      rintro _ _ _ ⟨rfl, rfl, rfl⟩
      exact ⟨rfl, Or.inl ⟨hn, rfl, ev_u_u _ _ _ _ _⟩⟩
    have hN : (16 : Int32).toInt = 16 := rfl
    have hM : (15 : Int32).toInt = 15 := rfl
    refine br_c (fun h => ?_) (fun h => br_c (fun h2 => ?_) (fun h2 => ?_))
    · exact bad fun q => absurd (Int32.not_lt.mpr q.1) (fun w => w h)
    · have h3 : i < 16 := by rw [Int32.lt_iff_toInt_lt]; rw [Int32.le_iff_toInt_le] at h2; omega
      exact ⟨i_vin2 (b := 16) rfl (Int32.not_lt.mp h) h3, rfl, Or.inr ⟨⟨Int32.not_lt.mp h, h3⟩, rfl, rfl⟩⟩
    · exact bad fun q => h2 (by rw [Int32.le_iff_toInt_le]; have q2 := q.2; rw [Int32.lt_iff_toInt_lt] at q2; omega)
def y_D_counter : MethodName := ⟨RD, "counter", "(I)J"⟩
def ws_D_counter : List Cond := .code y_D_counter prog_9_method_44_code 2 (some .long) :: evW
theorem d_D_counter_0 : decode prog_9_method_44_code 0 = .ok (.aload_n 0, 1) := by decide +kernel
theorem d_D_counter_1 : decode prog_9_method_44_code 1 = .ok (.iconst 0, 1) := by decide +kernel
theorem d_D_counter_2 : decode prog_9_method_44_code 2 = .ok (.putfield 63, 3) := by decide +kernel
theorem d_D_counter_5 : decode prog_9_method_44_code 5 = .ok (.iload_n 1, 1) := by decide +kernel
theorem d_D_counter_6 : decode prog_9_method_44_code 6 = .ok (.ifCond .lt 9, 3) := by decide +kernel
theorem d_D_counter_9 : decode prog_9_method_44_code 9 = .ok (.iload_n 1, 1) := by decide +kernel
theorem d_D_counter_10 : decode prog_9_method_44_code 10 = .ok (.bipush 63, 2) := by decide +kernel
theorem d_D_counter_12 : decode prog_9_method_44_code 12 = .ok (.if_icmp .le 12, 3) := by decide +kernel
theorem d_D_counter_15 : decode prog_9_method_44_code 15 = .ok (.aload_n 0, 1) := by decide +kernel
theorem d_D_counter_16 : decode prog_9_method_44_code 16 = .ok (.iconst 1, 1) := by decide +kernel
theorem d_D_counter_17 : decode prog_9_method_44_code 17 = .ok (.invokevirtual 77, 3) := by decide +kernel
theorem d_D_counter_20 : decode prog_9_method_44_code 20 = .ok (.i2l, 1) := by decide +kernel
theorem d_D_counter_21 : decode prog_9_method_44_code 21 = .ok (.goto 9, 3) := by decide +kernel
theorem d_D_counter_24 : decode prog_9_method_44_code 24 = .ok (.aload_n 0, 1) := by decide +kernel
theorem d_D_counter_25 : decode prog_9_method_44_code 25 = .ok (.getfield 59, 3) := by decide +kernel
theorem d_D_counter_28 : decode prog_9_method_44_code 28 = .ok (.iload_n 1, 1) := by decide +kernel
theorem d_D_counter_29 : decode prog_9_method_44_code 29 = .ok (.laload, 1) := by decide +kernel
theorem d_D_counter_30 : decode prog_9_method_44_code 30 = .ok (.lreturn, 1) := by decide +kernel
def I_D_counter (P : Int64 → ev_M → ev_L → Prop) : List (Nat × ev_T) := [(0, tt_al 0 1),
  (1, tt_k 0 2),
  (2, tt_pf evLY 7 0 5),
  (5, tt_il 1 6),
  (6, tt_iflt 15 9),
  (9, tt_il 1 10),
  (10, tt_k 63 12),
  (12, tt_icle 24 15),
  (15, tt_al 0 16),
  (16, tt_k 1 17),
  (17, tt_cV evLY 7 1 ev_i pre_D_fail post_D_fail 20),
  (20, tt_i2l 21),
  (21, tt_go 30),
  (24, tt_al 0 25),
  (25, tt_gf evLY 7 29 28),
  (28, tt_il 1 29),
  (29, tt_la evLY 30),
  (30, tt_rl P)]
abbrev rm_D_counter : Room := { frames := 1, cells := 0, slots := 0, locals := 32 }
set_option maxRecDepth 20000 in
theorem ok_D_counter (l : Launch) (J : ev_K) (P : Int64 → ev_M → ev_L → Prop) (X : ev_X l rm_D_counter evLY evCl ws_D_counter prog_9_method_44_code 2 y_D_counter.cls J) (Z : ev_Z J prog_9_method_44_code .lreturn ev_l P) : ev_oks J (I_D_counter P) :=
  ⟨qq_aln X 0 rfl d_D_counter_0,
  qq_ic X 0 (by decide) d_D_counter_1,
  qq_pf X 7 0 rfl (fun w h => List.mem_cons_of_mem _ (inE_D w h)) (by decide) tyD tyD_ok nmD rfl (by decide +kernel) (List.mem_cons_of_mem _ mw_754) d_D_counter_2,
  qq_iln X 1 rfl d_D_counter_5,
  qq_iflt X 15 (by decide) d_D_counter_6,
  qq_iln X 1 rfl d_D_counter_9,
  qq_bp X 63 (by decide) d_D_counter_10,
  qq_icle X 24 (by decide) d_D_counter_12,
  qq_aln X 0 rfl d_D_counter_15,
  qq_ic X 1 (by decide) d_D_counter_16,
  qq_cV X 7 rfl (c_D_fail l) (fun hts => cwV 1 hts (evGV (mw_861) (mw_863) (mp_27) (mw_8) (mw_864)) rfl rfl rfl (by decide +kernel) ⟨Nat.le_of_ble_eq_true rfl, Nat.le_of_ble_eq_true rfl⟩) d_D_counter_17,
  qq_i2l X d_D_counter_20,
  qq_go X 30 (by decide) d_D_counter_21,
  qq_aln X 0 rfl d_D_counter_24,
  qq_gf X 7 29 rfl (fun w h => List.mem_cons_of_mem _ (inE_D w h)) (by decide) (List.mem_cons_of_mem _ mw_783) d_D_counter_25,
  qq_iln X 1 rfl d_D_counter_28,
  qq_la X d_D_counter_29,
  qq_rl Z d_D_counter_30, trivial⟩
def pre_D_counter : List Value → ev_M → ev_L → Prop := fun as σ τ => ∃ (i : Int32), as = [.ref 30, .int i]
def post_D_counter : List Value → ev_M → ev_L → Int64 → ev_M → ev_L → Prop := fun as σ τ r σ' τ' => match as with
  | [_, .int i] => τ' = τ ∧ ((¬ (0 ≤ i ∧ i < 64) ∧ r = 0 ∧ σ' = ev_u σ 30 0 1) ∨ ((0 ≤ i ∧ i < 64) ∧ r = τ 47 i.toNatClampNeg ∧ σ' = ev_u σ 30 0 0))
  | _ => False
set_option maxHeartbeats 4000000 in
set_option maxRecDepth 100000 in
theorem c_D_counter (l : Launch) : ev_C ev_l l y_D_counter ws_D_counter rm_D_counter evLY evCl pre_D_counter post_D_counter := by
  refine ev_meth0 (by decide) rfl ev_rop_l ?_ I_D_counter (ok_D_counter l) 60 ?_
  · rintro _ σ τ ⟨i, rfl⟩
    exact Nat.le_of_ble_eq_true rfl
  · rintro _ σ τ ⟨i, rfl⟩
    have bad : ¬ (0 ≤ i ∧ i < 64) → pre_D_fail [.ref 30, .int 1] (ev_u σ 30 0 0) τ ∧ ∀ (r : Int32) (σ1 : ev_M) (τ1 : ev_L), post_D_fail [.ref 30, .int 1] (ev_u σ 30 0 0) τ r σ1 τ1 → post_D_counter [.ref 30, .int i] σ τ r.toInt64 σ1 τ1 := by
      intro hn
      refine ⟨⟨_, rfl⟩, ?_⟩
      rintro _ _ _ ⟨rfl, rfl, rfl⟩
      exact ⟨rfl, Or.inl ⟨hn, rfl, ev_u_u _ _ _ _ _⟩⟩
    have hN : (64 : Int32).toInt = 64 := rfl
    have hM : (63 : Int32).toInt = 63 := rfl
    refine br_c (fun h => ?_) (fun h => br_c (fun h2 => ?_) (fun h2 => ?_))
    · exact bad fun q => absurd (Int32.not_lt.mpr q.1) (fun w => w h)
    · have h3 : i < 64 := by rw [Int32.lt_iff_toInt_lt]; rw [Int32.le_iff_toInt_le] at h2; omega
      exact ⟨i_vin2 (b := 64) rfl (Int32.not_lt.mp h) h3, rfl, Or.inr ⟨⟨Int32.not_lt.mp h, h3⟩, rfl, rfl⟩⟩
    · exact bad fun q => h2 (by rw [Int32.le_iff_toInt_le]; have q2 := q.2; rw [Int32.lt_iff_toInt_lt] at q2; omega)
def y_D_output : MethodName := ⟨RD, "output", "(I)I"⟩
def ws_D_output : List Cond := .code y_D_output prog_9_method_43_code 2 (some .int) :: evW
theorem d_D_output_0 : decode prog_9_method_43_code 0 = .ok (.aload_n 0, 1) := by decide +kernel
theorem d_D_output_1 : decode prog_9_method_43_code 1 = .ok (.iconst 0, 1) := by decide +kernel
theorem d_D_output_2 : decode prog_9_method_43_code 2 = .ok (.putfield 63, 3) := by decide +kernel
theorem d_D_output_5 : decode prog_9_method_43_code 5 = .ok (.iload_n 1, 1) := by decide +kernel
theorem d_D_output_6 : decode prog_9_method_43_code 6 = .ok (.ifCond .lt 11, 3) := by decide +kernel
theorem d_D_output_9 : decode prog_9_method_43_code 9 = .ok (.iload_n 1, 1) := by decide +kernel
theorem d_D_output_10 : decode prog_9_method_43_code 10 = .ok (.aload_n 0, 1) := by decide +kernel
theorem d_D_output_11 : decode prog_9_method_43_code 11 = .ok (.getfield 172, 3) := by decide +kernel
theorem d_D_output_14 : decode prog_9_method_43_code 14 = .ok (.if_icmp .lt 11, 3) := by decide +kernel
theorem d_D_output_17 : decode prog_9_method_43_code 17 = .ok (.aload_n 0, 1) := by decide +kernel
theorem d_D_output_18 : decode prog_9_method_43_code 18 = .ok (.iconst 1, 1) := by decide +kernel
theorem d_D_output_19 : decode prog_9_method_43_code 19 = .ok (.invokevirtual 77, 3) := by decide +kernel
theorem d_D_output_22 : decode prog_9_method_43_code 22 = .ok (.goto 9, 3) := by decide +kernel
theorem d_D_output_25 : decode prog_9_method_43_code 25 = .ok (.aload_n 0, 1) := by decide +kernel
theorem d_D_output_26 : decode prog_9_method_43_code 26 = .ok (.getfield 56, 3) := by decide +kernel
theorem d_D_output_29 : decode prog_9_method_43_code 29 = .ok (.iload_n 1, 1) := by decide +kernel
theorem d_D_output_30 : decode prog_9_method_43_code 30 = .ok (.iaload, 1) := by decide +kernel
theorem d_D_output_31 : decode prog_9_method_43_code 31 = .ok (.ireturn, 1) := by decide +kernel
def I_D_output (P : Int32 → ev_M → ev_L → Prop) : List (Nat × ev_T) := [(0, tt_al 0 1),
  (1, tt_k 0 2),
  (2, tt_pf evLY 7 0 5),
  (5, tt_il 1 6),
  (6, tt_iflt 17 9),
  (9, tt_il 1 10),
  (10, tt_al 0 11),
  (11, tt_gf evLY 7 24 14),
  (14, tt_iclt 25 17),
  (17, tt_al 0 18),
  (18, tt_k 1 19),
  (19, tt_cV evLY 7 1 ev_i pre_D_fail post_D_fail 22),
  (22, tt_go 31),
  (25, tt_al 0 26),
  (26, tt_gf evLY 7 28 29),
  (29, tt_il 1 30),
  (30, tt_ia evLY 31),
  (31, tt_ri P)]
abbrev rm_D_output : Room := { frames := 1, cells := 0, slots := 0, locals := 32 }
set_option maxRecDepth 20000 in
theorem ok_D_output (l : Launch) (J : ev_K) (P : Int32 → ev_M → ev_L → Prop) (X : ev_X l rm_D_output evLY evCl ws_D_output prog_9_method_43_code 2 y_D_output.cls J) (Z : ev_Z J prog_9_method_43_code .ireturn ev_i P) : ev_oks J (I_D_output P) :=
  ⟨qq_aln X 0 rfl d_D_output_0,
  qq_ic X 0 (by decide) d_D_output_1,
  qq_pf X 7 0 rfl (fun w h => List.mem_cons_of_mem _ (inE_D w h)) (by decide) tyD tyD_ok nmD rfl (by decide +kernel) (List.mem_cons_of_mem _ mw_754) d_D_output_2,
  qq_iln X 1 rfl d_D_output_5,
  qq_iflt X 17 (by decide) d_D_output_6,
  qq_iln X 1 rfl d_D_output_9,
  qq_aln X 0 rfl d_D_output_10,
  qq_gf X 7 24 rfl (fun w h => List.mem_cons_of_mem _ (inE_D w h)) (by decide) (List.mem_cons_of_mem _ mw_778) d_D_output_11,
  qq_iclt X 25 (by decide) d_D_output_14,
  qq_aln X 0 rfl d_D_output_17,
  qq_ic X 1 (by decide) d_D_output_18,
  qq_cV X 7 rfl (c_D_fail l) (fun hts => cwV 1 hts (evGV (mw_861) (mw_863) (mp_27) (mw_8) (mw_864)) rfl rfl rfl (by decide +kernel) ⟨Nat.le_of_ble_eq_true rfl, Nat.le_of_ble_eq_true rfl⟩) d_D_output_19,
  qq_go X 31 (by decide) d_D_output_22,
  qq_aln X 0 rfl d_D_output_25,
  qq_gf X 7 28 rfl (fun w h => List.mem_cons_of_mem _ (inE_D w h)) (by decide) (List.mem_cons_of_mem _ mw_782) d_D_output_26,
  qq_iln X 1 rfl d_D_output_29,
  qq_ia X d_D_output_30,
  qq_ri Z d_D_output_31, trivial⟩
def pre_D_output : List Value → ev_M → ev_L → Prop := fun as σ τ => ∃ (i : Int32), as = [.ref 30, .int i] ∧ (σ 30 24).toInt ≤ 40
def post_D_output : List Value → ev_M → ev_L → Int32 → ev_M → ev_L → Prop := fun as σ τ r σ' τ' => match as with
  | [_, .int i] => τ' = τ ∧ ((¬ (0 ≤ i ∧ i < σ 30 24) ∧ r = 0 ∧ σ' = ev_u σ 30 0 1) ∨ ((0 ≤ i ∧ i < σ 30 24) ∧ r = σ 46 i.toNatClampNeg ∧ σ' = ev_u σ 30 0 0))
  | _ => False
set_option maxHeartbeats 4000000 in
set_option maxRecDepth 100000 in
theorem c_D_output (l : Launch) : ev_C ev_i l y_D_output ws_D_output rm_D_output evLY evCl pre_D_output post_D_output := by
  refine ev_meth0 (by decide) rfl ev_rop_i ?_ I_D_output (ok_D_output l) 60 ?_
  · rintro _ σ τ ⟨i, rfl, hp⟩
    exact Nat.le_of_ble_eq_true rfl
  · rintro _ σ τ ⟨i, rfl, hp⟩
    have bad : ¬ (0 ≤ i ∧ i < σ 30 24) → pre_D_fail [.ref 30, .int 1] (ev_u σ 30 0 0) τ ∧ ∀ (r : Int32) (σ1 : ev_M) (τ1 : ev_L), post_D_fail [.ref 30, .int 1] (ev_u σ 30 0 0) τ r σ1 τ1 → post_D_output [.ref 30, .int i] σ τ r σ1 τ1 := by
      intro hn
      refine ⟨⟨_, rfl⟩, ?_⟩
      rintro _ _ _ ⟨rfl, rfl, rfl⟩
      exact ⟨rfl, Or.inl ⟨hn, rfl, ev_u_u _ _ _ _ _⟩⟩
    refine br_c (fun h => ?_) (fun h => br_c (fun h2 => ?_) (fun h2 => ?_))
    · exact bad fun q => absurd (Int32.not_lt.mpr q.1) (fun w => w h)
    · have h2' : i < σ 30 24 := h2
      exact ⟨i_vin3 (c := σ 30 24) hp h (Int32.not_le.mpr h2'), rfl, Or.inr ⟨⟨Int32.not_lt.mp h, h2'⟩, rfl, rfl⟩⟩
    · exact bad fun q => h2 q.2
end
section
/-! the reference's run -/
theorem cpy_0 {α : Type} (f g : Nat → α) : va_cpy f g 0 0 0 = g := by funext j; simp [va_cpy]
theorem cpy_s (f g : Nat → Int32) (n : Nat) : upd (va_cpy f g 0 0 n) n (f n) = va_cpy f g 0 0 (n + 1) := by
  funext j
  unfold upd va_cpy
  by_cases h : j = n
  · simp [h]
  · by_cases h2 : j < n
    · simp [h, h2, show j < n + 1 by omega]
    · simp [h, h2, show ¬ j < n + 1 by omega]
def y_D_begin : MethodName := ⟨RD, "begin", "()V"⟩
def ws_D_begin : List Cond := .code y_D_begin prog_9_method_38_code 2 none :: evW
theorem d_D_begin_0 : decode prog_9_method_38_code 0 = .ok (.iconst 0, 1) := by decide +kernel
theorem d_D_begin_1 : decode prog_9_method_38_code 1 = .ok (.istore_n 1, 1) := by decide +kernel
theorem d_D_begin_2 : decode prog_9_method_38_code 2 = .ok (.iload_n 1, 1) := by decide +kernel
theorem d_D_begin_3 : decode prog_9_method_38_code 3 = .ok (.iconst 4, 1) := by decide +kernel
theorem d_D_begin_4 : decode prog_9_method_38_code 4 = .ok (.if_icmp .ge 16, 3) := by decide +kernel
theorem d_D_begin_7 : decode prog_9_method_38_code 7 = .ok (.aload_n 0, 1) := by decide +kernel
theorem d_D_begin_8 : decode prog_9_method_38_code 8 = .ok (.getfield 47, 3) := by decide +kernel
theorem d_D_begin_11 : decode prog_9_method_38_code 11 = .ok (.iload_n 1, 1) := by decide +kernel
theorem d_D_begin_12 : decode prog_9_method_38_code 12 = .ok (.iconst 0, 1) := by decide +kernel
theorem d_D_begin_13 : decode prog_9_method_38_code 13 = .ok (.iastore, 1) := by decide +kernel
theorem d_D_begin_14 : decode prog_9_method_38_code 14 = .ok (.iinc 1 1, 3) := by decide +kernel
theorem d_D_begin_17 : decode prog_9_method_38_code 17 = .ok (.goto (-15), 3) := by decide +kernel
theorem d_D_begin_20 : decode prog_9_method_38_code 20 = .ok (.iconst 0, 1) := by decide +kernel
theorem d_D_begin_21 : decode prog_9_method_38_code 21 = .ok (.istore_n 1, 1) := by decide +kernel
theorem d_D_begin_22 : decode prog_9_method_38_code 22 = .ok (.iload_n 1, 1) := by decide +kernel
theorem d_D_begin_23 : decode prog_9_method_38_code 23 = .ok (.bipush 16, 2) := by decide +kernel
theorem d_D_begin_25 : decode prog_9_method_38_code 25 = .ok (.if_icmp .ge 21, 3) := by decide +kernel
theorem d_D_begin_28 : decode prog_9_method_38_code 28 = .ok (.aload_n 0, 1) := by decide +kernel
theorem d_D_begin_29 : decode prog_9_method_38_code 29 = .ok (.getfield 50, 3) := by decide +kernel
theorem d_D_begin_32 : decode prog_9_method_38_code 32 = .ok (.iload_n 1, 1) := by decide +kernel
theorem d_D_begin_33 : decode prog_9_method_38_code 33 = .ok (.aload_n 0, 1) := by decide +kernel
theorem d_D_begin_34 : decode prog_9_method_38_code 34 = .ok (.getfield 22, 3) := by decide +kernel
theorem d_D_begin_37 : decode prog_9_method_38_code 37 = .ok (.iload_n 1, 1) := by decide +kernel
theorem d_D_begin_38 : decode prog_9_method_38_code 38 = .ok (.iaload, 1) := by decide +kernel
theorem d_D_begin_39 : decode prog_9_method_38_code 39 = .ok (.iastore, 1) := by decide +kernel
theorem d_D_begin_40 : decode prog_9_method_38_code 40 = .ok (.iinc 1 1, 3) := by decide +kernel
theorem d_D_begin_43 : decode prog_9_method_38_code 43 = .ok (.goto (-21), 3) := by decide +kernel
theorem d_D_begin_46 : decode prog_9_method_38_code 46 = .ok (.iconst 0, 1) := by decide +kernel
theorem d_D_begin_47 : decode prog_9_method_38_code 47 = .ok (.istore_n 1, 1) := by decide +kernel
theorem d_D_begin_48 : decode prog_9_method_38_code 48 = .ok (.iload_n 1, 1) := by decide +kernel
theorem d_D_begin_49 : decode prog_9_method_38_code 49 = .ok (.bipush 64, 2) := by decide +kernel
theorem d_D_begin_51 : decode prog_9_method_38_code 51 = .ok (.if_icmp .ge 16, 3) := by decide +kernel
theorem d_D_begin_54 : decode prog_9_method_38_code 54 = .ok (.aload_n 0, 1) := by decide +kernel
theorem d_D_begin_55 : decode prog_9_method_38_code 55 = .ok (.getfield 59, 3) := by decide +kernel
theorem d_D_begin_58 : decode prog_9_method_38_code 58 = .ok (.iload_n 1, 1) := by decide +kernel
theorem d_D_begin_59 : decode prog_9_method_38_code 59 = .ok (.lconst 0, 1) := by decide +kernel
theorem d_D_begin_60 : decode prog_9_method_38_code 60 = .ok (.lastore, 1) := by decide +kernel
theorem d_D_begin_61 : decode prog_9_method_38_code 61 = .ok (.iinc 1 1, 3) := by decide +kernel
theorem d_D_begin_64 : decode prog_9_method_38_code 64 = .ok (.goto (-16), 3) := by decide +kernel
theorem d_D_begin_67 : decode prog_9_method_38_code 67 = .ok (.aload_n 0, 1) := by decide +kernel
theorem d_D_begin_68 : decode prog_9_method_38_code 68 = .ok (.iconst 0, 1) := by decide +kernel
theorem d_D_begin_69 : decode prog_9_method_38_code 69 = .ok (.putfield 155, 3) := by decide +kernel
theorem d_D_begin_72 : decode prog_9_method_38_code 72 = .ok (.aload_n 0, 1) := by decide +kernel
theorem d_D_begin_73 : decode prog_9_method_38_code 73 = .ok (.iconst 0, 1) := by decide +kernel
theorem d_D_begin_74 : decode prog_9_method_38_code 74 = .ok (.putfield 169, 3) := by decide +kernel
theorem d_D_begin_77 : decode prog_9_method_38_code 77 = .ok (.aload_n 0, 1) := by decide +kernel
theorem d_D_begin_78 : decode prog_9_method_38_code 78 = .ok (.iconst 0, 1) := by decide +kernel
theorem d_D_begin_79 : decode prog_9_method_38_code 79 = .ok (.putfield 172, 3) := by decide +kernel
theorem d_D_begin_82 : decode prog_9_method_38_code 82 = .ok (.aload_n 0, 1) := by decide +kernel
theorem d_D_begin_83 : decode prog_9_method_38_code 83 = .ok (.iconst 0, 1) := by decide +kernel
theorem d_D_begin_84 : decode prog_9_method_38_code 84 = .ok (.putfield 188, 3) := by decide +kernel
theorem d_D_begin_87 : decode prog_9_method_38_code 87 = .ok (.aload_n 0, 1) := by decide +kernel
theorem d_D_begin_88 : decode prog_9_method_38_code 88 = .ok (.iconst 0, 1) := by decide +kernel
theorem d_D_begin_89 : decode prog_9_method_38_code 89 = .ok (.putfield 152, 3) := by decide +kernel
theorem d_D_begin_92 : decode prog_9_method_38_code 92 = .ok (.return_, 1) := by decide +kernel
def I_D_begin (P : Unit → ev_M → ev_L → Prop) : List (Nat × ev_T) := [(0, tt_k 0 1),
  (1, tt_is 1 2),
  (2, tt_il 1 3),
  (3, tt_k 4 4),
  (4, tt_icge 20 7),
  (7, tt_al 0 8),
  (8, tt_gf evLY 7 20 11),
  (11, tt_il 1 12),
  (12, tt_k 0 13),
  (13, tt_ias evLY 14),
  (14, tt_ii 1 1 17),
  (17, tt_go 2),
  (20, tt_k 0 21),
  (21, tt_is 1 22),
  (22, tt_il 1 23),
  (23, tt_k 16 25),
  (25, tt_icge 46 28),
  (28, tt_al 0 29),
  (29, tt_gf evLY 7 21 32),
  (32, tt_il 1 33),
  (33, tt_al 0 34),
  (34, tt_gf evLY 7 6 37),
  (37, tt_il 1 38),
  (38, tt_ia evLY 39),
  (39, tt_ias evLY 40),
  (40, tt_ii 1 1 43),
  (43, tt_go 22),
  (46, tt_k 0 47),
  (47, tt_is 1 48),
  (48, tt_il 1 49),
  (49, tt_k 64 51),
  (51, tt_icge 67 54),
  (54, tt_al 0 55),
  (55, tt_gf evLY 7 29 58),
  (58, tt_il 1 59),
  (59, tt_lk 0 60),
  (60, tt_las evLY 61),
  (61, tt_ii 1 1 64),
  (64, tt_go 48),
  (67, tt_al 0 68),
  (68, tt_k 0 69),
  (69, tt_pf evLY 7 22 72),
  (72, tt_al 0 73),
  (73, tt_k 0 74),
  (74, tt_pf evLY 7 23 77),
  (77, tt_al 0 78),
  (78, tt_k 0 79),
  (79, tt_pf evLY 7 24 82),
  (82, tt_al 0 83),
  (83, tt_k 0 84),
  (84, tt_pf evLY 7 25 87),
  (87, tt_al 0 88),
  (88, tt_k 0 89),
  (89, tt_pf evLY 7 26 92),
  (92, tt_rv P)]
abbrev rm_D_begin : Room := { frames := 0, cells := 0, slots := 0, locals := 0 }
set_option maxRecDepth 20000 in
theorem ok_D_begin (l : Launch) (J : ev_K) (P : Unit → ev_M → ev_L → Prop) (X : ev_X l rm_D_begin evLY evCl ws_D_begin prog_9_method_38_code 2 y_D_begin.cls J) (Z : ev_Z J prog_9_method_38_code .return_ ev_n P) : ev_oks J (I_D_begin P) :=
  ⟨qq_ic X 0 (by decide) d_D_begin_0,
  qq_isn X 1 rfl (by decide) d_D_begin_1,
  qq_iln X 1 rfl d_D_begin_2,
  qq_ic X 4 (by decide) d_D_begin_3,
  qq_icge X 20 (by decide) d_D_begin_4,
  qq_aln X 0 rfl d_D_begin_7,
  qq_gf X 7 20 rfl (fun w h => List.mem_cons_of_mem _ (inE_D w h)) (by decide) (List.mem_cons_of_mem _ mw_774) d_D_begin_8,
  qq_iln X 1 rfl d_D_begin_11,
  qq_ic X 0 (by decide) d_D_begin_12,
  qq_ias X d_D_begin_13,
  qq_ii X 1 1 (by decide) (by decide) d_D_begin_14,
  qq_go X 2 (by decide) d_D_begin_17,
  qq_ic X 0 (by decide) d_D_begin_20,
  qq_isn X 1 rfl (by decide) d_D_begin_21,
  qq_iln X 1 rfl d_D_begin_22,
  qq_bp X 16 (by decide) d_D_begin_23,
  qq_icge X 46 (by decide) d_D_begin_25,
  qq_aln X 0 rfl d_D_begin_28,
  qq_gf X 7 21 rfl (fun w h => List.mem_cons_of_mem _ (inE_D w h)) (by decide) (List.mem_cons_of_mem _ mw_775) d_D_begin_29,
  qq_iln X 1 rfl d_D_begin_32,
  qq_aln X 0 rfl d_D_begin_33,
  qq_gf X 7 6 rfl (fun w h => List.mem_cons_of_mem _ (inE_D w h)) (by decide) (List.mem_cons_of_mem _ mw_760) d_D_begin_34,
  qq_iln X 1 rfl d_D_begin_37,
  qq_ia X d_D_begin_38,
  qq_ias X d_D_begin_39,
  qq_ii X 1 1 (by decide) (by decide) d_D_begin_40,
  qq_go X 22 (by decide) d_D_begin_43,
  qq_ic X 0 (by decide) d_D_begin_46,
  qq_isn X 1 rfl (by decide) d_D_begin_47,
  qq_iln X 1 rfl d_D_begin_48,
  qq_bp X 64 (by decide) d_D_begin_49,
  qq_icge X 67 (by decide) d_D_begin_51,
  qq_aln X 0 rfl d_D_begin_54,
  qq_gf X 7 29 rfl (fun w h => List.mem_cons_of_mem _ (inE_D w h)) (by decide) (List.mem_cons_of_mem _ mw_783) d_D_begin_55,
  qq_iln X 1 rfl d_D_begin_58,
  qq_lc X 0 (by decide) d_D_begin_59,
  qq_las X d_D_begin_60,
  qq_ii X 1 1 (by decide) (by decide) d_D_begin_61,
  qq_go X 48 (by decide) d_D_begin_64,
  qq_aln X 0 rfl d_D_begin_67,
  qq_ic X 0 (by decide) d_D_begin_68,
  qq_pf X 7 22 rfl (fun w h => List.mem_cons_of_mem _ (inE_D w h)) (by decide) tyD tyD_ok nmD rfl (by decide +kernel) (List.mem_cons_of_mem _ mw_776) d_D_begin_69,
  qq_aln X 0 rfl d_D_begin_72,
  qq_ic X 0 (by decide) d_D_begin_73,
  qq_pf X 7 23 rfl (fun w h => List.mem_cons_of_mem _ (inE_D w h)) (by decide) tyD tyD_ok nmD rfl (by decide +kernel) (List.mem_cons_of_mem _ mw_777) d_D_begin_74,
  qq_aln X 0 rfl d_D_begin_77,
  qq_ic X 0 (by decide) d_D_begin_78,
  qq_pf X 7 24 rfl (fun w h => List.mem_cons_of_mem _ (inE_D w h)) (by decide) tyD tyD_ok nmD rfl (by decide +kernel) (List.mem_cons_of_mem _ mw_778) d_D_begin_79,
  qq_aln X 0 rfl d_D_begin_82,
  qq_ic X 0 (by decide) d_D_begin_83,
  qq_pf X 7 25 rfl (fun w h => List.mem_cons_of_mem _ (inE_D w h)) (by decide) tyD tyD_ok nmD rfl (by decide +kernel) (List.mem_cons_of_mem _ mw_779) d_D_begin_84,
  qq_aln X 0 rfl d_D_begin_87,
  qq_ic X 0 (by decide) d_D_begin_88,
  qq_pf X 7 26 rfl (fun w h => List.mem_cons_of_mem _ (inE_D w h)) (by decide) tyD tyD_ok nmD rfl (by decide +kernel) (List.mem_cons_of_mem _ mw_780) d_D_begin_89,
  qq_rv Z d_D_begin_92, trivial⟩
def pre_D_begin : List Value → ev_M → ev_L → Prop := fun as _ _ => as = [.ref 30]
def post_D_begin : List Value → ev_M → ev_L → Unit → ev_M → ev_L → Prop := fun _ σ τ _ σ' τ' => mvD σ' τ' = ms_begin (σ 35) (mvD σ τ) ∧ frD σ σ' τ τ' ∧ σ' 30 26 = 0
set_option maxHeartbeats 4000000 in
set_option maxRecDepth 100000 in
theorem c_D_begin (l : Launch) : ev_C ev_n l y_D_begin ws_D_begin rm_D_begin evLY evCl pre_D_begin post_D_begin := by
  refine ev_methL (by decide) rfl ev_rop_v ?_ I_D_begin (ok_D_begin l) [2, 22, 48] 60 ?_
  · rintro _ σ τ rfl
    exact Nat.le_of_ble_eq_true rfl
  · rintro _ σ τ rfl
    refine ⟨fun μ pc lv st σ' τ' n => st = [] ∧ n = 0 ∧ ((pc = 0 ∧ μ = 500 ∧ lv = [.ref 30, .null] ∧ σ' = σ ∧ τ' = τ) ∨ (pc = 2 ∧ ∃ i : Nat, i ≤ 4 ∧ μ = 300 - i ∧ lv = [.ref 30, .int (nI i)] ∧ τ' = τ ∧ σ' = ev_p σ 43 (sp_fill (σ 43) i 0)) ∨ (pc = 22 ∧ ∃ i : Nat, i ≤ 16 ∧ μ = 200 - i ∧ lv = [.ref 30, .int (nI i)] ∧ τ' = τ ∧ σ' = ev_p (ev_p σ 43 (sp_fill (σ 43) 4 0)) 44 (va_cpy (σ 35) (σ 44) 0 0 i)) ∨ (pc = 48 ∧ ∃ i : Nat, i ≤ 64 ∧ μ = 100 - i ∧ lv = [.ref 30, .int (nI i)] ∧ τ' = ev_p τ 47 (sp_fill (τ 47) i 0) ∧ σ' = ev_p (ev_p σ 43 (sp_fill (σ 43) 4 0)) 44 (va_cpy (σ 35) (σ 44) 0 0 16))), ⟨500, rfl, rfl, Or.inl ⟨rfl, rfl, rfl, rfl, rfl⟩⟩, ?_⟩
    rintro μ pc lv st σ' τ' n ⟨rfl, rfl, ⟨rfl, rfl, rfl, rfl, rfl⟩ | ⟨rfl, i, hi, rfl, rfl, rfl, rfl⟩ | ⟨rfl, i, hi, rfl, rfl, rfl, rfl⟩ | ⟨rfl, i, hi, rfl, rfl, rfl, rfl⟩⟩
    · exact ⟨300, by omega, rfl, rfl, Or.inr (Or.inl ⟨rfl, 0, Nat.zero_le _, rfl, rfl, rfl, by rw [sp_fill_0, ev_p_same]⟩)⟩
    · refine br_c (fun h => ?_) (fun h => ?_)
      · have hin : 4 ≤ i := (nI_leI (a := 4) (by omega) (by omega)).mp h
        have : i = 4 := by omega
        subst this
        refine ⟨200, by omega, rfl, rfl, Or.inr (Or.inr (Or.inl ⟨rfl, 0, Nat.zero_le _, rfl, rfl, rfl, ?_⟩))⟩
        rw [cpy_0]
        exact (ev_p_same (ev_p σ 43 (sp_fill (σ 43) 4 0)) 44).symm
      · have hin : i < 4 := Nat.not_le.mp fun q => h ((nI_leI (a := 4) (by omega) (by omega)).mpr q)
        refine ⟨vp_in_nI hin (by omega), ⟨300 - (i + 1), by omega, rfl, rfl, Or.inr (Or.inl ⟨rfl, i + 1, by omega, rfl, by rw [← nI_1], rfl, ?_⟩)⟩⟩
        show ev_u _ 43 _ _ = _
        unfold ev_u
        rw [ev_p_k, ev_p_p, nI_clamp (by omega), sp_fill_s]
    · refine br_c (fun h => ?_) (fun h => ?_)
      · have hin : 16 ≤ i := (nI_leI (a := 16) (by omega) (by omega)).mp h
        have : i = 16 := by omega
        subst this
        refine ⟨100, by omega, rfl, rfl, Or.inr (Or.inr (Or.inr ⟨rfl, 0, Nat.zero_le _, rfl, rfl, ?_, rfl⟩))⟩
        rw [sp_fill_0, ev_p_same]
      · have hin : i < 16 := Nat.not_le.mp fun q => h ((nI_leI (a := 16) (by omega) (by omega)).mpr q)
        have hv : vp_in (nI i) 16 := vp_in_nI hin (by omega)
        refine ⟨hv, hv, ⟨200 - (i + 1), by omega, rfl, rfl, Or.inr (Or.inr (Or.inl ⟨rfl, i + 1, by omega, rfl, by rw [← nI_1], rfl, ?_⟩))⟩⟩
        show ev_u _ 44 _ (σ 35 (nI i).toNatClampNeg) = _
        unfold ev_u
        rw [ev_p_k, ev_p_p, nI_clamp (by omega), cpy_s]
    · refine br_c (fun h => ?_) (fun h => ?_)
      · have hin : 64 ≤ i := (nI_leI (a := 64) (by omega) (by omega)).mp h
        have : i = 64 := by omega
        subst this
        refine ⟨rfl, ⟨fun k h1 h2 => ?_, fun j hj => ?_, fun k hk => if_neg hk⟩, rfl⟩
        · have h3 : ¬ k = 43 := by omega
          have h4 : ¬ k = 44 := by omega
          simp [ev_u, ev_p, h1, h3, h4]
        · have h3 : ¬ j = 22 := by omega
          have h4 : ¬ j = 23 := by omega
          have h5 : ¬ j = 24 := by omega
          have h6 : ¬ j = 25 := by omega
          have h7 : ¬ j = 26 := by omega
          simp [ev_u, ev_p, upd, h3, h4, h5, h6, h7]
      · have hin : i < 64 := Nat.not_le.mp fun q => h ((nI_leI (a := 64) (by omega) (by omega)).mpr q)
        refine ⟨vp_in_nI hin (by omega), ⟨100 - (i + 1), by omega, rfl, rfl, Or.inr (Or.inr (Or.inr ⟨rfl, i + 1, by omega, rfl, by rw [← nI_1], ?_, rfl⟩))⟩⟩
        show ev_w _ 47 _ _ = _
        unfold ev_w
        rw [ev_p_k, ev_p_p, nI_clamp (by omega), sp_fill_sL]
/-- the last of n blocks that covers an address -/
def sd_last (h b : Nat → Int32) (a : Int32) : Nat → Int32
  | 0 => -1
  | n + 1 => if h n ≤ a ∧ a < h n + b n then nI n else sd_last h b a n
def y_D_blockAt : MethodName := ⟨RD, "blockAt", "(I)I"⟩
def ws_D_blockAt : List Cond := .code y_D_blockAt prog_9_method_23_code 4 (some .int) :: evW
theorem d_D_blockAt_0 : decode prog_9_method_23_code 0 = .ok (.aload_n 0, 1) := by decide +kernel
theorem d_D_blockAt_1 : decode prog_9_method_23_code 1 = .ok (.iconst 0, 1) := by decide +kernel
theorem d_D_blockAt_2 : decode prog_9_method_23_code 2 = .ok (.putfield 63, 3) := by decide +kernel
theorem d_D_blockAt_5 : decode prog_9_method_23_code 5 = .ok (.iconst (-1), 1) := by decide +kernel
theorem d_D_blockAt_6 : decode prog_9_method_23_code 6 = .ok (.istore_n 2, 1) := by decide +kernel
theorem d_D_blockAt_7 : decode prog_9_method_23_code 7 = .ok (.iconst 0, 1) := by decide +kernel
theorem d_D_blockAt_8 : decode prog_9_method_23_code 8 = .ok (.istore_n 3, 1) := by decide +kernel
theorem d_D_blockAt_9 : decode prog_9_method_23_code 9 = .ok (.iload_n 3, 1) := by decide +kernel
theorem d_D_blockAt_10 : decode prog_9_method_23_code 10 = .ok (.aload_n 0, 1) := by decide +kernel
theorem d_D_blockAt_11 : decode prog_9_method_23_code 11 = .ok (.getfield 121, 3) := by decide +kernel
theorem d_D_blockAt_14 : decode prog_9_method_23_code 14 = .ok (.if_icmp .ge 49, 3) := by decide +kernel
theorem d_D_blockAt_17 : decode prog_9_method_23_code 17 = .ok (.aload_n 0, 1) := by decide +kernel
theorem d_D_blockAt_18 : decode prog_9_method_23_code 18 = .ok (.getfield 67, 3) := by decide +kernel
theorem d_D_blockAt_21 : decode prog_9_method_23_code 21 = .ok (.ifCond .eq 42, 3) := by decide +kernel
theorem d_D_blockAt_24 : decode prog_9_method_23_code 24 = .ok (.iload_n 1, 1) := by decide +kernel
theorem d_D_blockAt_25 : decode prog_9_method_23_code 25 = .ok (.aload_n 0, 1) := by decide +kernel
theorem d_D_blockAt_26 : decode prog_9_method_23_code 26 = .ok (.getfield 38, 3) := by decide +kernel
theorem d_D_blockAt_29 : decode prog_9_method_23_code 29 = .ok (.iload_n 3, 1) := by decide +kernel
theorem d_D_blockAt_30 : decode prog_9_method_23_code 30 = .ok (.iaload, 1) := by decide +kernel
theorem d_D_blockAt_31 : decode prog_9_method_23_code 31 = .ok (.if_icmp .lt 24, 3) := by decide +kernel
theorem d_D_blockAt_34 : decode prog_9_method_23_code 34 = .ok (.iload_n 1, 1) := by decide +kernel
theorem d_D_blockAt_35 : decode prog_9_method_23_code 35 = .ok (.aload_n 0, 1) := by decide +kernel
theorem d_D_blockAt_36 : decode prog_9_method_23_code 36 = .ok (.getfield 38, 3) := by decide +kernel
theorem d_D_blockAt_39 : decode prog_9_method_23_code 39 = .ok (.iload_n 3, 1) := by decide +kernel
theorem d_D_blockAt_40 : decode prog_9_method_23_code 40 = .ok (.iaload, 1) := by decide +kernel
theorem d_D_blockAt_41 : decode prog_9_method_23_code 41 = .ok (.aload_n 0, 1) := by decide +kernel
theorem d_D_blockAt_42 : decode prog_9_method_23_code 42 = .ok (.getfield 41, 3) := by decide +kernel
theorem d_D_blockAt_45 : decode prog_9_method_23_code 45 = .ok (.iload_n 3, 1) := by decide +kernel
theorem d_D_blockAt_46 : decode prog_9_method_23_code 46 = .ok (.iaload, 1) := by decide +kernel
theorem d_D_blockAt_47 : decode prog_9_method_23_code 47 = .ok (.iadd, 1) := by decide +kernel
theorem d_D_blockAt_48 : decode prog_9_method_23_code 48 = .ok (.if_icmp .ge 7, 3) := by decide +kernel
theorem d_D_blockAt_51 : decode prog_9_method_23_code 51 = .ok (.iload_n 3, 1) := by decide +kernel
theorem d_D_blockAt_52 : decode prog_9_method_23_code 52 = .ok (.goto 4, 3) := by decide +kernel
theorem d_D_blockAt_55 : decode prog_9_method_23_code 55 = .ok (.iload_n 2, 1) := by decide +kernel
theorem d_D_blockAt_56 : decode prog_9_method_23_code 56 = .ok (.istore_n 2, 1) := by decide +kernel
theorem d_D_blockAt_57 : decode prog_9_method_23_code 57 = .ok (.iinc 3 1, 3) := by decide +kernel
theorem d_D_blockAt_60 : decode prog_9_method_23_code 60 = .ok (.goto (-51), 3) := by decide +kernel
theorem d_D_blockAt_63 : decode prog_9_method_23_code 63 = .ok (.iload_n 2, 1) := by decide +kernel
theorem d_D_blockAt_64 : decode prog_9_method_23_code 64 = .ok (.ireturn, 1) := by decide +kernel
def I_D_blockAt (P : Int32 → ev_M → ev_L → Prop) : List (Nat × ev_T) := [(0, tt_al 0 1),
  (1, tt_k 0 2),
  (2, tt_pf evLY 7 0 5),
  (5, tt_k (-1) 6),
  (6, tt_is 2 7),
  (7, tt_k 0 8),
  (8, tt_is 3 9),
  (9, tt_il 3 10),
  (10, tt_al 0 11),
  (11, tt_gf evLY 7 15 14),
  (14, tt_icge 63 17),
  (17, tt_al 0 18),
  (18, tt_gf evLY 7 7 21),
  (21, tt_ifeq 63 24),
  (24, tt_il 1 25),
  (25, tt_al 0 26),
  (26, tt_gf evLY 7 16 29),
  (29, tt_il 3 30),
  (30, tt_ia evLY 31),
  (31, tt_iclt 55 34),
  (34, tt_il 1 35),
  (35, tt_al 0 36),
  (36, tt_gf evLY 7 16 39),
  (39, tt_il 3 40),
  (40, tt_ia evLY 41),
  (41, tt_al 0 42),
  (42, tt_gf evLY 7 17 45),
  (45, tt_il 3 46),
  (46, tt_ia evLY 47),
  (47, tt_iadd 48),
  (48, tt_icge 55 51),
  (51, tt_il 3 52),
  (52, tt_go 56),
  (55, tt_il 2 56),
  (56, tt_is 2 57),
  (57, tt_ii 3 1 60),
  (60, tt_go 9),
  (63, tt_il 2 64),
  (64, tt_ri P)]
abbrev rm_D_blockAt : Room := { frames := 0, cells := 0, slots := 0, locals := 0 }
set_option maxRecDepth 20000 in
theorem ok_D_blockAt (l : Launch) (J : ev_K) (P : Int32 → ev_M → ev_L → Prop) (X : ev_X l rm_D_blockAt evLY evCl ws_D_blockAt prog_9_method_23_code 4 y_D_blockAt.cls J) (Z : ev_Z J prog_9_method_23_code .ireturn ev_i P) : ev_oks J (I_D_blockAt P) :=
  ⟨qq_aln X 0 rfl d_D_blockAt_0,
  qq_ic X 0 (by decide) d_D_blockAt_1,
  qq_pf X 7 0 rfl (fun w h => List.mem_cons_of_mem _ (inE_D w h)) (by decide) tyD tyD_ok nmD rfl (by decide +kernel) (List.mem_cons_of_mem _ mw_754) d_D_blockAt_2,
  qq_ic X (-1) (by decide) d_D_blockAt_5,
  qq_isn X 2 rfl (by decide) d_D_blockAt_6,
  qq_ic X 0 (by decide) d_D_blockAt_7,
  qq_isn X 3 rfl (by decide) d_D_blockAt_8,
  qq_iln X 3 rfl d_D_blockAt_9,
  qq_aln X 0 rfl d_D_blockAt_10,
  qq_gf X 7 15 rfl (fun w h => List.mem_cons_of_mem _ (inE_D w h)) (by decide) (List.mem_cons_of_mem _ mw_769) d_D_blockAt_11,
  qq_icge X 63 (by decide) d_D_blockAt_14,
  qq_aln X 0 rfl d_D_blockAt_17,
  qq_gf X 7 7 rfl (fun w h => List.mem_cons_of_mem _ (inE_D w h)) (by decide) (List.mem_cons_of_mem _ mw_761) d_D_blockAt_18,
  qq_ifeq X 63 (by decide) d_D_blockAt_21,
  qq_iln X 1 rfl d_D_blockAt_24,
  qq_aln X 0 rfl d_D_blockAt_25,
  qq_gf X 7 16 rfl (fun w h => List.mem_cons_of_mem _ (inE_D w h)) (by decide) (List.mem_cons_of_mem _ mw_770) d_D_blockAt_26,
  qq_iln X 3 rfl d_D_blockAt_29,
  qq_ia X d_D_blockAt_30,
  qq_iclt X 55 (by decide) d_D_blockAt_31,
  qq_iln X 1 rfl d_D_blockAt_34,
  qq_aln X 0 rfl d_D_blockAt_35,
  qq_gf X 7 16 rfl (fun w h => List.mem_cons_of_mem _ (inE_D w h)) (by decide) (List.mem_cons_of_mem _ mw_770) d_D_blockAt_36,
  qq_iln X 3 rfl d_D_blockAt_39,
  qq_ia X d_D_blockAt_40,
  qq_aln X 0 rfl d_D_blockAt_41,
  qq_gf X 7 17 rfl (fun w h => List.mem_cons_of_mem _ (inE_D w h)) (by decide) (List.mem_cons_of_mem _ mw_771) d_D_blockAt_42,
  qq_iln X 3 rfl d_D_blockAt_45,
  qq_ia X d_D_blockAt_46,
  qq_iadd X d_D_blockAt_47,
  qq_icge X 55 (by decide) d_D_blockAt_48,
  qq_iln X 3 rfl d_D_blockAt_51,
  qq_go X 56 (by decide) d_D_blockAt_52,
  qq_iln X 2 rfl d_D_blockAt_55,
  qq_isn X 2 rfl (by decide) d_D_blockAt_56,
  qq_ii X 3 1 (by decide) (by decide) d_D_blockAt_57,
  qq_go X 9 (by decide) d_D_blockAt_60,
  qq_iln X 2 rfl d_D_blockAt_63,
  qq_ri Z d_D_blockAt_64, trivial⟩
def pre_D_blockAt : List Value → ev_M → ev_L → Prop := fun as σ _ => ∃ (a : Int32) (n : Nat), as = [.ref 30, .int a] ∧ σ 30 15 = nI n ∧ n ≤ 96
def post_D_blockAt : List Value → ev_M → ev_L → Int32 → ev_M → ev_L → Prop := fun as σ τ r σ' τ' => match as with
  | [_, .int a] => r = (if σ 30 7 = 0 then -1 else sd_last (σ 40) (σ 41) a (σ 30 15).toNatClampNeg) ∧ σ' = ev_u σ 30 0 0 ∧ τ' = τ
  | _ => False
set_option maxHeartbeats 4000000 in
set_option maxRecDepth 100000 in
theorem c_D_blockAt (l : Launch) : ev_C ev_i l y_D_blockAt ws_D_blockAt rm_D_blockAt evLY evCl pre_D_blockAt post_D_blockAt := by
  refine ev_methL (by decide) rfl ev_rop_i ?_ I_D_blockAt (ok_D_blockAt l) [9] 60 ?_
  · rintro _ σ τ ⟨a, n, rfl, h⟩
    exact Nat.le_of_ble_eq_true rfl
  · rintro _ σ τ ⟨a, n, rfl, hn, h96⟩
    have hcl : (σ 30 15).toNatClampNeg = n := by rw [hn]; exact nI_clamp (by omega)
    refine ⟨fun μ pc lv st σ' τ' z => st = [] ∧ z = 0 ∧ τ' = τ ∧ ((pc = 0 ∧ μ = 500 ∧ lv = [.ref 30, .int a, .null, .null] ∧ σ' = σ) ∨ (pc = 9 ∧ ∃ i : Nat, i ≤ n ∧ μ = n - i ∧ lv = [.ref 30, .int a, .int (sd_last (σ 40) (σ 41) a i), .int (nI i)] ∧ (σ 30 7 = 0 → i = 0) ∧ σ' = ev_u σ 30 0 0)), ⟨500, rfl, rfl, rfl, Or.inl ⟨rfl, rfl, rfl, rfl⟩⟩, ?_⟩
    rintro μ pc lv st σ' τ' z ⟨rfl, rfl, rfl, ⟨rfl, rfl, rfl, rfl⟩ | ⟨rfl, i, hi, rfl, rfl, h7, rfl⟩⟩
    · exact ⟨n, by omega, rfl, rfl, rfl, Or.inr ⟨rfl, 0, Nat.zero_le _, rfl, rfl, fun _ => rfl, rfl⟩⟩
    · refine br_c (fun h => ?_) (fun h => ?_)
      · have h' : σ 30 15 ≤ nI i := h
        rw [hn] at h'
        have hin : n ≤ i := (nI_leI (by omega) (by omega)).mp h'
        have : i = n := by omega
        subst this
        refine ⟨?_, rfl, rfl⟩
        rw [hcl]
        by_cases h8 : σ 30 7 = 0
        · rw [if_pos h8, h7 h8]; rfl
        · rw [if_neg h8]
      · have h' : ¬ σ 30 15 ≤ nI i := h
        rw [hn] at h'
        have hin : i < n := Nat.not_le.mp fun q => h' ((nI_leI (by omega) (by omega)).mpr q)
        refine br_c (fun h8 => ?_) (fun h8 => ?_)
        · have h8' : σ 30 7 = 0 := h8
          refine ⟨?_, rfl, rfl⟩
          rw [if_pos h8', h7 h8']; rfl
        · have h8' : ¬ σ 30 7 = 0 := h8
          have hv : vp_in (nI i) 96 := vp_in_nI (by omega) (by omega)
          have hci : (nI i).toNatClampNeg = i := nI_clamp (by omega)
          have stp : ∀ v : Int32, v = sd_last (σ 40) (σ 41) a (i + 1) → ∃ μ', μ' < n - i ∧ ([] : List Value) = [] ∧ 0 = 0 ∧ τ' = τ' ∧ ((9 = 0 ∧ μ' = 500 ∧ ([.ref 30, .int a, .int v, .int (nI i + 1)] : List Value) = [.ref 30, .int a, .null, .null] ∧ ev_u σ 30 0 0 = σ) ∨ (9 = 9 ∧ ∃ i2 : Nat, i2 ≤ n ∧ μ' = n - i2 ∧ ([.ref 30, .int a, .int v, .int (nI i + 1)] : List Value) = [.ref 30, .int a, .int (sd_last (σ 40) (σ 41) a i2), .int (nI i2)] ∧ (σ 30 7 = 0 → i2 = 0) ∧ ev_u σ 30 0 0 = ev_u σ 30 0 0)) := by
            rintro _ rfl
            exact ⟨n - (i + 1), by omega, rfl, rfl, rfl, Or.inr ⟨rfl, i + 1, by omega, rfl, by rw [← nI_1], fun q => absurd q h8', rfl⟩⟩
          refine ⟨hv, br_c (fun h9 => ?_) (fun h9 => ⟨hv, hv, br_c (fun h10 => ?_) (fun h10 => ?_)⟩)⟩
          · refine stp _ ?_
            have h9' : a < σ 40 (nI i).toNatClampNeg := h9
            rw [hci] at h9'
            exact (if_neg fun q => absurd (Int32.not_lt.mpr q.1) (fun w => w h9')).symm
          · refine stp _ ?_
            have h10' : σ 40 (nI i).toNatClampNeg + σ 41 (nI i).toNatClampNeg ≤ a := h10
            rw [hci] at h10'
            exact (if_neg fun q => absurd (Int32.not_le.mpr q.2) (fun w => w h10')).symm
          · refine stp _ ?_
            have h9' : ¬ a < σ 40 (nI i).toNatClampNeg := h9
            have h10' : ¬ σ 40 (nI i).toNatClampNeg + σ 41 (nI i).toNatClampNeg ≤ a := h10
            rw [hci] at h9' h10'
            exact (if_pos ⟨Int32.not_lt.mp h9', Int32.not_le.mp h10'⟩).symm
end
section
/-! the reference's run -/
def ms_wD (σ : ev_M) (x : mst) : mst := if ¬ σ 30 7 = 0 ∧ ms_pc x < 96 ∧ ¬ σ 37 (ms_pc x).toNatClampNeg = 0 then ms_cnt (sd_last (σ 40) (σ 41) (ms_pc x) (σ 30 15).toNatClampNeg) x else x
theorem ms_wD_R {σ : ev_M} {x : mst} (h : msR x) : msR (ms_wD σ x) := by
  unfold ms_wD
  split
  · exact ms_cnt_R h
  · exact h
/-- which of the reference's cells a run may change -/
def frR (σ σ' : ev_M) (τ τ' : ev_L) : Prop := (∀ k, ¬ k = 30 → (k < 43 ∨ 46 < k) → σ' k = σ k) ∧ (∀ j, ¬ j = 0 → (j < 22 ∨ 26 < j) → σ' 30 j = σ 30 j) ∧ ∀ k, ¬ k = 47 → τ' k = τ k
theorem frR_tr {σ σ1 σ2 : ev_M} {τ τ1 τ2 : ev_L} (h1 : frR σ σ1 τ τ1) (h2 : frR σ1 σ2 τ1 τ2) : frR σ σ2 τ τ2 := ⟨fun k hk hq => (h2.1 k hk hq).trans (h1.1 k hk hq), fun k hk hq => (h2.2.1 k hk hq).trans (h1.2.1 k hk hq), fun k hk => (h2.2.2 k hk).trans (h1.2.2 k hk)⟩
theorem frR_D {σ σ' : ev_M} {τ τ' : ev_L} (h : frD σ σ' τ τ') : frR σ σ' τ τ' := ⟨h.1, fun j _ hj => h.2.1 j hj, h.2.2⟩
theorem frR_0 {σ : ev_M} {τ : ev_L} (x : Int32) : frR σ (ev_u σ 30 0 x) τ τ := ⟨fun k hk _ => if_neg hk, fun j hj _ => by unfold ev_u ev_p upd; rw [if_pos rfl, if_neg hj], fun _ _ => rfl⟩
theorem frR_D0 {σ σ' : ev_M} {τ τ' : ev_L} (h : frD σ σ' τ τ') : σ' 30 0 = σ 30 0 := h.2.1 0 (by omega)
def sd_base (z : Int32) : Int32 := if z = 0 then 0 else 256
def sd_w (σ : ev_M) (z : Int32) : mst → mst := if z = 0 then ms_wD σ else fun x => x
theorem sd_w_R {σ : ev_M} {z : Int32} {x : mst} (h : msR x) : msR (sd_w σ z x) := by
  unfold sd_w
  split
  · exact ms_wD_R h
  · exact h
theorem ms_perf_dn {f : Nat → Int32} {tr : Int32 → Int32} {kd op n m bh : Int32} {r c s o : Nat → Int32} {t : Nat → Int64} {pc h sh dn : Int32} : (ms_perf f tr kd op n m bh (r, c, s, o, t, pc, h, sh, dn)).2.2.2.2.2.2.2.2.2 = dn := by
  suffices key : ∀ y : Int32 × mst, y = ms_perf f tr kd op n m bh (r, c, s, o, t, pc, h, sh, dn) → y.2.2.2.2.2.2.2.2.2 = dn from key _ rfl
  intro y hy
  by_cases k2 : kd = 2
  · have hy := hy.trans (if_pos k2)
    subst hy; rfl
  by_cases k3 : kd = 3
  · have hy := hy.trans ((if_neg k2).trans (if_pos k3))
    by_cases h7 : 0 < h
    · have hy := hy.trans (if_pos h7)
      subst hy; rfl
    · have hy := hy.trans (if_neg h7)
      subst hy; rfl
  by_cases k12 : kd = 12
  · have hy := hy.trans ((if_neg k2).trans ((if_neg k3).trans (if_pos k12)))
    by_cases h7 : sh < 40
    · have hy := hy.trans (if_pos h7)
      subst hy; rfl
    · have hy := hy.trans (if_neg h7)
      subst hy; rfl
  by_cases k60 : kd = 60
  · have hy := hy.trans ((if_neg k2).trans ((if_neg k3).trans ((if_neg k12).trans (if_pos k60))))
    subst hy; rfl
  by_cases k64 : kd = 64
  · have hy := hy.trans ((if_neg k2).trans ((if_neg k3).trans ((if_neg k12).trans ((if_neg k60).trans (if_pos k64)))))
    subst hy; rfl
  by_cases k68 : kd = 68
  · have hy := hy.trans ((if_neg k2).trans ((if_neg k3).trans ((if_neg k12).trans ((if_neg k60).trans ((if_neg k64).trans (if_pos k68))))))
    subst hy; rfl
  by_cases k69 : kd = 69
  · have hy := hy.trans ((if_neg k2).trans ((if_neg k3).trans ((if_neg k12).trans ((if_neg k60).trans ((if_neg k64).trans ((if_neg k68).trans (if_pos k69)))))))
    subst hy; rfl
  by_cases k70 : kd = 70
  · have hy := hy.trans ((if_neg k2).trans ((if_neg k3).trans ((if_neg k12).trans ((if_neg k60).trans ((if_neg k64).trans ((if_neg k68).trans ((if_neg k69).trans (if_pos k70))))))))
    by_cases h7 : h < 8
    · have hy := hy.trans (if_pos h7)
      subst hy; rfl
    · have hy := hy.trans (if_neg h7)
      subst hy; rfl
  by_cases k72 : kd = 72
  · have hy := hy.trans ((if_neg k2).trans ((if_neg k3).trans ((if_neg k12).trans ((if_neg k60).trans ((if_neg k64).trans ((if_neg k68).trans ((if_neg k69).trans ((if_neg k70).trans (if_pos k72)))))))))
    subst hy; rfl
  by_cases k77 : kd = 77
  · have hy := hy.trans ((if_neg k2).trans ((if_neg k3).trans ((if_neg k12).trans ((if_neg k60).trans ((if_neg k64).trans ((if_neg k68).trans ((if_neg k69).trans ((if_neg k70).trans ((if_neg k72).trans (if_pos k77))))))))))
    by_cases h7 : h < 8
    · have hy := hy.trans (if_pos h7)
      subst hy; rfl
    · have hy := hy.trans (if_neg h7)
      subst hy; rfl
  have hy := hy.trans ((if_neg k2).trans ((if_neg k3).trans ((if_neg k12).trans ((if_neg k60).trans ((if_neg k64).trans ((if_neg k68).trans ((if_neg k69).trans ((if_neg k70).trans ((if_neg k72).trans (if_neg k77))))))))))
  obtain ⟨r', c', t', e⟩ := ms_calc_sh kd op n r c s o t pc h sh dn
  rw [e] at hy
  subst hy; rfl
def y_D_run : MethodName := ⟨RD, "run", "(ZI)I"⟩
def ws_D_run : List Cond := .code y_D_run prog_9_method_39_code 4 (some .int) :: evW
theorem d_D_run_0 : decode prog_9_method_39_code 0 = .ok (.aload_n 0, 1) := by decide +kernel
theorem d_D_run_1 : decode prog_9_method_39_code 1 = .ok (.iconst 0, 1) := by decide +kernel
theorem d_D_run_2 : decode prog_9_method_39_code 2 = .ok (.putfield 63, 3) := by decide +kernel
theorem d_D_run_5 : decode prog_9_method_39_code 5 = .ok (.iload_n 2, 1) := by decide +kernel
theorem d_D_run_6 : decode prog_9_method_39_code 6 = .ok (.ifCond .lt 10, 3) := by decide +kernel
theorem d_D_run_9 : decode prog_9_method_39_code 9 = .ok (.iload_n 2, 1) := by decide +kernel
theorem d_D_run_10 : decode prog_9_method_39_code 10 = .ok (.sipush 3000, 3) := by decide +kernel
theorem d_D_run_13 : decode prog_9_method_39_code 13 = .ok (.if_icmp .le 9, 3) := by decide +kernel
theorem d_D_run_16 : decode prog_9_method_39_code 16 = .ok (.aload_n 0, 1) := by decide +kernel
theorem d_D_run_17 : decode prog_9_method_39_code 17 = .ok (.iconst 1, 1) := by decide +kernel
theorem d_D_run_18 : decode prog_9_method_39_code 18 = .ok (.invokevirtual 77, 3) := by decide +kernel
theorem d_D_run_21 : decode prog_9_method_39_code 21 = .ok (.ireturn, 1) := by decide +kernel
theorem d_D_run_22 : decode prog_9_method_39_code 22 = .ok (.iload_n 1, 1) := by decide +kernel
theorem d_D_run_23 : decode prog_9_method_39_code 23 = .ok (.ifCond .eq 16, 3) := by decide +kernel
theorem d_D_run_26 : decode prog_9_method_39_code 26 = .ok (.aload_n 0, 1) := by decide +kernel
theorem d_D_run_27 : decode prog_9_method_39_code 27 = .ok (.getfield 71, 3) := by decide +kernel
theorem d_D_run_30 : decode prog_9_method_39_code 30 = .ok (.ifCond .ne 9, 3) := by decide +kernel
theorem d_D_run_33 : decode prog_9_method_39_code 33 = .ok (.aload_n 0, 1) := by decide +kernel
theorem d_D_run_34 : decode prog_9_method_39_code 34 = .ok (.iconst 2, 1) := by decide +kernel
theorem d_D_run_35 : decode prog_9_method_39_code 35 = .ok (.invokevirtual 77, 3) := by decide +kernel
theorem d_D_run_38 : decode prog_9_method_39_code 38 = .ok (.ireturn, 1) := by decide +kernel
theorem d_D_run_39 : decode prog_9_method_39_code 39 = .ok (.aload_n 0, 1) := by decide +kernel
theorem d_D_run_40 : decode prog_9_method_39_code 40 = .ok (.invokevirtual 191, 3) := by decide +kernel
theorem d_D_run_43 : decode prog_9_method_39_code 43 = .ok (.iload_n 1, 1) := by decide +kernel
theorem d_D_run_44 : decode prog_9_method_39_code 44 = .ok (.ifCond .eq 9, 3) := by decide +kernel
theorem d_D_run_47 : decode prog_9_method_39_code 47 = .ok (.sipush 256, 3) := by decide +kernel
theorem d_D_run_50 : decode prog_9_method_39_code 50 = .ok (.goto 4, 3) := by decide +kernel
theorem d_D_run_53 : decode prog_9_method_39_code 53 = .ok (.iconst 0, 1) := by decide +kernel
theorem d_D_run_54 : decode prog_9_method_39_code 54 = .ok (.istore_n 3, 1) := by decide +kernel
theorem d_D_run_55 : decode prog_9_method_39_code 55 = .ok (.aload_n 0, 1) := by decide +kernel
theorem d_D_run_56 : decode prog_9_method_39_code 56 = .ok (.getfield 188, 3) := by decide +kernel
theorem d_D_run_59 : decode prog_9_method_39_code 59 = .ok (.iload_n 2, 1) := by decide +kernel
theorem d_D_run_60 : decode prog_9_method_39_code 60 = .ok (.if_icmp .ge 101, 3) := by decide +kernel
theorem d_D_run_63 : decode prog_9_method_39_code 63 = .ok (.aload_n 0, 1) := by decide +kernel
theorem d_D_run_64 : decode prog_9_method_39_code 64 = .ok (.getfield 152, 3) := by decide +kernel
theorem d_D_run_67 : decode prog_9_method_39_code 67 = .ok (.ifCond .ne 94, 3) := by decide +kernel
theorem d_D_run_70 : decode prog_9_method_39_code 70 = .ok (.aload_n 0, 1) := by decide +kernel
theorem d_D_run_71 : decode prog_9_method_39_code 71 = .ok (.getfield 155, 3) := by decide +kernel
theorem d_D_run_74 : decode prog_9_method_39_code 74 = .ok (.sipush 256, 3) := by decide +kernel
theorem d_D_run_77 : decode prog_9_method_39_code 77 = .ok (.if_icmp .lt 11, 3) := by decide +kernel
theorem d_D_run_80 : decode prog_9_method_39_code 80 = .ok (.aload_n 0, 1) := by decide +kernel
theorem d_D_run_81 : decode prog_9_method_39_code 81 = .ok (.iconst 2, 1) := by decide +kernel
theorem d_D_run_82 : decode prog_9_method_39_code 82 = .ok (.putfield 152, 3) := by decide +kernel
theorem d_D_run_85 : decode prog_9_method_39_code 85 = .ok (.goto (-30), 3) := by decide +kernel
theorem d_D_run_88 : decode prog_9_method_39_code 88 = .ok (.iload_n 1, 1) := by decide +kernel
theorem d_D_run_89 : decode prog_9_method_39_code 89 = .ok (.ifCond .ne 51, 3) := by decide +kernel
theorem d_D_run_92 : decode prog_9_method_39_code 92 = .ok (.aload_n 0, 1) := by decide +kernel
theorem d_D_run_93 : decode prog_9_method_39_code 93 = .ok (.getfield 67, 3) := by decide +kernel
theorem d_D_run_96 : decode prog_9_method_39_code 96 = .ok (.ifCond .eq 44, 3) := by decide +kernel
theorem d_D_run_99 : decode prog_9_method_39_code 99 = .ok (.aload_n 0, 1) := by decide +kernel
theorem d_D_run_100 : decode prog_9_method_39_code 100 = .ok (.getfield 155, 3) := by decide +kernel
theorem d_D_run_103 : decode prog_9_method_39_code 103 = .ok (.bipush 96, 2) := by decide +kernel
theorem d_D_run_105 : decode prog_9_method_39_code 105 = .ok (.if_icmp .ge 35, 3) := by decide +kernel
theorem d_D_run_108 : decode prog_9_method_39_code 108 = .ok (.aload_n 0, 1) := by decide +kernel
theorem d_D_run_109 : decode prog_9_method_39_code 109 = .ok (.getfield 29, 3) := by decide +kernel
theorem d_D_run_112 : decode prog_9_method_39_code 112 = .ok (.aload_n 0, 1) := by decide +kernel
theorem d_D_run_113 : decode prog_9_method_39_code 113 = .ok (.getfield 155, 3) := by decide +kernel
theorem d_D_run_116 : decode prog_9_method_39_code 116 = .ok (.baload, 1) := by decide +kernel
theorem d_D_run_117 : decode prog_9_method_39_code 117 = .ok (.ifCond .eq 23, 3) := by decide +kernel
theorem d_D_run_120 : decode prog_9_method_39_code 120 = .ok (.aload_n 0, 1) := by decide +kernel
theorem d_D_run_121 : decode prog_9_method_39_code 121 = .ok (.getfield 59, 3) := by decide +kernel
theorem d_D_run_124 : decode prog_9_method_39_code 124 = .ok (.aload_n 0, 1) := by decide +kernel
theorem d_D_run_125 : decode prog_9_method_39_code 125 = .ok (.aload_n 0, 1) := by decide +kernel
theorem d_D_run_126 : decode prog_9_method_39_code 126 = .ok (.getfield 155, 3) := by decide +kernel
theorem d_D_run_129 : decode prog_9_method_39_code 129 = .ok (.invokevirtual 194, 3) := by decide +kernel
theorem d_D_run_132 : decode prog_9_method_39_code 132 = .ok (.bipush 63, 2) := by decide +kernel
theorem d_D_run_134 : decode prog_9_method_39_code 134 = .ok (.iand, 1) := by decide +kernel
theorem d_D_run_135 : decode prog_9_method_39_code 135 = .ok (.dup2, 1) := by decide +kernel
theorem d_D_run_136 : decode prog_9_method_39_code 136 = .ok (.laload, 1) := by decide +kernel
theorem d_D_run_137 : decode prog_9_method_39_code 137 = .ok (.lconst 1, 1) := by decide +kernel
theorem d_D_run_138 : decode prog_9_method_39_code 138 = .ok (.ladd, 1) := by decide +kernel
theorem d_D_run_139 : decode prog_9_method_39_code 139 = .ok (.lastore, 1) := by decide +kernel
theorem d_D_run_140 : decode prog_9_method_39_code 140 = .ok (.aload_n 0, 1) := by decide +kernel
theorem d_D_run_141 : decode prog_9_method_39_code 141 = .ok (.iload_n 3, 1) := by decide +kernel
theorem d_D_run_142 : decode prog_9_method_39_code 142 = .ok (.invokevirtual 197, 3) := by decide +kernel
theorem d_D_run_145 : decode prog_9_method_39_code 145 = .ok (.ifCond .eq (-90), 3) := by decide +kernel
theorem d_D_run_148 : decode prog_9_method_39_code 148 = .ok (.aload_n 0, 1) := by decide +kernel
theorem d_D_run_149 : decode prog_9_method_39_code 149 = .ok (.dup, 1) := by decide +kernel
theorem d_D_run_150 : decode prog_9_method_39_code 150 = .ok (.getfield 188, 3) := by decide +kernel
theorem d_D_run_153 : decode prog_9_method_39_code 153 = .ok (.iconst 1, 1) := by decide +kernel
theorem d_D_run_154 : decode prog_9_method_39_code 154 = .ok (.iadd, 1) := by decide +kernel
theorem d_D_run_155 : decode prog_9_method_39_code 155 = .ok (.putfield 188, 3) := by decide +kernel
theorem d_D_run_158 : decode prog_9_method_39_code 158 = .ok (.goto (-103), 3) := by decide +kernel
theorem d_D_run_161 : decode prog_9_method_39_code 161 = .ok (.aload_n 0, 1) := by decide +kernel
theorem d_D_run_162 : decode prog_9_method_39_code 162 = .ok (.getfield 152, 3) := by decide +kernel
theorem d_D_run_165 : decode prog_9_method_39_code 165 = .ok (.ireturn, 1) := by decide +kernel
def I_D_run (P : Int32 → ev_M → ev_L → Prop) : List (Nat × ev_T) := [(0, tt_al 0 1),
  (1, tt_k 0 2),
  (2, tt_pf evLY 7 0 5),
  (5, tt_il 2 6),
  (6, tt_iflt 16 9),
  (9, tt_il 2 10),
  (10, tt_k 3000 13),
  (13, tt_icle 22 16),
  (16, tt_al 0 17),
  (17, tt_k 1 18),
  (18, tt_cV evLY 7 1 ev_i pre_D_fail post_D_fail 21),
  (21, tt_ri P),
  (22, tt_il 1 23),
  (23, tt_ifeq 39 26),
  (26, tt_al 0 27),
  (27, tt_gf evLY 7 8 30),
  (30, tt_ifne 39 33),
  (33, tt_al 0 34),
  (34, tt_k 2 35),
  (35, tt_cV evLY 7 1 ev_i pre_D_fail post_D_fail 38),
  (38, tt_ri P),
  (39, tt_al 0 40),
  (40, tt_cV evLY 7 0 ev_n pre_D_begin post_D_begin 43),
  (43, tt_il 1 44),
  (44, tt_ifeq 53 47),
  (47, tt_k 256 50),
  (50, tt_go 54),
  (53, tt_k 0 54),
  (54, tt_is 3 55),
  (55, tt_al 0 56),
  (56, tt_gf evLY 7 25 59),
  (59, tt_il 2 60),
  (60, tt_icge 161 63),
  (63, tt_al 0 64),
  (64, tt_gf evLY 7 26 67),
  (67, tt_ifne 161 70),
  (70, tt_al 0 71),
  (71, tt_gf evLY 7 22 74),
  (74, tt_k 256 77),
  (77, tt_iclt 88 80),
  (80, tt_al 0 81),
  (81, tt_k 2 82),
  (82, tt_pf evLY 7 26 85),
  (85, tt_go 55),
  (88, tt_il 1 89),
  (89, tt_ifne 140 92),
  (92, tt_al 0 93),
  (93, tt_gf evLY 7 7 96),
  (96, tt_ifeq 140 99),
  (99, tt_al 0 100),
  (100, tt_gf evLY 7 22 103),
  (103, tt_k 96 105),
  (105, tt_icge 140 108),
  (108, tt_al 0 109),
  (109, tt_gf evLY 7 10 112),
  (112, tt_al 0 113),
  (113, tt_gf evLY 7 22 116),
  (116, tt_za evLY 117),
  (117, tt_ifeq 140 120),
  (120, tt_al 0 121),
  (121, tt_gf evLY 7 29 124),
  (124, tt_al 0 125),
  (125, tt_al 0 126),
  (126, tt_gf evLY 7 22 129),
  (129, tt_cV evLY 7 1 ev_i pre_D_blockAt post_D_blockAt 132),
  (132, tt_k 63 134),
  (134, tt_iand 135),
  (135, tt_dup2 136),
  (136, tt_la evLY 137),
  (137, tt_lk 1 138),
  (138, tt_ladd 139),
  (139, tt_las evLY 140),
  (140, tt_al 0 141),
  (141, tt_il 3 142),
  (142, tt_cV evLY 7 1 ev_b pre_D_step post_D_step 145),
  (145, tt_ifeq 55 148),
  (148, tt_al 0 149),
  (149, tt_dup 150),
  (150, tt_gf evLY 7 25 153),
  (153, tt_k 1 154),
  (154, tt_iadd 155),
  (155, tt_pf evLY 7 25 158),
  (158, tt_go 55),
  (161, tt_al 0 162),
  (162, tt_gf evLY 7 26 165),
  (165, tt_ri P)]
abbrev rm_D_run : Room := { frames := 3, cells := 0, slots := 0, locals := 96 }
set_option maxRecDepth 20000 in
theorem ok_D_run (l : Launch) (J : ev_K) (P : Int32 → ev_M → ev_L → Prop) (X : ev_X l rm_D_run evLY evCl ws_D_run prog_9_method_39_code 4 y_D_run.cls J) (Z : ev_Z J prog_9_method_39_code .ireturn ev_i P) : ev_oks J (I_D_run P) :=
  ⟨qq_aln X 0 rfl d_D_run_0,
  qq_ic X 0 (by decide) d_D_run_1,
  qq_pf X 7 0 rfl (fun w h => List.mem_cons_of_mem _ (inE_D w h)) (by decide) tyD tyD_ok nmD rfl (by decide +kernel) (List.mem_cons_of_mem _ mw_754) d_D_run_2,
  qq_iln X 2 rfl d_D_run_5,
  qq_iflt X 16 (by decide) d_D_run_6,
  qq_iln X 2 rfl d_D_run_9,
  qq_sp X 3000 (by decide) d_D_run_10,
  qq_icle X 22 (by decide) d_D_run_13,
  qq_aln X 0 rfl d_D_run_16,
  qq_ic X 1 (by decide) d_D_run_17,
  qq_cV X 7 rfl (c_D_fail l) (fun hts => cwV 1 hts (evGV (mw_861) (mw_863) (mp_27) (mw_8) (mw_864)) rfl rfl rfl (by decide +kernel) ⟨Nat.le_of_ble_eq_true rfl, Nat.le_of_ble_eq_true rfl⟩) d_D_run_18,
  qq_ri Z d_D_run_21,
  qq_iln X 1 rfl d_D_run_22,
  qq_ifeq X 39 (by decide) d_D_run_23,
  qq_aln X 0 rfl d_D_run_26,
  qq_gf X 7 8 rfl (fun w h => List.mem_cons_of_mem _ (inE_D w h)) (by decide) (List.mem_cons_of_mem _ mw_762) d_D_run_27,
  qq_ifne X 39 (by decide) d_D_run_30,
  qq_aln X 0 rfl d_D_run_33,
  qq_ic X 2 (by decide) d_D_run_34,
  qq_cV X 7 rfl (c_D_fail l) (fun hts => cwV 1 hts (evGV (mw_861) (mw_863) (mp_27) (mw_8) (mw_864)) rfl rfl rfl (by decide +kernel) ⟨Nat.le_of_ble_eq_true rfl, Nat.le_of_ble_eq_true rfl⟩) d_D_run_35,
  qq_ri Z d_D_run_38,
  qq_aln X 0 rfl d_D_run_39,
  qq_cV X 7 rfl (c_D_begin l) (fun hts => cwV 0 hts (evGV (mw_955) (mw_957) (mp_39) (mw_8) (mw_958)) rfl rfl rfl (by decide +kernel) ⟨Nat.le_of_ble_eq_true rfl, Nat.le_of_ble_eq_true rfl⟩) d_D_run_40,
  qq_iln X 1 rfl d_D_run_43,
  qq_ifeq X 53 (by decide) d_D_run_44,
  qq_sp X 256 (by decide) d_D_run_47,
  qq_go X 54 (by decide) d_D_run_50,
  qq_ic X 0 (by decide) d_D_run_53,
  qq_isn X 3 rfl (by decide) d_D_run_54,
  qq_aln X 0 rfl d_D_run_55,
  qq_gf X 7 25 rfl (fun w h => List.mem_cons_of_mem _ (inE_D w h)) (by decide) (List.mem_cons_of_mem _ mw_779) d_D_run_56,
  qq_iln X 2 rfl d_D_run_59,
  qq_icge X 161 (by decide) d_D_run_60,
  qq_aln X 0 rfl d_D_run_63,
  qq_gf X 7 26 rfl (fun w h => List.mem_cons_of_mem _ (inE_D w h)) (by decide) (List.mem_cons_of_mem _ mw_780) d_D_run_64,
  qq_ifne X 161 (by decide) d_D_run_67,
  qq_aln X 0 rfl d_D_run_70,
  qq_gf X 7 22 rfl (fun w h => List.mem_cons_of_mem _ (inE_D w h)) (by decide) (List.mem_cons_of_mem _ mw_776) d_D_run_71,
  qq_sp X 256 (by decide) d_D_run_74,
  qq_iclt X 88 (by decide) d_D_run_77,
  qq_aln X 0 rfl d_D_run_80,
  qq_ic X 2 (by decide) d_D_run_81,
  qq_pf X 7 26 rfl (fun w h => List.mem_cons_of_mem _ (inE_D w h)) (by decide) tyD tyD_ok nmD rfl (by decide +kernel) (List.mem_cons_of_mem _ mw_780) d_D_run_82,
  qq_go X 55 (by decide) d_D_run_85,
  qq_iln X 1 rfl d_D_run_88,
  qq_ifne X 140 (by decide) d_D_run_89,
  qq_aln X 0 rfl d_D_run_92,
  qq_gf X 7 7 rfl (fun w h => List.mem_cons_of_mem _ (inE_D w h)) (by decide) (List.mem_cons_of_mem _ mw_761) d_D_run_93,
  qq_ifeq X 140 (by decide) d_D_run_96,
  qq_aln X 0 rfl d_D_run_99,
  qq_gf X 7 22 rfl (fun w h => List.mem_cons_of_mem _ (inE_D w h)) (by decide) (List.mem_cons_of_mem _ mw_776) d_D_run_100,
  qq_bp X 96 (by decide) d_D_run_103,
  qq_icge X 140 (by decide) d_D_run_105,
  qq_aln X 0 rfl d_D_run_108,
  qq_gf X 7 10 rfl (fun w h => List.mem_cons_of_mem _ (inE_D w h)) (by decide) (List.mem_cons_of_mem _ mw_764) d_D_run_109,
  qq_aln X 0 rfl d_D_run_112,
  qq_gf X 7 22 rfl (fun w h => List.mem_cons_of_mem _ (inE_D w h)) (by decide) (List.mem_cons_of_mem _ mw_776) d_D_run_113,
  qq_za X d_D_run_116,
  qq_ifeq X 140 (by decide) d_D_run_117,
  qq_aln X 0 rfl d_D_run_120,
  qq_gf X 7 29 rfl (fun w h => List.mem_cons_of_mem _ (inE_D w h)) (by decide) (List.mem_cons_of_mem _ mw_783) d_D_run_121,
  qq_aln X 0 rfl d_D_run_124,
  qq_aln X 0 rfl d_D_run_125,
  qq_gf X 7 22 rfl (fun w h => List.mem_cons_of_mem _ (inE_D w h)) (by decide) (List.mem_cons_of_mem _ mw_776) d_D_run_126,
  qq_cV X 7 rfl (c_D_blockAt l) (fun hts => cwV 1 hts (evGV (mw_959) (mw_924) (mw_925) (mw_8) (mw_926)) rfl rfl rfl (by decide +kernel) ⟨Nat.le_of_ble_eq_true rfl, Nat.le_of_ble_eq_true rfl⟩) d_D_run_129,
  qq_bp X 63 (by decide) d_D_run_132,
  qq_iand X d_D_run_134,
  qq_dup2 X d_D_run_135,
  qq_la X d_D_run_136,
  qq_lc X 1 (by decide) d_D_run_137,
  qq_ladd X d_D_run_138,
  qq_las X d_D_run_139,
  qq_aln X 0 rfl d_D_run_140,
  qq_iln X 3 rfl d_D_run_141,
  qq_cV X 7 rfl (c_D_step l) (fun hts => cwV 1 hts (evGV (mw_960) (mw_962) (mp_40) (mw_8) (mw_963)) rfl rfl rfl (by decide +kernel) ⟨Nat.le_of_ble_eq_true rfl, Nat.le_of_ble_eq_true rfl⟩) d_D_run_142,
  qq_ifeq X 55 (by decide) d_D_run_145,
  qq_aln X 0 rfl d_D_run_148,
  qq_dup X d_D_run_149,
  qq_gf X 7 25 rfl (fun w h => List.mem_cons_of_mem _ (inE_D w h)) (by decide) (List.mem_cons_of_mem _ mw_779) d_D_run_150,
  qq_ic X 1 (by decide) d_D_run_153,
  qq_iadd X d_D_run_154,
  qq_pf X 7 25 rfl (fun w h => List.mem_cons_of_mem _ (inE_D w h)) (by decide) tyD tyD_ok nmD rfl (by decide +kernel) (List.mem_cons_of_mem _ mw_779) d_D_run_155,
  qq_go X 55 (by decide) d_D_run_158,
  qq_aln X 0 rfl d_D_run_161,
  qq_gf X 7 26 rfl (fun w h => List.mem_cons_of_mem _ (inE_D w h)) (by decide) (List.mem_cons_of_mem _ mw_780) d_D_run_162,
  qq_ri Z d_D_run_165, trivial⟩
def pre_D_run : List Value → ev_M → ev_L → Prop := fun as σ _ => ∃ (z m : Int32) (n : Nat), as = [.ref 30, .int z, .int m] ∧ σ 30 15 = nI n ∧ n ≤ 96 ∧ (z = 0 → byF (fD σ 0)) ∧ (¬ z = 0 → ¬ σ 30 8 = 0 → byF (fD σ 256) ∧ trF (trD σ 256))
def post_D_run : List Value → ev_M → ev_L → Int32 → ev_M → ev_L → Prop := fun as σ τ r σ' τ' => match as with
  | [_, .int z, .int m] => (¬ (0 ≤ m ∧ m ≤ 3000) ∧ r = 0 ∧ σ' = ev_u σ 30 0 1 ∧ τ' = τ) ∨ ((0 ≤ m ∧ m ≤ 3000) ∧ ¬ z = 0 ∧ σ 30 8 = 0 ∧ r = 0 ∧ σ' = ev_u σ 30 0 2 ∧ τ' = τ) ∨ ((0 ≤ m ∧ m ≤ 3000) ∧ (z = 0 ∨ ¬ σ 30 8 = 0) ∧ (r, mvD σ' τ') = ms_run (fD σ (sd_base z)) (trD σ (sd_base z)) (sd_w σ z) m.toNatClampNeg (ms_begin (σ 35) (mvD σ τ)) ∧ σ' 30 0 = 0 ∧ frR σ σ' τ τ')
  | _ => False
def invD (σ : ev_M) (τ : ev_L) (z m : Int32) (μ pc : Nat) (lv st : List Value) (σ' : ev_M) (τ' : ev_L) (k : Nat) : Prop := st = [] ∧ k = 0 ∧ ((pc = 0 ∧ μ = 9000 ∧ lv = [.ref 30, .int z, .int m, .null] ∧ σ = σ' ∧ τ = τ') ∨ (pc = 55 ∧ (0 ≤ m ∧ m ≤ 3000) ∧ (z = 0 ∨ ¬ σ 30 8 = 0) ∧ ∃ i : Nat, i ≤ m.toNatClampNeg ∧ lv = [.ref 30, .int z, .int m, .int (sd_base z)] ∧ σ' 30 25 = nI i ∧ msR (mvD σ' τ') ∧ σ' 30 0 = 0 ∧ frR σ σ' τ τ' ∧ ((σ' 30 26 = 0 ∧ μ = m.toNatClampNeg - i + 1 ∧ ms_run (fD σ (sd_base z)) (trD σ (sd_base z)) (sd_w σ z) (m.toNatClampNeg - i) (mvD σ' τ') = ms_run (fD σ (sd_base z)) (trD σ (sd_base z)) (sd_w σ z) m.toNatClampNeg (ms_begin (σ 35) (mvD σ τ))) ∨ (¬ σ' 30 26 = 0 ∧ μ = 0 ∧ (σ' 30 26, mvD σ' τ') = ms_run (fD σ (sd_base z)) (trD σ (sd_base z)) (sd_w σ z) m.toNatClampNeg (ms_begin (σ 35) (mvD σ τ))))))
set_option maxHeartbeats 4000000 in
set_option maxRecDepth 100000 in
theorem c_D_run (l : Launch) : ev_C ev_i l y_D_run ws_D_run rm_D_run evLY evCl pre_D_run post_D_run := by
  refine ev_methL (by decide) rfl ev_rop_i ?_ I_D_run (ok_D_run l) [55] 80 ?_
  · rintro _ σ τ ⟨z, m, n, rfl, h⟩
    exact Nat.le_of_ble_eq_true rfl
  · rintro _ σ τ ⟨z, m, n, rfl, hn, h96, hf0, hf1⟩
    have hb : sd_base z = 0 ∨ sd_base z = 256 := by unfold sd_base; split; exact Or.inl rfl; exact Or.inr rfl
    refine ⟨invD σ τ z m, ⟨9000, rfl, rfl, Or.inl ⟨rfl, rfl, rfl, rfl, rfl⟩⟩, ?_⟩
    rintro μ pc lv st σ' τ' k ⟨rfl, rfl, ⟨rfl, rfl, rfl, rfl, rfl⟩ | ⟨rfl, hm, hz, i, hi, rfl, hdn, hR, hc0, hfr, hres⟩⟩
    · have bad : ¬ (0 ≤ m ∧ m ≤ 3000) → pre_D_fail [.ref 30, .int 1] (ev_u σ 30 0 0) τ ∧ ∀ (r : Int32) (σ1 : ev_M) (τ1 : ev_L), post_D_fail [.ref 30, .int 1] (ev_u σ 30 0 0) τ r σ1 τ1 → post_D_run [.ref 30, .int z, .int m] σ τ r σ1 τ1 := by
        intro hn
        refine ⟨⟨_, rfl⟩, ?_⟩
        rintro _ _ _ ⟨rfl, rfl, rfl⟩
        exact Or.inl ⟨hn, rfl, ev_u_u _ _ _ _ _, rfl⟩
      refine br_c (fun h => ?_) (fun h => br_c (fun h2 => ?_) (fun h2 => ?_))
      · exact bad fun q => absurd (Int32.not_lt.mpr q.1) (fun w => w h)
      · have hm : 0 ≤ m ∧ m ≤ 3000 := ⟨Int32.not_lt.mp h, h2⟩
        have hmi : m.toInt ≤ 3000 := Int32.le_iff_toInt_le.mp h2
        have hm0 : 0 ≤ m.toInt := Int32.le_iff_toInt_le.mp hm.1
        have hcl := i_cl hm0
        -- the start, with a base
        have go : ∀ bb : Int32, bb = sd_base z → (z = 0 ∨ ¬ σ 30 8 = 0) → ∀ (σ1 : ev_M) (τ1 : ev_L), post_D_begin [.ref 30] (ev_u σ 30 0 0) τ () σ1 τ1 → ∃ μ', μ' < 9000 ∧ invD σ τ z m μ' 55 [.ref 30, .int z, .int m, .int bb] [] σ1 τ1 0 := by
          rintro _ rfl hz σ1 τ1 ⟨hv, hfr, ho⟩
          have hv' : mvD σ1 τ1 = ms_begin (σ 35) (mvD σ τ) := hv
          refine ⟨m.toNatClampNeg + 1, by omega, rfl, rfl, Or.inr ⟨rfl, hm, hz, 0, Nat.zero_le _, rfl, ?_, by rw [hv']; exact ms_begin_R _ _, frR_D0 hfr, frR_tr (frR_0 0) (frR_D hfr), Or.inl ⟨ho, rfl, by rw [hv']; rfl⟩⟩⟩
          have : (mvD σ1 τ1).2.2.2.2.2.2.2.2 = 0 := by rw [hv']; rfl
          exact this
        refine br_c (fun hz => ?_) (fun hz => br_n (fun h8 => ?_) (fun h8 => ?_))
        · refine ⟨rfl, ?_⟩
          rintro _ σ1 τ1 hB
          refine br_t hz ?_
          exact go 0 (if_pos hz).symm (Or.inl hz) σ1 τ1 hB
        · refine ⟨rfl, ?_⟩
          rintro _ σ1 τ1 hB
          refine br_f hz ?_
          exact go 256 (if_neg hz).symm (Or.inr h8) σ1 τ1 hB
        · refine ⟨⟨_, rfl⟩, ?_⟩
          rintro _ _ _ ⟨rfl, rfl, rfl⟩
          exact Or.inr (Or.inl ⟨hm, hz, h8, rfl, ev_u_u _ _ _ _ _, rfl⟩)
      · exact bad fun q => h2 q.2
    · -- the loop
      have hmi : m.toInt ≤ 3000 := Int32.le_iff_toInt_le.mp hm.2
      have hm0 : 0 ≤ m.toInt := Int32.le_iff_toInt_le.mp hm.1
      have hcl := i_cl hm0
      have hbyF : byF (fD σ (sd_base z)) := by
        unfold sd_base
        split
        · rename_i h; exact hf0 h
        · rename_i h; exact (hf1 h (hz.resolve_left h)).1
      have htrF : trF (trD σ (sd_base z)) := by
        unfold sd_base
        split
        · intro a
          refine Or.inl (if_neg fun q => absurd q.1 (by decide))
        · rename_i h; exact (hf1 h (hz.resolve_left h)).2
      have eM : σ' 31 = σ 31 := hfr.1 31 (by decide) (by decide)
      have eT : σ' 32 = σ 32 := hfr.1 32 (by decide) (by decide)
      have eH : σ' 37 = σ 37 := hfr.1 37 (by decide) (by decide)
      have e40 : σ' 40 = σ 40 := hfr.1 40 (by decide) (by decide)
      have e41 : σ' 41 = σ 41 := hfr.1 41 (by decide) (by decide)
      have e7 : σ' 30 7 = σ 30 7 := hfr.2.1 7 (by decide) (by decide)
      have e15 : σ' 30 15 = σ 30 15 := hfr.2.1 15 (by decide) (by decide)
      have efD : fD σ' (sd_base z) = fD σ (sd_base z) := by unfold fD; rw [eM]
      have etD : trD σ' (sd_base z) = trD σ (sd_base z) := by unfold trD; rw [eT]
      have hpc : 0 ≤ (σ' 30 22).toInt ∧ (σ' 30 22).toInt ≤ 256 := hR.1
      have h256 : (256 : Int32).toInt = 256 := rfl
      have fin : ∀ hmi : i = m.toNatClampNeg ∨ ¬ σ' 30 26 = 0, (σ' 30 26, mvD σ' τ') = ms_run (fD σ (sd_base z)) (trD σ (sd_base z)) (sd_w σ z) m.toNatClampNeg (ms_begin (σ 35) (mvD σ τ)) := by
        intro hq
        rcases hres with ⟨h3, _, h4⟩ | ⟨h3, _, h4⟩
        · rcases hq with hq | hq
          · have e0 : m.toNatClampNeg - i = 0 := by omega
            rw [← h4, e0, h3]; rfl
          · exact absurd h3 hq
        · exact h4
      refine br_c (fun h => ?_) (fun h => br_n (fun h2 => ?_) (fun h2 => ?_))
      · have h' : m ≤ nI i := by rw [← hdn]; exact h
        rw [Int32.le_iff_toInt_le, nI_toInt (by omega)] at h'
        exact Or.inr (Or.inr ⟨hm, hz, fin (Or.inl (by omega)), hc0, hfr⟩)
      · exact Or.inr (Or.inr ⟨hm, hz, fin (Or.inr h2), hc0, hfr⟩)
      · have h' : ¬ m ≤ nI i := by rw [← hdn]; exact h
        rw [Int32.le_iff_toInt_le, nI_toInt (by omega)] at h'
        obtain ⟨_, hμ, hrun⟩ := hres.resolve_right (fun w => w.1 h2)
        have e1 : m.toNatClampNeg - i = (m.toNatClampNeg - (i + 1)) + 1 := by omega
        rw [e1] at hrun
        -- behind the step
        have stp : ∀ (σ1 : ev_M) (τ1 : ev_L), msR (mvD σ1 τ1) → mvD σ1 τ1 = sd_w σ z (mvD σ' τ') → frR σ σ1 τ τ1 → σ1 30 0 = 0 → σ1 30 26 = 0 → (σ' 30 22).toInt ≤ 255 → pre_D_step [.ref 30, .int (sd_base z)] σ1 τ1 ∧ ∀ (r : Bool) (σ2 : ev_M) (τ2 : ev_L), post_D_step [.ref 30, .int (sd_base z)] σ1 τ1 r σ2 τ2 → ((((cond r 1 0 : Int32) = 0) → ∃ μ', μ' < μ ∧ invD σ τ z m μ' 55 [.ref 30, .int z, .int m, .int (sd_base z)] [] σ2 τ2 0) ∧ ((¬ (cond r 1 0 : Int32) = 0) → ∃ μ', μ' < μ ∧ invD σ τ z m μ' 55 [.ref 30, .int z, .int m, .int (sd_base z)] [] (ev_u σ2 30 25 (σ2 30 25 + 1)) τ2 0)) := by
          intro σ1 τ1 hR1 hv1 hfr1 hc1 ho1 h255
          have efD1 : fD σ1 (sd_base z) = fD σ (sd_base z) := by unfold fD; rw [hfr1.1 31 (by decide) (by decide)]
          have etD1 : trD σ1 (sd_base z) = trD σ (sd_base z) := by unfold trD; rw [hfr1.1 32 (by decide) (by decide)]
          have hpc1 : (σ1 30 22).toInt ≤ 255 := by
            have e : σ1 30 22 = ms_pc (sd_w σ z (mvD σ' τ')) := by rw [← hv1]; rfl
            have e2 : ms_pc (sd_w σ z (mvD σ' τ')) = σ' 30 22 := by
              unfold sd_w
              split
              · show ms_pc (ms_wD σ (mvD σ' τ')) = _
                unfold ms_wD
                split <;> rfl
              · rfl
            rw [e, e2]; exact h255
          have hdn1 : σ1 30 25 = nI i := by
            have e : σ1 30 25 = (sd_w σ z (mvD σ' τ')).2.2.2.2.2.2.2.2 := by rw [← hv1]; rfl
            have e2 : (sd_w σ z (mvD σ' τ')).2.2.2.2.2.2.2.2 = σ' 30 25 := by
              unfold sd_w
              split
              · show (ms_wD σ (mvD σ' τ')).2.2.2.2.2.2.2.2 = _
                unfold ms_wD
                split <;> rfl
              · rfl
            rw [e, e2]; exact hdn
          refine ⟨⟨_, rfl, hb, by rw [efD1]; exact hbyF, hR1, hpc1⟩, ?_⟩
          rintro r σ2 τ2 ⟨hf2, hr, hv2, ho2⟩
          rw [efD1, etD1, hv1] at hr hv2 ho2
          have hR2 := ms_step_R hbyF htrF (sd_w_R (σ := σ) (z := z) hR)
          refine ⟨fun q => ?_, fun q => ?_⟩
          · have hrf : r = false := bz q
            subst hrf
            have hy : (ms_step (fD σ (sd_base z)) (trD σ (sd_base z)) (sd_w σ z (mvD σ' τ'))).1 = 2 := by
              by_cases hq : (ms_step (fD σ (sd_base z)) (trD σ (sd_base z)) (sd_w σ z (mvD σ' τ'))).1 = 2
              · exact hq
              · exact absurd (hr.mpr hq) (by decide)
            have hv3 : mvD σ2 τ2 = (ms_step (fD σ (sd_base z)) (trD σ (sd_base z)) (sd_w σ z (mvD σ' τ'))).2 := hv2
            have ho3 : σ2 30 26 = 2 := by rw [ho2, hy]; rfl
            have hd2 : σ2 30 25 = nI i := by
              have e := hf2.2.1 25
              rw [← hdn1]
              have hx : (mvD σ2 τ2).2.2.2.2.2.2.2.2 = (sd_w σ z (mvD σ' τ')).2.2.2.2.2.2.2.2 := by
                rw [hv3]
                have hx2 : ∀ x : mst, (ms_step (fD σ (sd_base z)) (trD σ (sd_base z)) x).1 = 2 → msR x → (ms_step (fD σ (sd_base z)) (trD σ (sd_base z)) x).2 = x := by
                  intro x hx1 hxR
                  revert hx1
                  suffices key : ∀ y : Int32 × mst, y = ms_step (fD σ (sd_base z)) (trD σ (sd_base z)) x → y.1 = 2 → y.2 = x from key _ rfl
                  intro y hy
                  unfold ms_step at hy
                  split at hy
                  · rename_i hok
                    have hpx := ms_pc_R hxR
                    have hl3 := sp_len_3 (sp_kind (sp_at (fD σ (sd_base z)) (ms_pc x)))
                    have eb : (ms_pc x + sp_len (sp_kind (sp_at (fD σ (sd_base z)) (ms_pc x)))).toInt = (ms_pc x).toInt + (sp_len (sp_kind (sp_at (fD σ (sd_base z)) (ms_pc x)))).toInt := i_add (by omega) (by omega) (by omega) (by omega)
                    split at hy
                    · subst hy; intro w; exact absurd w (show ¬ (1 : Int32) = 2 by decide)
                    · split at hy
                      · rename_i hw
                        subst hy
                        intro _
                        exact ms_perf_f (by omega) (sp_at_by hbyF _).1 hxR hw
                      · subst hy; intro w; exact absurd w (show ¬ (0 : Int32) = 2 by decide)
                  · subst hy; intro _; rfl
                rw [hx2 _ hy (sd_w_R hR)]
              have hx3 : (sd_w σ z (mvD σ' τ')).2.2.2.2.2.2.2.2 = σ1 30 25 := by rw [← hv1]; rfl
              exact hx.trans hx3
            refine ⟨0, by omega, rfl, rfl, Or.inr ⟨rfl, hm, hz, i, hi, rfl, hd2, by rw [hv3]; exact hR2, by rw [frR_D0 hf2]; exact hc1, frR_tr hfr1 (frR_D hf2), Or.inr ⟨by rw [ho3]; decide, rfl, ?_⟩⟩⟩
            rw [← hrun]
            refine Eq.trans ?_ (if_neg (by rw [hy]; decide)).symm
            refine Prod.ext ?_ hv3
            rw [ho3]; exact hy.symm
          · have hrt : r = true := bnz q
            subst hrt
            have hy := hr.mp rfl
            have hv3 : mvD (ev_u σ2 30 25 (σ2 30 25 + 1)) τ2 = (ms_step (fD σ (sd_base z)) (trD σ (sd_base z)) (sd_w σ z (mvD σ' τ'))).2 := hv2
            have hd2 : σ2 30 25 = nI i := by
              have hx : (ms_step (fD σ (sd_base z)) (trD σ (sd_base z)) (sd_w σ z (mvD σ' τ'))).2.2.2.2.2.2.2.2.2 = (sd_w σ z (mvD σ' τ')).2.2.2.2.2.2.2.2 + 1 := by
                suffices key : ∀ (x : mst) (y : Int32 × mst), y = ms_step (fD σ (sd_base z)) (trD σ (sd_base z)) x → ¬ y.1 = 2 → y.2.2.2.2.2.2.2.2.2 = x.2.2.2.2.2.2.2.2 + 1 from key _ _ rfl hy
                intro x y hy
                have hdnp : ∀ (kd op n m bh : Int32), (ms_perf (fD σ (sd_base z)) (trD σ (sd_base z)) kd op n m bh x).2.2.2.2.2.2.2.2.2 = x.2.2.2.2.2.2.2.2 := by
                  intro kd op n m bh
                  obtain ⟨r, c, s, o, t, pc, h, sh, dn⟩ := x
                  exact ms_perf_dn
                unfold ms_step at hy
                split at hy
                · split at hy
                  · subst hy
                    intro _
                    obtain ⟨r, c, s, o, t, pc, h, sh, dn⟩ := x
                    rfl
                  · split at hy
                    · subst hy; intro w; exact absurd rfl w
                    · subst hy
                      intro _
                      have e := hdnp (sp_kind (sp_at (fD σ (sd_base z)) (ms_pc x))) (sp_at (fD σ (sd_base z)) (ms_pc x)) (sp_at (fD σ (sd_base z)) (ms_pc x + 1)) (sp_at (fD σ (sd_base z)) (ms_pc x + 2)) (ms_pc x + sp_len (sp_kind (sp_at (fD σ (sd_base z)) (ms_pc x))))
                      rw [← e]
                      rfl
                · subst hy; intro w; exact absurd rfl w
              have hx2 : (mvD (ev_u σ2 30 25 (σ2 30 25 + 1)) τ2).2.2.2.2.2.2.2.2 = (sd_w σ z (mvD σ' τ')).2.2.2.2.2.2.2.2 + 1 := by rw [hv3]; exact hx
              have hx3 : (sd_w σ z (mvD σ' τ')).2.2.2.2.2.2.2.2 = σ1 30 25 := by rw [← hv1]; rfl
              rw [hx3, hdn1] at hx2
              have hx4 : σ2 30 25 + 1 = nI i + 1 := hx2
              have hx5 : σ2 30 25 + 1 - 1 = nI i + 1 - 1 := by rw [hx4]
              rwa [Int32.add_sub_cancel, Int32.add_sub_cancel] at hx5
            have hfr2 : frR σ (ev_u σ2 30 25 (σ2 30 25 + 1)) τ τ2 := frR_tr hfr1 (frR_tr (frR_D hf2) (frR_D (frD_f _ _ (by decide))))
            by_cases hy0 : (ms_step (fD σ (sd_base z)) (trD σ (sd_base z)) (sd_w σ z (mvD σ' τ'))).1 = 0
            · refine ⟨m.toNatClampNeg - (i + 1) + 1, by omega, rfl, rfl, Or.inr ⟨rfl, hm, hz, i + 1, by omega, rfl, ?_, by rw [hv3]; exact hR2, ?_, hfr2, Or.inl ⟨?_, rfl, ?_⟩⟩⟩
              · show σ2 30 25 + 1 = _
                rw [hd2, nI_1]
              · show σ2 30 0 = 0
                rw [frR_D0 hf2]; exact hc1
              · show σ2 30 26 = 0
                rw [ho2, if_pos hy0]; exact ho1
              · rw [← hrun, hv3]
                exact (if_pos hy0).symm
            · refine ⟨0, by omega, rfl, rfl, Or.inr ⟨rfl, hm, hz, i + 1, by omega, rfl, ?_, by rw [hv3]; exact hR2, ?_, hfr2, Or.inr ⟨?_, rfl, ?_⟩⟩⟩
              · show σ2 30 25 + 1 = _
                rw [hd2, nI_1]
              · show σ2 30 0 = 0
                rw [frR_D0 hf2]; exact hc1
              · show ¬ σ2 30 26 = 0
                rw [ho2, if_neg hy0]; exact hy0
              · rw [← hrun]
                refine Eq.trans ?_ (if_neg hy0).symm
                refine Prod.ext ?_ hv3
                show σ2 30 26 = _
                rw [ho2, if_neg hy0]
        have ho0 : σ' 30 26 = 0 := h2
        refine br_c (fun h4 => ?_) (fun h4 => ?_)
        · have h4' : σ' 30 22 < 256 := h4
          rw [Int32.lt_iff_toInt_lt, h256] at h4'
          have h255 : (σ' 30 22).toInt ≤ 255 := by omega
          refine br_n (fun hz1 => ?_) (fun hz0 => ?_)
          · exact stp σ' τ' hR (by unfold sd_w; rw [if_neg hz1]) hfr hc0 ho0 h255
          · have hw : sd_w σ z = ms_wD σ := if_pos hz0
            have nocount : ¬ (¬ σ 30 7 = 0 ∧ ms_pc (mvD σ' τ') < 96 ∧ ¬ σ 37 (ms_pc (mvD σ' τ')).toNatClampNeg = 0) → mvD σ' τ' = sd_w σ z (mvD σ' τ') := fun hn => by rw [hw]; exact (if_neg hn).symm
            refine br_c (fun h7 => ?_) (fun h7 => br_c (fun h9 => ?_) (fun h9 => ?_))
            · exact stp σ' τ' hR (nocount fun q => q.1 (by rw [← e7]; exact h7)) hfr hc0 ho0 h255
            · exact stp σ' τ' hR (nocount fun q => absurd (Int32.not_le.mpr q.2.1) (fun w => w h9)) hfr hc0 ho0 h255
            · have h9' : σ' 30 22 < 96 := Int32.not_le.mp h9
              have h96i := Int32.lt_iff_toInt_lt.mp h9'
              have h96v : (96 : Int32).toInt = 96 := rfl
              refine ⟨by rw [vp_in_iff]; omega, br_c (fun h10 => ?_) (fun h10 => ?_)⟩
              · exact stp σ' τ' hR (nocount fun q => q.2.2 (by rw [← eH]; exact h10)) hfr hc0 ho0 h255
              · refine ⟨⟨_, n, rfl, by rw [e15]; exact hn, h96⟩, ?_⟩
                rintro _ _ τ' ⟨rfl, rfl, rfl⟩
                have h7' : ¬ σ 30 7 = 0 := by rw [← e7]; exact h7
                have hv63 : vp_in ((if σ' 30 7 = 0 then -1 else sd_last (σ' 40) (σ' 41) (σ' 30 22) (σ' 30 15).toNatClampNeg) &&& 63) 64 := pk_andIn _ 6 rfl (by decide)
                refine ⟨hv63, hv63, ?_⟩
                have hblk : (if σ' 30 7 = 0 then -1 else sd_last (σ' 40) (σ' 41) (σ' 30 22) (σ' 30 15).toNatClampNeg) = sd_last (σ 40) (σ 41) (ms_pc (mvD σ' τ')) (σ 30 15).toNatClampNeg := by
                  rw [e7, if_neg h7', e40, e41, e15]; rfl
                rw [hblk]
                have hcnt : sd_w σ z (mvD σ' τ') = ms_cnt (sd_last (σ 40) (σ 41) (ms_pc (mvD σ' τ')) (σ 30 15).toNatClampNeg) (mvD σ' τ') := by
                  rw [hw]
                  exact if_pos ⟨h7', h9', by rw [← eH]; exact h10⟩
                refine stp _ _ ?_ ?_ (frR_tr hfr (frR_tr (frR_0 0) (frR_D (frD_w _ _)))) rfl ho0 h255
                · exact ms_cnt_R (k := sd_last (σ 40) (σ 41) (ms_pc (mvD σ' τ')) (σ 30 15).toNatClampNeg) hR
                · rw [hcnt]; rfl
        · -- behind memory
          have h4' : ¬ σ' 30 22 < 256 := h4
          rw [Int32.lt_iff_toInt_lt, h256] at h4'
          have hpx : ¬ ms_pc (mvD σ' τ') < 256 := h4
          have hwx : sd_w σ z (mvD σ' τ') = mvD σ' τ' := by
            unfold sd_w
            split
            · show ms_wD σ (mvD σ' τ') = _
              refine if_neg fun q => ?_
              have q2 := Int32.lt_iff_toInt_lt.mp q.2.1
              have q3 : (96 : Int32).toInt = 96 := rfl
              have q4 : (ms_pc (mvD σ' τ')).toInt = (σ' 30 22).toInt := rfl
              omega
            · rfl
          have hy : ms_step (fD σ (sd_base z)) (trD σ (sd_base z)) (sd_w σ z (mvD σ' τ')) = (2, mvD σ' τ') := by
            rw [hwx]
            exact if_neg fun q => hpx q.2.1
          refine ⟨0, by omega, rfl, rfl, Or.inr ⟨rfl, hm, hz, i, hi, rfl, hdn, hR, hc0, frR_tr hfr (frR_D (frD_f _ _ (by decide))), Or.inr ⟨by show ¬ (2 : Int32) = 0; decide, rfl, ?_⟩⟩⟩
          rw [← hrun]
          refine Eq.trans ?_ (if_neg (by rw [hy]; exact (show ¬ (2 : Int32) = 0 by decide))).symm
          rw [hy]
          rfl
end
